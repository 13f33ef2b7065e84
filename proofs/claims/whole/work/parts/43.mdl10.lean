theorem rmK_congr {v : Int32} {ks : Nat} {qa qb qp : Nat → Int32} {j : Nat} (h : ∀ j, j < 39 → qa j = qb j) (hj : j < 195) : rmK v ks qa qp j = rmK v ks qb qp j := by
  unfold rmK rmF
  by_cases c : cRef v = true
  · rw [if_pos c, if_pos c]
  · rw [if_neg c, if_neg c]
    by_cases q : ks < 5
    · rw [if_pos q, if_pos q]
      by_cases z : 39 * ks ≤ j ∧ j < 39 * ks + 39
      · rw [if_pos z, if_pos z, h _ (by omega)]
      · rw [if_neg z, if_neg z]
    · rw [if_neg q, if_neg q]
      by_cases z : j < 156
      · rw [if_pos z, if_pos z]
      · rw [if_neg z, if_neg z, h _ (by omega)]
theorem rs_nn {v : Int32} {P : Prop} (h0 : 0 ≤ v) (h : v ≤ -10002) : P := by
  rw [Int32.le_iff_toInt_le] at h0 h
  have e0 : (0 : Int32).toInt = 0 := rfl
  have e1 : (-10002 : Int32).toInt = -10002 := rfl
  omega
theorem cRef_nn {v : Int32} (h : 0 ≤ v) : cRef v = false := by
  refine decide_eq_false (fun q => ?_)
  rcases q with rfl | rfl | rfl <;> exact absurd h (by decide)
theorem rs_join {f : Nat → Int32} {N : Nat} {x y h s : Int32} (h6 : N ≤ 6) (q : (cJoin f N x y h s).1 ≤ -10002) : (cJoin f N x y h s).1 = -10002 ∨ (cJoin f N x y h s).1 = -10003 ∨ (cJoin f N x y h s).1 = -10004 := by
  rw [cJoin] at q ⊢
  split at q
  · split at q
    · exact rs_nn (nI_pos' (by omega)) q
    · next a b => rw [if_pos a, if_neg b]; exact Or.inr (Or.inr rfl)
  · next a => rw [if_neg a]; exact Or.inl rfl
theorem rs_own {f : Nat → Int32} {N : Nat} {x y h s : Int32} (h6 : N ≤ 6) (q : (cOwn f N x y h s).1 ≤ -10002) : (cOwn f N x y h s).1 = -10002 ∨ (cOwn f N x y h s).1 = -10003 ∨ (cOwn f N x y h s).1 = -10004 := by
  rw [cOwn] at q ⊢
  split at q
  · exact rs_nn (nI_pos' (by omega)) q
  · next a => rw [if_neg a]; exact Or.inl rfl
theorem rs_leave {f : Nat → Int32} {N : Nat} {i : Int32} (h6 : N ≤ 6) (q : (cLeave f N i).1 ≤ -10002) : (cLeave f N i).1 = -10002 ∨ (cLeave f N i).1 = -10003 ∨ (cLeave f N i).1 = -10004 := by
  rw [cLeave] at q ⊢
  split at q
  · exact rs_nn (nI_pos' (by omega)) q
  · next a => rw [if_neg a]; exact Or.inl rfl
theorem rs_steer {f : Nat → Int32} {i h s : Int32} (hI : Iv f) (q : (cSteer f i h s).1 ≤ -10002) : (cSteer f i h s).1 = -10002 ∨ (cSteer f i h s).1 = -10003 ∨ (cSteer f i h s).1 = -10004 := by
  rw [cSteer] at q ⊢
  split at q
  · next a =>
    have h6 := hI.1
    obtain ⟨n, hn, hn2⟩ := cShip_n hI.2.1 hI.1 a.1
    rw [hn, nI_clamp (by omega)] at q
    have sh := hI.2.2.1 n hn2
    obtain ⟨k1, e1, k15⟩ := inr_nat (hi := 15) sh.2.2.1 (by decide)
    obtain ⟨k2, e2, k9⟩ := inr_nat (hi := 9) sh.2.2.2 (by decide)
    have e : (16 : Int32) * nI k2 + nI k1 = nI (16 * k2 + k1) := z_add (z_mul (a := 16) rfl rfl) rfl
    rw [e1, e2] at q
    dsimp only at q
    rw [e] at q
    exact rs_nn (nI_pos' (by omega)) q
  · next a => rw [if_neg a]; exact Or.inl rfl
theorem rs_rule {f : Nat → Int32} {k v : Int32} (hI : Iv f) (q : (cRule f k v).1 ≤ -10002) : (cRule f k v).1 = -10002 ∨ (cRule f k v).1 = -10003 ∨ (cRule f k v).1 = -10004 := by
  rw [cRule] at q ⊢
  by_cases a : ¬ k < 0 ∧ ¬ 1 < k ∧ ¬ v < 1 ∧ v ≤ (if k = 0 then 999 else 99)
  · rw [if_pos a] at q
    obtain ⟨n, hn, hn2⟩ := z_nat (b := 1) (Int32.not_lt.mp a.1) (Int32.not_lt.mp a.2.1) (by decide)
    rw [hn, nI_clamp (by omega)] at q
    have q := Int32.le_iff_toInt_le.mp q
    have e1 : (-10002 : Int32).toInt = -10002 := rfl
    rcases (show n = 0 ∨ n = 1 by omega) with rfl | rfl
    · have q : (f 36).toInt ≤ (-10002 : Int32).toInt := q
      have := hI.2.2.2.1.1; omega
    · have q : (f 37).toInt ≤ (-10002 : Int32).toInt := q
      have := hI.2.2.2.2.1; omega
  · rw [if_neg a]; exact Or.inl rfl
theorem or_nI (a b : Nat) : nI a ||| nI b = nI (a ||| b) := by
  refine Int32.toBitVec_inj.mp ?_
  rw [Int32.toBitVec_or]
  refine BitVec.eq_of_getLsbD_eq (fun i hi => ?_)
  rw [BitVec.getLsbD_or]
  show ((BitVec.ofNat 32 a).getLsbD i || (BitVec.ofNat 32 b).getLsbD i) = (BitVec.ofNat 32 (a ||| b)).getLsbD i
  simp [BitVec.getLsbD_ofNat, hi]
theorem gw_nat {f : Nat → Int32} : ∀ {n : Nat}, n ≤ 6 → ∃ m : Nat, gwF f n = nI m ∧ m < 128
  | 0, _ => ⟨0, rfl, by omega⟩
  | n + 1, h6 => by
    obtain ⟨m, e, hm⟩ := gw_nat (f := f) (n := n) (by omega)
    rw [gwF]
    split
    · have hs : ∃ z : Nat, (1 : Int32) <<< (nI (n + 1) &&& 31) = nI z ∧ z < 128 := by
        rcases (show n = 0 ∨ n = 1 ∨ n = 2 ∨ n = 3 ∨ n = 4 ∨ n = 5 by omega) with rfl | rfl | rfl | rfl | rfl | rfl
        · exact ⟨2, by decide, by omega⟩
        · exact ⟨4, by decide, by omega⟩
        · exact ⟨8, by decide, by omega⟩
        · exact ⟨16, by decide, by omega⟩
        · exact ⟨32, by decide, by omega⟩
        · exact ⟨64, by decide, by omega⟩
      obtain ⟨z, ez, hz⟩ := hs
      rw [e, ez, or_nI]
      exact ⟨m ||| z, rfl, Nat.or_lt_two_pow (n := 7) hm hz⟩
    · exact ⟨m, e, hm⟩
theorem gw_nn {f : Nat → Int32} {n : Nat} (h6 : n ≤ 6) : 0 ≤ gwF f n := by
  obtain ⟨m, e, hm⟩ := gw_nat (f := f) h6
  rw [e]; exact nI_pos' (by omega)
theorem rs_gw {f : Nat → Int32} {n : Nat} {P : Prop} (h6 : n ≤ 6) (q : gwF f n ≤ -10002) : P := rs_nn (gw_nn h6) q
theorem rs_go {f : Nat → Int32} {N : Nat} {k : Int32} (h6 : N ≤ 6) (q : (cGo f N k).1 ≤ -10002) : (cGo f N k).1 = -10002 ∨ (cGo f N k).1 = -10003 ∨ (cGo f N k).1 = -10004 := by
  rw [cGo] at q ⊢
  by_cases a : ¬ k < 1 ∧ k ≤ 60
  · rw [if_pos a] at q ⊢
    by_cases b : cStay f N k = true
    · rw [if_pos b] at q; exact rs_gw h6 q
    · rw [if_neg b]; exact Or.inr (Or.inl rfl)
  · rw [if_neg a]; exact Or.inl rfl
theorem adv_nn {f : Nat → Int32} {a : Nat} (hI : Iv f) (ha : a ≤ nN f) : 0 ≤ cAdv f (nN f) a := by
  by_cases h : 16 ≤ cAdv f (nN f) a
  · rw [Int32.le_iff_toInt_le] at h ⊢
    have e0 : (0 : Int32).toInt = 0 := rfl
    have e1 : (16 : Int32).toInt = 16 := rfl
    omega
  · have := (adv_in hI ha h).1
    rw [Int32.le_iff_toInt_le]; exact this
theorem rs_adv {f : Nat → Int32} {N : Nat} {P : Prop} (hI : Iv f) (hNN : nN f = N) (q : cAdv f N 0 ≤ -10002) : P := by
  subst hNN
  exact rs_nn (adv_nn hI (Nat.zero_le _)) q
theorem app_bad {ln : Nat} {bt : Nat → Int32} {v : Int32} (h : cIn v 0 127 = false) : cApp ln bt v = (-10002, ln, bt) := by
  rw [cApp, if_neg]
  rintro ⟨a, b⟩
  exact absurd (decide_eq_true (⟨a, Int32.not_lt.mpr b⟩ : ¬ v < 0 ∧ ¬ 127 < v)) (by rw [show decide (¬ v < 0 ∧ ¬ 127 < v) = cIn v 0 127 from rfl, h]; decide)
theorem app_full {ln : Nat} {bt : Nat → Int32} {v : Int32} (h : cIn v 0 127 = true) (h2 : ¬ ln < 150) : cApp ln bt v = (-10004, ln, bt) := by
  have h := of_decide_eq_true h
  rw [cApp, if_pos ⟨h.1, Int32.not_lt.mp h.2⟩, if_neg h2]
theorem app_ok {ln : Nat} {bt : Nat → Int32} {v : Int32} (h : cIn v 0 127 = true) (h2 : ln < 150) : cApp ln bt v = (nI (ln + 1), ln + 1, upd bt ln v) := by
  have h := of_decide_eq_true h
  rw [cApp, if_pos ⟨h.1, Int32.not_lt.mp h.2⟩, if_pos h2]
theorem tx_up {ln : Nat} {tx bt : Nat → Int32} {v : Int32} (h : ∀ j, j < ln → tx j = bt j) : ∀ j, j < ln + 1 → upd tx ln v j = upd bt ln v j := by
  intro j hj
  by_cases e : j = ln
  · rw [e, upd_eq, upd_eq]
  · rw [upd_ne e, upd_ne e]; exact h j (by omega)
set_option maxHeartbeats 4000000 in
set_option maxRecDepth 100000 in
theorem kX5_adds (l : Launch) (D : va_G) (cI cB : ClassId) (tE tN : Nat) (oM : Nat) (mN : Nat) (mA : Nat) (mP : Nat) (mR : Nat) (mT : Nat) (mL : Nat) (mB : Nat) (ks : Nat) (ln : Nat) (x1 : Int64) (x2 : Int64) (x3 : Int64) (x4 : Int64) (y1 : Int64) (y2 : Int64) (y3 : Int64) (y4 : Int64) (od : Int32) (spt : Int32) (wa : Int32) (hs : Int64) (qn : Nat → Int32) (qa : Nat → Int32) (qp : Nat → Int32) (rf : Nat → Int32) (cb : Int32) (cn : Int32) (cf : Int32) (f : Nat → Int32) (N : Nat) (px : Int32) (py : Int32) (ph : Int32) (ps : Int32) (sz : Nat) (hR : Rg N f qn) (hI : Iv f) (hNN : nN f = N) (hks : ks ≤ 5) (hRf : Rf3 cb cn cf rf) : zI l yX5_adds wsX5_adds ({ frames := 3, cells := 0, slots := 0, locals := 73 }) D cI cB tE tN [.ref oM, .int px, .int py, .int ph, .int ps] [(oM, .inr (5, [.ref mN, .ref mA, .ref mP, .int (nI ks), .ref mR, .ref mT, .int (nI ln), .long x1, .long x2, .long x3, .long x4, .long y1, .long y2, .long y3, .long y4, .ref mL, .ref mB, .int od, .int spt, .int wa, .long hs])), (mN, .inl (cI, 39, .inl qn)), (mA, .inl (cI, 39, .inl qa)), (mP, .inl (cI, 195, .inl qp)), (mR, .inl (cI, 3, .inl rf))] sz (fun u : (Nat → Int32) × (Nat → Int32) × Nat × (Nat → Int32) × (Nat → Int32) => [(oM, .inr (5, [.ref mN, .ref mA, .ref mP, .int (nI u.2.2.1), .ref mR, .ref mT, .int (nI ln), .long x1, .long x2, .long x3, .long x4, .long y1, .long y2, .long y3, .long y4, .ref mL, .ref mB, .int od, .int spt, .int wa, .long hs])), (mN, .inl (cI, 39, .inl u.1)), (mA, .inl (cI, 39, .inl u.2.1)), (mP, .inl (cI, 195, .inl u.2.2.2.1)), (mR, .inl (cI, 3, .inl u.2.2.2.2))]) (fun (r : Int32) (u : (Nat → Int32) × (Nat → Int32) × Nat × (Nat → Int32) × (Nat → Int32)) => r = (cJoin f N px py ph ps).1 ∧ Rg (nN (cJoin f N px py ph ps).2) (cJoin f N px py ph ps).2 u.1 ∧ Rf3 (cnt (-10002) cb r) (cnt (-10003) cn r) (cnt (-10004) cf r) u.2.2.2.2 ∧ u.2.2.1 = kpK r ks ∧ ∀ j, j < 195 → u.2.2.2.1 j = rmK r ks qn qp j) 0 0 := by
  refine zI_mk (cc := cX5_adds) (maxL := 5) (rt := .int) (by decide) rfl (Nat.le_of_ble_eq_true rfl) ?_
  intro p e s m below meth c A Q ls S0 hname hA hK hP hD hT hS hQ hl
  obtain ⟨hx, hb, hml, hown, hts⟩ := id S0
  have hl : lv_has ls 5 [(0, .ref oM), (1, .int px), (2, .int py), (3, .int ph), (4, .int ps)] := hl
  have hN6 : N ≤ 6 := by rw [← hNN]; exact hI.1
  refine lv_aload_n hx hb dX5_adds_0 rfl (lv_at hl 0 rfl) ?_
  refine z_VV (n := 0) (wn := (fun u : (Nat → Int32) => [(oM, .inr (5, [.ref mN, .ref mA, .ref mP, .int (nI ks), .ref mR, .ref mT, .int (nI ln), .long x1, .long x2, .long x3, .long x4, .long y1, .long y2, .long y3, .long y4, .ref mL, .ref mB, .int od, .int spt, .int wa, .long hs])), (mN, .inl (cI, 39, .inl qn)), (mA, .inl (cI, 39, .inl u)), (mP, .inl (cI, 195, .inl qp)), (mR, .inl (cI, 3, .inl rf))])) (wr := [(mP, .inl (cI, 195, .inl qp)), (mR, .inl (cI, 3, .inl rf))]) (As := []) (rest := []) ⟨hx, hb, hml, hown, hts⟩ hK hP hD hS hA hT (kX5_laysAside l D cI cB tE tN oM mN mA mP mR mT mL mB ks ln x1 x2 x3 x4 y1 y2 y3 y4 od spt wa hs qn qa _ ) gX5_adds_X5_laysAside rfl rfl rfl (by decide +kernel) ⟨Nat.le_of_ble_eq_true rfl, Nat.le_of_ble_eq_true rfl⟩ [0, 1, 2] [3, 4] [2, 3, 4, 0, 1] (by decide) rfl rfl (by decide) (by decide) (by decide) (fun u => rfl) 0 5 rfl rfl rfl rfl hl.1 rfl (Nat.le_of_ble_eq_true rfl) dX5_adds_1 ⟨Nat.le_of_ble_eq_true rfl, Nat.le_of_ble_eq_true rfl⟩ (fun u H locs hw_3 hP hD hS => ?_)
  obtain ⟨qa2_1, rfl⟩ : ∃ z, z = u := ⟨_, rfl⟩
  try dsimp only at hw_3
  have hP : va_P D vwCl [(oM, .inr (5, [.ref mN, .ref mA, .ref mP, .int (nI ks), .ref mR, .ref mT, .int (nI ln), .long x1, .long x2, .long x3, .long x4, .long y1, .long y2, .long y3, .long y4, .ref mL, .ref mB, .int od, .int spt, .int wa, .long hs])), (mN, .inl (cI, 39, .inl qn)), (mA, .inl (cI, 39, .inl qa2_1)), (mP, .inl (cI, 195, .inl qp)), (mR, .inl (cI, 3, .inl rf))] H := hP
  have hD : va_D A [(oM, .inr (5, [.ref mN, .ref mA, .ref mP, .int (nI ks), .ref mR, .ref mT, .int (nI ln), .long x1, .long x2, .long x3, .long x4, .long y1, .long y2, .long y3, .long y4, .ref mL, .ref mB, .int od, .int spt, .int wa, .long hs])), (mN, .inl (cI, 39, .inl qn)), (mA, .inl (cI, 39, .inl qa2_1)), (mP, .inl (cI, 195, .inl qp)), (mR, .inl (cI, 3, .inl rf))] := hD
  have hla := hw_3
  refine lv_aload_n hx hb dX5_adds_4 rfl (lv_at hl 0 rfl) ?_
  refine lv_aload_n hx hb dX5_adds_5 rfl (lv_at hl 0 rfl) ?_
  refine lv_iload_n hx hb dX5_adds_6 rfl (lv_at hl 1 rfl) ?_
  refine lv_iload_n hx hb dX5_adds_7 rfl (lv_at hl 2 rfl) ?_
  refine lv_iload_n hx hb dX5_adds_8 rfl (lv_at hl 3 rfl) ?_
  refine lv_iload hx hb dX5_adds_9 (lv_at hl 4 rfl) ?_
  refine z_VI (n := 4) (wn := (fun u : (Nat → Int32) => [(oM, .inr (5, [.ref mN, .ref mA, .ref mP, .int (nI ks), .ref mR, .ref mT, .int (nI ln), .long x1, .long x2, .long x3, .long x4, .long y1, .long y2, .long y3, .long y4, .ref mL, .ref mB, .int od, .int spt, .int wa, .long hs])), (mN, .inl (cI, 39, .inl u)), (mA, .inl (cI, 39, .inl qa2_1)), (mP, .inl (cI, 195, .inl qp)), (mR, .inl (cI, 3, .inl rf))])) (wr := [(mA, .inl (cI, 39, .inl qa2_1)), (mP, .inl (cI, 195, .inl qp)), (mR, .inl (cI, 3, .inl rf))]) (As := [.int px, .int py, .int ph, .int ps]) (rest := [.ref oM]) ⟨hx, hb, hml, hown, hts⟩ hK hP hD hS hA hT (kX5_putOther l D cI cB tE tN oM mN mA mP mR mT mL mB ks ln x1 x2 x3 x4 y1 y2 y3 y4 od spt wa hs qn f N px py ph ps _ (hR) (hI) (hNN)) gX5_adds_X5_putOther rfl rfl rfl (by decide +kernel) ⟨Nat.le_of_ble_eq_true rfl, Nat.le_of_ble_eq_true rfl⟩ [0, 1] [2, 3, 4] [3, 4, 0, 1, 2] (by decide) rfl rfl (by decide) (by decide) (by decide) (fun u => rfl) 0 5 rfl rfl rfl rfl hl.1 rfl (Nat.le_of_ble_eq_true rfl) dX5_adds_11 ⟨Nat.le_of_ble_eq_true rfl, Nat.le_of_ble_eq_true rfl⟩ (fun r_5 u H locs hw_6 hP hD hS => ?_)
  obtain ⟨q2_4, rfl⟩ : ∃ z, z = u := ⟨_, rfl⟩
  try dsimp only at hw_6
  have hP : va_P D vwCl [(oM, .inr (5, [.ref mN, .ref mA, .ref mP, .int (nI ks), .ref mR, .ref mT, .int (nI ln), .long x1, .long x2, .long x3, .long x4, .long y1, .long y2, .long y3, .long y4, .ref mL, .ref mB, .int od, .int spt, .int wa, .long hs])), (mN, .inl (cI, 39, .inl q2_4)), (mA, .inl (cI, 39, .inl qa2_1)), (mP, .inl (cI, 195, .inl qp)), (mR, .inl (cI, 3, .inl rf))] H := hP
  have hD : va_D A [(oM, .inr (5, [.ref mN, .ref mA, .ref mP, .int (nI ks), .ref mR, .ref mT, .int (nI ln), .long x1, .long x2, .long x3, .long x4, .long y1, .long y2, .long y3, .long y4, .ref mL, .ref mB, .int od, .int spt, .int wa, .long hs])), (mN, .inl (cI, 39, .inl q2_4)), (mA, .inl (cI, 39, .inl qa2_1)), (mP, .inl (cI, 195, .inl qp)), (mR, .inl (cI, 3, .inl rf))] := hD
  have hj := hw_6
  refine z_VI (n := 1) (wn := (fun u : Nat × (Nat → Int32) × (Nat → Int32) => [(oM, .inr (5, [.ref mN, .ref mA, .ref mP, .int (nI u.1), .ref mR, .ref mT, .int (nI ln), .long x1, .long x2, .long x3, .long x4, .long y1, .long y2, .long y3, .long y4, .ref mL, .ref mB, .int od, .int spt, .int wa, .long hs])), (mN, .inl (cI, 39, .inl q2_4)), (mA, .inl (cI, 39, .inl qa2_1)), (mP, .inl (cI, 195, .inl u.2.1)), (mR, .inl (cI, 3, .inl u.2.2))])) (wr := [(mN, .inl (cI, 39, .inl q2_4))]) (As := [.int r_5]) (rest := []) ⟨hx, hb, hml, hown, hts⟩ hK hP hD hS hA hT (kX5_finished l D cI cB tE tN oM mN mA mP mR mT mL mB ks ln x1 x2 x3 x4 y1 y2 y3 y4 od spt wa hs qa2_1 qp rf cb cn cf r_5 _ (by omega) (by omega) (fun h => by rw [hj.1] at h ⊢; exact rs_join hN6 h)) gX5_adds_X5_finished rfl rfl rfl (by decide +kernel) ⟨Nat.le_of_ble_eq_true rfl, Nat.le_of_ble_eq_true rfl⟩ [0, 2, 3, 4] [1] [1, 0, 2, 3, 4] (by decide) rfl rfl (by decide) (by decide) (by decide) (fun u => rfl) 0 5 rfl rfl rfl rfl hl.1 rfl (Nat.le_of_ble_eq_true rfl) dX5_adds_14 ⟨Nat.le_of_ble_eq_true rfl, Nat.le_of_ble_eq_true rfl⟩ (fun r_10 u H locs hw_11 hP hD hS => ?_)
  obtain ⟨ks2_7, qp2_8, rf2_9⟩ := u
  try dsimp only at hw_11
  have hP : va_P D vwCl [(oM, .inr (5, [.ref mN, .ref mA, .ref mP, .int (nI ks2_7), .ref mR, .ref mT, .int (nI ln), .long x1, .long x2, .long x3, .long x4, .long y1, .long y2, .long y3, .long y4, .ref mL, .ref mB, .int od, .int spt, .int wa, .long hs])), (mN, .inl (cI, 39, .inl q2_4)), (mA, .inl (cI, 39, .inl qa2_1)), (mP, .inl (cI, 195, .inl qp2_8)), (mR, .inl (cI, 3, .inl rf2_9))] H := hP
  have hD : va_D A [(oM, .inr (5, [.ref mN, .ref mA, .ref mP, .int (nI ks2_7), .ref mR, .ref mT, .int (nI ln), .long x1, .long x2, .long x3, .long x4, .long y1, .long y2, .long y3, .long y4, .ref mL, .ref mB, .int od, .int spt, .int wa, .long hs])), (mN, .inl (cI, 39, .inl q2_4)), (mA, .inl (cI, 39, .inl qa2_1)), (mP, .inl (cI, 195, .inl qp2_8)), (mR, .inl (cI, 3, .inl rf2_9))] := hD
  obtain ⟨hw_11, hq_12⟩ := hw_11
  subst r_10
  have hfi := hq_12
  exact hQ r_5 (q2_4, qa2_1, ks2_7, qp2_8, rf2_9) _ _ _ _ (rfl) (⟨hj.1, hj.2, hfi.1, hfi.2.1, fun j h => (hfi.2.2 j h).trans (rmK_congr hla h)⟩) hP hD hS dX5_adds_17

set_option maxHeartbeats 4000000 in
set_option maxRecDepth 100000 in
theorem kX5_own (l : Launch) (D : va_G) (cI cB : ClassId) (tE tN : Nat) (oM : Nat) (mN : Nat) (mA : Nat) (mP : Nat) (mR : Nat) (mT : Nat) (mL : Nat) (mB : Nat) (ks : Nat) (ln : Nat) (x1 : Int64) (x2 : Int64) (x3 : Int64) (x4 : Int64) (y1 : Int64) (y2 : Int64) (y3 : Int64) (y4 : Int64) (od : Int32) (spt : Int32) (wa : Int32) (hs : Int64) (qn : Nat → Int32) (qa : Nat → Int32) (qp : Nat → Int32) (rf : Nat → Int32) (cb : Int32) (cn : Int32) (cf : Int32) (f : Nat → Int32) (N : Nat) (px : Int32) (py : Int32) (ph : Int32) (ps : Int32) (sz : Nat) (hR : Rg N f qn) (hI : Iv f) (hNN : nN f = N) (hks : ks ≤ 5) (hRf : Rf3 cb cn cf rf) : zI l yX5_own wsX5_own ({ frames := 3, cells := 0, slots := 0, locals := 73 }) D cI cB tE tN [.ref oM, .int px, .int py, .int ph, .int ps] [(oM, .inr (5, [.ref mN, .ref mA, .ref mP, .int (nI ks), .ref mR, .ref mT, .int (nI ln), .long x1, .long x2, .long x3, .long x4, .long y1, .long y2, .long y3, .long y4, .ref mL, .ref mB, .int od, .int spt, .int wa, .long hs])), (mN, .inl (cI, 39, .inl qn)), (mA, .inl (cI, 39, .inl qa)), (mP, .inl (cI, 195, .inl qp)), (mR, .inl (cI, 3, .inl rf))] sz (fun u : (Nat → Int32) × (Nat → Int32) × Nat × (Nat → Int32) × (Nat → Int32) => [(oM, .inr (5, [.ref mN, .ref mA, .ref mP, .int (nI u.2.2.1), .ref mR, .ref mT, .int (nI ln), .long x1, .long x2, .long x3, .long x4, .long y1, .long y2, .long y3, .long y4, .ref mL, .ref mB, .int od, .int spt, .int wa, .long hs])), (mN, .inl (cI, 39, .inl u.1)), (mA, .inl (cI, 39, .inl u.2.1)), (mP, .inl (cI, 195, .inl u.2.2.2.1)), (mR, .inl (cI, 3, .inl u.2.2.2.2))]) (fun (r : Int32) (u : (Nat → Int32) × (Nat → Int32) × Nat × (Nat → Int32) × (Nat → Int32)) => r = (cOwn f N px py ph ps).1 ∧ Rg (nN (cOwn f N px py ph ps).2) (cOwn f N px py ph ps).2 u.1 ∧ Rf3 (cnt (-10002) cb r) (cnt (-10003) cn r) (cnt (-10004) cf r) u.2.2.2.2 ∧ u.2.2.1 = kpK r ks ∧ ∀ j, j < 195 → u.2.2.2.1 j = rmK r ks qn qp j) 0 0 := by
  refine zI_mk (cc := cX5_own) (maxL := 5) (rt := .int) (by decide) rfl (Nat.le_of_ble_eq_true rfl) ?_
  intro p e s m below meth c A Q ls S0 hname hA hK hP hD hT hS hQ hl
  obtain ⟨hx, hb, hml, hown, hts⟩ := id S0
  have hl : lv_has ls 5 [(0, .ref oM), (1, .int px), (2, .int py), (3, .int ph), (4, .int ps)] := hl
  have hN6 : N ≤ 6 := by rw [← hNN]; exact hI.1
  refine lv_aload_n hx hb dX5_own_0 rfl (lv_at hl 0 rfl) ?_
  refine z_VV (n := 0) (wn := (fun u : (Nat → Int32) => [(oM, .inr (5, [.ref mN, .ref mA, .ref mP, .int (nI ks), .ref mR, .ref mT, .int (nI ln), .long x1, .long x2, .long x3, .long x4, .long y1, .long y2, .long y3, .long y4, .ref mL, .ref mB, .int od, .int spt, .int wa, .long hs])), (mN, .inl (cI, 39, .inl qn)), (mA, .inl (cI, 39, .inl u)), (mP, .inl (cI, 195, .inl qp)), (mR, .inl (cI, 3, .inl rf))])) (wr := [(mP, .inl (cI, 195, .inl qp)), (mR, .inl (cI, 3, .inl rf))]) (As := []) (rest := []) ⟨hx, hb, hml, hown, hts⟩ hK hP hD hS hA hT (kX5_laysAside l D cI cB tE tN oM mN mA mP mR mT mL mB ks ln x1 x2 x3 x4 y1 y2 y3 y4 od spt wa hs qn qa _ ) gX5_own_X5_laysAside rfl rfl rfl (by decide +kernel) ⟨Nat.le_of_ble_eq_true rfl, Nat.le_of_ble_eq_true rfl⟩ [0, 1, 2] [3, 4] [2, 3, 4, 0, 1] (by decide) rfl rfl (by decide) (by decide) (by decide) (fun u => rfl) 0 5 rfl rfl rfl rfl hl.1 rfl (Nat.le_of_ble_eq_true rfl) dX5_own_1 ⟨Nat.le_of_ble_eq_true rfl, Nat.le_of_ble_eq_true rfl⟩ (fun u H locs hw_3 hP hD hS => ?_)
  obtain ⟨qa2_1, rfl⟩ : ∃ z, z = u := ⟨_, rfl⟩
  try dsimp only at hw_3
  have hP : va_P D vwCl [(oM, .inr (5, [.ref mN, .ref mA, .ref mP, .int (nI ks), .ref mR, .ref mT, .int (nI ln), .long x1, .long x2, .long x3, .long x4, .long y1, .long y2, .long y3, .long y4, .ref mL, .ref mB, .int od, .int spt, .int wa, .long hs])), (mN, .inl (cI, 39, .inl qn)), (mA, .inl (cI, 39, .inl qa2_1)), (mP, .inl (cI, 195, .inl qp)), (mR, .inl (cI, 3, .inl rf))] H := hP
  have hD : va_D A [(oM, .inr (5, [.ref mN, .ref mA, .ref mP, .int (nI ks), .ref mR, .ref mT, .int (nI ln), .long x1, .long x2, .long x3, .long x4, .long y1, .long y2, .long y3, .long y4, .ref mL, .ref mB, .int od, .int spt, .int wa, .long hs])), (mN, .inl (cI, 39, .inl qn)), (mA, .inl (cI, 39, .inl qa2_1)), (mP, .inl (cI, 195, .inl qp)), (mR, .inl (cI, 3, .inl rf))] := hD
  have hla := hw_3
  refine lv_aload_n hx hb dX5_own_4 rfl (lv_at hl 0 rfl) ?_
  refine lv_aload_n hx hb dX5_own_5 rfl (lv_at hl 0 rfl) ?_
  refine lv_iload_n hx hb dX5_own_6 rfl (lv_at hl 1 rfl) ?_
  refine lv_iload_n hx hb dX5_own_7 rfl (lv_at hl 2 rfl) ?_
  refine lv_iload_n hx hb dX5_own_8 rfl (lv_at hl 3 rfl) ?_
  refine lv_iload hx hb dX5_own_9 (lv_at hl 4 rfl) ?_
  refine z_VI (n := 4) (wn := (fun u : (Nat → Int32) => [(oM, .inr (5, [.ref mN, .ref mA, .ref mP, .int (nI ks), .ref mR, .ref mT, .int (nI ln), .long x1, .long x2, .long x3, .long x4, .long y1, .long y2, .long y3, .long y4, .ref mL, .ref mB, .int od, .int spt, .int wa, .long hs])), (mN, .inl (cI, 39, .inl u)), (mA, .inl (cI, 39, .inl qa2_1)), (mP, .inl (cI, 195, .inl qp)), (mR, .inl (cI, 3, .inl rf))])) (wr := [(mA, .inl (cI, 39, .inl qa2_1)), (mP, .inl (cI, 195, .inl qp)), (mR, .inl (cI, 3, .inl rf))]) (As := [.int px, .int py, .int ph, .int ps]) (rest := [.ref oM]) ⟨hx, hb, hml, hown, hts⟩ hK hP hD hS hA hT (kX5_putOwn l D cI cB tE tN oM mN mA mP mR mT mL mB ks ln x1 x2 x3 x4 y1 y2 y3 y4 od spt wa hs qn f N px py ph ps _ (hR) (hI) (hNN)) gX5_own_X5_putOwn rfl rfl rfl (by decide +kernel) ⟨Nat.le_of_ble_eq_true rfl, Nat.le_of_ble_eq_true rfl⟩ [0, 1] [2, 3, 4] [3, 4, 0, 1, 2] (by decide) rfl rfl (by decide) (by decide) (by decide) (fun u => rfl) 0 5 rfl rfl rfl rfl hl.1 rfl (Nat.le_of_ble_eq_true rfl) dX5_own_11 ⟨Nat.le_of_ble_eq_true rfl, Nat.le_of_ble_eq_true rfl⟩ (fun r_5 u H locs hw_6 hP hD hS => ?_)
  obtain ⟨q2_4, rfl⟩ : ∃ z, z = u := ⟨_, rfl⟩
  try dsimp only at hw_6
  have hP : va_P D vwCl [(oM, .inr (5, [.ref mN, .ref mA, .ref mP, .int (nI ks), .ref mR, .ref mT, .int (nI ln), .long x1, .long x2, .long x3, .long x4, .long y1, .long y2, .long y3, .long y4, .ref mL, .ref mB, .int od, .int spt, .int wa, .long hs])), (mN, .inl (cI, 39, .inl q2_4)), (mA, .inl (cI, 39, .inl qa2_1)), (mP, .inl (cI, 195, .inl qp)), (mR, .inl (cI, 3, .inl rf))] H := hP
  have hD : va_D A [(oM, .inr (5, [.ref mN, .ref mA, .ref mP, .int (nI ks), .ref mR, .ref mT, .int (nI ln), .long x1, .long x2, .long x3, .long x4, .long y1, .long y2, .long y3, .long y4, .ref mL, .ref mB, .int od, .int spt, .int wa, .long hs])), (mN, .inl (cI, 39, .inl q2_4)), (mA, .inl (cI, 39, .inl qa2_1)), (mP, .inl (cI, 195, .inl qp)), (mR, .inl (cI, 3, .inl rf))] := hD
  have hj := hw_6
  refine z_VI (n := 1) (wn := (fun u : Nat × (Nat → Int32) × (Nat → Int32) => [(oM, .inr (5, [.ref mN, .ref mA, .ref mP, .int (nI u.1), .ref mR, .ref mT, .int (nI ln), .long x1, .long x2, .long x3, .long x4, .long y1, .long y2, .long y3, .long y4, .ref mL, .ref mB, .int od, .int spt, .int wa, .long hs])), (mN, .inl (cI, 39, .inl q2_4)), (mA, .inl (cI, 39, .inl qa2_1)), (mP, .inl (cI, 195, .inl u.2.1)), (mR, .inl (cI, 3, .inl u.2.2))])) (wr := [(mN, .inl (cI, 39, .inl q2_4))]) (As := [.int r_5]) (rest := []) ⟨hx, hb, hml, hown, hts⟩ hK hP hD hS hA hT (kX5_finished l D cI cB tE tN oM mN mA mP mR mT mL mB ks ln x1 x2 x3 x4 y1 y2 y3 y4 od spt wa hs qa2_1 qp rf cb cn cf r_5 _ (by omega) (by omega) (fun h => by rw [hj.1] at h ⊢; exact rs_own hN6 h)) gX5_own_X5_finished rfl rfl rfl (by decide +kernel) ⟨Nat.le_of_ble_eq_true rfl, Nat.le_of_ble_eq_true rfl⟩ [0, 2, 3, 4] [1] [1, 0, 2, 3, 4] (by decide) rfl rfl (by decide) (by decide) (by decide) (fun u => rfl) 0 5 rfl rfl rfl rfl hl.1 rfl (Nat.le_of_ble_eq_true rfl) dX5_own_14 ⟨Nat.le_of_ble_eq_true rfl, Nat.le_of_ble_eq_true rfl⟩ (fun r_10 u H locs hw_11 hP hD hS => ?_)
  obtain ⟨ks2_7, qp2_8, rf2_9⟩ := u
  try dsimp only at hw_11
  have hP : va_P D vwCl [(oM, .inr (5, [.ref mN, .ref mA, .ref mP, .int (nI ks2_7), .ref mR, .ref mT, .int (nI ln), .long x1, .long x2, .long x3, .long x4, .long y1, .long y2, .long y3, .long y4, .ref mL, .ref mB, .int od, .int spt, .int wa, .long hs])), (mN, .inl (cI, 39, .inl q2_4)), (mA, .inl (cI, 39, .inl qa2_1)), (mP, .inl (cI, 195, .inl qp2_8)), (mR, .inl (cI, 3, .inl rf2_9))] H := hP
  have hD : va_D A [(oM, .inr (5, [.ref mN, .ref mA, .ref mP, .int (nI ks2_7), .ref mR, .ref mT, .int (nI ln), .long x1, .long x2, .long x3, .long x4, .long y1, .long y2, .long y3, .long y4, .ref mL, .ref mB, .int od, .int spt, .int wa, .long hs])), (mN, .inl (cI, 39, .inl q2_4)), (mA, .inl (cI, 39, .inl qa2_1)), (mP, .inl (cI, 195, .inl qp2_8)), (mR, .inl (cI, 3, .inl rf2_9))] := hD
  obtain ⟨hw_11, hq_12⟩ := hw_11
  subst r_10
  have hfi := hq_12
  exact hQ r_5 (q2_4, qa2_1, ks2_7, qp2_8, rf2_9) _ _ _ _ (rfl) (⟨hj.1, hj.2, hfi.1, hfi.2.1, fun j h => (hfi.2.2 j h).trans (rmK_congr hla h)⟩) hP hD hS dX5_own_17

set_option maxHeartbeats 4000000 in
set_option maxRecDepth 100000 in
theorem kX5_drops (l : Launch) (D : va_G) (cI cB : ClassId) (tE tN : Nat) (oM : Nat) (mN : Nat) (mA : Nat) (mP : Nat) (mR : Nat) (mT : Nat) (mL : Nat) (mB : Nat) (ks : Nat) (ln : Nat) (x1 : Int64) (x2 : Int64) (x3 : Int64) (x4 : Int64) (y1 : Int64) (y2 : Int64) (y3 : Int64) (y4 : Int64) (od : Int32) (spt : Int32) (wa : Int32) (hs : Int64) (qn : Nat → Int32) (qa : Nat → Int32) (qp : Nat → Int32) (rf : Nat → Int32) (cb : Int32) (cn : Int32) (cf : Int32) (f : Nat → Int32) (N : Nat) (i : Int32) (sz : Nat) (hR : Rg N f qn) (hI : Iv f) (hNN : nN f = N) (hks : ks ≤ 5) (hRf : Rf3 cb cn cf rf) : zI l yX5_drops wsX5_drops ({ frames := 4, cells := 0, slots := 0, locals := 86 }) D cI cB tE tN [.ref oM, .int i] [(oM, .inr (5, [.ref mN, .ref mA, .ref mP, .int (nI ks), .ref mR, .ref mT, .int (nI ln), .long x1, .long x2, .long x3, .long x4, .long y1, .long y2, .long y3, .long y4, .ref mL, .ref mB, .int od, .int spt, .int wa, .long hs])), (mN, .inl (cI, 39, .inl qn)), (mA, .inl (cI, 39, .inl qa)), (mP, .inl (cI, 195, .inl qp)), (mR, .inl (cI, 3, .inl rf))] sz (fun u : (Nat → Int32) × (Nat → Int32) × Nat × (Nat → Int32) × (Nat → Int32) => [(oM, .inr (5, [.ref mN, .ref mA, .ref mP, .int (nI u.2.2.1), .ref mR, .ref mT, .int (nI ln), .long x1, .long x2, .long x3, .long x4, .long y1, .long y2, .long y3, .long y4, .ref mL, .ref mB, .int od, .int spt, .int wa, .long hs])), (mN, .inl (cI, 39, .inl u.1)), (mA, .inl (cI, 39, .inl u.2.1)), (mP, .inl (cI, 195, .inl u.2.2.2.1)), (mR, .inl (cI, 3, .inl u.2.2.2.2))]) (fun (r : Int32) (u : (Nat → Int32) × (Nat → Int32) × Nat × (Nat → Int32) × (Nat → Int32)) => r = (cLeave f N i).1 ∧ Rg (nN (cLeave f N i).2) (cLeave f N i).2 u.1 ∧ Rf3 (cnt (-10002) cb r) (cnt (-10003) cn r) (cnt (-10004) cf r) u.2.2.2.2 ∧ u.2.2.1 = kpK r ks ∧ ∀ j, j < 195 → u.2.2.2.1 j = rmK r ks qn qp j) 0 0 := by
  refine zI_mk (cc := cX5_drops) (maxL := 2) (rt := .int) (by decide) rfl (Nat.le_of_ble_eq_true rfl) ?_
  intro p e s m below meth c A Q ls S0 hname hA hK hP hD hT hS hQ hl
  obtain ⟨hx, hb, hml, hown, hts⟩ := id S0
  have hl : lv_has ls 2 [(0, .ref oM), (1, .int i)] := hl
  have hN6 : N ≤ 6 := by rw [← hNN]; exact hI.1
  refine lv_aload_n hx hb dX5_drops_0 rfl (lv_at hl 0 rfl) ?_
  refine z_VV (n := 0) (wn := (fun u : (Nat → Int32) => [(oM, .inr (5, [.ref mN, .ref mA, .ref mP, .int (nI ks), .ref mR, .ref mT, .int (nI ln), .long x1, .long x2, .long x3, .long x4, .long y1, .long y2, .long y3, .long y4, .ref mL, .ref mB, .int od, .int spt, .int wa, .long hs])), (mN, .inl (cI, 39, .inl qn)), (mA, .inl (cI, 39, .inl u)), (mP, .inl (cI, 195, .inl qp)), (mR, .inl (cI, 3, .inl rf))])) (wr := [(mP, .inl (cI, 195, .inl qp)), (mR, .inl (cI, 3, .inl rf))]) (As := []) (rest := []) ⟨hx, hb, hml, hown, hts⟩ hK hP hD hS hA hT (kX5_laysAside l D cI cB tE tN oM mN mA mP mR mT mL mB ks ln x1 x2 x3 x4 y1 y2 y3 y4 od spt wa hs qn qa _ ) gX5_drops_X5_laysAside rfl rfl rfl (by decide +kernel) ⟨Nat.le_of_ble_eq_true rfl, Nat.le_of_ble_eq_true rfl⟩ [0, 1, 2] [3, 4] [2, 3, 4, 0, 1] (by decide) rfl rfl (by decide) (by decide) (by decide) (fun u => rfl) 0 5 rfl rfl rfl rfl hl.1 rfl (Nat.le_of_ble_eq_true rfl) dX5_drops_1 ⟨Nat.le_of_ble_eq_true rfl, Nat.le_of_ble_eq_true rfl⟩ (fun u H locs hw_3 hP hD hS => ?_)
  obtain ⟨qa2_1, rfl⟩ : ∃ z, z = u := ⟨_, rfl⟩
  try dsimp only at hw_3
  have hP : va_P D vwCl [(oM, .inr (5, [.ref mN, .ref mA, .ref mP, .int (nI ks), .ref mR, .ref mT, .int (nI ln), .long x1, .long x2, .long x3, .long x4, .long y1, .long y2, .long y3, .long y4, .ref mL, .ref mB, .int od, .int spt, .int wa, .long hs])), (mN, .inl (cI, 39, .inl qn)), (mA, .inl (cI, 39, .inl qa2_1)), (mP, .inl (cI, 195, .inl qp)), (mR, .inl (cI, 3, .inl rf))] H := hP
  have hD : va_D A [(oM, .inr (5, [.ref mN, .ref mA, .ref mP, .int (nI ks), .ref mR, .ref mT, .int (nI ln), .long x1, .long x2, .long x3, .long x4, .long y1, .long y2, .long y3, .long y4, .ref mL, .ref mB, .int od, .int spt, .int wa, .long hs])), (mN, .inl (cI, 39, .inl qn)), (mA, .inl (cI, 39, .inl qa2_1)), (mP, .inl (cI, 195, .inl qp)), (mR, .inl (cI, 3, .inl rf))] := hD
  have hla := hw_3
  refine lv_aload_n hx hb dX5_drops_4 rfl (lv_at hl 0 rfl) ?_
  refine lv_aload_n hx hb dX5_drops_5 rfl (lv_at hl 0 rfl) ?_
  refine lv_iload_n hx hb dX5_drops_6 rfl (lv_at hl 1 rfl) ?_
  refine z_VI (n := 1) (wn := (fun u : (Nat → Int32) => [(oM, .inr (5, [.ref mN, .ref mA, .ref mP, .int (nI ks), .ref mR, .ref mT, .int (nI ln), .long x1, .long x2, .long x3, .long x4, .long y1, .long y2, .long y3, .long y4, .ref mL, .ref mB, .int od, .int spt, .int wa, .long hs])), (mN, .inl (cI, 39, .inl u)), (mA, .inl (cI, 39, .inl qa2_1)), (mP, .inl (cI, 195, .inl qp)), (mR, .inl (cI, 3, .inl rf))])) (wr := [(mA, .inl (cI, 39, .inl qa2_1)), (mP, .inl (cI, 195, .inl qp)), (mR, .inl (cI, 3, .inl rf))]) (As := [.int i]) (rest := [.ref oM]) ⟨hx, hb, hml, hown, hts⟩ hK hP hD hS hA hT (kX5_putAway l D cI cB tE tN oM mN mA mP mR mT mL mB ks ln x1 x2 x3 x4 y1 y2 y3 y4 od spt wa hs qn f N i _ (hR) (hI) (hNN)) gX5_drops_X5_putAway rfl rfl rfl (by decide +kernel) ⟨Nat.le_of_ble_eq_true rfl, Nat.le_of_ble_eq_true rfl⟩ [0, 1] [2, 3, 4] [3, 4, 0, 1, 2] (by decide) rfl rfl (by decide) (by decide) (by decide) (fun u => rfl) 0 5 rfl rfl rfl rfl hl.1 rfl (Nat.le_of_ble_eq_true rfl) dX5_drops_7 ⟨Nat.le_of_ble_eq_true rfl, Nat.le_of_ble_eq_true rfl⟩ (fun r_5 u H locs hw_6 hP hD hS => ?_)
  obtain ⟨q2_4, rfl⟩ : ∃ z, z = u := ⟨_, rfl⟩
  try dsimp only at hw_6
  have hP : va_P D vwCl [(oM, .inr (5, [.ref mN, .ref mA, .ref mP, .int (nI ks), .ref mR, .ref mT, .int (nI ln), .long x1, .long x2, .long x3, .long x4, .long y1, .long y2, .long y3, .long y4, .ref mL, .ref mB, .int od, .int spt, .int wa, .long hs])), (mN, .inl (cI, 39, .inl q2_4)), (mA, .inl (cI, 39, .inl qa2_1)), (mP, .inl (cI, 195, .inl qp)), (mR, .inl (cI, 3, .inl rf))] H := hP
  have hD : va_D A [(oM, .inr (5, [.ref mN, .ref mA, .ref mP, .int (nI ks), .ref mR, .ref mT, .int (nI ln), .long x1, .long x2, .long x3, .long x4, .long y1, .long y2, .long y3, .long y4, .ref mL, .ref mB, .int od, .int spt, .int wa, .long hs])), (mN, .inl (cI, 39, .inl q2_4)), (mA, .inl (cI, 39, .inl qa2_1)), (mP, .inl (cI, 195, .inl qp)), (mR, .inl (cI, 3, .inl rf))] := hD
  have hj := hw_6
  refine z_VI (n := 1) (wn := (fun u : Nat × (Nat → Int32) × (Nat → Int32) => [(oM, .inr (5, [.ref mN, .ref mA, .ref mP, .int (nI u.1), .ref mR, .ref mT, .int (nI ln), .long x1, .long x2, .long x3, .long x4, .long y1, .long y2, .long y3, .long y4, .ref mL, .ref mB, .int od, .int spt, .int wa, .long hs])), (mN, .inl (cI, 39, .inl q2_4)), (mA, .inl (cI, 39, .inl qa2_1)), (mP, .inl (cI, 195, .inl u.2.1)), (mR, .inl (cI, 3, .inl u.2.2))])) (wr := [(mN, .inl (cI, 39, .inl q2_4))]) (As := [.int r_5]) (rest := []) ⟨hx, hb, hml, hown, hts⟩ hK hP hD hS hA hT (kX5_finished l D cI cB tE tN oM mN mA mP mR mT mL mB ks ln x1 x2 x3 x4 y1 y2 y3 y4 od spt wa hs qa2_1 qp rf cb cn cf r_5 _ (by omega) (by omega) (fun h => by rw [hj.1] at h ⊢; exact rs_leave hN6 h)) gX5_drops_X5_finished rfl rfl rfl (by decide +kernel) ⟨Nat.le_of_ble_eq_true rfl, Nat.le_of_ble_eq_true rfl⟩ [0, 2, 3, 4] [1] [1, 0, 2, 3, 4] (by decide) rfl rfl (by decide) (by decide) (by decide) (fun u => rfl) 0 5 rfl rfl rfl rfl hl.1 rfl (Nat.le_of_ble_eq_true rfl) dX5_drops_10 ⟨Nat.le_of_ble_eq_true rfl, Nat.le_of_ble_eq_true rfl⟩ (fun r_10 u H locs hw_11 hP hD hS => ?_)
  obtain ⟨ks2_7, qp2_8, rf2_9⟩ := u
  try dsimp only at hw_11
  have hP : va_P D vwCl [(oM, .inr (5, [.ref mN, .ref mA, .ref mP, .int (nI ks2_7), .ref mR, .ref mT, .int (nI ln), .long x1, .long x2, .long x3, .long x4, .long y1, .long y2, .long y3, .long y4, .ref mL, .ref mB, .int od, .int spt, .int wa, .long hs])), (mN, .inl (cI, 39, .inl q2_4)), (mA, .inl (cI, 39, .inl qa2_1)), (mP, .inl (cI, 195, .inl qp2_8)), (mR, .inl (cI, 3, .inl rf2_9))] H := hP
  have hD : va_D A [(oM, .inr (5, [.ref mN, .ref mA, .ref mP, .int (nI ks2_7), .ref mR, .ref mT, .int (nI ln), .long x1, .long x2, .long x3, .long x4, .long y1, .long y2, .long y3, .long y4, .ref mL, .ref mB, .int od, .int spt, .int wa, .long hs])), (mN, .inl (cI, 39, .inl q2_4)), (mA, .inl (cI, 39, .inl qa2_1)), (mP, .inl (cI, 195, .inl qp2_8)), (mR, .inl (cI, 3, .inl rf2_9))] := hD
  obtain ⟨hw_11, hq_12⟩ := hw_11
  subst r_10
  have hfi := hq_12
  exact hQ r_5 (q2_4, qa2_1, ks2_7, qp2_8, rf2_9) _ _ _ _ (rfl) (⟨hj.1, hj.2, hfi.1, hfi.2.1, fun j h => (hfi.2.2 j h).trans (rmK_congr hla h)⟩) hP hD hS dX5_drops_13

set_option maxHeartbeats 4000000 in
set_option maxRecDepth 100000 in
theorem kX5_veers (l : Launch) (D : va_G) (cI cB : ClassId) (tE tN : Nat) (oM : Nat) (mN : Nat) (mA : Nat) (mP : Nat) (mR : Nat) (mT : Nat) (mL : Nat) (mB : Nat) (ks : Nat) (ln : Nat) (x1 : Int64) (x2 : Int64) (x3 : Int64) (x4 : Int64) (y1 : Int64) (y2 : Int64) (y3 : Int64) (y4 : Int64) (od : Int32) (spt : Int32) (wa : Int32) (hs : Int64) (qn : Nat → Int32) (qa : Nat → Int32) (qp : Nat → Int32) (rf : Nat → Int32) (cb : Int32) (cn : Int32) (cf : Int32) (f : Nat → Int32) (N : Nat) (i : Int32) (ph : Int32) (ps : Int32) (sz : Nat) (hR : Rg N f qn) (hI : Iv f) (hNN : nN f = N) (hks : ks ≤ 5) (hRf : Rf3 cb cn cf rf) : zI l yX5_veers wsX5_veers ({ frames := 3, cells := 0, slots := 0, locals := 67 }) D cI cB tE tN [.ref oM, .int i, .int ph, .int ps] [(oM, .inr (5, [.ref mN, .ref mA, .ref mP, .int (nI ks), .ref mR, .ref mT, .int (nI ln), .long x1, .long x2, .long x3, .long x4, .long y1, .long y2, .long y3, .long y4, .ref mL, .ref mB, .int od, .int spt, .int wa, .long hs])), (mN, .inl (cI, 39, .inl qn)), (mA, .inl (cI, 39, .inl qa)), (mP, .inl (cI, 195, .inl qp)), (mR, .inl (cI, 3, .inl rf))] sz (fun u : (Nat → Int32) × (Nat → Int32) × Nat × (Nat → Int32) × (Nat → Int32) => [(oM, .inr (5, [.ref mN, .ref mA, .ref mP, .int (nI u.2.2.1), .ref mR, .ref mT, .int (nI ln), .long x1, .long x2, .long x3, .long x4, .long y1, .long y2, .long y3, .long y4, .ref mL, .ref mB, .int od, .int spt, .int wa, .long hs])), (mN, .inl (cI, 39, .inl u.1)), (mA, .inl (cI, 39, .inl u.2.1)), (mP, .inl (cI, 195, .inl u.2.2.2.1)), (mR, .inl (cI, 3, .inl u.2.2.2.2))]) (fun (r : Int32) (u : (Nat → Int32) × (Nat → Int32) × Nat × (Nat → Int32) × (Nat → Int32)) => r = (cSteer f i ph ps).1 ∧ Rg (nN (cSteer f i ph ps).2) (cSteer f i ph ps).2 u.1 ∧ Rf3 (cnt (-10002) cb r) (cnt (-10003) cn r) (cnt (-10004) cf r) u.2.2.2.2 ∧ u.2.2.1 = kpK r ks ∧ ∀ j, j < 195 → u.2.2.2.1 j = rmK r ks qn qp j) 0 0 := by
  refine zI_mk (cc := cX5_veers) (maxL := 4) (rt := .int) (by decide) rfl (Nat.le_of_ble_eq_true rfl) ?_
  intro p e s m below meth c A Q ls S0 hname hA hK hP hD hT hS hQ hl
  obtain ⟨hx, hb, hml, hown, hts⟩ := id S0
  have hl : lv_has ls 4 [(0, .ref oM), (1, .int i), (2, .int ph), (3, .int ps)] := hl
  have hN6 : N ≤ 6 := by rw [← hNN]; exact hI.1
  refine lv_aload_n hx hb dX5_veers_0 rfl (lv_at hl 0 rfl) ?_
  refine z_VV (n := 0) (wn := (fun u : (Nat → Int32) => [(oM, .inr (5, [.ref mN, .ref mA, .ref mP, .int (nI ks), .ref mR, .ref mT, .int (nI ln), .long x1, .long x2, .long x3, .long x4, .long y1, .long y2, .long y3, .long y4, .ref mL, .ref mB, .int od, .int spt, .int wa, .long hs])), (mN, .inl (cI, 39, .inl qn)), (mA, .inl (cI, 39, .inl u)), (mP, .inl (cI, 195, .inl qp)), (mR, .inl (cI, 3, .inl rf))])) (wr := [(mP, .inl (cI, 195, .inl qp)), (mR, .inl (cI, 3, .inl rf))]) (As := []) (rest := []) ⟨hx, hb, hml, hown, hts⟩ hK hP hD hS hA hT (kX5_laysAside l D cI cB tE tN oM mN mA mP mR mT mL mB ks ln x1 x2 x3 x4 y1 y2 y3 y4 od spt wa hs qn qa _ ) gX5_veers_X5_laysAside rfl rfl rfl (by decide +kernel) ⟨Nat.le_of_ble_eq_true rfl, Nat.le_of_ble_eq_true rfl⟩ [0, 1, 2] [3, 4] [2, 3, 4, 0, 1] (by decide) rfl rfl (by decide) (by decide) (by decide) (fun u => rfl) 0 5 rfl rfl rfl rfl hl.1 rfl (Nat.le_of_ble_eq_true rfl) dX5_veers_1 ⟨Nat.le_of_ble_eq_true rfl, Nat.le_of_ble_eq_true rfl⟩ (fun u H locs hw_3 hP hD hS => ?_)
  obtain ⟨qa2_1, rfl⟩ : ∃ z, z = u := ⟨_, rfl⟩
  try dsimp only at hw_3
  have hP : va_P D vwCl [(oM, .inr (5, [.ref mN, .ref mA, .ref mP, .int (nI ks), .ref mR, .ref mT, .int (nI ln), .long x1, .long x2, .long x3, .long x4, .long y1, .long y2, .long y3, .long y4, .ref mL, .ref mB, .int od, .int spt, .int wa, .long hs])), (mN, .inl (cI, 39, .inl qn)), (mA, .inl (cI, 39, .inl qa2_1)), (mP, .inl (cI, 195, .inl qp)), (mR, .inl (cI, 3, .inl rf))] H := hP
  have hD : va_D A [(oM, .inr (5, [.ref mN, .ref mA, .ref mP, .int (nI ks), .ref mR, .ref mT, .int (nI ln), .long x1, .long x2, .long x3, .long x4, .long y1, .long y2, .long y3, .long y4, .ref mL, .ref mB, .int od, .int spt, .int wa, .long hs])), (mN, .inl (cI, 39, .inl qn)), (mA, .inl (cI, 39, .inl qa2_1)), (mP, .inl (cI, 195, .inl qp)), (mR, .inl (cI, 3, .inl rf))] := hD
  have hla := hw_3
  refine lv_aload_n hx hb dX5_veers_4 rfl (lv_at hl 0 rfl) ?_
  refine lv_aload_n hx hb dX5_veers_5 rfl (lv_at hl 0 rfl) ?_
  refine lv_iload_n hx hb dX5_veers_6 rfl (lv_at hl 1 rfl) ?_
  refine lv_iload_n hx hb dX5_veers_7 rfl (lv_at hl 2 rfl) ?_
  refine lv_iload_n hx hb dX5_veers_8 rfl (lv_at hl 3 rfl) ?_
  refine z_VI (n := 3) (wn := (fun u : (Nat → Int32) => [(oM, .inr (5, [.ref mN, .ref mA, .ref mP, .int (nI ks), .ref mR, .ref mT, .int (nI ln), .long x1, .long x2, .long x3, .long x4, .long y1, .long y2, .long y3, .long y4, .ref mL, .ref mB, .int od, .int spt, .int wa, .long hs])), (mN, .inl (cI, 39, .inl u)), (mA, .inl (cI, 39, .inl qa2_1)), (mP, .inl (cI, 195, .inl qp)), (mR, .inl (cI, 3, .inl rf))])) (wr := [(mA, .inl (cI, 39, .inl qa2_1)), (mP, .inl (cI, 195, .inl qp)), (mR, .inl (cI, 3, .inl rf))]) (As := [.int i, .int ph, .int ps]) (rest := [.ref oM]) ⟨hx, hb, hml, hown, hts⟩ hK hP hD hS hA hT (kX5_putCourse l D cI cB tE tN oM mN mA mP mR mT mL mB ks ln x1 x2 x3 x4 y1 y2 y3 y4 od spt wa hs qn f N i ph ps _ (hR) (hI) (hNN)) gX5_veers_X5_putCourse rfl rfl rfl (by decide +kernel) ⟨Nat.le_of_ble_eq_true rfl, Nat.le_of_ble_eq_true rfl⟩ [0, 1] [2, 3, 4] [3, 4, 0, 1, 2] (by decide) rfl rfl (by decide) (by decide) (by decide) (fun u => rfl) 0 5 rfl rfl rfl rfl hl.1 rfl (Nat.le_of_ble_eq_true rfl) dX5_veers_9 ⟨Nat.le_of_ble_eq_true rfl, Nat.le_of_ble_eq_true rfl⟩ (fun r_5 u H locs hw_6 hP hD hS => ?_)
  obtain ⟨q2_4, rfl⟩ : ∃ z, z = u := ⟨_, rfl⟩
  try dsimp only at hw_6
  have hP : va_P D vwCl [(oM, .inr (5, [.ref mN, .ref mA, .ref mP, .int (nI ks), .ref mR, .ref mT, .int (nI ln), .long x1, .long x2, .long x3, .long x4, .long y1, .long y2, .long y3, .long y4, .ref mL, .ref mB, .int od, .int spt, .int wa, .long hs])), (mN, .inl (cI, 39, .inl q2_4)), (mA, .inl (cI, 39, .inl qa2_1)), (mP, .inl (cI, 195, .inl qp)), (mR, .inl (cI, 3, .inl rf))] H := hP
  have hD : va_D A [(oM, .inr (5, [.ref mN, .ref mA, .ref mP, .int (nI ks), .ref mR, .ref mT, .int (nI ln), .long x1, .long x2, .long x3, .long x4, .long y1, .long y2, .long y3, .long y4, .ref mL, .ref mB, .int od, .int spt, .int wa, .long hs])), (mN, .inl (cI, 39, .inl q2_4)), (mA, .inl (cI, 39, .inl qa2_1)), (mP, .inl (cI, 195, .inl qp)), (mR, .inl (cI, 3, .inl rf))] := hD
  have hj := hw_6
  refine z_VI (n := 1) (wn := (fun u : Nat × (Nat → Int32) × (Nat → Int32) => [(oM, .inr (5, [.ref mN, .ref mA, .ref mP, .int (nI u.1), .ref mR, .ref mT, .int (nI ln), .long x1, .long x2, .long x3, .long x4, .long y1, .long y2, .long y3, .long y4, .ref mL, .ref mB, .int od, .int spt, .int wa, .long hs])), (mN, .inl (cI, 39, .inl q2_4)), (mA, .inl (cI, 39, .inl qa2_1)), (mP, .inl (cI, 195, .inl u.2.1)), (mR, .inl (cI, 3, .inl u.2.2))])) (wr := [(mN, .inl (cI, 39, .inl q2_4))]) (As := [.int r_5]) (rest := []) ⟨hx, hb, hml, hown, hts⟩ hK hP hD hS hA hT (kX5_finished l D cI cB tE tN oM mN mA mP mR mT mL mB ks ln x1 x2 x3 x4 y1 y2 y3 y4 od spt wa hs qa2_1 qp rf cb cn cf r_5 _ (by omega) (by omega) (fun h => by rw [hj.1] at h ⊢; exact rs_steer hI h)) gX5_veers_X5_finished rfl rfl rfl (by decide +kernel) ⟨Nat.le_of_ble_eq_true rfl, Nat.le_of_ble_eq_true rfl⟩ [0, 2, 3, 4] [1] [1, 0, 2, 3, 4] (by decide) rfl rfl (by decide) (by decide) (by decide) (fun u => rfl) 0 5 rfl rfl rfl rfl hl.1 rfl (Nat.le_of_ble_eq_true rfl) dX5_veers_12 ⟨Nat.le_of_ble_eq_true rfl, Nat.le_of_ble_eq_true rfl⟩ (fun r_10 u H locs hw_11 hP hD hS => ?_)
  obtain ⟨ks2_7, qp2_8, rf2_9⟩ := u
  try dsimp only at hw_11
  have hP : va_P D vwCl [(oM, .inr (5, [.ref mN, .ref mA, .ref mP, .int (nI ks2_7), .ref mR, .ref mT, .int (nI ln), .long x1, .long x2, .long x3, .long x4, .long y1, .long y2, .long y3, .long y4, .ref mL, .ref mB, .int od, .int spt, .int wa, .long hs])), (mN, .inl (cI, 39, .inl q2_4)), (mA, .inl (cI, 39, .inl qa2_1)), (mP, .inl (cI, 195, .inl qp2_8)), (mR, .inl (cI, 3, .inl rf2_9))] H := hP
  have hD : va_D A [(oM, .inr (5, [.ref mN, .ref mA, .ref mP, .int (nI ks2_7), .ref mR, .ref mT, .int (nI ln), .long x1, .long x2, .long x3, .long x4, .long y1, .long y2, .long y3, .long y4, .ref mL, .ref mB, .int od, .int spt, .int wa, .long hs])), (mN, .inl (cI, 39, .inl q2_4)), (mA, .inl (cI, 39, .inl qa2_1)), (mP, .inl (cI, 195, .inl qp2_8)), (mR, .inl (cI, 3, .inl rf2_9))] := hD
  obtain ⟨hw_11, hq_12⟩ := hw_11
  subst r_10
  have hfi := hq_12
  exact hQ r_5 (q2_4, qa2_1, ks2_7, qp2_8, rf2_9) _ _ _ _ (rfl) (⟨hj.1, hj.2, hfi.1, hfi.2.1, fun j h => (hfi.2.2 j h).trans (rmK_congr hla h)⟩) hP hD hS dX5_veers_15

set_option maxHeartbeats 4000000 in
set_option maxRecDepth 100000 in
theorem kX5_sets (l : Launch) (D : va_G) (cI cB : ClassId) (tE tN : Nat) (oM : Nat) (mN : Nat) (mA : Nat) (mP : Nat) (mR : Nat) (mT : Nat) (mL : Nat) (mB : Nat) (ks : Nat) (ln : Nat) (x1 : Int64) (x2 : Int64) (x3 : Int64) (x4 : Int64) (y1 : Int64) (y2 : Int64) (y3 : Int64) (y4 : Int64) (od : Int32) (spt : Int32) (wa : Int32) (hs : Int64) (qn : Nat → Int32) (qa : Nat → Int32) (qp : Nat → Int32) (rf : Nat → Int32) (cb : Int32) (cn : Int32) (cf : Int32) (f : Nat → Int32) (N : Nat) (i : Int32) (v : Int32) (sz : Nat) (hR : Rg N f qn) (hI : Iv f) (hNN : nN f = N) (hks : ks ≤ 5) (hRf : Rf3 cb cn cf rf) : zI l yX5_sets wsX5_sets ({ frames := 2, cells := 0, slots := 0, locals := 45 }) D cI cB tE tN [.ref oM, .int i, .int v] [(oM, .inr (5, [.ref mN, .ref mA, .ref mP, .int (nI ks), .ref mR, .ref mT, .int (nI ln), .long x1, .long x2, .long x3, .long x4, .long y1, .long y2, .long y3, .long y4, .ref mL, .ref mB, .int od, .int spt, .int wa, .long hs])), (mN, .inl (cI, 39, .inl qn)), (mA, .inl (cI, 39, .inl qa)), (mP, .inl (cI, 195, .inl qp)), (mR, .inl (cI, 3, .inl rf))] sz (fun u : (Nat → Int32) × (Nat → Int32) × Nat × (Nat → Int32) × (Nat → Int32) => [(oM, .inr (5, [.ref mN, .ref mA, .ref mP, .int (nI u.2.2.1), .ref mR, .ref mT, .int (nI ln), .long x1, .long x2, .long x3, .long x4, .long y1, .long y2, .long y3, .long y4, .ref mL, .ref mB, .int od, .int spt, .int wa, .long hs])), (mN, .inl (cI, 39, .inl u.1)), (mA, .inl (cI, 39, .inl u.2.1)), (mP, .inl (cI, 195, .inl u.2.2.2.1)), (mR, .inl (cI, 3, .inl u.2.2.2.2))]) (fun (r : Int32) (u : (Nat → Int32) × (Nat → Int32) × Nat × (Nat → Int32) × (Nat → Int32)) => r = (cRule f i v).1 ∧ Rg (nN (cRule f i v).2) (cRule f i v).2 u.1 ∧ Rf3 (cnt (-10002) cb r) (cnt (-10003) cn r) (cnt (-10004) cf r) u.2.2.2.2 ∧ u.2.2.1 = kpK r ks ∧ ∀ j, j < 195 → u.2.2.2.1 j = rmK r ks qn qp j) 0 0 := by
  refine zI_mk (cc := cX5_sets) (maxL := 3) (rt := .int) (by decide) rfl (Nat.le_of_ble_eq_true rfl) ?_
  intro p e s m below meth c A Q ls S0 hname hA hK hP hD hT hS hQ hl
  obtain ⟨hx, hb, hml, hown, hts⟩ := id S0
  have hl : lv_has ls 3 [(0, .ref oM), (1, .int i), (2, .int v)] := hl
  have hN6 : N ≤ 6 := by rw [← hNN]; exact hI.1
  refine lv_aload_n hx hb dX5_sets_0 rfl (lv_at hl 0 rfl) ?_
  refine z_VV (n := 0) (wn := (fun u : (Nat → Int32) => [(oM, .inr (5, [.ref mN, .ref mA, .ref mP, .int (nI ks), .ref mR, .ref mT, .int (nI ln), .long x1, .long x2, .long x3, .long x4, .long y1, .long y2, .long y3, .long y4, .ref mL, .ref mB, .int od, .int spt, .int wa, .long hs])), (mN, .inl (cI, 39, .inl qn)), (mA, .inl (cI, 39, .inl u)), (mP, .inl (cI, 195, .inl qp)), (mR, .inl (cI, 3, .inl rf))])) (wr := [(mP, .inl (cI, 195, .inl qp)), (mR, .inl (cI, 3, .inl rf))]) (As := []) (rest := []) ⟨hx, hb, hml, hown, hts⟩ hK hP hD hS hA hT (kX5_laysAside l D cI cB tE tN oM mN mA mP mR mT mL mB ks ln x1 x2 x3 x4 y1 y2 y3 y4 od spt wa hs qn qa _ ) gX5_sets_X5_laysAside rfl rfl rfl (by decide +kernel) ⟨Nat.le_of_ble_eq_true rfl, Nat.le_of_ble_eq_true rfl⟩ [0, 1, 2] [3, 4] [2, 3, 4, 0, 1] (by decide) rfl rfl (by decide) (by decide) (by decide) (fun u => rfl) 0 5 rfl rfl rfl rfl hl.1 rfl (Nat.le_of_ble_eq_true rfl) dX5_sets_1 ⟨Nat.le_of_ble_eq_true rfl, Nat.le_of_ble_eq_true rfl⟩ (fun u H locs hw_3 hP hD hS => ?_)
  obtain ⟨qa2_1, rfl⟩ : ∃ z, z = u := ⟨_, rfl⟩
  try dsimp only at hw_3
  have hP : va_P D vwCl [(oM, .inr (5, [.ref mN, .ref mA, .ref mP, .int (nI ks), .ref mR, .ref mT, .int (nI ln), .long x1, .long x2, .long x3, .long x4, .long y1, .long y2, .long y3, .long y4, .ref mL, .ref mB, .int od, .int spt, .int wa, .long hs])), (mN, .inl (cI, 39, .inl qn)), (mA, .inl (cI, 39, .inl qa2_1)), (mP, .inl (cI, 195, .inl qp)), (mR, .inl (cI, 3, .inl rf))] H := hP
  have hD : va_D A [(oM, .inr (5, [.ref mN, .ref mA, .ref mP, .int (nI ks), .ref mR, .ref mT, .int (nI ln), .long x1, .long x2, .long x3, .long x4, .long y1, .long y2, .long y3, .long y4, .ref mL, .ref mB, .int od, .int spt, .int wa, .long hs])), (mN, .inl (cI, 39, .inl qn)), (mA, .inl (cI, 39, .inl qa2_1)), (mP, .inl (cI, 195, .inl qp)), (mR, .inl (cI, 3, .inl rf))] := hD
  have hla := hw_3
  refine lv_aload_n hx hb dX5_sets_4 rfl (lv_at hl 0 rfl) ?_
  refine lv_aload_n hx hb dX5_sets_5 rfl (lv_at hl 0 rfl) ?_
  refine lv_iload_n hx hb dX5_sets_6 rfl (lv_at hl 1 rfl) ?_
  refine lv_iload_n hx hb dX5_sets_7 rfl (lv_at hl 2 rfl) ?_
  refine z_VI (n := 2) (wn := (fun u : (Nat → Int32) => [(oM, .inr (5, [.ref mN, .ref mA, .ref mP, .int (nI ks), .ref mR, .ref mT, .int (nI ln), .long x1, .long x2, .long x3, .long x4, .long y1, .long y2, .long y3, .long y4, .ref mL, .ref mB, .int od, .int spt, .int wa, .long hs])), (mN, .inl (cI, 39, .inl u)), (mA, .inl (cI, 39, .inl qa2_1)), (mP, .inl (cI, 195, .inl qp)), (mR, .inl (cI, 3, .inl rf))])) (wr := [(mA, .inl (cI, 39, .inl qa2_1)), (mP, .inl (cI, 195, .inl qp)), (mR, .inl (cI, 3, .inl rf))]) (As := [.int i, .int v]) (rest := [.ref oM]) ⟨hx, hb, hml, hown, hts⟩ hK hP hD hS hA hT (kX5_putSetting l D cI cB tE tN oM mN mA mP mR mT mL mB ks ln x1 x2 x3 x4 y1 y2 y3 y4 od spt wa hs qn f N i v _ (hR) (hI) (hNN)) gX5_sets_X5_putSetting rfl rfl rfl (by decide +kernel) ⟨Nat.le_of_ble_eq_true rfl, Nat.le_of_ble_eq_true rfl⟩ [0, 1] [2, 3, 4] [3, 4, 0, 1, 2] (by decide) rfl rfl (by decide) (by decide) (by decide) (fun u => rfl) 0 5 rfl rfl rfl rfl hl.1 rfl (Nat.le_of_ble_eq_true rfl) dX5_sets_8 ⟨Nat.le_of_ble_eq_true rfl, Nat.le_of_ble_eq_true rfl⟩ (fun r_5 u H locs hw_6 hP hD hS => ?_)
  obtain ⟨q2_4, rfl⟩ : ∃ z, z = u := ⟨_, rfl⟩
  try dsimp only at hw_6
  have hP : va_P D vwCl [(oM, .inr (5, [.ref mN, .ref mA, .ref mP, .int (nI ks), .ref mR, .ref mT, .int (nI ln), .long x1, .long x2, .long x3, .long x4, .long y1, .long y2, .long y3, .long y4, .ref mL, .ref mB, .int od, .int spt, .int wa, .long hs])), (mN, .inl (cI, 39, .inl q2_4)), (mA, .inl (cI, 39, .inl qa2_1)), (mP, .inl (cI, 195, .inl qp)), (mR, .inl (cI, 3, .inl rf))] H := hP
  have hD : va_D A [(oM, .inr (5, [.ref mN, .ref mA, .ref mP, .int (nI ks), .ref mR, .ref mT, .int (nI ln), .long x1, .long x2, .long x3, .long x4, .long y1, .long y2, .long y3, .long y4, .ref mL, .ref mB, .int od, .int spt, .int wa, .long hs])), (mN, .inl (cI, 39, .inl q2_4)), (mA, .inl (cI, 39, .inl qa2_1)), (mP, .inl (cI, 195, .inl qp)), (mR, .inl (cI, 3, .inl rf))] := hD
  have hj := hw_6
  refine z_VI (n := 1) (wn := (fun u : Nat × (Nat → Int32) × (Nat → Int32) => [(oM, .inr (5, [.ref mN, .ref mA, .ref mP, .int (nI u.1), .ref mR, .ref mT, .int (nI ln), .long x1, .long x2, .long x3, .long x4, .long y1, .long y2, .long y3, .long y4, .ref mL, .ref mB, .int od, .int spt, .int wa, .long hs])), (mN, .inl (cI, 39, .inl q2_4)), (mA, .inl (cI, 39, .inl qa2_1)), (mP, .inl (cI, 195, .inl u.2.1)), (mR, .inl (cI, 3, .inl u.2.2))])) (wr := [(mN, .inl (cI, 39, .inl q2_4))]) (As := [.int r_5]) (rest := []) ⟨hx, hb, hml, hown, hts⟩ hK hP hD hS hA hT (kX5_finished l D cI cB tE tN oM mN mA mP mR mT mL mB ks ln x1 x2 x3 x4 y1 y2 y3 y4 od spt wa hs qa2_1 qp rf cb cn cf r_5 _ (by omega) (by omega) (fun h => by rw [hj.1] at h ⊢; exact rs_rule hI h)) gX5_sets_X5_finished rfl rfl rfl (by decide +kernel) ⟨Nat.le_of_ble_eq_true rfl, Nat.le_of_ble_eq_true rfl⟩ [0, 2, 3, 4] [1] [1, 0, 2, 3, 4] (by decide) rfl rfl (by decide) (by decide) (by decide) (fun u => rfl) 0 5 rfl rfl rfl rfl hl.1 rfl (Nat.le_of_ble_eq_true rfl) dX5_sets_11 ⟨Nat.le_of_ble_eq_true rfl, Nat.le_of_ble_eq_true rfl⟩ (fun r_10 u H locs hw_11 hP hD hS => ?_)
  obtain ⟨ks2_7, qp2_8, rf2_9⟩ := u
  try dsimp only at hw_11
  have hP : va_P D vwCl [(oM, .inr (5, [.ref mN, .ref mA, .ref mP, .int (nI ks2_7), .ref mR, .ref mT, .int (nI ln), .long x1, .long x2, .long x3, .long x4, .long y1, .long y2, .long y3, .long y4, .ref mL, .ref mB, .int od, .int spt, .int wa, .long hs])), (mN, .inl (cI, 39, .inl q2_4)), (mA, .inl (cI, 39, .inl qa2_1)), (mP, .inl (cI, 195, .inl qp2_8)), (mR, .inl (cI, 3, .inl rf2_9))] H := hP
  have hD : va_D A [(oM, .inr (5, [.ref mN, .ref mA, .ref mP, .int (nI ks2_7), .ref mR, .ref mT, .int (nI ln), .long x1, .long x2, .long x3, .long x4, .long y1, .long y2, .long y3, .long y4, .ref mL, .ref mB, .int od, .int spt, .int wa, .long hs])), (mN, .inl (cI, 39, .inl q2_4)), (mA, .inl (cI, 39, .inl qa2_1)), (mP, .inl (cI, 195, .inl qp2_8)), (mR, .inl (cI, 3, .inl rf2_9))] := hD
  obtain ⟨hw_11, hq_12⟩ := hw_11
  subst r_10
  have hfi := hq_12
  exact hQ r_5 (q2_4, qa2_1, ks2_7, qp2_8, rf2_9) _ _ _ _ (rfl) (⟨hj.1, hj.2, hfi.1, hfi.2.1, fun j h => (hfi.2.2 j h).trans (rmK_congr hla h)⟩) hP hD hS dX5_sets_14

set_option maxHeartbeats 4000000 in
set_option maxRecDepth 100000 in
theorem kX5_steps (l : Launch) (D : va_G) (cI cB : ClassId) (tE tN : Nat) (oM : Nat) (mN : Nat) (mA : Nat) (mP : Nat) (mR : Nat) (mT : Nat) (mL : Nat) (mB : Nat) (ks : Nat) (ln : Nat) (x1 : Int64) (x2 : Int64) (x3 : Int64) (x4 : Int64) (y1 : Int64) (y2 : Int64) (y3 : Int64) (y4 : Int64) (od : Int32) (spt : Int32) (wa : Int32) (hs : Int64) (qn : Nat → Int32) (qa : Nat → Int32) (qp : Nat → Int32) (rf : Nat → Int32) (cb : Int32) (cn : Int32) (cf : Int32) (f : Nat → Int32) (N : Nat) (i : Int32) (sz : Nat) (hR : Rg N f qn) (hI : Iv f) (hNN : nN f = N) (hks : ks ≤ 5) (hRf : Rf3 cb cn cf rf) : zI l yX5_steps wsX5_steps ({ frames := 8, cells := 0, slots := 0, locals := 193 }) D cI cB tE tN [.ref oM, .int i] [(oM, .inr (5, [.ref mN, .ref mA, .ref mP, .int (nI ks), .ref mR, .ref mT, .int (nI ln), .long x1, .long x2, .long x3, .long x4, .long y1, .long y2, .long y3, .long y4, .ref mL, .ref mB, .int od, .int spt, .int wa, .long hs])), (mN, .inl (cI, 39, .inl qn)), (mA, .inl (cI, 39, .inl qa)), (mP, .inl (cI, 195, .inl qp)), (mR, .inl (cI, 3, .inl rf))] sz (fun u : (Nat → Int32) × Int64 × Int64 × Int64 × Int64 × Int64 × Int64 × Int64 × Int64 × (Nat → Int32) × Nat × (Nat → Int32) × (Nat → Int32) => [(oM, .inr (5, [.ref mN, .ref mA, .ref mP, .int (nI u.2.2.2.2.2.2.2.2.2.2.1), .ref mR, .ref mT, .int (nI ln), .long u.2.1, .long u.2.2.1, .long u.2.2.2.1, .long u.2.2.2.2.1, .long u.2.2.2.2.2.1, .long u.2.2.2.2.2.2.1, .long u.2.2.2.2.2.2.2.1, .long u.2.2.2.2.2.2.2.2.1, .ref mL, .ref mB, .int od, .int spt, .int wa, .long hs])), (mN, .inl (cI, 39, .inl u.1)), (mA, .inl (cI, 39, .inl u.2.2.2.2.2.2.2.2.2.1)), (mP, .inl (cI, 195, .inl u.2.2.2.2.2.2.2.2.2.2.2.1)), (mR, .inl (cI, 3, .inl u.2.2.2.2.2.2.2.2.2.2.2.2))]) (fun (r : Int32) (u : (Nat → Int32) × Int64 × Int64 × Int64 × Int64 × Int64 × Int64 × Int64 × Int64 × (Nat → Int32) × Nat × (Nat → Int32) × (Nat → Int32)) => r = (cGo f N i).1 ∧ Rg (nN (cGo f N i).2) (cGo f N i).2 u.1 ∧ Rf3 (cnt (-10002) cb r) (cnt (-10003) cn r) (cnt (-10004) cf r) u.2.2.2.2.2.2.2.2.2.2.2.2 ∧ u.2.2.2.2.2.2.2.2.2.2.1 = kpK r ks ∧ ∀ j, j < 195 → u.2.2.2.2.2.2.2.2.2.2.2.1 j = rmK r ks qn qp j) 0 0 := by
  refine zI_mk (cc := cX5_steps) (maxL := 2) (rt := .int) (by decide) rfl (Nat.le_of_ble_eq_true rfl) ?_
  intro p e s m below meth c A Q ls S0 hname hA hK hP hD hT hS hQ hl
  obtain ⟨hx, hb, hml, hown, hts⟩ := id S0
  have hl : lv_has ls 2 [(0, .ref oM), (1, .int i)] := hl
  have hN6 : N ≤ 6 := by rw [← hNN]; exact hI.1
  refine lv_aload_n hx hb dX5_steps_0 rfl (lv_at hl 0 rfl) ?_
  refine z_VV (n := 0) (wn := (fun u : (Nat → Int32) => [(oM, .inr (5, [.ref mN, .ref mA, .ref mP, .int (nI ks), .ref mR, .ref mT, .int (nI ln), .long x1, .long x2, .long x3, .long x4, .long y1, .long y2, .long y3, .long y4, .ref mL, .ref mB, .int od, .int spt, .int wa, .long hs])), (mN, .inl (cI, 39, .inl qn)), (mA, .inl (cI, 39, .inl u)), (mP, .inl (cI, 195, .inl qp)), (mR, .inl (cI, 3, .inl rf))])) (wr := [(mP, .inl (cI, 195, .inl qp)), (mR, .inl (cI, 3, .inl rf))]) (As := []) (rest := []) ⟨hx, hb, hml, hown, hts⟩ hK hP hD hS hA hT (kX5_laysAside l D cI cB tE tN oM mN mA mP mR mT mL mB ks ln x1 x2 x3 x4 y1 y2 y3 y4 od spt wa hs qn qa _ ) gX5_steps_X5_laysAside rfl rfl rfl (by decide +kernel) ⟨Nat.le_of_ble_eq_true rfl, Nat.le_of_ble_eq_true rfl⟩ [0, 1, 2] [3, 4] [2, 3, 4, 0, 1] (by decide) rfl rfl (by decide) (by decide) (by decide) (fun u => rfl) 0 5 rfl rfl rfl rfl hl.1 rfl (Nat.le_of_ble_eq_true rfl) dX5_steps_1 ⟨Nat.le_of_ble_eq_true rfl, Nat.le_of_ble_eq_true rfl⟩ (fun u H locs hw_3 hP hD hS => ?_)
  obtain ⟨qa2_1, rfl⟩ : ∃ z, z = u := ⟨_, rfl⟩
  try dsimp only at hw_3
  have hP : va_P D vwCl [(oM, .inr (5, [.ref mN, .ref mA, .ref mP, .int (nI ks), .ref mR, .ref mT, .int (nI ln), .long x1, .long x2, .long x3, .long x4, .long y1, .long y2, .long y3, .long y4, .ref mL, .ref mB, .int od, .int spt, .int wa, .long hs])), (mN, .inl (cI, 39, .inl qn)), (mA, .inl (cI, 39, .inl qa2_1)), (mP, .inl (cI, 195, .inl qp)), (mR, .inl (cI, 3, .inl rf))] H := hP
  have hD : va_D A [(oM, .inr (5, [.ref mN, .ref mA, .ref mP, .int (nI ks), .ref mR, .ref mT, .int (nI ln), .long x1, .long x2, .long x3, .long x4, .long y1, .long y2, .long y3, .long y4, .ref mL, .ref mB, .int od, .int spt, .int wa, .long hs])), (mN, .inl (cI, 39, .inl qn)), (mA, .inl (cI, 39, .inl qa2_1)), (mP, .inl (cI, 195, .inl qp)), (mR, .inl (cI, 3, .inl rf))] := hD
  have hla := hw_3
  refine lv_aload_n hx hb dX5_steps_4 rfl (lv_at hl 0 rfl) ?_
  refine lv_aload_n hx hb dX5_steps_5 rfl (lv_at hl 0 rfl) ?_
  refine lv_iload_n hx hb dX5_steps_6 rfl (lv_at hl 1 rfl) ?_
  refine z_VI (n := 1) (wn := (fun u : (Nat → Int32) × Int64 × Int64 × Int64 × Int64 × Int64 × Int64 × Int64 × Int64 => [(oM, .inr (5, [.ref mN, .ref mA, .ref mP, .int (nI ks), .ref mR, .ref mT, .int (nI ln), .long u.2.1, .long u.2.2.1, .long u.2.2.2.1, .long u.2.2.2.2.1, .long u.2.2.2.2.2.1, .long u.2.2.2.2.2.2.1, .long u.2.2.2.2.2.2.2.1, .long u.2.2.2.2.2.2.2.2, .ref mL, .ref mB, .int od, .int spt, .int wa, .long hs])), (mN, .inl (cI, 39, .inl u.1)), (mA, .inl (cI, 39, .inl qa2_1)), (mP, .inl (cI, 195, .inl qp)), (mR, .inl (cI, 3, .inl rf))])) (wr := [(mA, .inl (cI, 39, .inl qa2_1)), (mP, .inl (cI, 195, .inl qp)), (mR, .inl (cI, 3, .inl rf))]) (As := [.int i]) (rest := [.ref oM]) ⟨hx, hb, hml, hown, hts⟩ hK hP hD hS hA hT (kX5_putSteps l D cI cB tE tN oM mN mA mP mR mT mL mB ks ln x1 x2 x3 x4 y1 y2 y3 y4 od spt wa hs qn f N i _ (hR) (hI) (hNN)) gX5_steps_X5_putSteps rfl rfl rfl (by decide +kernel) ⟨Nat.le_of_ble_eq_true rfl, Nat.le_of_ble_eq_true rfl⟩ [0, 1] [2, 3, 4] [3, 4, 0, 1, 2] (by decide) rfl rfl (by decide) (by decide) (by decide) (fun u => rfl) 0 5 rfl rfl rfl rfl hl.1 rfl (Nat.le_of_ble_eq_true rfl) dX5_steps_7 ⟨Nat.le_of_ble_eq_true rfl, Nat.le_of_ble_eq_true rfl⟩ (fun r_13 u H locs hw_14 hP hD hS => ?_)
  obtain ⟨qz_4, p1_5, p2_6, p3_7, p4_8, q1_9, q2_10, q3_11, q4_12⟩ := u
  try dsimp only at hw_14
  have hP : va_P D vwCl [(oM, .inr (5, [.ref mN, .ref mA, .ref mP, .int (nI ks), .ref mR, .ref mT, .int (nI ln), .long p1_5, .long p2_6, .long p3_7, .long p4_8, .long q1_9, .long q2_10, .long q3_11, .long q4_12, .ref mL, .ref mB, .int od, .int spt, .int wa, .long hs])), (mN, .inl (cI, 39, .inl qz_4)), (mA, .inl (cI, 39, .inl qa2_1)), (mP, .inl (cI, 195, .inl qp)), (mR, .inl (cI, 3, .inl rf))] H := hP
  have hD : va_D A [(oM, .inr (5, [.ref mN, .ref mA, .ref mP, .int (nI ks), .ref mR, .ref mT, .int (nI ln), .long p1_5, .long p2_6, .long p3_7, .long p4_8, .long q1_9, .long q2_10, .long q3_11, .long q4_12, .ref mL, .ref mB, .int od, .int spt, .int wa, .long hs])), (mN, .inl (cI, 39, .inl qz_4)), (mA, .inl (cI, 39, .inl qa2_1)), (mP, .inl (cI, 195, .inl qp)), (mR, .inl (cI, 3, .inl rf))] := hD
  have hj := hw_14
  refine z_VI (n := 1) (wn := (fun u : Nat × (Nat → Int32) × (Nat → Int32) => [(oM, .inr (5, [.ref mN, .ref mA, .ref mP, .int (nI u.1), .ref mR, .ref mT, .int (nI ln), .long p1_5, .long p2_6, .long p3_7, .long p4_8, .long q1_9, .long q2_10, .long q3_11, .long q4_12, .ref mL, .ref mB, .int od, .int spt, .int wa, .long hs])), (mN, .inl (cI, 39, .inl qz_4)), (mA, .inl (cI, 39, .inl qa2_1)), (mP, .inl (cI, 195, .inl u.2.1)), (mR, .inl (cI, 3, .inl u.2.2))])) (wr := [(mN, .inl (cI, 39, .inl qz_4))]) (As := [.int r_13]) (rest := []) ⟨hx, hb, hml, hown, hts⟩ hK hP hD hS hA hT (kX5_finished l D cI cB tE tN oM mN mA mP mR mT mL mB ks ln p1_5 p2_6 p3_7 p4_8 q1_9 q2_10 q3_11 q4_12 od spt wa hs qa2_1 qp rf cb cn cf r_13 _ (by omega) (by omega) (fun h => by rw [hj.1] at h ⊢; exact rs_go hN6 h)) gX5_steps_X5_finished rfl rfl rfl (by decide +kernel) ⟨Nat.le_of_ble_eq_true rfl, Nat.le_of_ble_eq_true rfl⟩ [0, 2, 3, 4] [1] [1, 0, 2, 3, 4] (by decide) rfl rfl (by decide) (by decide) (by decide) (fun u => rfl) 0 5 rfl rfl rfl rfl hl.1 rfl (Nat.le_of_ble_eq_true rfl) dX5_steps_10 ⟨Nat.le_of_ble_eq_true rfl, Nat.le_of_ble_eq_true rfl⟩ (fun r_18 u H locs hw_19 hP hD hS => ?_)
  obtain ⟨ks2_15, qp2_16, rf2_17⟩ := u
  try dsimp only at hw_19
  have hP : va_P D vwCl [(oM, .inr (5, [.ref mN, .ref mA, .ref mP, .int (nI ks2_15), .ref mR, .ref mT, .int (nI ln), .long p1_5, .long p2_6, .long p3_7, .long p4_8, .long q1_9, .long q2_10, .long q3_11, .long q4_12, .ref mL, .ref mB, .int od, .int spt, .int wa, .long hs])), (mN, .inl (cI, 39, .inl qz_4)), (mA, .inl (cI, 39, .inl qa2_1)), (mP, .inl (cI, 195, .inl qp2_16)), (mR, .inl (cI, 3, .inl rf2_17))] H := hP
  have hD : va_D A [(oM, .inr (5, [.ref mN, .ref mA, .ref mP, .int (nI ks2_15), .ref mR, .ref mT, .int (nI ln), .long p1_5, .long p2_6, .long p3_7, .long p4_8, .long q1_9, .long q2_10, .long q3_11, .long q4_12, .ref mL, .ref mB, .int od, .int spt, .int wa, .long hs])), (mN, .inl (cI, 39, .inl qz_4)), (mA, .inl (cI, 39, .inl qa2_1)), (mP, .inl (cI, 195, .inl qp2_16)), (mR, .inl (cI, 3, .inl rf2_17))] := hD
  obtain ⟨hw_19, hq_20⟩ := hw_19
  subst r_18
  have hfi := hq_20
  exact hQ r_13 (qz_4, p1_5, p2_6, p3_7, p4_8, q1_9, q2_10, q3_11, q4_12, qa2_1, ks2_15, qp2_16, rf2_17) _ _ _ _ (rfl) (⟨hj.1, hj.2, hfi.1, hfi.2.1, fun j h => (hfi.2.2 j h).trans (rmK_congr hla h)⟩) hP hD hS dX5_steps_13

set_option maxHeartbeats 4000000 in
set_option maxRecDepth 100000 in
theorem kX5_looks (l : Launch) (D : va_G) (cI cB : ClassId) (tE tN : Nat) (oM : Nat) (mN : Nat) (mA : Nat) (mP : Nat) (mR : Nat) (mT : Nat) (mL : Nat) (mB : Nat) (ks : Nat) (ln : Nat) (x1 : Int64) (x2 : Int64) (x3 : Int64) (x4 : Int64) (y1 : Int64) (y2 : Int64) (y3 : Int64) (y4 : Int64) (od : Int32) (spt : Int32) (wa : Int32) (hs : Int64) (qn : Nat → Int32) (qa : Nat → Int32) (qp : Nat → Int32) (rf : Nat → Int32) (cb : Int32) (cn : Int32) (cf : Int32) (f : Nat → Int32) (N : Nat) (sz : Nat) (hR : Rg N f qn) (hI : Iv f) (hNN : nN f = N) (hks : ks ≤ 5) (hRf : Rf3 cb cn cf rf) : zI l yX5_looks wsX5_looks ({ frames := 7, cells := 0, slots := 0, locals := 169 }) D cI cB tE tN [.ref oM] [(oM, .inr (5, [.ref mN, .ref mA, .ref mP, .int (nI ks), .ref mR, .ref mT, .int (nI ln), .long x1, .long x2, .long x3, .long x4, .long y1, .long y2, .long y3, .long y4, .ref mL, .ref mB, .int od, .int spt, .int wa, .long hs])), (mN, .inl (cI, 39, .inl qn)), (mA, .inl (cI, 39, .inl qa)), (mP, .inl (cI, 195, .inl qp)), (mR, .inl (cI, 3, .inl rf))] sz (fun u : (Nat → Int32) × Int64 × Int64 × Int64 × Int64 × Int64 × Int64 × Int64 × Int64 × (Nat → Int32) × Nat × (Nat → Int32) × (Nat → Int32) => [(oM, .inr (5, [.ref mN, .ref mA, .ref mP, .int (nI u.2.2.2.2.2.2.2.2.2.2.1), .ref mR, .ref mT, .int (nI ln), .long u.2.1, .long u.2.2.1, .long u.2.2.2.1, .long u.2.2.2.2.1, .long u.2.2.2.2.2.1, .long u.2.2.2.2.2.2.1, .long u.2.2.2.2.2.2.2.1, .long u.2.2.2.2.2.2.2.2.1, .ref mL, .ref mB, .int od, .int spt, .int wa, .long hs])), (mN, .inl (cI, 39, .inl u.1)), (mA, .inl (cI, 39, .inl u.2.2.2.2.2.2.2.2.2.1)), (mP, .inl (cI, 195, .inl u.2.2.2.2.2.2.2.2.2.2.2.1)), (mR, .inl (cI, 3, .inl u.2.2.2.2.2.2.2.2.2.2.2.2))]) (fun (r : Int32) (u : (Nat → Int32) × Int64 × Int64 × Int64 × Int64 × Int64 × Int64 × Int64 × Int64 × (Nat → Int32) × Nat × (Nat → Int32) × (Nat → Int32)) => r = ((gwF (lkF f N) N, lkF f N)).1 ∧ Rg (nN ((gwF (lkF f N) N, lkF f N)).2) ((gwF (lkF f N) N, lkF f N)).2 u.1 ∧ Rf3 (cnt (-10002) cb r) (cnt (-10003) cn r) (cnt (-10004) cf r) u.2.2.2.2.2.2.2.2.2.2.2.2 ∧ u.2.2.2.2.2.2.2.2.2.2.1 = kpK r ks ∧ ∀ j, j < 195 → u.2.2.2.2.2.2.2.2.2.2.2.1 j = rmK r ks qn qp j) 0 0 := by
  refine zI_mk (cc := cX5_looks) (maxL := 1) (rt := .int) (by decide) rfl (Nat.le_of_ble_eq_true rfl) ?_
  intro p e s m below meth c A Q ls S0 hname hA hK hP hD hT hS hQ hl
  obtain ⟨hx, hb, hml, hown, hts⟩ := id S0
  have hl : lv_has ls 1 [(0, .ref oM)] := hl
  have hN6 : N ≤ 6 := by rw [← hNN]; exact hI.1
  refine lv_aload_n hx hb dX5_looks_0 rfl (lv_at hl 0 rfl) ?_
  refine z_VV (n := 0) (wn := (fun u : (Nat → Int32) => [(oM, .inr (5, [.ref mN, .ref mA, .ref mP, .int (nI ks), .ref mR, .ref mT, .int (nI ln), .long x1, .long x2, .long x3, .long x4, .long y1, .long y2, .long y3, .long y4, .ref mL, .ref mB, .int od, .int spt, .int wa, .long hs])), (mN, .inl (cI, 39, .inl qn)), (mA, .inl (cI, 39, .inl u)), (mP, .inl (cI, 195, .inl qp)), (mR, .inl (cI, 3, .inl rf))])) (wr := [(mP, .inl (cI, 195, .inl qp)), (mR, .inl (cI, 3, .inl rf))]) (As := []) (rest := []) ⟨hx, hb, hml, hown, hts⟩ hK hP hD hS hA hT (kX5_laysAside l D cI cB tE tN oM mN mA mP mR mT mL mB ks ln x1 x2 x3 x4 y1 y2 y3 y4 od spt wa hs qn qa _ ) gX5_looks_X5_laysAside rfl rfl rfl (by decide +kernel) ⟨Nat.le_of_ble_eq_true rfl, Nat.le_of_ble_eq_true rfl⟩ [0, 1, 2] [3, 4] [2, 3, 4, 0, 1] (by decide) rfl rfl (by decide) (by decide) (by decide) (fun u => rfl) 0 5 rfl rfl rfl rfl hl.1 rfl (Nat.le_of_ble_eq_true rfl) dX5_looks_1 ⟨Nat.le_of_ble_eq_true rfl, Nat.le_of_ble_eq_true rfl⟩ (fun u H locs hw_3 hP hD hS => ?_)
  obtain ⟨qa2_1, rfl⟩ : ∃ z, z = u := ⟨_, rfl⟩
  try dsimp only at hw_3
  have hP : va_P D vwCl [(oM, .inr (5, [.ref mN, .ref mA, .ref mP, .int (nI ks), .ref mR, .ref mT, .int (nI ln), .long x1, .long x2, .long x3, .long x4, .long y1, .long y2, .long y3, .long y4, .ref mL, .ref mB, .int od, .int spt, .int wa, .long hs])), (mN, .inl (cI, 39, .inl qn)), (mA, .inl (cI, 39, .inl qa2_1)), (mP, .inl (cI, 195, .inl qp)), (mR, .inl (cI, 3, .inl rf))] H := hP
  have hD : va_D A [(oM, .inr (5, [.ref mN, .ref mA, .ref mP, .int (nI ks), .ref mR, .ref mT, .int (nI ln), .long x1, .long x2, .long x3, .long x4, .long y1, .long y2, .long y3, .long y4, .ref mL, .ref mB, .int od, .int spt, .int wa, .long hs])), (mN, .inl (cI, 39, .inl qn)), (mA, .inl (cI, 39, .inl qa2_1)), (mP, .inl (cI, 195, .inl qp)), (mR, .inl (cI, 3, .inl rf))] := hD
  have hla := hw_3
  refine lv_aload_n hx hb dX5_looks_4 rfl (lv_at hl 0 rfl) ?_
  refine lv_aload_n hx hb dX5_looks_5 rfl (lv_at hl 0 rfl) ?_
  refine z_VI (n := 0) (wn := (fun u : (Nat → Int32) × Int64 × Int64 × Int64 × Int64 × Int64 × Int64 × Int64 × Int64 => [(oM, .inr (5, [.ref mN, .ref mA, .ref mP, .int (nI ks), .ref mR, .ref mT, .int (nI ln), .long u.2.1, .long u.2.2.1, .long u.2.2.2.1, .long u.2.2.2.2.1, .long u.2.2.2.2.2.1, .long u.2.2.2.2.2.2.1, .long u.2.2.2.2.2.2.2.1, .long u.2.2.2.2.2.2.2.2, .ref mL, .ref mB, .int od, .int spt, .int wa, .long hs])), (mN, .inl (cI, 39, .inl u.1)), (mA, .inl (cI, 39, .inl qa2_1)), (mP, .inl (cI, 195, .inl qp)), (mR, .inl (cI, 3, .inl rf))])) (wr := [(mA, .inl (cI, 39, .inl qa2_1)), (mP, .inl (cI, 195, .inl qp)), (mR, .inl (cI, 3, .inl rf))]) (As := []) (rest := [.ref oM]) ⟨hx, hb, hml, hown, hts⟩ hK hP hD hS hA hT (kX5_look l D cI cB tE tN oM mN mA mP mR mT mL mB ks ln x1 x2 x3 x4 y1 y2 y3 y4 od spt wa hs qn f N _ (hR) (hI) (hNN)) gX5_looks_X5_look rfl rfl rfl (by decide +kernel) ⟨Nat.le_of_ble_eq_true rfl, Nat.le_of_ble_eq_true rfl⟩ [0, 1] [2, 3, 4] [3, 4, 0, 1, 2] (by decide) rfl rfl (by decide) (by decide) (by decide) (fun u => rfl) 0 5 rfl rfl rfl rfl hl.1 rfl (Nat.le_of_ble_eq_true rfl) dX5_looks_6 ⟨Nat.le_of_ble_eq_true rfl, Nat.le_of_ble_eq_true rfl⟩ (fun r_13 u H locs hw_14 hP hD hS => ?_)
  obtain ⟨qz_4, p1_5, p2_6, p3_7, p4_8, q1_9, q2_10, q3_11, q4_12⟩ := u
  try dsimp only at hw_14
  have hP : va_P D vwCl [(oM, .inr (5, [.ref mN, .ref mA, .ref mP, .int (nI ks), .ref mR, .ref mT, .int (nI ln), .long p1_5, .long p2_6, .long p3_7, .long p4_8, .long q1_9, .long q2_10, .long q3_11, .long q4_12, .ref mL, .ref mB, .int od, .int spt, .int wa, .long hs])), (mN, .inl (cI, 39, .inl qz_4)), (mA, .inl (cI, 39, .inl qa2_1)), (mP, .inl (cI, 195, .inl qp)), (mR, .inl (cI, 3, .inl rf))] H := hP
  have hD : va_D A [(oM, .inr (5, [.ref mN, .ref mA, .ref mP, .int (nI ks), .ref mR, .ref mT, .int (nI ln), .long p1_5, .long p2_6, .long p3_7, .long p4_8, .long q1_9, .long q2_10, .long q3_11, .long q4_12, .ref mL, .ref mB, .int od, .int spt, .int wa, .long hs])), (mN, .inl (cI, 39, .inl qz_4)), (mA, .inl (cI, 39, .inl qa2_1)), (mP, .inl (cI, 195, .inl qp)), (mR, .inl (cI, 3, .inl rf))] := hD
  obtain ⟨hw_14, hq_15⟩ := hw_14
  subst r_13
  have hj : gwF (lkF f N) N = (gwF (lkF f N) N, lkF f N).1 ∧ Rg (nN (gwF (lkF f N) N, lkF f N).2) (gwF (lkF f N) N, lkF f N).2 qz_4 := ⟨rfl, by rw [nN_lk hN6, hNN]; exact hq_15⟩
  refine z_VI (n := 1) (wn := (fun u : Nat × (Nat → Int32) × (Nat → Int32) => [(oM, .inr (5, [.ref mN, .ref mA, .ref mP, .int (nI u.1), .ref mR, .ref mT, .int (nI ln), .long p1_5, .long p2_6, .long p3_7, .long p4_8, .long q1_9, .long q2_10, .long q3_11, .long q4_12, .ref mL, .ref mB, .int od, .int spt, .int wa, .long hs])), (mN, .inl (cI, 39, .inl qz_4)), (mA, .inl (cI, 39, .inl qa2_1)), (mP, .inl (cI, 195, .inl u.2.1)), (mR, .inl (cI, 3, .inl u.2.2))])) (wr := [(mN, .inl (cI, 39, .inl qz_4))]) (As := [.int (gwF (lkF f N) N)]) (rest := []) ⟨hx, hb, hml, hown, hts⟩ hK hP hD hS hA hT (kX5_finished l D cI cB tE tN oM mN mA mP mR mT mL mB ks ln p1_5 p2_6 p3_7 p4_8 q1_9 q2_10 q3_11 q4_12 od spt wa hs qa2_1 qp rf cb cn cf (gwF (lkF f N) N) _ (by omega) (by omega) (fun h => rs_gw hN6 h)) gX5_looks_X5_finished rfl rfl rfl (by decide +kernel) ⟨Nat.le_of_ble_eq_true rfl, Nat.le_of_ble_eq_true rfl⟩ [0, 2, 3, 4] [1] [1, 0, 2, 3, 4] (by decide) rfl rfl (by decide) (by decide) (by decide) (fun u => rfl) 0 5 rfl rfl rfl rfl hl.1 rfl (Nat.le_of_ble_eq_true rfl) dX5_looks_9 ⟨Nat.le_of_ble_eq_true rfl, Nat.le_of_ble_eq_true rfl⟩ (fun r_19 u H locs hw_20 hP hD hS => ?_)
  obtain ⟨ks2_16, qp2_17, rf2_18⟩ := u
  try dsimp only at hw_20
  have hP : va_P D vwCl [(oM, .inr (5, [.ref mN, .ref mA, .ref mP, .int (nI ks2_16), .ref mR, .ref mT, .int (nI ln), .long p1_5, .long p2_6, .long p3_7, .long p4_8, .long q1_9, .long q2_10, .long q3_11, .long q4_12, .ref mL, .ref mB, .int od, .int spt, .int wa, .long hs])), (mN, .inl (cI, 39, .inl qz_4)), (mA, .inl (cI, 39, .inl qa2_1)), (mP, .inl (cI, 195, .inl qp2_17)), (mR, .inl (cI, 3, .inl rf2_18))] H := hP
  have hD : va_D A [(oM, .inr (5, [.ref mN, .ref mA, .ref mP, .int (nI ks2_16), .ref mR, .ref mT, .int (nI ln), .long p1_5, .long p2_6, .long p3_7, .long p4_8, .long q1_9, .long q2_10, .long q3_11, .long q4_12, .ref mL, .ref mB, .int od, .int spt, .int wa, .long hs])), (mN, .inl (cI, 39, .inl qz_4)), (mA, .inl (cI, 39, .inl qa2_1)), (mP, .inl (cI, 195, .inl qp2_17)), (mR, .inl (cI, 3, .inl rf2_18))] := hD
  obtain ⟨hw_20, hq_21⟩ := hw_20
  subst r_19
  have hfi := hq_21
  exact hQ (gwF (lkF f N) N) (qz_4, p1_5, p2_6, p3_7, p4_8, q1_9, q2_10, q3_11, q4_12, qa2_1, ks2_16, qp2_17, rf2_18) _ _ _ _ (rfl) (⟨hj.1, hj.2, hfi.1, hfi.2.1, fun j h => (hfi.2.2 j h).trans (rmK_congr hla h)⟩) hP hD hS dX5_looks_12

set_option maxHeartbeats 4000000 in
set_option maxRecDepth 100000 in
theorem kX5_obeys (l : Launch) (D : va_G) (cI cB : ClassId) (tE tN : Nat) (oM : Nat) (mN : Nat) (mA : Nat) (mP : Nat) (mR : Nat) (mT : Nat) (mL : Nat) (mB : Nat) (ks : Nat) (ln : Nat) (x1 : Int64) (x2 : Int64) (x3 : Int64) (x4 : Int64) (y1 : Int64) (y2 : Int64) (y3 : Int64) (y4 : Int64) (od : Int32) (spt : Int32) (wa : Int32) (hs : Int64) (qn : Nat → Int32) (qa : Nat → Int32) (qp : Nat → Int32) (rf : Nat → Int32) (cb : Int32) (cn : Int32) (cf : Int32) (f : Nat → Int32) (N : Nat) (sz : Nat) (hR : Rg N f qn) (hI : Iv f) (hNN : nN f = N) (hks : ks ≤ 5) (hRf : Rf3 cb cn cf rf) : zI l yX5_obeys wsX5_obeys ({ frames := 9, cells := 0, slots := 0, locals := 213 }) D cI cB tE tN [.ref oM] [(oM, .inr (5, [.ref mN, .ref mA, .ref mP, .int (nI ks), .ref mR, .ref mT, .int (nI ln), .long x1, .long x2, .long x3, .long x4, .long y1, .long y2, .long y3, .long y4, .ref mL, .ref mB, .int od, .int spt, .int wa, .long hs])), (mN, .inl (cI, 39, .inl qn)), (mA, .inl (cI, 39, .inl qa)), (mP, .inl (cI, 195, .inl qp)), (mR, .inl (cI, 3, .inl rf))] sz (fun u : (Nat → Int32) × Int64 × Int64 × Int64 × Int64 × Int64 × Int64 × Int64 × Int64 × (Nat → Int32) × Nat × (Nat → Int32) × (Nat → Int32) => [(oM, .inr (5, [.ref mN, .ref mA, .ref mP, .int (nI u.2.2.2.2.2.2.2.2.2.2.1), .ref mR, .ref mT, .int (nI ln), .long u.2.1, .long u.2.2.1, .long u.2.2.2.1, .long u.2.2.2.2.1, .long u.2.2.2.2.2.1, .long u.2.2.2.2.2.2.1, .long u.2.2.2.2.2.2.2.1, .long u.2.2.2.2.2.2.2.2.1, .ref mL, .ref mB, .int od, .int spt, .int wa, .long hs])), (mN, .inl (cI, 39, .inl u.1)), (mA, .inl (cI, 39, .inl u.2.2.2.2.2.2.2.2.2.1)), (mP, .inl (cI, 195, .inl u.2.2.2.2.2.2.2.2.2.2.2.1)), (mR, .inl (cI, 3, .inl u.2.2.2.2.2.2.2.2.2.2.2.2))]) (fun (r : Int32) (u : (Nat → Int32) × Int64 × Int64 × Int64 × Int64 × Int64 × Int64 × Int64 × Int64 × (Nat → Int32) × Nat × (Nat → Int32) × (Nat → Int32)) => r = ((cAdv f N 0, cFol f (cAdv f N 0))).1 ∧ Rg (nN ((cAdv f N 0, cFol f (cAdv f N 0))).2) ((cAdv f N 0, cFol f (cAdv f N 0))).2 u.1 ∧ Rf3 (cnt (-10002) cb r) (cnt (-10003) cn r) (cnt (-10004) cf r) u.2.2.2.2.2.2.2.2.2.2.2.2 ∧ u.2.2.2.2.2.2.2.2.2.2.1 = kpK r ks ∧ ∀ j, j < 195 → u.2.2.2.2.2.2.2.2.2.2.2.1 j = rmK r ks qn qp j) 0 0 := by
  refine zI_mk (cc := cX5_obeys) (maxL := 1) (rt := .int) (by decide) rfl (Nat.le_of_ble_eq_true rfl) ?_
  intro p e s m below meth c A Q ls S0 hname hA hK hP hD hT hS hQ hl
  obtain ⟨hx, hb, hml, hown, hts⟩ := id S0
  have hl : lv_has ls 1 [(0, .ref oM)] := hl
  have hN6 : N ≤ 6 := by rw [← hNN]; exact hI.1
  refine lv_aload_n hx hb dX5_obeys_0 rfl (lv_at hl 0 rfl) ?_
  refine z_VV (n := 0) (wn := (fun u : (Nat → Int32) => [(oM, .inr (5, [.ref mN, .ref mA, .ref mP, .int (nI ks), .ref mR, .ref mT, .int (nI ln), .long x1, .long x2, .long x3, .long x4, .long y1, .long y2, .long y3, .long y4, .ref mL, .ref mB, .int od, .int spt, .int wa, .long hs])), (mN, .inl (cI, 39, .inl qn)), (mA, .inl (cI, 39, .inl u)), (mP, .inl (cI, 195, .inl qp)), (mR, .inl (cI, 3, .inl rf))])) (wr := [(mP, .inl (cI, 195, .inl qp)), (mR, .inl (cI, 3, .inl rf))]) (As := []) (rest := []) ⟨hx, hb, hml, hown, hts⟩ hK hP hD hS hA hT (kX5_laysAside l D cI cB tE tN oM mN mA mP mR mT mL mB ks ln x1 x2 x3 x4 y1 y2 y3 y4 od spt wa hs qn qa _ ) gX5_obeys_X5_laysAside rfl rfl rfl (by decide +kernel) ⟨Nat.le_of_ble_eq_true rfl, Nat.le_of_ble_eq_true rfl⟩ [0, 1, 2] [3, 4] [2, 3, 4, 0, 1] (by decide) rfl rfl (by decide) (by decide) (by decide) (fun u => rfl) 0 5 rfl rfl rfl rfl hl.1 rfl (Nat.le_of_ble_eq_true rfl) dX5_obeys_1 ⟨Nat.le_of_ble_eq_true rfl, Nat.le_of_ble_eq_true rfl⟩ (fun u H locs hw_3 hP hD hS => ?_)
  obtain ⟨qa2_1, rfl⟩ : ∃ z, z = u := ⟨_, rfl⟩
  try dsimp only at hw_3
  have hP : va_P D vwCl [(oM, .inr (5, [.ref mN, .ref mA, .ref mP, .int (nI ks), .ref mR, .ref mT, .int (nI ln), .long x1, .long x2, .long x3, .long x4, .long y1, .long y2, .long y3, .long y4, .ref mL, .ref mB, .int od, .int spt, .int wa, .long hs])), (mN, .inl (cI, 39, .inl qn)), (mA, .inl (cI, 39, .inl qa2_1)), (mP, .inl (cI, 195, .inl qp)), (mR, .inl (cI, 3, .inl rf))] H := hP
  have hD : va_D A [(oM, .inr (5, [.ref mN, .ref mA, .ref mP, .int (nI ks), .ref mR, .ref mT, .int (nI ln), .long x1, .long x2, .long x3, .long x4, .long y1, .long y2, .long y3, .long y4, .ref mL, .ref mB, .int od, .int spt, .int wa, .long hs])), (mN, .inl (cI, 39, .inl qn)), (mA, .inl (cI, 39, .inl qa2_1)), (mP, .inl (cI, 195, .inl qp)), (mR, .inl (cI, 3, .inl rf))] := hD
  have hla := hw_3
  refine lv_aload_n hx hb dX5_obeys_4 rfl (lv_at hl 0 rfl) ?_
  refine lv_aload_n hx hb dX5_obeys_5 rfl (lv_at hl 0 rfl) ?_
  refine z_VI (n := 0) (wn := (fun u : (Nat → Int32) × Int64 × Int64 × Int64 × Int64 × Int64 × Int64 × Int64 × Int64 => [(oM, .inr (5, [.ref mN, .ref mA, .ref mP, .int (nI ks), .ref mR, .ref mT, .int (nI ln), .long u.2.1, .long u.2.2.1, .long u.2.2.2.1, .long u.2.2.2.2.1, .long u.2.2.2.2.2.1, .long u.2.2.2.2.2.2.1, .long u.2.2.2.2.2.2.2.1, .long u.2.2.2.2.2.2.2.2, .ref mL, .ref mB, .int od, .int spt, .int wa, .long hs])), (mN, .inl (cI, 39, .inl u.1)), (mA, .inl (cI, 39, .inl qa2_1)), (mP, .inl (cI, 195, .inl qp)), (mR, .inl (cI, 3, .inl rf))])) (wr := [(mA, .inl (cI, 39, .inl qa2_1)), (mP, .inl (cI, 195, .inl qp)), (mR, .inl (cI, 3, .inl rf))]) (As := []) (rest := [.ref oM]) ⟨hx, hb, hml, hown, hts⟩ hK hP hD hS hA hT (kX5_putObeyed l D cI cB tE tN oM mN mA mP mR mT mL mB ks ln x1 x2 x3 x4 y1 y2 y3 y4 od spt wa hs qn f N _ (hR) (hI) (hNN)) gX5_obeys_X5_putObeyed rfl rfl rfl (by decide +kernel) ⟨Nat.le_of_ble_eq_true rfl, Nat.le_of_ble_eq_true rfl⟩ [0, 1] [2, 3, 4] [3, 4, 0, 1, 2] (by decide) rfl rfl (by decide) (by decide) (by decide) (fun u => rfl) 0 5 rfl rfl rfl rfl hl.1 rfl (Nat.le_of_ble_eq_true rfl) dX5_obeys_6 ⟨Nat.le_of_ble_eq_true rfl, Nat.le_of_ble_eq_true rfl⟩ (fun r_13 u H locs hw_14 hP hD hS => ?_)
  obtain ⟨qz_4, p1_5, p2_6, p3_7, p4_8, q1_9, q2_10, q3_11, q4_12⟩ := u
  try dsimp only at hw_14
  have hP : va_P D vwCl [(oM, .inr (5, [.ref mN, .ref mA, .ref mP, .int (nI ks), .ref mR, .ref mT, .int (nI ln), .long p1_5, .long p2_6, .long p3_7, .long p4_8, .long q1_9, .long q2_10, .long q3_11, .long q4_12, .ref mL, .ref mB, .int od, .int spt, .int wa, .long hs])), (mN, .inl (cI, 39, .inl qz_4)), (mA, .inl (cI, 39, .inl qa2_1)), (mP, .inl (cI, 195, .inl qp)), (mR, .inl (cI, 3, .inl rf))] H := hP
  have hD : va_D A [(oM, .inr (5, [.ref mN, .ref mA, .ref mP, .int (nI ks), .ref mR, .ref mT, .int (nI ln), .long p1_5, .long p2_6, .long p3_7, .long p4_8, .long q1_9, .long q2_10, .long q3_11, .long q4_12, .ref mL, .ref mB, .int od, .int spt, .int wa, .long hs])), (mN, .inl (cI, 39, .inl qz_4)), (mA, .inl (cI, 39, .inl qa2_1)), (mP, .inl (cI, 195, .inl qp)), (mR, .inl (cI, 3, .inl rf))] := hD
  have hj := hw_14
  refine z_VI (n := 1) (wn := (fun u : Nat × (Nat → Int32) × (Nat → Int32) => [(oM, .inr (5, [.ref mN, .ref mA, .ref mP, .int (nI u.1), .ref mR, .ref mT, .int (nI ln), .long p1_5, .long p2_6, .long p3_7, .long p4_8, .long q1_9, .long q2_10, .long q3_11, .long q4_12, .ref mL, .ref mB, .int od, .int spt, .int wa, .long hs])), (mN, .inl (cI, 39, .inl qz_4)), (mA, .inl (cI, 39, .inl qa2_1)), (mP, .inl (cI, 195, .inl u.2.1)), (mR, .inl (cI, 3, .inl u.2.2))])) (wr := [(mN, .inl (cI, 39, .inl qz_4))]) (As := [.int r_13]) (rest := []) ⟨hx, hb, hml, hown, hts⟩ hK hP hD hS hA hT (kX5_finished l D cI cB tE tN oM mN mA mP mR mT mL mB ks ln p1_5 p2_6 p3_7 p4_8 q1_9 q2_10 q3_11 q4_12 od spt wa hs qa2_1 qp rf cb cn cf r_13 _ (by omega) (by omega) (fun h => by rw [hj.1] at h ⊢; exact rs_adv hI hNN h)) gX5_obeys_X5_finished rfl rfl rfl (by decide +kernel) ⟨Nat.le_of_ble_eq_true rfl, Nat.le_of_ble_eq_true rfl⟩ [0, 2, 3, 4] [1] [1, 0, 2, 3, 4] (by decide) rfl rfl (by decide) (by decide) (by decide) (fun u => rfl) 0 5 rfl rfl rfl rfl hl.1 rfl (Nat.le_of_ble_eq_true rfl) dX5_obeys_9 ⟨Nat.le_of_ble_eq_true rfl, Nat.le_of_ble_eq_true rfl⟩ (fun r_18 u H locs hw_19 hP hD hS => ?_)
  obtain ⟨ks2_15, qp2_16, rf2_17⟩ := u
  try dsimp only at hw_19
  have hP : va_P D vwCl [(oM, .inr (5, [.ref mN, .ref mA, .ref mP, .int (nI ks2_15), .ref mR, .ref mT, .int (nI ln), .long p1_5, .long p2_6, .long p3_7, .long p4_8, .long q1_9, .long q2_10, .long q3_11, .long q4_12, .ref mL, .ref mB, .int od, .int spt, .int wa, .long hs])), (mN, .inl (cI, 39, .inl qz_4)), (mA, .inl (cI, 39, .inl qa2_1)), (mP, .inl (cI, 195, .inl qp2_16)), (mR, .inl (cI, 3, .inl rf2_17))] H := hP
  have hD : va_D A [(oM, .inr (5, [.ref mN, .ref mA, .ref mP, .int (nI ks2_15), .ref mR, .ref mT, .int (nI ln), .long p1_5, .long p2_6, .long p3_7, .long p4_8, .long q1_9, .long q2_10, .long q3_11, .long q4_12, .ref mL, .ref mB, .int od, .int spt, .int wa, .long hs])), (mN, .inl (cI, 39, .inl qz_4)), (mA, .inl (cI, 39, .inl qa2_1)), (mP, .inl (cI, 195, .inl qp2_16)), (mR, .inl (cI, 3, .inl rf2_17))] := hD
  obtain ⟨hw_19, hq_20⟩ := hw_19
  subst r_18
  have hfi := hq_20
  exact hQ r_13 (qz_4, p1_5, p2_6, p3_7, p4_8, q1_9, q2_10, q3_11, q4_12, qa2_1, ks2_15, qp2_16, rf2_17) _ _ _ _ (rfl) (⟨hj.1, hj.2, hfi.1, hfi.2.1, fun j h => (hfi.2.2 j h).trans (rmK_congr hla h)⟩) hP hD hS dX5_obeys_12

set_option maxHeartbeats 4000000 in
set_option maxRecDepth 100000 in
theorem kX5_back (l : Launch) (D : va_G) (cI cB : ClassId) (tE tN : Nat) (oM : Nat) (mN : Nat) (mA : Nat) (mP : Nat) (mR : Nat) (mT : Nat) (mL : Nat) (mB : Nat) (ks : Nat) (ln : Nat) (x1 : Int64) (x2 : Int64) (x3 : Int64) (x4 : Int64) (y1 : Int64) (y2 : Int64) (y3 : Int64) (y4 : Int64) (od : Int32) (spt : Int32) (wa : Int32) (hs : Int64) (qn : Nat → Int32) (qp : Nat → Int32) (rf : Nat → Int32) (sz : Nat) (hks : ks ≤ 5) : zI l yX5_back wsX5_back ({ frames := 1, cells := 0, slots := 0, locals := 21 }) D cI cB tE tN [.ref oM] [(oM, .inr (5, [.ref mN, .ref mA, .ref mP, .int (nI ks), .ref mR, .ref mT, .int (nI ln), .long x1, .long x2, .long x3, .long x4, .long y1, .long y2, .long y3, .long y4, .ref mL, .ref mB, .int od, .int spt, .int wa, .long hs])), (mN, .inl (cI, 39, .inl qn)), (mP, .inl (cI, 195, .inl qp)), (mR, .inl (cI, 3, .inl rf))] sz (fun u : (Nat → Int32) × Nat × (Nat → Int32) => [(oM, .inr (5, [.ref mN, .ref mA, .ref mP, .int (nI u.2.1), .ref mR, .ref mT, .int (nI ln), .long x1, .long x2, .long x3, .long x4, .long y1, .long y2, .long y3, .long y4, .ref mL, .ref mB, .int od, .int spt, .int wa, .long hs])), (mN, .inl (cI, 39, .inl u.1)), (mP, .inl (cI, 195, .inl qp)), (mR, .inl (cI, 3, .inl u.2.2))]) (fun (r : Int32) (u : (Nat → Int32) × Nat × (Nat → Int32)) => (ks = 0 ∧ r = -10003 ∧ u.2.1 = ks ∧ u.1 = qn ∧ u.2.2 = upd rf 1 (rf 1 + 1)) ∨ (¬ ks = 0 ∧ r = nI (ks - 1) ∧ u.2.1 = ks - 1 ∧ u.2.2 = rf ∧ ∀ j, j < 39 → u.1 j = qp (39 * (ks - 1) + j))) 0 0 := by
  refine zI_mk (cc := cX5_back) (maxL := 2) (rt := .int) (by decide) rfl (Nat.le_of_ble_eq_true rfl) ?_
  intro p e s m below meth c A Q ls S0 hname hA hK hP hD hT hS hQ hl
  obtain ⟨hx, hb, hml, hown, hts⟩ := id S0
  have hl : lv_has ls 2 [(0, .ref oM)] := hl
  have L31 : (Cond.fieldLink RX5 31 "PastAndClearModel" "states" "I").before ([.ref oM] : List Value).toArray s = true := hts (.fieldLink RX5 31 "PastAndClearModel" "states" "I") (by decide +kernel)
  have N5 : ∀ w ∈ u_ws RX5 TX5 21, w ∈ wsX5_back := by decide +kernel
  have L7 : (Cond.fieldLink RX5 7 "PastAndClearModel" "now" "[I").before ([.ref oM] : List Value).toArray s = true := hts (.fieldLink RX5 7 "PastAndClearModel" "now" "[I") (by decide +kernel)
  have L16 : (Cond.fieldLink RX5 16 "PastAndClearModel" "past" "[I").before ([.ref oM] : List Value).toArray s = true := hts (.fieldLink RX5 16 "PastAndClearModel" "past" "[I") (by decide +kernel)
  have lp27 : ∀ (k : Nat) (n : Nat) (q1z : Nat → Int32) (H : Heap) (locs : List Loc) (ls : Array Slot), 39 - n = k → (n ≤ 39) → (¬ ks = 0) → (∀ j, j < n → q1z j = qp (39 * (ks - 1) + j)) → va_P D vwCl [(oM, .inr (5, [.ref mN, .ref mA, .ref mP, .int (nI (ks - 1)), .ref mR, .ref mT, .int (nI ln), .long x1, .long x2, .long x3, .long x4, .long y1, .long y2, .long y3, .long y4, .ref mL, .ref mB, .int od, .int spt, .int wa, .long hs])), (mN, .inl (cI, 39, .inl q1z)), (mP, .inl (cI, 195, .inl qp)), (mR, .inl (cI, 3, .inl rf))] H → va_D A [(oM, .inr (5, [.ref mN, .ref mA, .ref mP, .int (nI (ks - 1)), .ref mR, .ref mT, .int (nI ln), .long x1, .long x2, .long x3, .long x4, .long y1, .long y2, .long y3, .long y4, .ref mL, .ref mB, .int od, .int spt, .int wa, .long hs])), (mN, .inl (cI, 39, .inl q1z)), (mP, .inl (cI, 195, .inl qp)), (mR, .inl (cI, 3, .inl rf))] → va_S A s.heap H locs → lv_has ls 2 [(1, .int (nI n)), (0, .ref oM)] → W p l e ({ frames := 1, cells := 0, slots := 0, locals := 21 } : Room) s m ([.ref oM] : List Value).toArray below meth c H locs 0 0 Q (F0 m 27 ls []) := by
    intro k
    induction k using Nat.strongRecOn with
    | ind k ih =>
    intro n q1z H locs ls hk hn h0 hi hP hD hS hl
    refine lv_iload_n hx hb dX5_back_27 rfl (lv_at hl 0 rfl) ?_
    refine lv_bipush (v := 39) hx hb dX5_back_28 (by decide) ?_
    refine lv_icmp_ge (tgt := 59) hx hb dX5_back_30 (by decide) (fun c_1 => ?_) (fun c_1 => ?_)
    · skip
      have c_1 := (z_le (a := 39) (b := n) rfl rfl (by omega) (by omega)).mp c_1
      refine lv_aload_n hx hb dX5_back_59 rfl (lv_at hl 1 rfl) ?_
      refine va_get (D := D) (ci := 5) (v := .int (nI (ks - 1))) (C := RX5) (T := TX5) (N := 21) hx hb hts N5 hown hK hP 0 rfl rfl 3 (by decide) L31 (fun _ h9 => h9) rfl dX5_back_60 ?_
      exact hQ (nI (ks - 1)) (q1z, ks - 1, rf) _ _ _ _ (rfl) (Or.inr ⟨h0, rfl, rfl, rfl, fun j h => hi j (by omega)⟩) hP hD hS dX5_back_63
    · skip
      have c_1 := (z_len (a := 39) (b := n) rfl rfl (by omega) (by omega)).mp c_1
      refine lv_aload_n hx hb dX5_back_33 rfl (lv_at hl 1 rfl) ?_
      refine va_get (D := D) (ci := 5) (v := .ref mN) (C := RX5) (T := TX5) (N := 21) hx hb hts N5 hown hK hP 0 rfl rfl 0 (by decide) L7 (fun _ h9 => h9) rfl dX5_back_34 ?_
      refine lv_iload_n hx hb dX5_back_37 rfl (lv_at hl 0 rfl) ?_
      refine lv_aload_n hx hb dX5_back_38 rfl (lv_at hl 1 rfl) ?_
      refine va_get (D := D) (ci := 5) (v := .ref mP) (C := RX5) (T := TX5) (N := 21) hx hb hts N5 hown hK hP 0 rfl rfl 2 (by decide) L16 (fun _ h9 => h9) rfl dX5_back_39 ?_
      refine lv_bipush (v := 39) hx hb dX5_back_42 (by decide) ?_
      refine lv_aload_n hx hb dX5_back_44 rfl (lv_at hl 1 rfl) ?_
      refine va_get (D := D) (ci := 5) (v := .int (nI (ks - 1))) (C := RX5) (T := TX5) (N := 21) hx hb hts N5 hown hK hP 0 rfl rfl 3 (by decide) L31 (fun _ h9 => h9) rfl dX5_back_45 ?_
      refine lv_imul hx hb dX5_back_48 ?_
      refine lv_iload_n hx hb dX5_back_49 rfl (lv_at hl 0 rfl) ?_
      refine lv_iadd hx hb dX5_back_50 ?_
      refine z_ild (v := qp ((39 * (ks - 1)) + n)) (j := (39 * (ks - 1)) + n) hx hb hK hP 2 rfl (z_add (z_mul rfl rfl) rfl) (by omega) (by decide) (rfl) dX5_back_51 ?_
      refine z_ist (j := n) hx hb hK hP hD hS 1 rfl rfl (by omega) (by decide) dX5_back_52 (fun H locs hP hD hS => ?_)
      have hP : va_P D vwCl [(oM, .inr (5, [.ref mN, .ref mA, .ref mP, .int (nI (ks - 1)), .ref mR, .ref mT, .int (nI ln), .long x1, .long x2, .long x3, .long x4, .long y1, .long y2, .long y3, .long y4, .ref mL, .ref mB, .int od, .int spt, .int wa, .long hs])), (mN, .inl (cI, 39, .inl (upd q1z n (qp ((39 * (ks - 1)) + n))))), (mP, .inl (cI, 195, .inl qp)), (mR, .inl (cI, 3, .inl rf))] H := hP
      have hD : va_D A [(oM, .inr (5, [.ref mN, .ref mA, .ref mP, .int (nI (ks - 1)), .ref mR, .ref mT, .int (nI ln), .long x1, .long x2, .long x3, .long x4, .long y1, .long y2, .long y3, .long y4, .ref mL, .ref mB, .int od, .int spt, .int wa, .long hs])), (mN, .inl (cI, 39, .inl (upd q1z n (qp ((39 * (ks - 1)) + n))))), (mP, .inl (cI, 195, .inl qp)), (mR, .inl (cI, 3, .inl rf))] := hD
      refine lv_iinc (v := nI (n + 1)) (lv' := [(1, .int (nI (n + 1))), (0, .ref oM)]) hx hb dX5_back_53 hl (k := 0) rfl (z_add rfl rfl) (by decide) rfl (fun ls hl => ?_)
      refine lv_goto (tgt := 27) hx hb dX5_back_56 (by decide) ?_
      exact ih _ (by omega) (n + 1) (upd q1z n (qp ((39 * (ks - 1)) + n))) _ _ _ rfl (by omega) h0 (cp_up (q := fun j => qp (39 * (ks - 1) + j)) hi) hP hD hS (lv_sub hl [0, 1] rfl)
  refine lv_aload_n hx hb dX5_back_0 rfl (lv_at hl 0 rfl) ?_
  refine va_get (D := D) (ci := 5) (v := .int (nI ks)) (C := RX5) (T := TX5) (N := 21) hx hb hts N5 hown hK hP 0 rfl rfl 3 (by decide) L31 (fun _ h9 => h9) rfl dX5_back_1 ?_
  refine lv_if_ne (tgt := 15) hx hb dX5_back_4 (by decide) (fun c_2 => ?_) (fun c_2 => ?_)
  · skip
    have c_2 := (z_eqn (a := ks) (b := 0) rfl rfl (by omega) (by omega)).mp c_2
    refine lv_aload_n hx hb dX5_back_15 rfl (lv_at hl 0 rfl) ?_
    refine lv_dup hx hb dX5_back_16 rfl ?_
    refine va_get (D := D) (ci := 5) (v := .int (nI ks)) (C := RX5) (T := TX5) (N := 21) hx hb hts N5 hown hK hP 0 rfl rfl 3 (by decide) L31 (fun _ h9 => h9) rfl dX5_back_17 ?_
    refine lv_iconst (v := 1) hx hb dX5_back_20 (by decide) ?_
    refine lv_isub hx hb dX5_back_21 ?_
    refine z_topi (x := (nI ks) - 1) (y := nI (ks - 1)) (z_sub (b := 1) (by omega)) ?_
    refine va_put (D := D) (ci := 5) (v := .int (nI (ks - 1))) (ty := .int) (C := RX5) (T := TX5) (N := 21) hx hb hts N5 tyX5 tyX5_ok nmX5 hown hK hP hD hS 0 rfl rfl 3 (by decide) L31 (fun _ h9 => h9) rfl (by decide +kernel) rfl rfl (Nat.le_of_ble_eq_true rfl) dX5_back_22 (fun H locs hP hD hS => ?_)
    have hP : va_P D vwCl [(oM, .inr (5, [.ref mN, .ref mA, .ref mP, .int (nI (ks - 1)), .ref mR, .ref mT, .int (nI ln), .long x1, .long x2, .long x3, .long x4, .long y1, .long y2, .long y3, .long y4, .ref mL, .ref mB, .int od, .int spt, .int wa, .long hs])), (mN, .inl (cI, 39, .inl qn)), (mP, .inl (cI, 195, .inl qp)), (mR, .inl (cI, 3, .inl rf))] H := hP
    have hD : va_D A [(oM, .inr (5, [.ref mN, .ref mA, .ref mP, .int (nI (ks - 1)), .ref mR, .ref mT, .int (nI ln), .long x1, .long x2, .long x3, .long x4, .long y1, .long y2, .long y3, .long y4, .ref mL, .ref mB, .int od, .int spt, .int wa, .long hs])), (mN, .inl (cI, 39, .inl qn)), (mP, .inl (cI, 195, .inl qp)), (mR, .inl (cI, 3, .inl rf))] := hD
    refine lv_iconst (v := 0) hx hb dX5_back_25 (by decide) ?_
    refine lv_istore_n (lv' := [(1, .int 0), (0, .ref oM)]) hx hb dX5_back_26 rfl hl (by decide) rfl (fun ls hl => ?_)
    exact lp27 _ 0 qn _ _ _ rfl (by omega) c_2 (fun j h => absurd h (Nat.not_lt_zero j)) hP hD hS (lv_sub hl [0, 1] rfl)
  · skip
    have c_2 := (z_eq (a := ks) (b := 0) rfl rfl (by omega) (by omega)).mp c_2
    refine lv_aload_n hx hb dX5_back_7 rfl (lv_at hl 0 rfl) ?_
    refine lv_sipush (v := (-10003)) hx hb dX5_back_8 (by decide) ?_
    refine z_VI (n := 1) (wn := (fun u : Unit => [(oM, .inr (5, [.ref mN, .ref mA, .ref mP, .int (nI ks), .ref mR, .ref mT, .int (nI ln), .long x1, .long x2, .long x3, .long x4, .long y1, .long y2, .long y3, .long y4, .ref mL, .ref mB, .int od, .int spt, .int wa, .long hs])), (mN, .inl (cI, 39, .inl qn)), (mP, .inl (cI, 195, .inl qp)), (mR, .inl (cI, 3, .inl (upd rf 1 (rf 1 + 1))))])) (wr := [(mN, .inl (cI, 39, .inl qn)), (mP, .inl (cI, 195, .inl qp))]) (As := [.int (-10003)]) (rest := []) ⟨hx, hb, hml, hown, hts⟩ hK hP hD hS hA hT (kX5_refuses l D cI cB tE tN oM mN mA mP mR mT mL mB ks ln x1 x2 x3 x4 y1 y2 y3 y4 od spt wa hs rf (-10003) 1 _ (by decide) (by omega)) gX5_back_X5_refuses rfl rfl rfl (by decide +kernel) ⟨Nat.le_of_ble_eq_true rfl, Nat.le_of_ble_eq_true rfl⟩ [0, 3] [1, 2] [2, 0, 1, 3] (by decide) rfl rfl (by decide) (by decide) (by decide) (fun u => rfl) 0 5 rfl rfl rfl rfl hl.1 rfl (Nat.le_of_ble_eq_true rfl) dX5_back_11 ⟨Nat.le_of_ble_eq_true rfl, Nat.le_of_ble_eq_true rfl⟩ (fun r_3 u H locs hw_4 hP hD hS => ?_)
    try dsimp only at hw_4
    have hP : va_P D vwCl [(oM, .inr (5, [.ref mN, .ref mA, .ref mP, .int (nI ks), .ref mR, .ref mT, .int (nI ln), .long x1, .long x2, .long x3, .long x4, .long y1, .long y2, .long y3, .long y4, .ref mL, .ref mB, .int od, .int spt, .int wa, .long hs])), (mN, .inl (cI, 39, .inl qn)), (mP, .inl (cI, 195, .inl qp)), (mR, .inl (cI, 3, .inl (upd rf 1 (rf 1 + 1))))] H := hP
    have hD : va_D A [(oM, .inr (5, [.ref mN, .ref mA, .ref mP, .int (nI ks), .ref mR, .ref mT, .int (nI ln), .long x1, .long x2, .long x3, .long x4, .long y1, .long y2, .long y3, .long y4, .ref mL, .ref mB, .int od, .int spt, .int wa, .long hs])), (mN, .inl (cI, 39, .inl qn)), (mP, .inl (cI, 195, .inl qp)), (mR, .inl (cI, 3, .inl (upd rf 1 (rf 1 + 1))))] := hD
    subst r_3
    exact hQ (-10003) (qn, ks, upd rf 1 (rf 1 + 1)) _ _ _ _ (rfl) (Or.inl ⟨c_2, rfl, rfl, rfl, rfl⟩) hP hD hS dX5_back_14

set_option maxHeartbeats 4000000 in
set_option maxRecDepth 100000 in
theorem kX5_type (l : Launch) (D : va_G) (cI cB : ClassId) (tE tN : Nat) (oM : Nat) (mN : Nat) (mA : Nat) (mP : Nat) (mR : Nat) (mT : Nat) (mL : Nat) (mB : Nat) (ks : Nat) (ln : Nat) (x1 : Int64) (x2 : Int64) (x3 : Int64) (x4 : Int64) (y1 : Int64) (y2 : Int64) (y3 : Int64) (y4 : Int64) (od : Int32) (spt : Int32) (wa : Int32) (hs : Int64) (tx : Nat → Int32) (rf : Nat → Int32) (cb : Int32) (cn : Int32) (cf : Int32) (bt : Nat → Int32) (v : Int32) (sz : Nat) (hln : ln ≤ 150) (hRf : Rf3 cb cn cf rf) (hTx : ∀ j, j < ln → tx j = bt j) : zI l yX5_type wsX5_type ({ frames := 1, cells := 0, slots := 0, locals := 22 }) D cI cB tE tN [.ref oM, .int v] [(oM, .inr (5, [.ref mN, .ref mA, .ref mP, .int (nI ks), .ref mR, .ref mT, .int (nI ln), .long x1, .long x2, .long x3, .long x4, .long y1, .long y2, .long y3, .long y4, .ref mL, .ref mB, .int od, .int spt, .int wa, .long hs])), (mT, .inl (cI, 150, .inl tx)), (mR, .inl (cI, 3, .inl rf))] sz (fun u : (Nat → Int32) × Nat × (Nat → Int32) => [(oM, .inr (5, [.ref mN, .ref mA, .ref mP, .int (nI ks), .ref mR, .ref mT, .int (nI u.2.1), .long x1, .long x2, .long x3, .long x4, .long y1, .long y2, .long y3, .long y4, .ref mL, .ref mB, .int od, .int spt, .int wa, .long hs])), (mT, .inl (cI, 150, .inl u.1)), (mR, .inl (cI, 3, .inl u.2.2))]) (fun (r : Int32) (u : (Nat → Int32) × Nat × (Nat → Int32)) => r = (cApp ln bt v).1 ∧ u.2.1 = (cApp ln bt v).2.1 ∧ (∀ j, j < u.2.1 → u.1 j = (cApp ln bt v).2.2 j) ∧ Rf3 (cnt (-10002) cb r) (cnt (-10003) cn r) (cnt (-10004) cf r) u.2.2) 0 0 := by
  refine zI_mk (cc := cX5_type) (maxL := 2) (rt := .int) (by decide) rfl (Nat.le_of_ble_eq_true rfl) ?_
  intro p e s m below meth c A Q ls S0 hname hA hK hP hD hT hS hQ hl
  obtain ⟨hx, hb, hml, hown, hts⟩ := id S0
  have hl : lv_has ls 2 [(0, .ref oM), (1, .int v)] := hl
  have L209 : (Cond.fieldLink RX5 209 "PastAndClearModel" "bytes" "I").before ([.ref oM, .int v] : List Value).toArray s = true := hts (.fieldLink RX5 209 "PastAndClearModel" "bytes" "I") (by decide +kernel)
  have N5 : ∀ w ∈ u_ws RX5 TX5 21, w ∈ wsX5_type := by decide +kernel
  have L22 : (Cond.fieldLink RX5 22 "PastAndClearModel" "text" "[I").before ([.ref oM, .int v] : List Value).toArray s = true := hts (.fieldLink RX5 22 "PastAndClearModel" "text" "[I") (by decide +kernel)
  refine lv_iload_n hx hb dX5_type_0 rfl (lv_at hl 1 rfl) ?_
  refine lv_iconst (v := 0) hx hb dX5_type_1 (by decide) ?_
  refine lv_bipush (v := 127) hx hb dX5_type_2 (by decide) ?_
  refine z_SI (n := 3) (wn := (fun u : Unit => [(oM, .inr (5, [.ref mN, .ref mA, .ref mP, .int (nI ks), .ref mR, .ref mT, .int (nI ln), .long x1, .long x2, .long x3, .long x4, .long y1, .long y2, .long y3, .long y4, .ref mL, .ref mB, .int od, .int spt, .int wa, .long hs])), (mT, .inl (cI, 150, .inl tx)), (mR, .inl (cI, 3, .inl rf))])) (wr := [(oM, .inr (5, [.ref mN, .ref mA, .ref mP, .int (nI ks), .ref mR, .ref mT, .int (nI ln), .long x1, .long x2, .long x3, .long x4, .long y1, .long y2, .long y3, .long y4, .ref mL, .ref mB, .int od, .int spt, .int wa, .long hs])), (mT, .inl (cI, 150, .inl tx)), (mR, .inl (cI, 3, .inl rf))]) (As := [.int v, .int 0, .int 127]) (rest := []) ⟨hx, hb, hml, hown, hts⟩ hK hP hD hS hA hT (kX5_in l D cI cB tE tN v 0 127 _ ) gX5_type_X5_in rfl rfl rfl (by decide +kernel) ⟨Nat.le_of_ble_eq_true rfl, Nat.le_of_ble_eq_true rfl⟩ [] [0, 1, 2] [0, 1, 2] (by decide) rfl rfl (by decide) (by decide) (by decide) (fun u => rfl) rfl hl.1 rfl (Nat.le_of_ble_eq_true rfl) dX5_type_4 ⟨Nat.le_of_ble_eq_true rfl, Nat.le_of_ble_eq_true rfl⟩ (fun r_1 u H locs hw_2 hP hD hS => ?_)
  try dsimp only at hw_2
  have hP : va_P D vwCl [(oM, .inr (5, [.ref mN, .ref mA, .ref mP, .int (nI ks), .ref mR, .ref mT, .int (nI ln), .long x1, .long x2, .long x3, .long x4, .long y1, .long y2, .long y3, .long y4, .ref mL, .ref mB, .int od, .int spt, .int wa, .long hs])), (mT, .inl (cI, 150, .inl tx)), (mR, .inl (cI, 3, .inl rf))] H := hP
  have hD : va_D A [(oM, .inr (5, [.ref mN, .ref mA, .ref mP, .int (nI ks), .ref mR, .ref mT, .int (nI ln), .long x1, .long x2, .long x3, .long x4, .long y1, .long y2, .long y3, .long y4, .ref mL, .ref mB, .int od, .int spt, .int wa, .long hs])), (mT, .inl (cI, 150, .inl tx)), (mR, .inl (cI, 3, .inl rf))] := hD
  subst r_1
  refine lv_if_ne (tgt := 18) hx hb dX5_type_7 (by decide) (fun c_3 => ?_) (fun c_3 => ?_)
  · skip
    have c_3 := z_b1 c_3
    refine lv_aload_n hx hb dX5_type_18 rfl (lv_at hl 0 rfl) ?_
    refine va_get (D := D) (ci := 5) (v := .int (nI ln)) (C := RX5) (T := TX5) (N := 21) hx hb hts N5 hown hK hP 0 rfl rfl 6 (by decide) L209 (fun _ h9 => h9) rfl dX5_type_19 ?_
    refine lv_sipush (v := 150) hx hb dX5_type_22 (by decide) ?_
    refine lv_icmp_ne (tgt := 36) hx hb dX5_type_25 (by decide) (fun c_4 => ?_) (fun c_4 => ?_)
    · skip
      have c_4 := (z_eqn (a := ln) (b := 150) rfl rfl (by omega) (by omega)).mp c_4
      refine lv_aload_n hx hb dX5_type_36 rfl (lv_at hl 0 rfl) ?_
      refine va_get (D := D) (ci := 5) (v := .ref mT) (C := RX5) (T := TX5) (N := 21) hx hb hts N5 hown hK hP 0 rfl rfl 5 (by decide) L22 (fun _ h9 => h9) rfl dX5_type_37 ?_
      refine lv_aload_n hx hb dX5_type_40 rfl (lv_at hl 0 rfl) ?_
      refine va_get (D := D) (ci := 5) (v := .int (nI ln)) (C := RX5) (T := TX5) (N := 21) hx hb hts N5 hown hK hP 0 rfl rfl 6 (by decide) L209 (fun _ h9 => h9) rfl dX5_type_41 ?_
      refine lv_iload_n hx hb dX5_type_44 rfl (lv_at hl 1 rfl) ?_
      refine z_ist (j := ln) hx hb hK hP hD hS 1 rfl rfl (by omega) (by decide) dX5_type_45 (fun H locs hP hD hS => ?_)
      have hP : va_P D vwCl [(oM, .inr (5, [.ref mN, .ref mA, .ref mP, .int (nI ks), .ref mR, .ref mT, .int (nI ln), .long x1, .long x2, .long x3, .long x4, .long y1, .long y2, .long y3, .long y4, .ref mL, .ref mB, .int od, .int spt, .int wa, .long hs])), (mT, .inl (cI, 150, .inl (upd tx ln v))), (mR, .inl (cI, 3, .inl rf))] H := hP
      have hD : va_D A [(oM, .inr (5, [.ref mN, .ref mA, .ref mP, .int (nI ks), .ref mR, .ref mT, .int (nI ln), .long x1, .long x2, .long x3, .long x4, .long y1, .long y2, .long y3, .long y4, .ref mL, .ref mB, .int od, .int spt, .int wa, .long hs])), (mT, .inl (cI, 150, .inl (upd tx ln v))), (mR, .inl (cI, 3, .inl rf))] := hD
      refine lv_aload_n hx hb dX5_type_46 rfl (lv_at hl 0 rfl) ?_
      refine lv_dup hx hb dX5_type_47 rfl ?_
      refine va_get (D := D) (ci := 5) (v := .int (nI ln)) (C := RX5) (T := TX5) (N := 21) hx hb hts N5 hown hK hP 0 rfl rfl 6 (by decide) L209 (fun _ h9 => h9) rfl dX5_type_48 ?_
      refine lv_iconst (v := 1) hx hb dX5_type_51 (by decide) ?_
      refine lv_iadd hx hb dX5_type_52 ?_
      refine z_topi (x := (nI ln) + 1) (y := nI (ln + 1)) (z_add rfl rfl) ?_
      refine va_put (D := D) (ci := 5) (v := .int (nI (ln + 1))) (ty := .int) (C := RX5) (T := TX5) (N := 21) hx hb hts N5 tyX5 tyX5_ok nmX5 hown hK hP hD hS 0 rfl rfl 6 (by decide) L209 (fun _ h9 => h9) rfl (by decide +kernel) rfl rfl (Nat.le_of_ble_eq_true rfl) dX5_type_53 (fun H locs hP hD hS => ?_)
      have hP : va_P D vwCl [(oM, .inr (5, [.ref mN, .ref mA, .ref mP, .int (nI ks), .ref mR, .ref mT, .int (nI (ln + 1)), .long x1, .long x2, .long x3, .long x4, .long y1, .long y2, .long y3, .long y4, .ref mL, .ref mB, .int od, .int spt, .int wa, .long hs])), (mT, .inl (cI, 150, .inl (upd tx ln v))), (mR, .inl (cI, 3, .inl rf))] H := hP
      have hD : va_D A [(oM, .inr (5, [.ref mN, .ref mA, .ref mP, .int (nI ks), .ref mR, .ref mT, .int (nI (ln + 1)), .long x1, .long x2, .long x3, .long x4, .long y1, .long y2, .long y3, .long y4, .ref mL, .ref mB, .int od, .int spt, .int wa, .long hs])), (mT, .inl (cI, 150, .inl (upd tx ln v))), (mR, .inl (cI, 3, .inl rf))] := hD
      refine lv_aload_n hx hb dX5_type_56 rfl (lv_at hl 0 rfl) ?_
      refine va_get (D := D) (ci := 5) (v := .int (nI (ln + 1))) (C := RX5) (T := TX5) (N := 21) hx hb hts N5 hown hK hP 0 rfl rfl 6 (by decide) L209 (fun _ h9 => h9) rfl dX5_type_57 ?_
      exact hQ (nI (ln + 1)) (upd tx ln v, ln + 1, rf) _ _ _ _ (rfl) (by rw [app_ok c_3 (by omega)]; exact ⟨rfl, rfl, tx_up hTx, Rf3_no hRf (cRef_nn (nI_pos' (by omega)))⟩) hP hD hS dX5_type_60
    · skip
      have c_4 := (z_eq (a := ln) (b := 150) rfl rfl (by omega) (by omega)).mp c_4
      refine lv_aload_n hx hb dX5_type_28 rfl (lv_at hl 0 rfl) ?_
      refine lv_sipush (v := (-10004)) hx hb dX5_type_29 (by decide) ?_
      refine z_VI (n := 1) (wn := (fun u : Unit => [(oM, .inr (5, [.ref mN, .ref mA, .ref mP, .int (nI ks), .ref mR, .ref mT, .int (nI ln), .long x1, .long x2, .long x3, .long x4, .long y1, .long y2, .long y3, .long y4, .ref mL, .ref mB, .int od, .int spt, .int wa, .long hs])), (mT, .inl (cI, 150, .inl tx)), (mR, .inl (cI, 3, .inl (upd rf 2 (rf 2 + 1))))])) (wr := [(mT, .inl (cI, 150, .inl tx))]) (As := [.int (-10004)]) (rest := []) ⟨hx, hb, hml, hown, hts⟩ hK hP hD hS hA hT (kX5_refuses l D cI cB tE tN oM mN mA mP mR mT mL mB ks ln x1 x2 x3 x4 y1 y2 y3 y4 od spt wa hs rf (-10004) 2 _ (by decide) (by omega)) gX5_type_X5_refuses rfl rfl rfl (by decide +kernel) ⟨Nat.le_of_ble_eq_true rfl, Nat.le_of_ble_eq_true rfl⟩ [0, 2] [1] [1, 0, 2] (by decide) rfl rfl (by decide) (by decide) (by decide) (fun u => rfl) 0 5 rfl rfl rfl rfl hl.1 rfl (Nat.le_of_ble_eq_true rfl) dX5_type_32 ⟨Nat.le_of_ble_eq_true rfl, Nat.le_of_ble_eq_true rfl⟩ (fun r_5 u H locs hw_6 hP hD hS => ?_)
      try dsimp only at hw_6
      have hP : va_P D vwCl [(oM, .inr (5, [.ref mN, .ref mA, .ref mP, .int (nI ks), .ref mR, .ref mT, .int (nI ln), .long x1, .long x2, .long x3, .long x4, .long y1, .long y2, .long y3, .long y4, .ref mL, .ref mB, .int od, .int spt, .int wa, .long hs])), (mT, .inl (cI, 150, .inl tx)), (mR, .inl (cI, 3, .inl (upd rf 2 (rf 2 + 1))))] H := hP
      have hD : va_D A [(oM, .inr (5, [.ref mN, .ref mA, .ref mP, .int (nI ks), .ref mR, .ref mT, .int (nI ln), .long x1, .long x2, .long x3, .long x4, .long y1, .long y2, .long y3, .long y4, .ref mL, .ref mB, .int od, .int spt, .int wa, .long hs])), (mT, .inl (cI, 150, .inl tx)), (mR, .inl (cI, 3, .inl (upd rf 2 (rf 2 + 1))))] := hD
      subst r_5
      exact hQ (-10004) (tx, ln, upd rf 2 (rf 2 + 1)) _ _ _ _ (rfl) (by rw [app_full c_3 (by omega)]; exact ⟨rfl, rfl, hTx, Rf3_ref hRf (Or.inr (Or.inr rfl)) (by decide) (by omega)⟩) hP hD hS dX5_type_35
  · skip
    have c_3 := z_b0 c_3
    refine lv_aload_n hx hb dX5_type_10 rfl (lv_at hl 0 rfl) ?_
    refine lv_sipush (v := (-10002)) hx hb dX5_type_11 (by decide) ?_
    refine z_VI (n := 1) (wn := (fun u : Unit => [(oM, .inr (5, [.ref mN, .ref mA, .ref mP, .int (nI ks), .ref mR, .ref mT, .int (nI ln), .long x1, .long x2, .long x3, .long x4, .long y1, .long y2, .long y3, .long y4, .ref mL, .ref mB, .int od, .int spt, .int wa, .long hs])), (mT, .inl (cI, 150, .inl tx)), (mR, .inl (cI, 3, .inl (upd rf 0 (rf 0 + 1))))])) (wr := [(mT, .inl (cI, 150, .inl tx))]) (As := [.int (-10002)]) (rest := []) ⟨hx, hb, hml, hown, hts⟩ hK hP hD hS hA hT (kX5_refuses l D cI cB tE tN oM mN mA mP mR mT mL mB ks ln x1 x2 x3 x4 y1 y2 y3 y4 od spt wa hs rf (-10002) 0 _ (by decide) (by omega)) gX5_type_X5_refuses rfl rfl rfl (by decide +kernel) ⟨Nat.le_of_ble_eq_true rfl, Nat.le_of_ble_eq_true rfl⟩ [0, 2] [1] [1, 0, 2] (by decide) rfl rfl (by decide) (by decide) (by decide) (fun u => rfl) 0 5 rfl rfl rfl rfl hl.1 rfl (Nat.le_of_ble_eq_true rfl) dX5_type_14 ⟨Nat.le_of_ble_eq_true rfl, Nat.le_of_ble_eq_true rfl⟩ (fun r_7 u H locs hw_8 hP hD hS => ?_)
    try dsimp only at hw_8
    have hP : va_P D vwCl [(oM, .inr (5, [.ref mN, .ref mA, .ref mP, .int (nI ks), .ref mR, .ref mT, .int (nI ln), .long x1, .long x2, .long x3, .long x4, .long y1, .long y2, .long y3, .long y4, .ref mL, .ref mB, .int od, .int spt, .int wa, .long hs])), (mT, .inl (cI, 150, .inl tx)), (mR, .inl (cI, 3, .inl (upd rf 0 (rf 0 + 1))))] H := hP
    have hD : va_D A [(oM, .inr (5, [.ref mN, .ref mA, .ref mP, .int (nI ks), .ref mR, .ref mT, .int (nI ln), .long x1, .long x2, .long x3, .long x4, .long y1, .long y2, .long y3, .long y4, .ref mL, .ref mB, .int od, .int spt, .int wa, .long hs])), (mT, .inl (cI, 150, .inl tx)), (mR, .inl (cI, 3, .inl (upd rf 0 (rf 0 + 1))))] := hD
    subst r_7
    exact hQ (-10002) (tx, ln, upd rf 0 (rf 0 + 1)) _ _ _ _ (rfl) (by rw [app_bad c_3]; exact ⟨rfl, rfl, hTx, Rf3_ref hRf (Or.inl rfl) (by decide) (by omega)⟩) hP hD hS dX5_type_17

set_option maxHeartbeats 4000000 in
set_option maxRecDepth 100000 in
theorem kX5_wipes (l : Launch) (D : va_G) (cI cB : ClassId) (tE tN : Nat) (oM : Nat) (mN : Nat) (mA : Nat) (mP : Nat) (mR : Nat) (mT : Nat) (mL : Nat) (mB : Nat) (ks : Nat) (ln : Nat) (x1 : Int64) (x2 : Int64) (x3 : Int64) (x4 : Int64) (y1 : Int64) (y2 : Int64) (y3 : Int64) (y4 : Int64) (od : Int32) (spt : Int32) (wa : Int32) (hs : Int64) (sz : Nat)  : zI l yX5_wipes wsX5_wipes ({ frames := 0, cells := 0, slots := 0, locals := 0 }) D cI cB tE tN [.ref oM] [(oM, .inr (5, [.ref mN, .ref mA, .ref mP, .int (nI ks), .ref mR, .ref mT, .int (nI ln), .long x1, .long x2, .long x3, .long x4, .long y1, .long y2, .long y3, .long y4, .ref mL, .ref mB, .int od, .int spt, .int wa, .long hs]))] sz (fun u : Unit => [(oM, .inr (5, [.ref mN, .ref mA, .ref mP, .int (nI ks), .ref mR, .ref mT, .int (nI 0), .long x1, .long x2, .long x3, .long x4, .long y1, .long y2, .long y3, .long y4, .ref mL, .ref mB, .int od, .int spt, .int wa, .long hs]))]) (fun (r : Int32) (u : Unit) => r = nI ln) 0 0 := by
  refine zI_mk (cc := cX5_wipes) (maxL := 2) (rt := .int) (by decide) rfl (Nat.le_of_ble_eq_true rfl) ?_
  intro p e s m below meth c A Q ls S0 hname hA hK hP hD hT hS hQ hl
  obtain ⟨hx, hb, hml, hown, hts⟩ := id S0
  have hl : lv_has ls 2 [(0, .ref oM)] := hl
  have L209 : (Cond.fieldLink RX5 209 "PastAndClearModel" "bytes" "I").before ([.ref oM] : List Value).toArray s = true := hts (.fieldLink RX5 209 "PastAndClearModel" "bytes" "I") (by decide +kernel)
  have N5 : ∀ w ∈ u_ws RX5 TX5 21, w ∈ wsX5_wipes := by decide +kernel
  refine lv_aload_n hx hb dX5_wipes_0 rfl (lv_at hl 0 rfl) ?_
  refine va_get (D := D) (ci := 5) (v := .int (nI ln)) (C := RX5) (T := TX5) (N := 21) hx hb hts N5 hown hK hP 0 rfl rfl 6 (by decide) L209 (fun _ h9 => h9) rfl dX5_wipes_1 ?_
  refine lv_istore_n (lv' := [(1, .int (nI ln)), (0, .ref oM)]) hx hb dX5_wipes_4 rfl hl (by decide) rfl (fun ls hl => ?_)
  refine lv_aload_n hx hb dX5_wipes_5 rfl (lv_at hl 1 rfl) ?_
  refine lv_iconst (v := 0) hx hb dX5_wipes_6 (by decide) ?_
  refine va_put (D := D) (ci := 5) (v := .int 0) (ty := .int) (C := RX5) (T := TX5) (N := 21) hx hb hts N5 tyX5 tyX5_ok nmX5 hown hK hP hD hS 0 rfl rfl 6 (by decide) L209 (fun _ h9 => h9) rfl (by decide +kernel) rfl rfl (Nat.le_of_ble_eq_true rfl) dX5_wipes_7 (fun H locs hP hD hS => ?_)
  have hP : va_P D vwCl [(oM, .inr (5, [.ref mN, .ref mA, .ref mP, .int (nI ks), .ref mR, .ref mT, .int 0, .long x1, .long x2, .long x3, .long x4, .long y1, .long y2, .long y3, .long y4, .ref mL, .ref mB, .int od, .int spt, .int wa, .long hs]))] H := hP
  have hD : va_D A [(oM, .inr (5, [.ref mN, .ref mA, .ref mP, .int (nI ks), .ref mR, .ref mT, .int 0, .long x1, .long x2, .long x3, .long x4, .long y1, .long y2, .long y3, .long y4, .ref mL, .ref mB, .int od, .int spt, .int wa, .long hs]))] := hD
  refine lv_iload_n hx hb dX5_wipes_10 rfl (lv_at hl 0 rfl) ?_
  exact hQ (nI ln) () _ _ _ _ (rfl) (rfl) hP hD hS dX5_wipes_11

set_option maxHeartbeats 4000000 in
set_option maxRecDepth 100000 in
theorem kX5_mix (l : Launch) (D : va_G) (cI cB : ClassId) (tE tN : Nat) (oM : Nat) (mN : Nat) (mA : Nat) (mP : Nat) (mR : Nat) (mT : Nat) (mL : Nat) (mB : Nat) (ks : Nat) (ln : Nat) (x1 : Int64) (x2 : Int64) (x3 : Int64) (x4 : Int64) (y1 : Int64) (y2 : Int64) (y3 : Int64) (y4 : Int64) (od : Int32) (spt : Int32) (wa : Int32) (hs : Int64) (v : Int64) (sz : Nat)  : zV l yX5_mix wsX5_mix ({ frames := 0, cells := 0, slots := 0, locals := 0 }) D cI cB tE tN [.ref oM, .long v] [(oM, .inr (5, [.ref mN, .ref mA, .ref mP, .int (nI ks), .ref mR, .ref mT, .int (nI ln), .long x1, .long x2, .long x3, .long x4, .long y1, .long y2, .long y3, .long y4, .ref mL, .ref mB, .int od, .int spt, .int wa, .long hs]))] sz (fun u : Unit => [(oM, .inr (5, [.ref mN, .ref mA, .ref mP, .int (nI ks), .ref mR, .ref mT, .int (nI ln), .long x1, .long x2, .long x3, .long x4, .long y1, .long y2, .long y3, .long y4, .ref mL, .ref mB, .int od, .int spt, .int wa, .long (31 * hs + v)]))]) (fun (u : Unit) => True) 0 0 := by
  refine zV_mk (cc := cX5_mix) (maxL := 3) (by decide) rfl (Nat.le_of_ble_eq_true rfl) ?_
  intro p e s m below meth c A Q ls S0 hname hA hK hP hD hT hS hQ hl
  obtain ⟨hx, hb, hml, hown, hts⟩ := id S0
  have hl : lv_has ls 3 [(0, .ref oM), (1, .long v)] := hl
  have L251 : (Cond.fieldLink RX5 251 "PastAndClearModel" "hash" "J").before ([.ref oM, .long v] : List Value).toArray s = true := hts (.fieldLink RX5 251 "PastAndClearModel" "hash" "J") (by decide +kernel)
  have N5 : ∀ w ∈ u_ws RX5 TX5 21, w ∈ wsX5_mix := by decide +kernel
  refine lv_aload_n hx hb dX5_mix_0 rfl (lv_at hl 0 rfl) ?_
  refine lv_ldc2 (v := 31) hx hb hown (hts (.constantLong RX5 249 31) (by decide +kernel)) dX5_mix_1 ?_
  refine lv_aload_n hx hb dX5_mix_4 rfl (lv_at hl 0 rfl) ?_
  refine va_get (D := D) (ci := 5) (v := .long hs) (C := RX5) (T := TX5) (N := 21) hx hb hts N5 hown hK hP 0 rfl rfl 20 (by decide) L251 (fun _ h9 => h9) rfl dX5_mix_5 ?_
  refine lv_lmul hx hb dX5_mix_8 ?_
  refine lv_lload_n hx hb dX5_mix_9 rfl (lv_at hl 1 rfl) ?_
  refine lv_ladd hx hb dX5_mix_10 ?_
  refine va_put (D := D) (ci := 5) (v := .long ((31 * hs) + v)) (ty := .long) (C := RX5) (T := TX5) (N := 21) hx hb hts N5 tyX5 tyX5_ok nmX5 hown hK hP hD hS 0 rfl rfl 20 (by decide) L251 (fun _ h9 => h9) rfl (by decide +kernel) rfl rfl (Nat.le_of_ble_eq_true rfl) dX5_mix_11 (fun H locs hP hD hS => ?_)
  have hP : va_P D vwCl [(oM, .inr (5, [.ref mN, .ref mA, .ref mP, .int (nI ks), .ref mR, .ref mT, .int (nI ln), .long x1, .long x2, .long x3, .long x4, .long y1, .long y2, .long y3, .long y4, .ref mL, .ref mB, .int od, .int spt, .int wa, .long ((31 * hs) + v)]))] H := hP
  have hD : va_D A [(oM, .inr (5, [.ref mN, .ref mA, .ref mP, .int (nI ks), .ref mR, .ref mT, .int (nI ln), .long x1, .long x2, .long x3, .long x4, .long y1, .long y2, .long y3, .long y4, .ref mL, .ref mB, .int od, .int spt, .int wa, .long ((31 * hs) + v)]))] := hD
  exact hQ () _ _ _ _ (trivial) hP hD hS dX5_mix_14
