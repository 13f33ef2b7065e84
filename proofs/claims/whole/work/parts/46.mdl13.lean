theorem mOf_nat {c : Int32} (h : ¬ mOf c = -10001) : ∃ wn : Nat, nOf c = nI wn ∧ mOf c = nI wn ∧ wn ≤ 4 := by
  by_cases e : nOf c = -1
  · rw [mOf, if_pos e] at h; exact absurd rfl h
  · rcases nOf_cases c with q | q | q | q | q
    · exact ⟨4, q, by rw [mOf, if_neg e]; exact q, by omega⟩
    · exact ⟨2, q, by rw [mOf, if_neg e]; exact q, by omega⟩
    · exact ⟨1, q, by rw [mOf, if_neg e]; exact q, by omega⟩
    · exact ⟨0, q, by rw [mOf, if_neg e]; exact q, by omega⟩
    · exact absurd q e
theorem mOf_neg {c : Int32} (h : mOf c = -10001) : nOf c = -1 := by
  by_cases e : nOf c = -1
  · exact e
  · rw [mOf, if_neg e] at h
    rcases nOf_cases c with q | q | q | q | q
    · rw [q] at h; exact absurd h (by decide)
    · rw [q] at h; exact absurd h (by decide)
    · rw [q] at h; exact absurd h (by decide)
    · rw [q] at h; exact absurd h (by decide)
    · exact q
theorem hp4 {c : Int32} {wn : Nat} (h : nOf c = nI wn) (hw : wn ≤ 4) : hpF c = decide (wn = 4) := by
  by_cases q : c = 97 ∨ c = 111
  · have e : nOf c = nI 4 := by rw [nOf, if_pos q]; rfl
    have : wn = 4 := (z_eq rfl rfl (by omega) (by omega)).mp (h.symm.trans e)
    rw [hpF, decide_eq_true q, decide_eq_true this]
  · rw [hpF, decide_eq_false q]
    refine (decide_eq_false (fun z => ?_)).symm
    rw [z, nOf, if_neg q] at h
    split at h
    · exact absurd h (by decide)
    · split at h
      · exact absurd h (by decide)
      · split at h <;> exact absurd h (by decide)
theorem hp_t {c : Int32} {wn j : Nat} (h : nOf c = nI wn) (hw : wn ≤ 4) (h4 : wn = 4) (hj : j < 2) : (hpF c && decide (j < 2)) = true := by rw [hp4 h hw, decide_eq_true h4, decide_eq_true hj]; rfl
theorem hp_f1 {c : Int32} {wn j : Nat} (h : nOf c = nI wn) (hw : wn ≤ 4) (h4 : wn ≠ 4) : (hpF c && decide (j < 2)) = false := by rw [hp4 h hw, decide_eq_false h4]; rfl
theorem hp_f2 {c : Int32} {j : Nat} (hj : ¬ j < 2) : (hpF c && decide (j < 2)) = false := by rw [decide_eq_false hj, Bool.and_false]
theorem nu_upd {nb : Nat → Int32} {on j : Nat} {v : Int32} : (fun i => upd nb (4 * on + j) v (4 * on + i)) = upd (fun i => nb (4 * on + i)) j v := by
  funext i
  by_cases e : i = j
  · rw [e, upd_eq, upd_eq]
  · rw [upd_ne e, upd_ne (by omega)]
theorem n59 {b : Nat → Int32} {L a : Nat} (h : atF b L a 59 59 = false) : ¬ chF b L a = 59 := by
  rw [at_ch (by decide)] at h; exact of_decide_eq_false h
theorem y59 {b : Nat → Int32} {L a : Nat} (h : atF b L a 59 59 = true) : chF b L a = 59 := by
  rw [at_ch (by decide)] at h; exact of_decide_eq_true h
def posF (b : Nat → Int32) (L : Nat) : Nat → Nat
  | 0 => sk b L 0
  | n + 1 => odPos b L (posF b L n)
def PO1 (b : Nat → Int32) (L i : Nat) (lt nb : Nat → Int32) : Prop := posF b L i < L ∧ odOk b L (posF b L i) = true ∧ lt i = chF b L (posF b L i) ∧ ∀ q wn, nOf (chF b L (posF b L i)) = nI wn → wn ≤ 4 → q < wn → nb (4 * i + q) = odVal b L (posF b L i) q
def PO (b : Nat → Int32) (L n : Nat) (lt nb : Nat → Int32) : Prop := (∀ i, i < n → PO1 b L i lt nb) ∧ ¬ posF b L n < L ∧ n ≤ 75
theorem dg_ge {b : Nat → Int32} {L : Nat} : ∀ (k a : Nat) (v : Int32), a ≤ (dgF b L k a v).1
  | 0, a, v => Nat.le_refl a
  | k + 1, a, v => by
    rw [dgF]
    split
    · exact Nat.le_trans (Nat.le_succ a) (dg_ge k (a + 1) _)
    · exact Nat.le_refl a
theorem nm_ge {b : Nat → Int32} {L a : Nat} {neg : Bool} : a ≤ (nmF b L a neg).2.1 := by
  have h1 : a ≤ a1F b L a neg := by rw [a1F]; split <;> omega
  rw [nmF]
  split
  · exact Nat.le_trans h1 (dg_ge _ _ _)
  · exact h1
theorem skF_ge {b : Nat → Int32} {L : Nat} : ∀ (k a : Nat), a ≤ skF b L k a
  | 0, a => Nat.le_refl a
  | k + 1, a => by
    rw [skF]; split
    · exact Nat.le_trans (Nat.le_succ a) (skF_ge k (a + 1))
    · exact Nat.le_refl a
theorem sk_ge {b : Nat → Int32} {L a : Nat} : a ≤ sk b L a := skF_ge _ _
theorem ns_ge {b : Nat → Int32} {L : Nat} {hp : Bool} : ∀ (r j a : Nat) (nu : Nat → Int32), a ≤ (nsF b L hp r j a nu).2.1
  | 0, j, a, nu => Nat.le_refl a
  | r + 1, j, a, nu => by
    have h1 : a ≤ (nmF b L (sk b L a) (hp && decide (j < 2))).2.1 := Nat.le_trans sk_ge nm_ge
    rw [nsF]; split
    · exact Nat.le_trans h1 (ns_ge r (j + 1) _ _)
    · exact h1
theorem od_adv {b : Nat → Int32} {L a : Nat} (hl : a < L) (h : odOk b L a = true) : a + 2 ≤ odPos b L a := by
  have hn := odOk_n h
  obtain ⟨wn, hw, -, hw4⟩ := mOf_nat (c := chF b L a) (fun e => hn (mOf_neg e))
  rcases hx : nsF b L (hpF (chF b L a)) wn 0 (a + 1) (fun _ => 0) with ⟨o1, n1, v1⟩
  have hge := ns_ge (b := b) (L := L) (hp := hpF (chF b L a)) wn 0 (a + 1) (fun _ => 0)
  rw [hx] at hge
  rw [odOk] at h
  cases o1 with
  | false => rw [od_b2 hw hw4 hx] at h; exact Bool.noConfusion h
  | true =>
    by_cases e2 : chF b L (sk b L n1) = 59
    · rw [odPos, od_ok hw hw4 hx e2]
      have h1 : n1 ≤ sk b L n1 := sk_ge
      have h2 : sk b L n1 + 1 ≤ sk b L (sk b L n1 + 1) := sk_ge
      dsimp only at hge ⊢
      omega
    · rw [od_b3 hw hw4 hx e2] at h; exact Bool.noConfusion h
theorem po_up {b : Nat → Int32} {L t n : Nat} {lt1 lt2 nb1 nb2 : Nat → Int32} (hpo : ∀ i, i < t → PO1 b L i lt1 nb1) (hpos : n = posF b L t) (hl : n < L) (ho : odOk b L n = true) (hlt : lt2 = upd lt1 t (chF b L n)) (hv : ∀ i wn, nOf (chF b L n) = nI wn → wn ≤ 4 → i < wn → nb2 (4 * t + i) = odVal b L n i) (hk : ∀ q, q < 4 * t → nb2 q = nb1 q) : ∀ i, i < t + 1 → PO1 b L i lt2 nb2 := by
  intro i hi
  by_cases e : i = t
  · subst e
    rw [PO1, ← hpos]
    exact ⟨hl, ho, by rw [hlt, upd_eq], fun q wn h1 h2 h3 => hv q wn h1 h2 h3⟩
  · obtain ⟨h1, h2, h3, h4⟩ := hpo i (by omega)
    exact ⟨h1, h2, by rw [hlt, upd_ne e]; exact h3, fun q wn a1 a2 a3 => by rw [hk _ (by omega)]; exact h4 q wn a1 a2 a3⟩
theorem dg_le {b : Nat → Int32} {L : Nat} : ∀ (k a : Nat) (v : Int32), a ≤ L → (dgF b L k a v).1 ≤ L
  | 0, a, v, h => h
  | k + 1, a, v, h => by
    rw [dgF]
    split
    · rename_i q; exact dg_le k (a + 1) _ (fig_lt q)
    · exact h
theorem nm_le {b : Nat → Int32} {L a : Nat} {neg : Bool} (h : a ≤ L) : (nmF b L a neg).2.1 ≤ L := by
  have h1 : a1F b L a neg ≤ L := by
    rw [a1F]; split
    · rename_i q
      rw [sgF, Bool.and_eq_true] at q
      exact ch_lt (of_decide_eq_true q.2) (by decide)
    · exact h
  rw [nmF]
  split
  · exact dg_le _ _ _ h1
  · exact h1
theorem ns_le {b : Nat → Int32} {L : Nat} {hp : Bool} : ∀ (r j a : Nat) (nu : Nat → Int32), a ≤ L → (nsF b L hp r j a nu).2.1 ≤ L
  | 0, j, a, nu, h => h
  | r + 1, j, a, nu, h => by
    have h1 : (nmF b L (sk b L a) (hp && decide (j < 2))).2.1 ≤ L := nm_le (sk_le h).2
    rw [nsF]; split
    · exact ns_le r (j + 1) _ _ h1
    · exact h1
theorem od_le {b : Nat → Int32} {L a : Nat} (h : a < L) : odPos b L a ≤ L := by
  rw [odPos, odF]
  have h1 : (nsF b L (hpF (chF b L a)) (nOf (chF b L a)).toNatClampNeg 0 (a + 1) (fun _ => 0)).2.1 ≤ L := ns_le _ _ _ _ h
  split
  · exact Nat.le_of_lt h
  · split
    · split
      · rename_i q
        exact (sk_le (ch_lt q (by decide))).2
      · exact (sk_le h1).2
    · exact h1
theorem nI_nn {n : Nat} (h : n < 2147483648) : ¬ nI n < 0 := fun q => absurd ((z_lt (a := n) (b := 0) rfl rfl h (by omega)).mp q) (by omega)
theorem rd_bad {b : Nat → Int32} {L t n : Nat} {wa : Int32} {lt1 nb1 : Nat → Int32} {P : Prop} (hfl : sk b L 0 < L → cFault b L = flF b L (75 - t) (posF b L t)) (hpos : n = posF b L t) (hpo : ∀ i, i < t → PO1 b L i lt1 nb1) (hl : n < L) (ht : t < 75) (hL : L ≤ 150) (ho : odOk b L n = false) (hw : wa = nI (odPos b L n)) : (0 = b2i false ∧ ¬ cFault b L < 0 ∧ wa = cFault b L) ∨ P := by
  have h0 : sk b L 0 < L := by
    rcases Nat.eq_zero_or_pos t with q | q
    · subst q; rw [hpos] at hl; exact hl
    · exact (hpo 0 q).1
  have e : cFault b L = nI (odPos b L n) := by
    rw [hfl h0, ← hpos]; exact fl_bad ht hl ho
  refine Or.inl ⟨rfl, ?_, ?_⟩
  · rw [e]; exact nI_nn (by have := od_le (b := b) hl; omega)
  · rw [e]; exact hw
theorem rd_none {b : Nat → Int32} {L t n : Nat} {P : Prop} (hpos : n = posF b L t) (ht : t = 0) (hn : n ≤ L) (h : ¬ n < L) (hL : L ≤ 150) : (0 = b2i false ∧ ¬ cFault b L < 0 ∧ nI n = cFault b L) ∨ P := by
  subst ht
  have e : sk b L 0 = n := hpos.symm
  have e2 : cFault b L = nI L := by rw [cFault, if_neg (by rw [e]; exact h)]
  refine Or.inl ⟨rfl, ?_, ?_⟩
  · rw [e2]; exact nI_nn (by omega)
  · rw [e2, show n = L by omega]
theorem rd_all {b : Nat → Int32} {L t n : Nat} {lt1 nb1 : Nat → Int32} {P : Prop} (hpos : n = posF b L t) (hfl : sk b L 0 < L → cFault b L = flF b L (75 - t) (posF b L t)) (hpo : ∀ i, i < t → PO1 b L i lt1 nb1) (ht : 0 < t) (h : ¬ n < L) (h75 : t ≤ 75) : P ∨ (1 = b2i true ∧ cFault b L < 0 ∧ PO b L t lt1 nb1) := by
  have h0 : sk b L 0 < L := (hpo 0 ht).1
  refine Or.inr ⟨rfl, ?_, hpo, by rw [← hpos]; exact h, h75⟩
  rw [hfl h0, ← hpos, fl_end h]; decide
set_option maxHeartbeats 4000000 in
set_option maxRecDepth 100000 in
theorem kX5_takesOrder (l : Launch) (D : va_G) (cI cB : ClassId) (tE tN : Nat) (oM : Nat) (mN : Nat) (mA : Nat) (mP : Nat) (mR : Nat) (mT : Nat) (mL : Nat) (mB : Nat) (ks : Nat) (ln : Nat) (x1 : Int64) (x2 : Int64) (x3 : Int64) (x4 : Int64) (y1 : Int64) (y2 : Int64) (y3 : Int64) (y4 : Int64) (wa : Int32) (hs : Int64) (tx : Nat → Int32) (bt : Nat → Int32) (lt : Nat → Int32) (nb : Nat → Int32) (pn : Nat) (on : Nat) (sz : Nat) (hln : ln ≤ 150) (hTx : ∀ j, j < ln → tx j = bt j) (hpl : pn < ln) (hon : on < 75) : zI l yX5_takesOrder wsX5_takesOrder ({ frames := 4, cells := 0, slots := 0, locals := 89 }) D cI cB tE tN [.ref oM] [(oM, .inr (5, [.ref mN, .ref mA, .ref mP, .int (nI ks), .ref mR, .ref mT, .int (nI ln), .long x1, .long x2, .long x3, .long x4, .long y1, .long y2, .long y3, .long y4, .ref mL, .ref mB, .int (nI on), .int (nI pn), .int wa, .long hs])), (mT, .inl (cI, 150, .inl tx)), (mL, .inl (cI, 75, .inl lt)), (mB, .inl (cI, 300, .inl nb))] sz (fun u : Nat × Nat × Int32 × (Nat → Int32) × (Nat → Int32) => [(oM, .inr (5, [.ref mN, .ref mA, .ref mP, .int (nI ks), .ref mR, .ref mT, .int (nI ln), .long x1, .long x2, .long x3, .long x4, .long y1, .long y2, .long y3, .long y4, .ref mL, .ref mB, .int (nI u.2.1), .int (nI u.1), .int u.2.2.1, .long hs])), (mT, .inl (cI, 150, .inl tx)), (mL, .inl (cI, 75, .inl u.2.2.2.1)), (mB, .inl (cI, 300, .inl u.2.2.2.2))]) (fun (r : Int32) (u : Nat × Nat × Int32 × (Nat → Int32) × (Nat → Int32)) => r = b2i (odOk bt ln pn) ∧ u.1 ≤ ln ∧ (odOk bt ln pn = true → sk bt ln u.1 = odPos bt ln pn ∧ u.2.1 = on + 1 ∧ u.2.2.2.1 = upd lt on (chF bt ln pn) ∧ ∀ i wn, nOf (chF bt ln pn) = nI wn → wn ≤ 4 → i < wn → u.2.2.2.2 (4 * on + i) = odVal bt ln pn i) ∧ (odOk bt ln pn = false → u.2.2.1 = nI (odPos bt ln pn)) ∧ ∀ q, q < 4 * on → u.2.2.2.2 q = nb q) 0 0 := by
  refine zI_mk (cc := cX5_takesOrder) (maxL := 4) (rt := .boolean) (by decide) rfl (Nat.le_of_ble_eq_true rfl) ?_
  intro p e s m below meth c A Q ls S0 hname hA hK hP hD hT hS hQ hl
  obtain ⟨hx, hb, hml, hown, hts⟩ := id S0
  have hl : lv_has ls 4 [(0, .ref oM)] := hl
  have L212 : (Cond.fieldLink RX5 212 "PastAndClearModel" "spot" "I").before ([.ref oM] : List Value).toArray s = true := hts (.fieldLink RX5 212 "PastAndClearModel" "spot" "I") (by decide +kernel)
  have N5 : ∀ w ∈ u_ws RX5 TX5 21, w ∈ wsX5_takesOrder := by decide +kernel
  have L230 : (Cond.fieldLink RX5 230 "PastAndClearModel" "orders" "I").before ([.ref oM] : List Value).toArray s = true := hts (.fieldLink RX5 230 "PastAndClearModel" "orders" "I") (by decide +kernel)
  have L22 : (Cond.fieldLink RX5 22 "PastAndClearModel" "text" "[I").before ([.ref oM] : List Value).toArray s = true := hts (.fieldLink RX5 22 "PastAndClearModel" "text" "[I") (by decide +kernel)
  have L25 : (Cond.fieldLink RX5 25 "PastAndClearModel" "letters" "[I").before ([.ref oM] : List Value).toArray s = true := hts (.fieldLink RX5 25 "PastAndClearModel" "letters" "[I") (by decide +kernel)
  have hpn : pn ≤ ln := Nat.le_of_lt hpl
  have lp49 : ∀ (k : Nat) (wn : Nat) (j : Nat) (n : Nat) (nb1 : Nat → Int32) (wa1 : Int32) (H : Heap) (locs : List Loc) (ls : Array Slot), wn - j = k → (nOf (chF bt ln pn) = nI wn) → (mOf (chF bt ln pn) = nI wn) → (wn ≤ 4) → (j ≤ wn) → (n ≤ ln) → (nsF bt ln (hpF (chF bt ln pn)) wn 0 (pn + 1) (fun i => nb (4 * on + i)) = nsF bt ln (hpF (chF bt ln pn)) (wn - j) j n (fun i => nb1 (4 * on + i))) → (∀ q, q < 4 * on → nb1 q = nb q) → va_P D vwCl [(oM, .inr (5, [.ref mN, .ref mA, .ref mP, .int (nI ks), .ref mR, .ref mT, .int (nI ln), .long x1, .long x2, .long x3, .long x4, .long y1, .long y2, .long y3, .long y4, .ref mL, .ref mB, .int (nI on), .int (nI n), .int wa1, .long hs])), (mT, .inl (cI, 150, .inl tx)), (mL, .inl (cI, 75, .inl (upd lt on (chF bt ln pn)))), (mB, .inl (cI, 300, .inl nb1))] H → va_D A [(oM, .inr (5, [.ref mN, .ref mA, .ref mP, .int (nI ks), .ref mR, .ref mT, .int (nI ln), .long x1, .long x2, .long x3, .long x4, .long y1, .long y2, .long y3, .long y4, .ref mL, .ref mB, .int (nI on), .int (nI n), .int wa1, .long hs])), (mT, .inl (cI, 150, .inl tx)), (mL, .inl (cI, 75, .inl (upd lt on (chF bt ln pn)))), (mB, .inl (cI, 300, .inl nb1))] → va_S A s.heap H locs → lv_has ls 4 [(3, .int (nI j)), (2, .int (mOf (chF bt ln pn))), (0, .ref oM)] → W p l e ({ frames := 4, cells := 0, slots := 0, locals := 89 } : Room) s m ([.ref oM] : List Value).toArray below meth c H locs 0 0 Q (F0 m 49 ls []) := by
    intro k
    induction k using Nat.strongRecOn with
    | ind k ih =>
    intro wn j n nb1 wa1 H locs ls hk hwn hmn hw4 hj hn hinv hfr hP hD hS hl
    refine lv_iload_n hx hb dX5_takesOrder_49 rfl (lv_at hl 0 rfl) ?_
    refine lv_iload_n hx hb dX5_takesOrder_50 rfl (lv_at hl 1 rfl) ?_
    refine lv_icmp_ge (tgt := 92) hx hb dX5_takesOrder_51 (by decide) (fun c_1 => ?_) (fun c_1 => ?_)
    · skip
      have c_1 := (z_le (a := wn) (b := j) hmn rfl (by omega) (by omega)).mp c_1
      refine lv_aload_n hx hb dX5_takesOrder_92 rfl (lv_at hl 2 rfl) ?_
      refine z_VV (n := 0) (wn := (fun u : Unit => [(oM, .inr (5, [.ref mN, .ref mA, .ref mP, .int (nI ks), .ref mR, .ref mT, .int (nI ln), .long x1, .long x2, .long x3, .long x4, .long y1, .long y2, .long y3, .long y4, .ref mL, .ref mB, .int (nI on), .int (nI (sk bt ln n)), .int wa1, .long hs])), (mT, .inl (cI, 150, .inl tx)), (mL, .inl (cI, 75, .inl (upd lt on (chF bt ln pn)))), (mB, .inl (cI, 300, .inl nb1))])) (wr := [(mL, .inl (cI, 75, .inl (upd lt on (chF bt ln pn)))), (mB, .inl (cI, 300, .inl nb1))]) (As := []) (rest := []) ⟨hx, hb, hml, hown, hts⟩ hK hP hD hS hA hT (kX5_blanks l D cI cB tE tN oM mN mA mP mR mT mL mB ks ln x1 x2 x3 x4 y1 y2 y3 y4 (nI on) wa1 hs tx bt n _ (by omega) (hTx) (hn)) gX5_takesOrder_X5_blanks rfl rfl rfl (by decide +kernel) ⟨Nat.le_of_ble_eq_true rfl, Nat.le_of_ble_eq_true rfl⟩ [0, 1] [2, 3] [2, 3, 0, 1] (by decide) rfl rfl (by decide) (by decide) (by decide) (fun u => rfl) 0 5 rfl rfl rfl rfl hl.1 rfl (Nat.le_of_ble_eq_true rfl) dX5_takesOrder_93 ⟨Nat.le_of_ble_eq_true rfl, Nat.le_of_ble_eq_true rfl⟩ (fun u H locs hw_3 hP hD hS => ?_)
      try dsimp only at hw_3
      have hP : va_P D vwCl [(oM, .inr (5, [.ref mN, .ref mA, .ref mP, .int (nI ks), .ref mR, .ref mT, .int (nI ln), .long x1, .long x2, .long x3, .long x4, .long y1, .long y2, .long y3, .long y4, .ref mL, .ref mB, .int (nI on), .int (nI (sk bt ln n)), .int wa1, .long hs])), (mT, .inl (cI, 150, .inl tx)), (mL, .inl (cI, 75, .inl (upd lt on (chF bt ln pn)))), (mB, .inl (cI, 300, .inl nb1))] H := hP
      have hD : va_D A [(oM, .inr (5, [.ref mN, .ref mA, .ref mP, .int (nI ks), .ref mR, .ref mT, .int (nI ln), .long x1, .long x2, .long x3, .long x4, .long y1, .long y2, .long y3, .long y4, .ref mL, .ref mB, .int (nI on), .int (nI (sk bt ln n)), .int wa1, .long hs])), (mT, .inl (cI, 150, .inl tx)), (mL, .inl (cI, 75, .inl (upd lt on (chF bt ln pn)))), (mB, .inl (cI, 300, .inl nb1))] := hD
      refine lv_aload_n hx hb dX5_takesOrder_96 rfl (lv_at hl 2 rfl) ?_
      refine lv_bipush (v := 59) hx hb dX5_takesOrder_97 (by decide) ?_
      refine lv_bipush (v := 59) hx hb dX5_takesOrder_99 (by decide) ?_
      refine z_VI (n := 2) (wn := (fun u : Unit => [(oM, .inr (5, [.ref mN, .ref mA, .ref mP, .int (nI ks), .ref mR, .ref mT, .int (nI ln), .long x1, .long x2, .long x3, .long x4, .long y1, .long y2, .long y3, .long y4, .ref mL, .ref mB, .int (nI on), .int (nI (sk bt ln n)), .int wa1, .long hs])), (mT, .inl (cI, 150, .inl tx)), (mL, .inl (cI, 75, .inl (upd lt on (chF bt ln pn)))), (mB, .inl (cI, 300, .inl nb1))])) (wr := [(mL, .inl (cI, 75, .inl (upd lt on (chF bt ln pn)))), (mB, .inl (cI, 300, .inl nb1))]) (As := [.int 59, .int 59]) (rest := []) ⟨hx, hb, hml, hown, hts⟩ hK hP hD hS hA hT (kX5_isAt l D cI cB tE tN oM mN mA mP mR mT mL mB ks ln x1 x2 x3 x4 y1 y2 y3 y4 (nI on) wa1 hs tx bt (sk bt ln n) 59 59 _ (by omega) (hTx) ((sk_le hn).2)) gX5_takesOrder_X5_isAt rfl rfl rfl (by decide +kernel) ⟨Nat.le_of_ble_eq_true rfl, Nat.le_of_ble_eq_true rfl⟩ [0, 1] [2, 3] [2, 3, 0, 1] (by decide) rfl rfl (by decide) (by decide) (by decide) (fun u => rfl) 0 5 rfl rfl rfl rfl hl.1 rfl (Nat.le_of_ble_eq_true rfl) dX5_takesOrder_101 ⟨Nat.le_of_ble_eq_true rfl, Nat.le_of_ble_eq_true rfl⟩ (fun r_4 u H locs hw_5 hP hD hS => ?_)
      try dsimp only at hw_5
      have hP : va_P D vwCl [(oM, .inr (5, [.ref mN, .ref mA, .ref mP, .int (nI ks), .ref mR, .ref mT, .int (nI ln), .long x1, .long x2, .long x3, .long x4, .long y1, .long y2, .long y3, .long y4, .ref mL, .ref mB, .int (nI on), .int (nI (sk bt ln n)), .int wa1, .long hs])), (mT, .inl (cI, 150, .inl tx)), (mL, .inl (cI, 75, .inl (upd lt on (chF bt ln pn)))), (mB, .inl (cI, 300, .inl nb1))] H := hP
      have hD : va_D A [(oM, .inr (5, [.ref mN, .ref mA, .ref mP, .int (nI ks), .ref mR, .ref mT, .int (nI ln), .long x1, .long x2, .long x3, .long x4, .long y1, .long y2, .long y3, .long y4, .ref mL, .ref mB, .int (nI on), .int (nI (sk bt ln n)), .int wa1, .long hs])), (mT, .inl (cI, 150, .inl tx)), (mL, .inl (cI, 75, .inl (upd lt on (chF bt ln pn)))), (mB, .inl (cI, 300, .inl nb1))] := hD
      subst r_4
      refine lv_if_ne (tgt := 112) hx hb dX5_takesOrder_104 (by decide) (fun c_6 => ?_) (fun c_6 => ?_)
      · skip
        have c_6 := z_b1 c_6
        have hlt59 := at_lt c_6
        refine lv_aload_n hx hb dX5_takesOrder_112 rfl (lv_at hl 2 rfl) ?_
        refine lv_dup hx hb dX5_takesOrder_113 rfl ?_
        refine va_get (D := D) (ci := 5) (v := .int (nI (sk bt ln n))) (C := RX5) (T := TX5) (N := 21) hx hb hts N5 hown hK hP 0 rfl rfl 18 (by decide) L212 (fun _ h9 => h9) rfl dX5_takesOrder_114 ?_
        refine lv_iconst (v := 1) hx hb dX5_takesOrder_117 (by decide) ?_
        refine lv_iadd hx hb dX5_takesOrder_118 ?_
        refine z_topi (x := (nI (sk bt ln n)) + 1) (y := nI ((sk bt ln n) + 1)) (z_add rfl rfl) ?_
        refine va_put (D := D) (ci := 5) (v := .int (nI ((sk bt ln n) + 1))) (ty := .int) (C := RX5) (T := TX5) (N := 21) hx hb hts N5 tyX5 tyX5_ok nmX5 hown hK hP hD hS 0 rfl rfl 18 (by decide) L212 (fun _ h9 => h9) rfl (by decide +kernel) rfl rfl (Nat.le_of_ble_eq_true rfl) dX5_takesOrder_119 (fun H locs hP hD hS => ?_)
        have hP : va_P D vwCl [(oM, .inr (5, [.ref mN, .ref mA, .ref mP, .int (nI ks), .ref mR, .ref mT, .int (nI ln), .long x1, .long x2, .long x3, .long x4, .long y1, .long y2, .long y3, .long y4, .ref mL, .ref mB, .int (nI on), .int (nI ((sk bt ln n) + 1)), .int wa1, .long hs])), (mT, .inl (cI, 150, .inl tx)), (mL, .inl (cI, 75, .inl (upd lt on (chF bt ln pn)))), (mB, .inl (cI, 300, .inl nb1))] H := hP
        have hD : va_D A [(oM, .inr (5, [.ref mN, .ref mA, .ref mP, .int (nI ks), .ref mR, .ref mT, .int (nI ln), .long x1, .long x2, .long x3, .long x4, .long y1, .long y2, .long y3, .long y4, .ref mL, .ref mB, .int (nI on), .int (nI ((sk bt ln n) + 1)), .int wa1, .long hs])), (mT, .inl (cI, 150, .inl tx)), (mL, .inl (cI, 75, .inl (upd lt on (chF bt ln pn)))), (mB, .inl (cI, 300, .inl nb1))] := hD
        refine lv_aload_n hx hb dX5_takesOrder_122 rfl (lv_at hl 2 rfl) ?_
        refine lv_dup hx hb dX5_takesOrder_123 rfl ?_
        refine va_get (D := D) (ci := 5) (v := .int (nI on)) (C := RX5) (T := TX5) (N := 21) hx hb hts N5 hown hK hP 0 rfl rfl 17 (by decide) L230 (fun _ h9 => h9) rfl dX5_takesOrder_124 ?_
        refine lv_iconst (v := 1) hx hb dX5_takesOrder_127 (by decide) ?_
        refine lv_iadd hx hb dX5_takesOrder_128 ?_
        refine z_topi (x := (nI on) + 1) (y := nI (on + 1)) (z_add rfl rfl) ?_
        refine va_put (D := D) (ci := 5) (v := .int (nI (on + 1))) (ty := .int) (C := RX5) (T := TX5) (N := 21) hx hb hts N5 tyX5 tyX5_ok nmX5 hown hK hP hD hS 0 rfl rfl 17 (by decide) L230 (fun _ h9 => h9) rfl (by decide +kernel) rfl rfl (Nat.le_of_ble_eq_true rfl) dX5_takesOrder_129 (fun H locs hP hD hS => ?_)
        have hP : va_P D vwCl [(oM, .inr (5, [.ref mN, .ref mA, .ref mP, .int (nI ks), .ref mR, .ref mT, .int (nI ln), .long x1, .long x2, .long x3, .long x4, .long y1, .long y2, .long y3, .long y4, .ref mL, .ref mB, .int (nI (on + 1)), .int (nI ((sk bt ln n) + 1)), .int wa1, .long hs])), (mT, .inl (cI, 150, .inl tx)), (mL, .inl (cI, 75, .inl (upd lt on (chF bt ln pn)))), (mB, .inl (cI, 300, .inl nb1))] H := hP
        have hD : va_D A [(oM, .inr (5, [.ref mN, .ref mA, .ref mP, .int (nI ks), .ref mR, .ref mT, .int (nI ln), .long x1, .long x2, .long x3, .long x4, .long y1, .long y2, .long y3, .long y4, .ref mL, .ref mB, .int (nI (on + 1)), .int (nI ((sk bt ln n) + 1)), .int wa1, .long hs])), (mT, .inl (cI, 150, .inl tx)), (mL, .inl (cI, 75, .inl (upd lt on (chF bt ln pn)))), (mB, .inl (cI, 300, .inl nb1))] := hD
        refine lv_iconst (v := 1) hx hb dX5_takesOrder_132 (by decide) ?_
        exact hQ 1 ((sk bt ln n) + 1, on + 1, wa1, upd lt on (chF bt ln pn), nb1) _ _ _ _ (rfl) (by have e2 := hinv; rw [ns_end (by omega)] at e2; have e := od_ind bt ln pn (fun i => nb (4 * on + i)); rw [od_ok hwn hw4 e2 (y59 c_6)] at e; exact ⟨by rw [← e.1]; rfl, by omega, fun _ => ⟨e.2.1, rfl, rfl, e.2.2 (by rw [← e.1])⟩, fun h => by rw [← e.1] at h; exact Bool.noConfusion h, hfr⟩) hP hD hS dX5_takesOrder_133
      · skip
        have c_6 := z_b0 c_6
        refine lv_aload_n hx hb dX5_takesOrder_107 rfl (lv_at hl 2 rfl) ?_
        refine z_VI (n := 0) (wn := (fun u : Unit => [(oM, .inr (5, [.ref mN, .ref mA, .ref mP, .int (nI ks), .ref mR, .ref mT, .int (nI ln), .long x1, .long x2, .long x3, .long x4, .long y1, .long y2, .long y3, .long y4, .ref mL, .ref mB, .int (nI on), .int (nI (sk bt ln n)), .int (nI (sk bt ln n)), .long hs])), (mT, .inl (cI, 150, .inl tx)), (mL, .inl (cI, 75, .inl (upd lt on (chF bt ln pn)))), (mB, .inl (cI, 300, .inl nb1))])) (wr := [(mT, .inl (cI, 150, .inl tx)), (mL, .inl (cI, 75, .inl (upd lt on (chF bt ln pn)))), (mB, .inl (cI, 300, .inl nb1))]) (As := []) (rest := []) ⟨hx, hb, hml, hown, hts⟩ hK hP hD hS hA hT (kX5_fails l D cI cB tE tN oM mN mA mP mR mT mL mB ks ln x1 x2 x3 x4 y1 y2 y3 y4 (nI on) (nI (sk bt ln n)) wa1 hs _ ) gX5_takesOrder_X5_fails rfl rfl rfl (by decide +kernel) ⟨Nat.le_of_ble_eq_true rfl, Nat.le_of_ble_eq_true rfl⟩ [0] [1, 2, 3] [3, 0, 1, 2] (by decide) rfl rfl (by decide) (by decide) (by decide) (fun u => rfl) 0 5 rfl rfl rfl rfl hl.1 rfl (Nat.le_of_ble_eq_true rfl) dX5_takesOrder_108 ⟨Nat.le_of_ble_eq_true rfl, Nat.le_of_ble_eq_true rfl⟩ (fun r_7 u H locs hw_8 hP hD hS => ?_)
        try dsimp only at hw_8
        have hP : va_P D vwCl [(oM, .inr (5, [.ref mN, .ref mA, .ref mP, .int (nI ks), .ref mR, .ref mT, .int (nI ln), .long x1, .long x2, .long x3, .long x4, .long y1, .long y2, .long y3, .long y4, .ref mL, .ref mB, .int (nI on), .int (nI (sk bt ln n)), .int (nI (sk bt ln n)), .long hs])), (mT, .inl (cI, 150, .inl tx)), (mL, .inl (cI, 75, .inl (upd lt on (chF bt ln pn)))), (mB, .inl (cI, 300, .inl nb1))] H := hP
        have hD : va_D A [(oM, .inr (5, [.ref mN, .ref mA, .ref mP, .int (nI ks), .ref mR, .ref mT, .int (nI ln), .long x1, .long x2, .long x3, .long x4, .long y1, .long y2, .long y3, .long y4, .ref mL, .ref mB, .int (nI on), .int (nI (sk bt ln n)), .int (nI (sk bt ln n)), .long hs])), (mT, .inl (cI, 150, .inl tx)), (mL, .inl (cI, 75, .inl (upd lt on (chF bt ln pn)))), (mB, .inl (cI, 300, .inl nb1))] := hD
        subst r_7
        exact hQ (b2i false) (sk bt ln n, on, (nI (sk bt ln n)), upd lt on (chF bt ln pn), nb1) _ _ _ _ (z_nb _) (by have e2 := hinv; rw [ns_end (by omega)] at e2; have e := od_ind bt ln pn (fun i => nb (4 * on + i)); rw [od_b3 hwn hw4 e2 (n59 c_6)] at e; exact ⟨by rw [← e.1], (sk_le hn).2, fun h => by rw [← e.1] at h; exact Bool.noConfusion h, fun _ => by rw [← e.2.1], hfr⟩) hP hD hS dX5_takesOrder_111
    · skip
      have c_1 := (z_len (a := wn) (b := j) hmn rfl (by omega) (by omega)).mp c_1
      refine lv_aload_n hx hb dX5_takesOrder_54 rfl (lv_at hl 2 rfl) ?_
      refine lv_iconst (v := 4) hx hb dX5_takesOrder_55 (by decide) ?_
      refine lv_aload_n hx hb dX5_takesOrder_56 rfl (lv_at hl 2 rfl) ?_
      refine va_get (D := D) (ci := 5) (v := .int (nI on)) (C := RX5) (T := TX5) (N := 21) hx hb hts N5 hown hK hP 0 rfl rfl 17 (by decide) L230 (fun _ h9 => h9) rfl dX5_takesOrder_57 ?_
      refine lv_imul hx hb dX5_takesOrder_60 ?_
      refine lv_iload_n hx hb dX5_takesOrder_61 rfl (lv_at hl 0 rfl) ?_
      refine lv_iadd hx hb dX5_takesOrder_62 ?_
      refine z_topi (x := (4 * (nI on)) + (nI j)) (y := nI (4 * on + j)) (z_add (z_mul rfl rfl) rfl) ?_
      refine lv_iload_n hx hb dX5_takesOrder_63 rfl (lv_at hl 1 rfl) ?_
      refine lv_iconst (v := 4) hx hb dX5_takesOrder_64 (by decide) ?_
      refine lv_icmp_ne (tgt := 77) hx hb dX5_takesOrder_65 (by decide) (fun c_9 => ?_) (fun c_9 => ?_)
      · skip
        have c_9 := (z_eqn (a := wn) (b := 4) hmn rfl (by omega) (by omega)).mp c_9
        refine lv_iconst (v := 0) hx hb dX5_takesOrder_77 (by decide) ?_
        refine z_VI (n := 2) (wn := (fun u : Nat × Int32 × (Nat → Int32) => [(oM, .inr (5, [.ref mN, .ref mA, .ref mP, .int (nI ks), .ref mR, .ref mT, .int (nI ln), .long x1, .long x2, .long x3, .long x4, .long y1, .long y2, .long y3, .long y4, .ref mL, .ref mB, .int (nI on), .int (nI u.1), .int u.2.1, .long hs])), (mT, .inl (cI, 150, .inl tx)), (mL, .inl (cI, 75, .inl (upd lt on (chF bt ln pn)))), (mB, .inl (cI, 300, .inl u.2.2))])) (wr := [(mL, .inl (cI, 75, .inl (upd lt on (chF bt ln pn))))]) (As := [.int (nI (4 * on + j)), .int 0]) (rest := []) ⟨hx, hb, hml, hown, hts⟩ hK hP hD hS hA hT (kX5_takesNumber l D cI cB tE tN oM mN mA mP mR mT mL mB ks ln x1 x2 x3 x4 y1 y2 y3 y4 (nI on) wa1 hs tx bt n nb1 (4 * on + j) false _ (hln) (hTx) (hn) (by omega)) gX5_takesOrder_X5_takesNumber rfl rfl rfl (by decide +kernel) ⟨Nat.le_of_ble_eq_true rfl, Nat.le_of_ble_eq_true rfl⟩ [0, 1, 3] [2] [1, 2, 0, 3] (by decide) rfl rfl (by decide) (by decide) (by decide) (fun u => rfl) 0 5 rfl rfl rfl rfl hl.1 rfl (Nat.le_of_ble_eq_true rfl) dX5_takesOrder_78 ⟨Nat.le_of_ble_eq_true rfl, Nat.le_of_ble_eq_true rfl⟩ (fun r_13 u H locs hw_14 hP hD hS => ?_)
        obtain ⟨pn2_10, wa2_11, nb2_12⟩ := u
        try dsimp only at hw_14
        have hP : va_P D vwCl [(oM, .inr (5, [.ref mN, .ref mA, .ref mP, .int (nI ks), .ref mR, .ref mT, .int (nI ln), .long x1, .long x2, .long x3, .long x4, .long y1, .long y2, .long y3, .long y4, .ref mL, .ref mB, .int (nI on), .int (nI pn2_10), .int wa2_11, .long hs])), (mT, .inl (cI, 150, .inl tx)), (mL, .inl (cI, 75, .inl (upd lt on (chF bt ln pn)))), (mB, .inl (cI, 300, .inl nb2_12))] H := hP
        have hD : va_D A [(oM, .inr (5, [.ref mN, .ref mA, .ref mP, .int (nI ks), .ref mR, .ref mT, .int (nI ln), .long x1, .long x2, .long x3, .long x4, .long y1, .long y2, .long y3, .long y4, .ref mL, .ref mB, .int (nI on), .int (nI pn2_10), .int wa2_11, .long hs])), (mT, .inl (cI, 150, .inl tx)), (mL, .inl (cI, 75, .inl (upd lt on (chF bt ln pn)))), (mB, .inl (cI, 300, .inl nb2_12))] := hD
        obtain ⟨hw_14, hq_15⟩ := hw_14
        subst r_13
        refine lv_if_ne (tgt := 86) hx hb dX5_takesOrder_81 (by decide) (fun c_16 => ?_) (fun c_16 => ?_)
        · skip
          have c_16 := z_b1 c_16
          refine lv_iinc (v := nI (j + 1)) (lv' := [(3, .int (nI (j + 1))), (2, .int (mOf (chF bt ln pn))), (0, .ref oM)]) hx hb dX5_takesOrder_86 hl (k := 0) rfl (z_add rfl rfl) (by decide) rfl (fun ls hl => ?_)
          refine lv_goto (tgt := 49) hx hb dX5_takesOrder_89 (by decide) ?_
          exact ih _ (by omega) wn (j + 1) pn2_10 nb2_12 wa2_11 _ _ _ rfl hwn hmn hw4 (by omega) hq_15.2.2.2.1 (by have e : (hpF (chF bt ln pn) && decide (j < 2)) = false := hp_f1 hwn hw4 c_9; rw [hinv, ns_ok (by omega) (by rw [e]; exact c_16), e, ← hq_15.1, hq_15.2.1 c_16, nu_upd]) (fun q h => (hq_15.2.2.2.2 q (by omega)).trans (hfr q h)) hP hD hS (lv_sub hl [0, 1, 2] rfl)
        · skip
          have c_16 := z_b0 c_16
          refine lv_iconst (v := 0) hx hb dX5_takesOrder_84 (by decide) ?_
          exact hQ 0 (pn2_10, on, wa2_11, upd lt on (chF bt ln pn), nb2_12) _ _ _ _ (rfl) (by have e1 : (hpF (chF bt ln pn) && decide (j < 2)) = false := hp_f1 hwn hw4 c_9; have e2 := hinv; rw [ns_bad (by omega) (by rw [e1]; exact c_16), e1, ← hq_15.1] at e2; have e := od_ind bt ln pn (fun i => nb (4 * on + i)); rw [od_b2 hwn hw4 e2] at e; exact ⟨by rw [← e.1]; rfl, hq_15.2.2.2.1, fun h => by rw [← e.1] at h; exact Bool.noConfusion h, fun _ => by rw [← e.2.1]; exact hq_15.2.2.1 c_16, fun q h => (hq_15.2.2.2.2 q (by omega)).trans (hfr q h)⟩) hP hD hS dX5_takesOrder_85
      · skip
        have c_9 := (z_eq (a := wn) (b := 4) hmn rfl (by omega) (by omega)).mp c_9
        refine lv_iload_n hx hb dX5_takesOrder_68 rfl (lv_at hl 0 rfl) ?_
        refine lv_iconst (v := 2) hx hb dX5_takesOrder_69 (by decide) ?_
        refine lv_icmp_ge (tgt := 77) hx hb dX5_takesOrder_70 (by decide) (fun c_17 => ?_) (fun c_17 => ?_)
        · skip
          have c_17 := (z_le (a := 2) (b := j) rfl rfl (by omega) (by omega)).mp c_17
          refine lv_iconst (v := 0) hx hb dX5_takesOrder_77 (by decide) ?_
          refine z_VI (n := 2) (wn := (fun u : Nat × Int32 × (Nat → Int32) => [(oM, .inr (5, [.ref mN, .ref mA, .ref mP, .int (nI ks), .ref mR, .ref mT, .int (nI ln), .long x1, .long x2, .long x3, .long x4, .long y1, .long y2, .long y3, .long y4, .ref mL, .ref mB, .int (nI on), .int (nI u.1), .int u.2.1, .long hs])), (mT, .inl (cI, 150, .inl tx)), (mL, .inl (cI, 75, .inl (upd lt on (chF bt ln pn)))), (mB, .inl (cI, 300, .inl u.2.2))])) (wr := [(mL, .inl (cI, 75, .inl (upd lt on (chF bt ln pn))))]) (As := [.int (nI (4 * on + j)), .int 0]) (rest := []) ⟨hx, hb, hml, hown, hts⟩ hK hP hD hS hA hT (kX5_takesNumber l D cI cB tE tN oM mN mA mP mR mT mL mB ks ln x1 x2 x3 x4 y1 y2 y3 y4 (nI on) wa1 hs tx bt n nb1 (4 * on + j) false _ (hln) (hTx) (hn) (by omega)) gX5_takesOrder_X5_takesNumber rfl rfl rfl (by decide +kernel) ⟨Nat.le_of_ble_eq_true rfl, Nat.le_of_ble_eq_true rfl⟩ [0, 1, 3] [2] [1, 2, 0, 3] (by decide) rfl rfl (by decide) (by decide) (by decide) (fun u => rfl) 0 5 rfl rfl rfl rfl hl.1 rfl (Nat.le_of_ble_eq_true rfl) dX5_takesOrder_78 ⟨Nat.le_of_ble_eq_true rfl, Nat.le_of_ble_eq_true rfl⟩ (fun r_21 u H locs hw_22 hP hD hS => ?_)
          obtain ⟨pn2_18, wa2_19, nb2_20⟩ := u
          try dsimp only at hw_22
          have hP : va_P D vwCl [(oM, .inr (5, [.ref mN, .ref mA, .ref mP, .int (nI ks), .ref mR, .ref mT, .int (nI ln), .long x1, .long x2, .long x3, .long x4, .long y1, .long y2, .long y3, .long y4, .ref mL, .ref mB, .int (nI on), .int (nI pn2_18), .int wa2_19, .long hs])), (mT, .inl (cI, 150, .inl tx)), (mL, .inl (cI, 75, .inl (upd lt on (chF bt ln pn)))), (mB, .inl (cI, 300, .inl nb2_20))] H := hP
          have hD : va_D A [(oM, .inr (5, [.ref mN, .ref mA, .ref mP, .int (nI ks), .ref mR, .ref mT, .int (nI ln), .long x1, .long x2, .long x3, .long x4, .long y1, .long y2, .long y3, .long y4, .ref mL, .ref mB, .int (nI on), .int (nI pn2_18), .int wa2_19, .long hs])), (mT, .inl (cI, 150, .inl tx)), (mL, .inl (cI, 75, .inl (upd lt on (chF bt ln pn)))), (mB, .inl (cI, 300, .inl nb2_20))] := hD
          obtain ⟨hw_22, hq_23⟩ := hw_22
          subst r_21
          refine lv_if_ne (tgt := 86) hx hb dX5_takesOrder_81 (by decide) (fun c_24 => ?_) (fun c_24 => ?_)
          · skip
            have c_24 := z_b1 c_24
            refine lv_iinc (v := nI (j + 1)) (lv' := [(3, .int (nI (j + 1))), (2, .int (mOf (chF bt ln pn))), (0, .ref oM)]) hx hb dX5_takesOrder_86 hl (k := 0) rfl (z_add rfl rfl) (by decide) rfl (fun ls hl => ?_)
            refine lv_goto (tgt := 49) hx hb dX5_takesOrder_89 (by decide) ?_
            exact ih _ (by omega) wn (j + 1) pn2_18 nb2_20 wa2_19 _ _ _ rfl hwn hmn hw4 (by omega) hq_23.2.2.2.1 (by have e : (hpF (chF bt ln pn) && decide (j < 2)) = false := hp_f2 (by omega); rw [hinv, ns_ok (by omega) (by rw [e]; exact c_24), e, ← hq_23.1, hq_23.2.1 c_24, nu_upd]) (fun q h => (hq_23.2.2.2.2 q (by omega)).trans (hfr q h)) hP hD hS (lv_sub hl [0, 1, 2] rfl)
          · skip
            have c_24 := z_b0 c_24
            refine lv_iconst (v := 0) hx hb dX5_takesOrder_84 (by decide) ?_
            exact hQ 0 (pn2_18, on, wa2_19, upd lt on (chF bt ln pn), nb2_20) _ _ _ _ (rfl) (by have e1 : (hpF (chF bt ln pn) && decide (j < 2)) = false := hp_f2 (by omega); have e2 := hinv; rw [ns_bad (by omega) (by rw [e1]; exact c_24), e1, ← hq_23.1] at e2; have e := od_ind bt ln pn (fun i => nb (4 * on + i)); rw [od_b2 hwn hw4 e2] at e; exact ⟨by rw [← e.1]; rfl, hq_23.2.2.2.1, fun h => by rw [← e.1] at h; exact Bool.noConfusion h, fun _ => by rw [← e.2.1]; exact hq_23.2.2.1 c_24, fun q h => (hq_23.2.2.2.2 q (by omega)).trans (hfr q h)⟩) hP hD hS dX5_takesOrder_85
        · skip
          have c_17 := (z_len (a := 2) (b := j) rfl rfl (by omega) (by omega)).mp c_17
          refine lv_iconst (v := 1) hx hb dX5_takesOrder_73 (by decide) ?_
          refine lv_goto (tgt := 78) hx hb dX5_takesOrder_74 (by decide) ?_
          refine z_VI (n := 2) (wn := (fun u : Nat × Int32 × (Nat → Int32) => [(oM, .inr (5, [.ref mN, .ref mA, .ref mP, .int (nI ks), .ref mR, .ref mT, .int (nI ln), .long x1, .long x2, .long x3, .long x4, .long y1, .long y2, .long y3, .long y4, .ref mL, .ref mB, .int (nI on), .int (nI u.1), .int u.2.1, .long hs])), (mT, .inl (cI, 150, .inl tx)), (mL, .inl (cI, 75, .inl (upd lt on (chF bt ln pn)))), (mB, .inl (cI, 300, .inl u.2.2))])) (wr := [(mL, .inl (cI, 75, .inl (upd lt on (chF bt ln pn))))]) (As := [.int (nI (4 * on + j)), .int 1]) (rest := []) ⟨hx, hb, hml, hown, hts⟩ hK hP hD hS hA hT (kX5_takesNumber l D cI cB tE tN oM mN mA mP mR mT mL mB ks ln x1 x2 x3 x4 y1 y2 y3 y4 (nI on) wa1 hs tx bt n nb1 (4 * on + j) true _ (hln) (hTx) (hn) (by omega)) gX5_takesOrder_X5_takesNumber rfl rfl rfl (by decide +kernel) ⟨Nat.le_of_ble_eq_true rfl, Nat.le_of_ble_eq_true rfl⟩ [0, 1, 3] [2] [1, 2, 0, 3] (by decide) rfl rfl (by decide) (by decide) (by decide) (fun u => rfl) 0 5 rfl rfl rfl rfl hl.1 rfl (Nat.le_of_ble_eq_true rfl) dX5_takesOrder_78 ⟨Nat.le_of_ble_eq_true rfl, Nat.le_of_ble_eq_true rfl⟩ (fun r_28 u H locs hw_29 hP hD hS => ?_)
          obtain ⟨pn2_25, wa2_26, nb2_27⟩ := u
          try dsimp only at hw_29
          have hP : va_P D vwCl [(oM, .inr (5, [.ref mN, .ref mA, .ref mP, .int (nI ks), .ref mR, .ref mT, .int (nI ln), .long x1, .long x2, .long x3, .long x4, .long y1, .long y2, .long y3, .long y4, .ref mL, .ref mB, .int (nI on), .int (nI pn2_25), .int wa2_26, .long hs])), (mT, .inl (cI, 150, .inl tx)), (mL, .inl (cI, 75, .inl (upd lt on (chF bt ln pn)))), (mB, .inl (cI, 300, .inl nb2_27))] H := hP
          have hD : va_D A [(oM, .inr (5, [.ref mN, .ref mA, .ref mP, .int (nI ks), .ref mR, .ref mT, .int (nI ln), .long x1, .long x2, .long x3, .long x4, .long y1, .long y2, .long y3, .long y4, .ref mL, .ref mB, .int (nI on), .int (nI pn2_25), .int wa2_26, .long hs])), (mT, .inl (cI, 150, .inl tx)), (mL, .inl (cI, 75, .inl (upd lt on (chF bt ln pn)))), (mB, .inl (cI, 300, .inl nb2_27))] := hD
          obtain ⟨hw_29, hq_30⟩ := hw_29
          subst r_28
          refine lv_if_ne (tgt := 86) hx hb dX5_takesOrder_81 (by decide) (fun c_31 => ?_) (fun c_31 => ?_)
          · skip
            have c_31 := z_b1 c_31
            refine lv_iinc (v := nI (j + 1)) (lv' := [(3, .int (nI (j + 1))), (2, .int (mOf (chF bt ln pn))), (0, .ref oM)]) hx hb dX5_takesOrder_86 hl (k := 0) rfl (z_add rfl rfl) (by decide) rfl (fun ls hl => ?_)
            refine lv_goto (tgt := 49) hx hb dX5_takesOrder_89 (by decide) ?_
            exact ih _ (by omega) wn (j + 1) pn2_25 nb2_27 wa2_26 _ _ _ rfl hwn hmn hw4 (by omega) hq_30.2.2.2.1 (by have e : (hpF (chF bt ln pn) && decide (j < 2)) = true := hp_t hwn hw4 c_9 (by omega); rw [hinv, ns_ok (by omega) (by rw [e]; exact c_31), e, ← hq_30.1, hq_30.2.1 c_31, nu_upd]) (fun q h => (hq_30.2.2.2.2 q (by omega)).trans (hfr q h)) hP hD hS (lv_sub hl [0, 1, 2] rfl)
          · skip
            have c_31 := z_b0 c_31
            refine lv_iconst (v := 0) hx hb dX5_takesOrder_84 (by decide) ?_
            exact hQ 0 (pn2_25, on, wa2_26, upd lt on (chF bt ln pn), nb2_27) _ _ _ _ (rfl) (by have e1 : (hpF (chF bt ln pn) && decide (j < 2)) = true := hp_t hwn hw4 c_9 (by omega); have e2 := hinv; rw [ns_bad (by omega) (by rw [e1]; exact c_31), e1, ← hq_30.1] at e2; have e := od_ind bt ln pn (fun i => nb (4 * on + i)); rw [od_b2 hwn hw4 e2] at e; exact ⟨by rw [← e.1]; rfl, hq_30.2.2.2.1, fun h => by rw [← e.1] at h; exact Bool.noConfusion h, fun _ => by rw [← e.2.1]; exact hq_30.2.2.1 c_31, fun q h => (hq_30.2.2.2.2 q (by omega)).trans (hfr q h)⟩) hP hD hS dX5_takesOrder_85
  refine lv_aload_n hx hb dX5_takesOrder_0 rfl (lv_at hl 0 rfl) ?_
  refine va_get (D := D) (ci := 5) (v := .ref mT) (C := RX5) (T := TX5) (N := 21) hx hb hts N5 hown hK hP 0 rfl rfl 5 (by decide) L22 (fun _ h9 => h9) rfl dX5_takesOrder_1 ?_
  refine lv_aload_n hx hb dX5_takesOrder_4 rfl (lv_at hl 0 rfl) ?_
  refine va_get (D := D) (ci := 5) (v := .int (nI pn)) (C := RX5) (T := TX5) (N := 21) hx hb hts N5 hown hK hP 0 rfl rfl 18 (by decide) L212 (fun _ h9 => h9) rfl dX5_takesOrder_5 ?_
  refine z_ild (v := chF bt ln pn) (j := pn) hx hb hK hP 1 rfl rfl (by omega) (by decide) ((hTx _ hpl).trans (ch_in hpl).symm) dX5_takesOrder_8 ?_
  refine lv_istore_n (lv' := [(1, .int (chF bt ln pn)), (0, .ref oM)]) hx hb dX5_takesOrder_9 rfl hl (by decide) rfl (fun ls hl => ?_)
  refine lv_iload_n hx hb dX5_takesOrder_10 rfl (lv_at hl 0 rfl) ?_
  refine z_SI (n := 1) (wn := (fun u : Unit => [(oM, .inr (5, [.ref mN, .ref mA, .ref mP, .int (nI ks), .ref mR, .ref mT, .int (nI ln), .long x1, .long x2, .long x3, .long x4, .long y1, .long y2, .long y3, .long y4, .ref mL, .ref mB, .int (nI on), .int (nI pn), .int wa, .long hs])), (mT, .inl (cI, 150, .inl tx)), (mL, .inl (cI, 75, .inl lt)), (mB, .inl (cI, 300, .inl nb))])) (wr := [(oM, .inr (5, [.ref mN, .ref mA, .ref mP, .int (nI ks), .ref mR, .ref mT, .int (nI ln), .long x1, .long x2, .long x3, .long x4, .long y1, .long y2, .long y3, .long y4, .ref mL, .ref mB, .int (nI on), .int (nI pn), .int wa, .long hs])), (mT, .inl (cI, 150, .inl tx)), (mL, .inl (cI, 75, .inl lt)), (mB, .inl (cI, 300, .inl nb))]) (As := [.int (chF bt ln pn)]) (rest := []) ⟨hx, hb, hml, hown, hts⟩ hK hP hD hS hA hT (kX5_manyOf l D cI cB tE tN (chF bt ln pn) _ ) gX5_takesOrder_X5_manyOf rfl rfl rfl (by decide +kernel) ⟨Nat.le_of_ble_eq_true rfl, Nat.le_of_ble_eq_true rfl⟩ [] [0, 1, 2, 3] [0, 1, 2, 3] (by decide) rfl rfl (by decide) (by decide) (by decide) (fun u => rfl) rfl hl.1 rfl (Nat.le_of_ble_eq_true rfl) dX5_takesOrder_11 ⟨Nat.le_of_ble_eq_true rfl, Nat.le_of_ble_eq_true rfl⟩ (fun r_32 u H locs hw_33 hP hD hS => ?_)
  try dsimp only at hw_33
  have hP : va_P D vwCl [(oM, .inr (5, [.ref mN, .ref mA, .ref mP, .int (nI ks), .ref mR, .ref mT, .int (nI ln), .long x1, .long x2, .long x3, .long x4, .long y1, .long y2, .long y3, .long y4, .ref mL, .ref mB, .int (nI on), .int (nI pn), .int wa, .long hs])), (mT, .inl (cI, 150, .inl tx)), (mL, .inl (cI, 75, .inl lt)), (mB, .inl (cI, 300, .inl nb))] H := hP
  have hD : va_D A [(oM, .inr (5, [.ref mN, .ref mA, .ref mP, .int (nI ks), .ref mR, .ref mT, .int (nI ln), .long x1, .long x2, .long x3, .long x4, .long y1, .long y2, .long y3, .long y4, .ref mL, .ref mB, .int (nI on), .int (nI pn), .int wa, .long hs])), (mT, .inl (cI, 150, .inl tx)), (mL, .inl (cI, 75, .inl lt)), (mB, .inl (cI, 300, .inl nb))] := hD
  subst r_32
  refine lv_istore_n (lv' := [(2, .int (mOf (chF bt ln pn))), (1, .int (chF bt ln pn)), (0, .ref oM)]) hx hb dX5_takesOrder_14 rfl hl (by decide) rfl (fun ls hl => ?_)
  refine lv_iload_n hx hb dX5_takesOrder_15 rfl (lv_at hl 0 rfl) ?_
  refine lv_sipush (v := (-10001)) hx hb dX5_takesOrder_16 (by decide) ?_
  refine lv_icmp_ne (tgt := 27) hx hb dX5_takesOrder_19 (by decide) (fun c_34 => ?_) (fun c_34 => ?_)
  · skip
    obtain ⟨wn, hwn, hmn, hw4⟩ := mOf_nat c_34
    refine lv_aload_n hx hb dX5_takesOrder_27 rfl (lv_at hl 2 rfl) ?_
    refine va_get (D := D) (ci := 5) (v := .ref mL) (C := RX5) (T := TX5) (N := 21) hx hb hts N5 hown hK hP 0 rfl rfl 15 (by decide) L25 (fun _ h9 => h9) rfl dX5_takesOrder_28 ?_
    refine lv_aload_n hx hb dX5_takesOrder_31 rfl (lv_at hl 2 rfl) ?_
    refine va_get (D := D) (ci := 5) (v := .int (nI on)) (C := RX5) (T := TX5) (N := 21) hx hb hts N5 hown hK hP 0 rfl rfl 17 (by decide) L230 (fun _ h9 => h9) rfl dX5_takesOrder_32 ?_
    refine lv_iload_n hx hb dX5_takesOrder_35 rfl (lv_at hl 1 rfl) ?_
    refine z_ist (j := on) hx hb hK hP hD hS 2 rfl rfl (by omega) (by decide) dX5_takesOrder_36 (fun H locs hP hD hS => ?_)
    have hP : va_P D vwCl [(oM, .inr (5, [.ref mN, .ref mA, .ref mP, .int (nI ks), .ref mR, .ref mT, .int (nI ln), .long x1, .long x2, .long x3, .long x4, .long y1, .long y2, .long y3, .long y4, .ref mL, .ref mB, .int (nI on), .int (nI pn), .int wa, .long hs])), (mT, .inl (cI, 150, .inl tx)), (mL, .inl (cI, 75, .inl (upd lt on (chF bt ln pn)))), (mB, .inl (cI, 300, .inl nb))] H := hP
    have hD : va_D A [(oM, .inr (5, [.ref mN, .ref mA, .ref mP, .int (nI ks), .ref mR, .ref mT, .int (nI ln), .long x1, .long x2, .long x3, .long x4, .long y1, .long y2, .long y3, .long y4, .ref mL, .ref mB, .int (nI on), .int (nI pn), .int wa, .long hs])), (mT, .inl (cI, 150, .inl tx)), (mL, .inl (cI, 75, .inl (upd lt on (chF bt ln pn)))), (mB, .inl (cI, 300, .inl nb))] := hD
    refine lv_aload_n hx hb dX5_takesOrder_37 rfl (lv_at hl 2 rfl) ?_
    refine lv_dup hx hb dX5_takesOrder_38 rfl ?_
    refine va_get (D := D) (ci := 5) (v := .int (nI pn)) (C := RX5) (T := TX5) (N := 21) hx hb hts N5 hown hK hP 0 rfl rfl 18 (by decide) L212 (fun _ h9 => h9) rfl dX5_takesOrder_39 ?_
    refine lv_iconst (v := 1) hx hb dX5_takesOrder_42 (by decide) ?_
    refine lv_iadd hx hb dX5_takesOrder_43 ?_
    refine z_topi (x := (nI pn) + 1) (y := nI (pn + 1)) (z_add rfl rfl) ?_
    refine va_put (D := D) (ci := 5) (v := .int (nI (pn + 1))) (ty := .int) (C := RX5) (T := TX5) (N := 21) hx hb hts N5 tyX5 tyX5_ok nmX5 hown hK hP hD hS 0 rfl rfl 18 (by decide) L212 (fun _ h9 => h9) rfl (by decide +kernel) rfl rfl (Nat.le_of_ble_eq_true rfl) dX5_takesOrder_44 (fun H locs hP hD hS => ?_)
    have hP : va_P D vwCl [(oM, .inr (5, [.ref mN, .ref mA, .ref mP, .int (nI ks), .ref mR, .ref mT, .int (nI ln), .long x1, .long x2, .long x3, .long x4, .long y1, .long y2, .long y3, .long y4, .ref mL, .ref mB, .int (nI on), .int (nI (pn + 1)), .int wa, .long hs])), (mT, .inl (cI, 150, .inl tx)), (mL, .inl (cI, 75, .inl (upd lt on (chF bt ln pn)))), (mB, .inl (cI, 300, .inl nb))] H := hP
    have hD : va_D A [(oM, .inr (5, [.ref mN, .ref mA, .ref mP, .int (nI ks), .ref mR, .ref mT, .int (nI ln), .long x1, .long x2, .long x3, .long x4, .long y1, .long y2, .long y3, .long y4, .ref mL, .ref mB, .int (nI on), .int (nI (pn + 1)), .int wa, .long hs])), (mT, .inl (cI, 150, .inl tx)), (mL, .inl (cI, 75, .inl (upd lt on (chF bt ln pn)))), (mB, .inl (cI, 300, .inl nb))] := hD
    refine lv_iconst (v := 0) hx hb dX5_takesOrder_47 (by decide) ?_
    refine lv_istore_n (lv' := [(3, .int 0), (2, .int (mOf (chF bt ln pn))), (1, .int (chF bt ln pn)), (0, .ref oM)]) hx hb dX5_takesOrder_48 rfl hl (by decide) rfl (fun ls hl => ?_)
    exact lp49 _ wn 0 (pn + 1) nb wa _ _ _ rfl hwn hmn hw4 (by omega) (by omega) rfl (fun q h => rfl) hP hD hS (lv_sub hl [0, 1, 3] rfl)
  · skip
    refine lv_aload_n hx hb dX5_takesOrder_22 rfl (lv_at hl 2 rfl) ?_
    refine z_VI (n := 0) (wn := (fun u : Unit => [(oM, .inr (5, [.ref mN, .ref mA, .ref mP, .int (nI ks), .ref mR, .ref mT, .int (nI ln), .long x1, .long x2, .long x3, .long x4, .long y1, .long y2, .long y3, .long y4, .ref mL, .ref mB, .int (nI on), .int (nI pn), .int (nI pn), .long hs])), (mT, .inl (cI, 150, .inl tx)), (mL, .inl (cI, 75, .inl lt)), (mB, .inl (cI, 300, .inl nb))])) (wr := [(mT, .inl (cI, 150, .inl tx)), (mL, .inl (cI, 75, .inl lt)), (mB, .inl (cI, 300, .inl nb))]) (As := []) (rest := []) ⟨hx, hb, hml, hown, hts⟩ hK hP hD hS hA hT (kX5_fails l D cI cB tE tN oM mN mA mP mR mT mL mB ks ln x1 x2 x3 x4 y1 y2 y3 y4 (nI on) (nI pn) wa hs _ ) gX5_takesOrder_X5_fails rfl rfl rfl (by decide +kernel) ⟨Nat.le_of_ble_eq_true rfl, Nat.le_of_ble_eq_true rfl⟩ [0] [1, 2, 3] [3, 0, 1, 2] (by decide) rfl rfl (by decide) (by decide) (by decide) (fun u => rfl) 0 5 rfl rfl rfl rfl hl.1 rfl (Nat.le_of_ble_eq_true rfl) dX5_takesOrder_23 ⟨Nat.le_of_ble_eq_true rfl, Nat.le_of_ble_eq_true rfl⟩ (fun r_35 u H locs hw_36 hP hD hS => ?_)
    try dsimp only at hw_36
    have hP : va_P D vwCl [(oM, .inr (5, [.ref mN, .ref mA, .ref mP, .int (nI ks), .ref mR, .ref mT, .int (nI ln), .long x1, .long x2, .long x3, .long x4, .long y1, .long y2, .long y3, .long y4, .ref mL, .ref mB, .int (nI on), .int (nI pn), .int (nI pn), .long hs])), (mT, .inl (cI, 150, .inl tx)), (mL, .inl (cI, 75, .inl lt)), (mB, .inl (cI, 300, .inl nb))] H := hP
    have hD : va_D A [(oM, .inr (5, [.ref mN, .ref mA, .ref mP, .int (nI ks), .ref mR, .ref mT, .int (nI ln), .long x1, .long x2, .long x3, .long x4, .long y1, .long y2, .long y3, .long y4, .ref mL, .ref mB, .int (nI on), .int (nI pn), .int (nI pn), .long hs])), (mT, .inl (cI, 150, .inl tx)), (mL, .inl (cI, 75, .inl lt)), (mB, .inl (cI, 300, .inl nb))] := hD
    subst r_35
    exact hQ (b2i false) (pn, on, (nI pn), lt, nb) _ _ _ _ (z_nb _) (by have e := od_ind bt ln pn (fun i => nb (4 * on + i)); rw [od_b1 (mOf_neg c_34)] at e; exact ⟨by rw [← e.1], by omega, fun h => by rw [← e.1] at h; exact Bool.noConfusion h, fun _ => by rw [← e.2.1], fun q h => rfl⟩) hP hD hS dX5_takesOrder_26

set_option maxHeartbeats 4000000 in
set_option maxRecDepth 100000 in
theorem kX5_isRead (l : Launch) (D : va_G) (cI cB : ClassId) (tE tN : Nat) (oM : Nat) (mN : Nat) (mA : Nat) (mP : Nat) (mR : Nat) (mT : Nat) (mL : Nat) (mB : Nat) (ks : Nat) (ln : Nat) (x1 : Int64) (x2 : Int64) (x3 : Int64) (x4 : Int64) (y1 : Int64) (y2 : Int64) (y3 : Int64) (y4 : Int64) (od : Int32) (spt : Int32) (wa : Int32) (hs : Int64) (tx : Nat → Int32) (bt : Nat → Int32) (lt : Nat → Int32) (nb : Nat → Int32) (sz : Nat) (hln : ln ≤ 150) (hTx : ∀ j, j < ln → tx j = bt j) : zI l yX5_isRead wsX5_isRead ({ frames := 5, cells := 0, slots := 0, locals := 112 }) D cI cB tE tN [.ref oM] [(oM, .inr (5, [.ref mN, .ref mA, .ref mP, .int (nI ks), .ref mR, .ref mT, .int (nI ln), .long x1, .long x2, .long x3, .long x4, .long y1, .long y2, .long y3, .long y4, .ref mL, .ref mB, .int od, .int spt, .int wa, .long hs])), (mT, .inl (cI, 150, .inl tx)), (mL, .inl (cI, 75, .inl lt)), (mB, .inl (cI, 300, .inl nb))] sz (fun u : Nat × Nat × Int32 × (Nat → Int32) × (Nat → Int32) => [(oM, .inr (5, [.ref mN, .ref mA, .ref mP, .int (nI ks), .ref mR, .ref mT, .int (nI ln), .long x1, .long x2, .long x3, .long x4, .long y1, .long y2, .long y3, .long y4, .ref mL, .ref mB, .int (nI u.2.1), .int (nI u.1), .int u.2.2.1, .long hs])), (mT, .inl (cI, 150, .inl tx)), (mL, .inl (cI, 75, .inl u.2.2.2.1)), (mB, .inl (cI, 300, .inl u.2.2.2.2))]) (fun (r : Int32) (u : Nat × Nat × Int32 × (Nat → Int32) × (Nat → Int32)) => (r = b2i false ∧ ¬ cFault bt ln < 0 ∧ u.2.2.1 = cFault bt ln) ∨ (r = b2i true ∧ cFault bt ln < 0 ∧ PO bt ln u.2.1 u.2.2.2.1 u.2.2.2.2)) 0 0 := by
  refine zI_mk (cc := cX5_isRead) (maxL := 1) (rt := .boolean) (by decide) rfl (Nat.le_of_ble_eq_true rfl) ?_
  intro p e s m below meth c A Q ls S0 hname hA hK hP hD hT hS hQ hl
  obtain ⟨hx, hb, hml, hown, hts⟩ := id S0
  have hl : lv_has ls 1 [(0, .ref oM)] := hl
  have L212 : (Cond.fieldLink RX5 212 "PastAndClearModel" "spot" "I").before ([.ref oM] : List Value).toArray s = true := hts (.fieldLink RX5 212 "PastAndClearModel" "spot" "I") (by decide +kernel)
  have N5 : ∀ w ∈ u_ws RX5 TX5 21, w ∈ wsX5_isRead := by decide +kernel
  have L209 : (Cond.fieldLink RX5 209 "PastAndClearModel" "bytes" "I").before ([.ref oM] : List Value).toArray s = true := hts (.fieldLink RX5 209 "PastAndClearModel" "bytes" "I") (by decide +kernel)
  have L230 : (Cond.fieldLink RX5 230 "PastAndClearModel" "orders" "I").before ([.ref oM] : List Value).toArray s = true := hts (.fieldLink RX5 230 "PastAndClearModel" "orders" "I") (by decide +kernel)
  have lp14 : ∀ (k : Nat) (t : Nat) (n : Nat) (wa1 : Int32) (lt1 : Nat → Int32) (nb1 : Nat → Int32) (H : Heap) (locs : List Loc) (ls : Array Slot), ln - n = k → (2 * t ≤ n) → (n ≤ ln) → (n = posF bt ln t) → (∀ i, i < t → PO1 bt ln i lt1 nb1) → (sk bt ln 0 < ln → cFault bt ln = flF bt ln (75 - t) (posF bt ln t)) → va_P D vwCl [(oM, .inr (5, [.ref mN, .ref mA, .ref mP, .int (nI ks), .ref mR, .ref mT, .int (nI ln), .long x1, .long x2, .long x3, .long x4, .long y1, .long y2, .long y3, .long y4, .ref mL, .ref mB, .int (nI t), .int (nI n), .int wa1, .long hs])), (mT, .inl (cI, 150, .inl tx)), (mL, .inl (cI, 75, .inl lt1)), (mB, .inl (cI, 300, .inl nb1))] H → va_D A [(oM, .inr (5, [.ref mN, .ref mA, .ref mP, .int (nI ks), .ref mR, .ref mT, .int (nI ln), .long x1, .long x2, .long x3, .long x4, .long y1, .long y2, .long y3, .long y4, .ref mL, .ref mB, .int (nI t), .int (nI n), .int wa1, .long hs])), (mT, .inl (cI, 150, .inl tx)), (mL, .inl (cI, 75, .inl lt1)), (mB, .inl (cI, 300, .inl nb1))] → va_S A s.heap H locs → lv_has ls 1 [(0, .ref oM)] → W p l e ({ frames := 5, cells := 0, slots := 0, locals := 112 } : Room) s m ([.ref oM] : List Value).toArray below meth c H locs 0 0 Q (F0 m 14 ls []) := by
    intro k
    induction k using Nat.strongRecOn with
    | ind k ih =>
    intro t n wa1 lt1 nb1 H locs ls hk h2t hn hpos hpo hfl hP hD hS hl
    refine lv_aload_n hx hb dX5_isRead_14 rfl (lv_at hl 0 rfl) ?_
    refine va_get (D := D) (ci := 5) (v := .int (nI n)) (C := RX5) (T := TX5) (N := 21) hx hb hts N5 hown hK hP 0 rfl rfl 18 (by decide) L212 (fun _ h9 => h9) rfl dX5_isRead_15 ?_
    refine lv_aload_n hx hb dX5_isRead_18 rfl (lv_at hl 0 rfl) ?_
    refine va_get (D := D) (ci := 5) (v := .int (nI ln)) (C := RX5) (T := TX5) (N := 21) hx hb hts N5 hown hK hP 0 rfl rfl 6 (by decide) L209 (fun _ h9 => h9) rfl dX5_isRead_19 ?_
    refine lv_icmp_ge (tgt := 41) hx hb dX5_isRead_22 (by decide) (fun c_1 => ?_) (fun c_1 => ?_)
    · skip
      have c_1 := (z_le (a := ln) (b := n) rfl rfl (by omega) (by omega)).mp c_1
      refine lv_aload_n hx hb dX5_isRead_41 rfl (lv_at hl 0 rfl) ?_
      refine va_get (D := D) (ci := 5) (v := .int (nI t)) (C := RX5) (T := TX5) (N := 21) hx hb hts N5 hown hK hP 0 rfl rfl 17 (by decide) L230 (fun _ h9 => h9) rfl dX5_isRead_42 ?_
      refine lv_if_gt (tgt := 55) hx hb dX5_isRead_45 (by decide) (fun c_2 => ?_) (fun c_2 => ?_)
      · skip
        have c_2 := (z_lt (a := 0) (b := t) rfl rfl (by omega) (by omega)).mp c_2
        refine lv_iconst (v := 1) hx hb dX5_isRead_55 (by decide) ?_
        refine lv_goto (tgt := 60) hx hb dX5_isRead_56 (by decide) ?_
        exact hQ 1 (n, t, wa1, lt1, nb1) _ _ _ _ (rfl) (rd_all (t := t) hpos hfl hpo (by omega) (by omega) (by omega)) hP hD hS dX5_isRead_60
      · skip
        have c_2 := (z_ltn (a := 0) (b := t) rfl rfl (by omega) (by omega)).mp c_2
        refine lv_aload_n hx hb dX5_isRead_48 rfl (lv_at hl 0 rfl) ?_
        refine z_VI (n := 0) (wn := (fun u : Unit => [(oM, .inr (5, [.ref mN, .ref mA, .ref mP, .int (nI ks), .ref mR, .ref mT, .int (nI ln), .long x1, .long x2, .long x3, .long x4, .long y1, .long y2, .long y3, .long y4, .ref mL, .ref mB, .int (nI t), .int (nI n), .int (nI n), .long hs])), (mT, .inl (cI, 150, .inl tx)), (mL, .inl (cI, 75, .inl lt1)), (mB, .inl (cI, 300, .inl nb1))])) (wr := [(mT, .inl (cI, 150, .inl tx)), (mL, .inl (cI, 75, .inl lt1)), (mB, .inl (cI, 300, .inl nb1))]) (As := []) (rest := []) ⟨hx, hb, hml, hown, hts⟩ hK hP hD hS hA hT (kX5_fails l D cI cB tE tN oM mN mA mP mR mT mL mB ks ln x1 x2 x3 x4 y1 y2 y3 y4 (nI t) (nI n) wa1 hs _ ) gX5_isRead_X5_fails rfl rfl rfl (by decide +kernel) ⟨Nat.le_of_ble_eq_true rfl, Nat.le_of_ble_eq_true rfl⟩ [0] [1, 2, 3] [3, 0, 1, 2] (by decide) rfl rfl (by decide) (by decide) (by decide) (fun u => rfl) 0 5 rfl rfl rfl rfl hl.1 rfl (Nat.le_of_ble_eq_true rfl) dX5_isRead_49 ⟨Nat.le_of_ble_eq_true rfl, Nat.le_of_ble_eq_true rfl⟩ (fun r_3 u H locs hw_4 hP hD hS => ?_)
        try dsimp only at hw_4
        have hP : va_P D vwCl [(oM, .inr (5, [.ref mN, .ref mA, .ref mP, .int (nI ks), .ref mR, .ref mT, .int (nI ln), .long x1, .long x2, .long x3, .long x4, .long y1, .long y2, .long y3, .long y4, .ref mL, .ref mB, .int (nI t), .int (nI n), .int (nI n), .long hs])), (mT, .inl (cI, 150, .inl tx)), (mL, .inl (cI, 75, .inl lt1)), (mB, .inl (cI, 300, .inl nb1))] H := hP
        have hD : va_D A [(oM, .inr (5, [.ref mN, .ref mA, .ref mP, .int (nI ks), .ref mR, .ref mT, .int (nI ln), .long x1, .long x2, .long x3, .long x4, .long y1, .long y2, .long y3, .long y4, .ref mL, .ref mB, .int (nI t), .int (nI n), .int (nI n), .long hs])), (mT, .inl (cI, 150, .inl tx)), (mL, .inl (cI, 75, .inl lt1)), (mB, .inl (cI, 300, .inl nb1))] := hD
        subst r_3
        refine lv_if_eq (tgt := 59) hx hb dX5_isRead_52 (by decide) (fun c_5 => ?_) (fun c_5 => ?_)
        · skip
          have c_5 := z_b0 c_5
          refine lv_iconst (v := 0) hx hb dX5_isRead_59 (by decide) ?_
          exact hQ 0 (n, t, (nI n), lt1, nb1) _ _ _ _ (rfl) (rd_none hpos (by omega) hn (by omega) hln) hP hD hS dX5_isRead_60
        · skip
          have c_5 := z_b1 c_5
          exact Bool.noConfusion c_5
    · skip
      have c_1 := (z_len (a := ln) (b := n) rfl rfl (by omega) (by omega)).mp c_1
      have hlt : n < ln := c_1
      refine lv_aload_n hx hb dX5_isRead_25 rfl (lv_at hl 0 rfl) ?_
      refine z_VI (n := 0) (wn := (fun u : Nat × Nat × Int32 × (Nat → Int32) × (Nat → Int32) => [(oM, .inr (5, [.ref mN, .ref mA, .ref mP, .int (nI ks), .ref mR, .ref mT, .int (nI ln), .long x1, .long x2, .long x3, .long x4, .long y1, .long y2, .long y3, .long y4, .ref mL, .ref mB, .int (nI u.2.1), .int (nI u.1), .int u.2.2.1, .long hs])), (mT, .inl (cI, 150, .inl tx)), (mL, .inl (cI, 75, .inl u.2.2.2.1)), (mB, .inl (cI, 300, .inl u.2.2.2.2))])) (wr := []) (As := []) (rest := []) ⟨hx, hb, hml, hown, hts⟩ hK hP hD hS hA hT (kX5_takesOrder l D cI cB tE tN oM mN mA mP mR mT mL mB ks ln x1 x2 x3 x4 y1 y2 y3 y4 wa1 hs tx bt lt1 nb1 n t _ (by omega) (hTx) (hlt) (by omega)) gX5_isRead_X5_takesOrder rfl rfl rfl (by decide +kernel) ⟨Nat.le_of_ble_eq_true rfl, Nat.le_of_ble_eq_true rfl⟩ [0, 1, 2, 3] [] [0, 1, 2, 3] (by decide) rfl rfl (by decide) (by decide) (by decide) (fun u => rfl) 0 5 rfl rfl rfl rfl hl.1 rfl (Nat.le_of_ble_eq_true rfl) dX5_isRead_26 ⟨Nat.le_of_ble_eq_true rfl, Nat.le_of_ble_eq_true rfl⟩ (fun r_11 u H locs hw_12 hP hD hS => ?_)
      obtain ⟨pn2_6, on2_7, wa2_8, lt2_9, nb2_10⟩ := u
      try dsimp only at hw_12
      have hP : va_P D vwCl [(oM, .inr (5, [.ref mN, .ref mA, .ref mP, .int (nI ks), .ref mR, .ref mT, .int (nI ln), .long x1, .long x2, .long x3, .long x4, .long y1, .long y2, .long y3, .long y4, .ref mL, .ref mB, .int (nI on2_7), .int (nI pn2_6), .int wa2_8, .long hs])), (mT, .inl (cI, 150, .inl tx)), (mL, .inl (cI, 75, .inl lt2_9)), (mB, .inl (cI, 300, .inl nb2_10))] H := hP
      have hD : va_D A [(oM, .inr (5, [.ref mN, .ref mA, .ref mP, .int (nI ks), .ref mR, .ref mT, .int (nI ln), .long x1, .long x2, .long x3, .long x4, .long y1, .long y2, .long y3, .long y4, .ref mL, .ref mB, .int (nI on2_7), .int (nI pn2_6), .int wa2_8, .long hs])), (mT, .inl (cI, 150, .inl tx)), (mL, .inl (cI, 75, .inl lt2_9)), (mB, .inl (cI, 300, .inl nb2_10))] := hD
      obtain ⟨hw_12, hq_13⟩ := hw_12
      subst r_11
      refine lv_if_ne (tgt := 34) hx hb dX5_isRead_29 (by decide) (fun c_14 => ?_) (fun c_14 => ?_)
      · skip
        have c_14 := z_b1 c_14
        obtain ⟨hsk9, hon9, hlt9, hnb9⟩ := hq_13.2.1 c_14
        subst hon9
        refine lv_aload_n hx hb dX5_isRead_34 rfl (lv_at hl 0 rfl) ?_
        refine z_VV (n := 0) (wn := (fun u : Unit => [(oM, .inr (5, [.ref mN, .ref mA, .ref mP, .int (nI ks), .ref mR, .ref mT, .int (nI ln), .long x1, .long x2, .long x3, .long x4, .long y1, .long y2, .long y3, .long y4, .ref mL, .ref mB, .int (nI (t + 1)), .int (nI (sk bt ln pn2_6)), .int wa2_8, .long hs])), (mT, .inl (cI, 150, .inl tx)), (mL, .inl (cI, 75, .inl lt2_9)), (mB, .inl (cI, 300, .inl nb2_10))])) (wr := [(mL, .inl (cI, 75, .inl lt2_9)), (mB, .inl (cI, 300, .inl nb2_10))]) (As := []) (rest := []) ⟨hx, hb, hml, hown, hts⟩ hK hP hD hS hA hT (kX5_blanks l D cI cB tE tN oM mN mA mP mR mT mL mB ks ln x1 x2 x3 x4 y1 y2 y3 y4 (nI (t + 1)) wa2_8 hs tx bt pn2_6 _ (by omega) (hTx) (hq_13.1)) gX5_isRead_X5_blanks rfl rfl rfl (by decide +kernel) ⟨Nat.le_of_ble_eq_true rfl, Nat.le_of_ble_eq_true rfl⟩ [0, 1] [2, 3] [2, 3, 0, 1] (by decide) rfl rfl (by decide) (by decide) (by decide) (fun u => rfl) 0 5 rfl rfl rfl rfl hl.1 rfl (Nat.le_of_ble_eq_true rfl) dX5_isRead_35 ⟨Nat.le_of_ble_eq_true rfl, Nat.le_of_ble_eq_true rfl⟩ (fun u H locs hw_16 hP hD hS => ?_)
        try dsimp only at hw_16
        have hP : va_P D vwCl [(oM, .inr (5, [.ref mN, .ref mA, .ref mP, .int (nI ks), .ref mR, .ref mT, .int (nI ln), .long x1, .long x2, .long x3, .long x4, .long y1, .long y2, .long y3, .long y4, .ref mL, .ref mB, .int (nI (t + 1)), .int (nI (sk bt ln pn2_6)), .int wa2_8, .long hs])), (mT, .inl (cI, 150, .inl tx)), (mL, .inl (cI, 75, .inl lt2_9)), (mB, .inl (cI, 300, .inl nb2_10))] H := hP
        have hD : va_D A [(oM, .inr (5, [.ref mN, .ref mA, .ref mP, .int (nI ks), .ref mR, .ref mT, .int (nI ln), .long x1, .long x2, .long x3, .long x4, .long y1, .long y2, .long y3, .long y4, .ref mL, .ref mB, .int (nI (t + 1)), .int (nI (sk bt ln pn2_6)), .int wa2_8, .long hs])), (mT, .inl (cI, 150, .inl tx)), (mL, .inl (cI, 75, .inl lt2_9)), (mB, .inl (cI, 300, .inl nb2_10))] := hD
        refine lv_goto (tgt := 14) hx hb dX5_isRead_38 (by decide) ?_
        exact ih _ (by rw [← hk, hsk9]; have := od_adv hlt c_14; omega) (t + 1) (sk bt ln pn2_6) wa2_8 lt2_9 nb2_10 _ _ _ rfl (by rw [hsk9]; have := od_adv hlt c_14; omega) ((sk_le hq_13.1).2) (by rw [hsk9, hpos]; rfl) (po_up hpo hpos hlt c_14 hlt9 hnb9 hq_13.2.2.2) (fun q => by rw [hfl q]; exact fl_ok (by omega) (by rw [← hpos]; exact hlt) (by rw [← hpos]; exact c_14)) hP hD hS (lv_sub hl [0] rfl)
      · skip
        have c_14 := z_b0 c_14
        refine lv_iconst (v := 0) hx hb dX5_isRead_32 (by decide) ?_
        exact hQ 0 (pn2_6, on2_7, wa2_8, lt2_9, nb2_10) _ _ _ _ (rfl) (rd_bad hfl hpos hpo hlt (by omega) hln c_14 (hq_13.2.2.1 c_14)) hP hD hS dX5_isRead_33
  refine lv_aload_n hx hb dX5_isRead_0 rfl (lv_at hl 0 rfl) ?_
  refine lv_iconst (v := 0) hx hb dX5_isRead_1 (by decide) ?_
  refine va_put (D := D) (ci := 5) (v := .int 0) (ty := .int) (C := RX5) (T := TX5) (N := 21) hx hb hts N5 tyX5 tyX5_ok nmX5 hown hK hP hD hS 0 rfl rfl 18 (by decide) L212 (fun _ h9 => h9) rfl (by decide +kernel) rfl rfl (Nat.le_of_ble_eq_true rfl) dX5_isRead_2 (fun H locs hP hD hS => ?_)
  have hP : va_P D vwCl [(oM, .inr (5, [.ref mN, .ref mA, .ref mP, .int (nI ks), .ref mR, .ref mT, .int (nI ln), .long x1, .long x2, .long x3, .long x4, .long y1, .long y2, .long y3, .long y4, .ref mL, .ref mB, .int od, .int 0, .int wa, .long hs])), (mT, .inl (cI, 150, .inl tx)), (mL, .inl (cI, 75, .inl lt)), (mB, .inl (cI, 300, .inl nb))] H := hP
  have hD : va_D A [(oM, .inr (5, [.ref mN, .ref mA, .ref mP, .int (nI ks), .ref mR, .ref mT, .int (nI ln), .long x1, .long x2, .long x3, .long x4, .long y1, .long y2, .long y3, .long y4, .ref mL, .ref mB, .int od, .int 0, .int wa, .long hs])), (mT, .inl (cI, 150, .inl tx)), (mL, .inl (cI, 75, .inl lt)), (mB, .inl (cI, 300, .inl nb))] := hD
  refine lv_aload_n hx hb dX5_isRead_5 rfl (lv_at hl 0 rfl) ?_
  refine lv_iconst (v := 0) hx hb dX5_isRead_6 (by decide) ?_
  refine va_put (D := D) (ci := 5) (v := .int 0) (ty := .int) (C := RX5) (T := TX5) (N := 21) hx hb hts N5 tyX5 tyX5_ok nmX5 hown hK hP hD hS 0 rfl rfl 17 (by decide) L230 (fun _ h9 => h9) rfl (by decide +kernel) rfl rfl (Nat.le_of_ble_eq_true rfl) dX5_isRead_7 (fun H locs hP hD hS => ?_)
  have hP : va_P D vwCl [(oM, .inr (5, [.ref mN, .ref mA, .ref mP, .int (nI ks), .ref mR, .ref mT, .int (nI ln), .long x1, .long x2, .long x3, .long x4, .long y1, .long y2, .long y3, .long y4, .ref mL, .ref mB, .int 0, .int 0, .int wa, .long hs])), (mT, .inl (cI, 150, .inl tx)), (mL, .inl (cI, 75, .inl lt)), (mB, .inl (cI, 300, .inl nb))] H := hP
  have hD : va_D A [(oM, .inr (5, [.ref mN, .ref mA, .ref mP, .int (nI ks), .ref mR, .ref mT, .int (nI ln), .long x1, .long x2, .long x3, .long x4, .long y1, .long y2, .long y3, .long y4, .ref mL, .ref mB, .int 0, .int 0, .int wa, .long hs])), (mT, .inl (cI, 150, .inl tx)), (mL, .inl (cI, 75, .inl lt)), (mB, .inl (cI, 300, .inl nb))] := hD
  refine lv_aload_n hx hb dX5_isRead_10 rfl (lv_at hl 0 rfl) ?_
  refine z_VV (n := 0) (wn := (fun u : Unit => [(oM, .inr (5, [.ref mN, .ref mA, .ref mP, .int (nI ks), .ref mR, .ref mT, .int (nI ln), .long x1, .long x2, .long x3, .long x4, .long y1, .long y2, .long y3, .long y4, .ref mL, .ref mB, .int 0, .int (nI (sk bt ln 0)), .int wa, .long hs])), (mT, .inl (cI, 150, .inl tx)), (mL, .inl (cI, 75, .inl lt)), (mB, .inl (cI, 300, .inl nb))])) (wr := [(mL, .inl (cI, 75, .inl lt)), (mB, .inl (cI, 300, .inl nb))]) (As := []) (rest := []) ⟨hx, hb, hml, hown, hts⟩ hK hP hD hS hA hT (kX5_blanks l D cI cB tE tN oM mN mA mP mR mT mL mB ks ln x1 x2 x3 x4 y1 y2 y3 y4 0 wa hs tx bt 0 _ (by omega) (hTx) (by omega)) gX5_isRead_X5_blanks rfl rfl rfl (by decide +kernel) ⟨Nat.le_of_ble_eq_true rfl, Nat.le_of_ble_eq_true rfl⟩ [0, 1] [2, 3] [2, 3, 0, 1] (by decide) rfl rfl (by decide) (by decide) (by decide) (fun u => rfl) 0 5 rfl rfl rfl rfl hl.1 rfl (Nat.le_of_ble_eq_true rfl) dX5_isRead_11 ⟨Nat.le_of_ble_eq_true rfl, Nat.le_of_ble_eq_true rfl⟩ (fun u H locs hw_18 hP hD hS => ?_)
  try dsimp only at hw_18
  have hP : va_P D vwCl [(oM, .inr (5, [.ref mN, .ref mA, .ref mP, .int (nI ks), .ref mR, .ref mT, .int (nI ln), .long x1, .long x2, .long x3, .long x4, .long y1, .long y2, .long y3, .long y4, .ref mL, .ref mB, .int 0, .int (nI (sk bt ln 0)), .int wa, .long hs])), (mT, .inl (cI, 150, .inl tx)), (mL, .inl (cI, 75, .inl lt)), (mB, .inl (cI, 300, .inl nb))] H := hP
  have hD : va_D A [(oM, .inr (5, [.ref mN, .ref mA, .ref mP, .int (nI ks), .ref mR, .ref mT, .int (nI ln), .long x1, .long x2, .long x3, .long x4, .long y1, .long y2, .long y3, .long y4, .ref mL, .ref mB, .int 0, .int (nI (sk bt ln 0)), .int wa, .long hs])), (mT, .inl (cI, 150, .inl tx)), (mL, .inl (cI, 75, .inl lt)), (mB, .inl (cI, 300, .inl nb))] := hD
  exact lp14 _ 0 (sk bt ln 0) wa lt nb _ _ _ rfl (by omega) ((sk_le (by omega)).2) rfl (fun i h => absurd h (Nat.not_lt_zero i)) (fun h => if_pos h) hP hD hS (lv_sub hl [0] rfl)
