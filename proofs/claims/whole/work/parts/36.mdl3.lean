theorem join_bad {f : Nat → Int32} {N : Nat} {x y h s : Int32} (q : (cPlace x && cPlace y) = false ∨ cCourse h s = false) : cJoin f N x y h s = (-10002, f) := by
  rw [cJoin, if_neg]
  rintro ⟨a, b, c⟩
  rcases q with q | q
  · rw [a, b] at q; exact Bool.noConfusion q
  · rw [c] at q; exact Bool.noConfusion q
theorem join_full {f : Nat → Int32} {N : Nat} {x y h s : Int32} (a : cPlace x = true) (b : cPlace y = true) (c : cCourse h s = true) (d : ¬ N < 6) : cJoin f N x y h s = (-10004, f) := by rw [cJoin, if_pos ⟨a, b, c⟩, if_neg d]
theorem join_ok {f : Nat → Int32} {N : Nat} {x y h s : Int32} (a : cPlace x = true) (b : cPlace y = true) (c : cCourse h s = true) (d : N < 6) : cJoin f N x y h s = (nI (N + 1), putF (upd f 35 (nI (N + 1))) (N + 1) x y h s) := by rw [cJoin, if_pos ⟨a, b, c⟩, if_pos d]
theorem own_bad {f : Nat → Int32} {N : Nat} {x y h s : Int32} (q : (cPlace x && cPlace y) = false ∨ cCourse h s = false) : cOwn f N x y h s = (-10002, f) := by
  rw [cOwn, if_neg]
  rintro ⟨a, b, c⟩
  rcases q with q | q
  · rw [a, b] at q; exact Bool.noConfusion q
  · rw [c] at q; exact Bool.noConfusion q
theorem own_ok {f : Nat → Int32} {N : Nat} {x y h s : Int32} (a : cPlace x = true) (b : cPlace y = true) (c : cCourse h s = true) : cOwn f N x y h s = (nI N, upd (nodF (putF f 0 x y h s) N) 38 0) := by rw [cOwn, if_pos ⟨a, b, c⟩]
theorem pa_step {n k : Nat} {q q1 : Nat → Int32} {v : Int32} (e2 : ∀ j, 4 + 5 * n ≤ j → j < k → j < 39 → q1 j = if j + 5 < 39 then q (j + 5) else 0) (hv : v = if k + 5 < 39 then q (k + 5) else 0) : ∀ j, 4 + 5 * n ≤ j → j < k + 1 → j < 39 → upd q1 k v j = if j + 5 < 39 then q (j + 5) else 0 := by
  intro j h1 h2 h3
  by_cases ej : j = k
  · rw [ej, upd_eq]; exact hv
  · rw [upd_ne ej]; exact e2 j h1 (by omega) h3
theorem rd12 {N n : Nat} {f q : Nat → Int32} (h : Rg N f q) (hn : n ≤ 1) : q (1 + n) = f (36 + n) := by
  rcases (show n = 0 ∨ n = 1 by omega) with rfl | rfl
  · exact h.2.1
  · exact h.2.2.1
theorem rule_bad1 {f : Nat → Int32} {k v : Int32} (h : cIn k 0 1 = false) : cRule f k v = (-10002, f) := by
  rw [cRule, if_neg]
  rintro ⟨a, b, -⟩
  exact absurd (decide_eq_true (⟨a, b⟩ : ¬ k < 0 ∧ ¬ 1 < k)) (by rw [show decide (¬ k < 0 ∧ ¬ 1 < k) = cIn k 0 1 from rfl, h]; decide)
theorem rule_bad2 {f : Nat → Int32} {k v : Int32} {z : Int32} (_ : cIn k 0 1 = true) (c : ¬ k = 0 ∨ k = 0) (h : cIn v 1 z = false) (hz : z = if k = 0 then 999 else 99) : cRule f k v = (-10002, f) := by
  rw [cRule, if_neg]
  rintro ⟨-, -, a, b⟩
  rw [← hz] at b
  exact absurd (decide_eq_true (⟨a, Int32.not_lt.mpr b⟩ : ¬ v < 1 ∧ ¬ z < v)) (by rw [show decide (¬ v < 1 ∧ ¬ z < v) = cIn v 1 z from rfl, h]; decide)
theorem rule_ok {f : Nat → Int32} {k v : Int32} {z : Int32} (h1 : cIn k 0 1 = true) (c : ¬ k = 0 ∨ k = 0) (h : cIn v 1 z = true) (hz : z = if k = 0 then 999 else 99) : cRule f k v = (f (36 + k.toNatClampNeg), upd f (36 + k.toNatClampNeg) v) := by
  have h1 := of_decide_eq_true h1
  have h := of_decide_eq_true h
  rw [cRule, if_pos ⟨h1.1, h1.2, h.1, by rw [← hz]; exact Int32.not_lt.mp h.2⟩]
set_option maxHeartbeats 4000000 in
set_option maxRecDepth 100000 in
theorem kX5_tableOf (l : Launch) (D : va_G) (cI cB : ClassId) (tE tN : Nat) (oM : Nat) (mN : Nat) (mA : Nat) (mP : Nat) (mR : Nat) (mT : Nat) (mL : Nat) (mB : Nat) (ks : Nat) (ln : Nat) (x1 : Int64) (x2 : Int64) (x3 : Int64) (x4 : Int64) (y1 : Int64) (y2 : Int64) (y3 : Int64) (y4 : Int64) (od : Int32) (spt : Int32) (wa : Int32) (hs : Int64) (qn : Nat → Int32) (f : Nat → Int32) (N : Nat) (ia : Nat) (ib : Nat) (sz : Nat) (hR : Rg N f qn) (hI : Iv f) (hNN : nN f = N) (ha : ia ≤ N) (hb6 : ib ≤ N) : zI l yX5_tableOf wsX5_tableOf ({ frames := 5, cells := 0, slots := 0, locals := 121 }) D cI cB tE tN [.ref oM, .int (nI ia), .int (nI ib)] [(oM, .inr (5, [.ref mN, .ref mA, .ref mP, .int (nI ks), .ref mR, .ref mT, .int (nI ln), .long x1, .long x2, .long x3, .long x4, .long y1, .long y2, .long y3, .long y4, .ref mL, .ref mB, .int od, .int spt, .int wa, .long hs])), (mN, .inl (cI, 39, .inl qn))] sz (fun u : Int64 × Int64 × Int64 × Int64 × Int64 × Int64 × Int64 × Int64 => [(oM, .inr (5, [.ref mN, .ref mA, .ref mP, .int (nI ks), .ref mR, .ref mT, .int (nI ln), .long u.1, .long u.2.1, .long u.2.2.1, .long u.2.2.2.1, .long u.2.2.2.2.1, .long u.2.2.2.2.2.1, .long u.2.2.2.2.2.2.1, .long u.2.2.2.2.2.2.2, .ref mL, .ref mB, .int od, .int spt, .int wa, .long hs])), (mN, .inl (cI, 39, .inl qn))]) (fun (r : Int32) (u : Int64 × Int64 × Int64 × Int64 × Int64 × Int64 × Int64 × Int64) => r = cTab f ia ib) 0 0 := by
  refine zI_mk (cc := cX5_tableOf) (maxL := 5) (rt := .int) (by decide) rfl (Nat.le_of_ble_eq_true rfl) ?_
  intro p e s m below meth c A Q ls S0 hname hA hK hP hD hT hS hQ hl
  obtain ⟨hx, hb, hml, hown, hts⟩ := id S0
  have hl : lv_has ls 5 [(0, .ref oM), (1, .int (nI ia)), (2, .int (nI ib))] := hl
  refine lv_aload_n hx hb dX5_tableOf_0 rfl (lv_at hl 0 rfl) ?_
  refine lv_iload_n hx hb dX5_tableOf_1 rfl (lv_at hl 1 rfl) ?_
  refine lv_iload_n hx hb dX5_tableOf_2 rfl (lv_at hl 2 rfl) ?_
  refine z_VI (n := 2) (wn := (fun u : Int64 × Int64 × Int64 × Int64 => [(oM, .inr (5, [.ref mN, .ref mA, .ref mP, .int (nI ks), .ref mR, .ref mT, .int (nI ln), .long (cRx f ia ib), .long (cRy f ia ib), .long (cVx f (f (5 * ia + 2)) (f (5 * ia + 3)) ib), .long (cVy f (f (5 * ia + 2)) (f (5 * ia + 3)) ib), .long u.1, .long u.2.1, .long u.2.2.1, .long u.2.2.2, .ref mL, .ref mB, .int od, .int spt, .int wa, .long hs])), (mN, .inl (cI, 39, .inl qn))])) (wr := []) (As := [.int (nI ia), .int (nI ib)]) (rest := []) ⟨hx, hb, hml, hown, hts⟩ hK hP hD hS hA hT (kX5_haveRisk l D cI cB tE tN oM mN mA mP mR mT mL mB ks ln x1 x2 x3 x4 y1 y2 y3 y4 od spt wa hs qn f N ia ib _ (hR) (hI) (hNN) (by omega) (by omega)) gX5_tableOf_X5_haveRisk rfl rfl rfl (by decide +kernel) ⟨Nat.le_of_ble_eq_true rfl, Nat.le_of_ble_eq_true rfl⟩ [0, 1] [] [0, 1] (by decide) rfl rfl (by decide) (by decide) (by decide) (fun u => rfl) 0 5 rfl rfl rfl rfl hl.1 rfl (Nat.le_of_ble_eq_true rfl) dX5_tableOf_3 ⟨Nat.le_of_ble_eq_true rfl, Nat.le_of_ble_eq_true rfl⟩ (fun r_5 u H locs hw_6 hP hD hS => ?_)
  obtain ⟨q1_1, q2_2, q3_3, q4_4⟩ := u
  try dsimp only at hw_6
  have hP : va_P D vwCl [(oM, .inr (5, [.ref mN, .ref mA, .ref mP, .int (nI ks), .ref mR, .ref mT, .int (nI ln), .long (cRx f ia ib), .long (cRy f ia ib), .long (cVx f (f (5 * ia + 2)) (f (5 * ia + 3)) ib), .long (cVy f (f (5 * ia + 2)) (f (5 * ia + 3)) ib), .long q1_1, .long q2_2, .long q3_3, .long q4_4, .ref mL, .ref mB, .int od, .int spt, .int wa, .long hs])), (mN, .inl (cI, 39, .inl qn))] H := hP
  have hD : va_D A [(oM, .inr (5, [.ref mN, .ref mA, .ref mP, .int (nI ks), .ref mR, .ref mT, .int (nI ln), .long (cRx f ia ib), .long (cRy f ia ib), .long (cVx f (f (5 * ia + 2)) (f (5 * ia + 3)) ib), .long (cVy f (f (5 * ia + 2)) (f (5 * ia + 3)) ib), .long q1_1, .long q2_2, .long q3_3, .long q4_4, .ref mL, .ref mB, .int od, .int spt, .int wa, .long hs])), (mN, .inl (cI, 39, .inl qn))] := hD
  obtain ⟨hw_6, hq_7⟩ := hw_6
  subst r_5
  refine lv_if_ne (tgt := 11) hx hb dX5_tableOf_6 (by decide) (fun c_8 => ?_) (fun c_8 => ?_)
  · skip
    have c_8 := z_b1 c_8
    refine lv_aload_n hx hb dX5_tableOf_11 rfl (lv_at hl 0 rfl) ?_
    refine lv_iload_n hx hb dX5_tableOf_12 rfl (lv_at hl 1 rfl) ?_
    refine lv_iload_n hx hb dX5_tableOf_13 rfl (lv_at hl 2 rfl) ?_
    refine z_VI (n := 2) (wn := (fun u : Unit => [(oM, .inr (5, [.ref mN, .ref mA, .ref mP, .int (nI ks), .ref mR, .ref mT, .int (nI ln), .long (cRx f ia ib), .long (cRy f ia ib), .long (cVx f (f (5 * ia + 2)) (f (5 * ia + 3)) ib), .long (cVy f (f (5 * ia + 2)) (f (5 * ia + 3)) ib), .long q1_1, .long q2_2, .long q3_3, .long q4_4, .ref mL, .ref mB, .int od, .int spt, .int wa, .long hs])), (mN, .inl (cI, 39, .inl qn))])) (wr := []) (As := [.int (nI ia), .int (nI ib)]) (rest := []) ⟨hx, hb, hml, hown, hts⟩ hK hP hD hS hA hT (kX5_sectorOf l D cI cB tE tN oM mN mA mP mR mT mL mB ks ln (cRx f ia ib) (cRy f ia ib) (cVx f (f (5 * ia + 2)) (f (5 * ia + 3)) ib) (cVy f (f (5 * ia + 2)) (f (5 * ia + 3)) ib) q1_1 q2_2 q3_3 q4_4 od spt wa hs qn f N ia ib _ (hR) (hI) (hNN) (by omega) (by omega)) gX5_tableOf_X5_sectorOf rfl rfl rfl (by decide +kernel) ⟨Nat.le_of_ble_eq_true rfl, Nat.le_of_ble_eq_true rfl⟩ [0, 1] [] [0, 1] (by decide) rfl rfl (by decide) (by decide) (by decide) (fun u => rfl) 0 5 rfl rfl rfl rfl hl.1 rfl (Nat.le_of_ble_eq_true rfl) dX5_tableOf_14 ⟨Nat.le_of_ble_eq_true rfl, Nat.le_of_ble_eq_true rfl⟩ (fun r_9 u H locs hw_10 hP hD hS => ?_)
    try dsimp only at hw_10
    have hP : va_P D vwCl [(oM, .inr (5, [.ref mN, .ref mA, .ref mP, .int (nI ks), .ref mR, .ref mT, .int (nI ln), .long (cRx f ia ib), .long (cRy f ia ib), .long (cVx f (f (5 * ia + 2)) (f (5 * ia + 3)) ib), .long (cVy f (f (5 * ia + 2)) (f (5 * ia + 3)) ib), .long q1_1, .long q2_2, .long q3_3, .long q4_4, .ref mL, .ref mB, .int od, .int spt, .int wa, .long hs])), (mN, .inl (cI, 39, .inl qn))] H := hP
    have hD : va_D A [(oM, .inr (5, [.ref mN, .ref mA, .ref mP, .int (nI ks), .ref mR, .ref mT, .int (nI ln), .long (cRx f ia ib), .long (cRy f ia ib), .long (cVx f (f (5 * ia + 2)) (f (5 * ia + 3)) ib), .long (cVy f (f (5 * ia + 2)) (f (5 * ia + 3)) ib), .long q1_1, .long q2_2, .long q3_3, .long q4_4, .ref mL, .ref mB, .int od, .int spt, .int wa, .long hs])), (mN, .inl (cI, 39, .inl qn))] := hD
    subst r_9
    refine lv_istore_n (lv' := [(3, .int (cSec f ia ib)), (0, .ref oM), (1, .int (nI ia)), (2, .int (nI ib))]) hx hb dX5_tableOf_17 rfl hl (by decide) rfl (fun ls hl => ?_)
    refine lv_aload_n hx hb dX5_tableOf_18 rfl (lv_at hl 1 rfl) ?_
    refine lv_iload_n hx hb dX5_tableOf_19 rfl (lv_at hl 3 rfl) ?_
    refine lv_iload_n hx hb dX5_tableOf_20 rfl (lv_at hl 2 rfl) ?_
    refine z_VI (n := 2) (wn := (fun u : Unit => [(oM, .inr (5, [.ref mN, .ref mA, .ref mP, .int (nI ks), .ref mR, .ref mT, .int (nI ln), .long (cRx f ib ia), .long (cRy f ib ia), .long (cVx f (f (5 * ib + 2)) (f (5 * ib + 3)) ia), .long (cVy f (f (5 * ib + 2)) (f (5 * ib + 3)) ia), .long q1_1, .long q2_2, .long q3_3, .long q4_4, .ref mL, .ref mB, .int od, .int spt, .int wa, .long hs])), (mN, .inl (cI, 39, .inl qn))])) (wr := []) (As := [.int (nI ib), .int (nI ia)]) (rest := []) ⟨hx, hb, hml, hown, hts⟩ hK hP hD hS hA hT (kX5_sectorOf l D cI cB tE tN oM mN mA mP mR mT mL mB ks ln (cRx f ia ib) (cRy f ia ib) (cVx f (f (5 * ia + 2)) (f (5 * ia + 3)) ib) (cVy f (f (5 * ia + 2)) (f (5 * ia + 3)) ib) q1_1 q2_2 q3_3 q4_4 od spt wa hs qn f N ib ia _ (hR) (hI) (hNN) (by omega) (by omega)) gX5_tableOf_X5_sectorOf rfl rfl rfl (by decide +kernel) ⟨Nat.le_of_ble_eq_true rfl, Nat.le_of_ble_eq_true rfl⟩ [0, 1] [] [0, 1] (by decide) rfl rfl (by decide) (by decide) (by decide) (fun u => rfl) 0 5 rfl rfl rfl rfl hl.1 rfl (Nat.le_of_ble_eq_true rfl) dX5_tableOf_21 ⟨Nat.le_of_ble_eq_true rfl, Nat.le_of_ble_eq_true rfl⟩ (fun r_11 u H locs hw_12 hP hD hS => ?_)
    try dsimp only at hw_12
    have hP : va_P D vwCl [(oM, .inr (5, [.ref mN, .ref mA, .ref mP, .int (nI ks), .ref mR, .ref mT, .int (nI ln), .long (cRx f ib ia), .long (cRy f ib ia), .long (cVx f (f (5 * ib + 2)) (f (5 * ib + 3)) ia), .long (cVy f (f (5 * ib + 2)) (f (5 * ib + 3)) ia), .long q1_1, .long q2_2, .long q3_3, .long q4_4, .ref mL, .ref mB, .int od, .int spt, .int wa, .long hs])), (mN, .inl (cI, 39, .inl qn))] H := hP
    have hD : va_D A [(oM, .inr (5, [.ref mN, .ref mA, .ref mP, .int (nI ks), .ref mR, .ref mT, .int (nI ln), .long (cRx f ib ia), .long (cRy f ib ia), .long (cVx f (f (5 * ib + 2)) (f (5 * ib + 3)) ia), .long (cVy f (f (5 * ib + 2)) (f (5 * ib + 3)) ia), .long q1_1, .long q2_2, .long q3_3, .long q4_4, .ref mL, .ref mB, .int od, .int spt, .int wa, .long hs])), (mN, .inl (cI, 39, .inl qn))] := hD
    subst r_11
    refine lv_istore (lv' := [(4, .int (cSec f ib ia)), (3, .int (cSec f ia ib)), (0, .ref oM), (1, .int (nI ia)), (2, .int (nI ib))]) hx hb dX5_tableOf_24 hl (by decide) rfl (fun ls hl => ?_)
    refine lv_iload hx hb dX5_tableOf_26 (lv_at hl 0 rfl) ?_
    refine lv_iconst (v := 3) hx hb dX5_tableOf_28 (by decide) ?_
    refine lv_icmp_eq (tgt := 37) hx hb dX5_tableOf_29 (by decide) (fun c_13 => ?_) (fun c_13 => ?_)
    · skip
      refine lv_iload hx hb dX5_tableOf_37 (lv_at hl 0 rfl) ?_
      refine lv_iconst (v := 3) hx hb dX5_tableOf_39 (by decide) ?_
      refine lv_icmp_ne (tgt := 47) hx hb dX5_tableOf_40 (by decide) (fun c_14 => ?_) (fun c_14 => ?_)
      · skip
        exact absurd c_13 c_14
      · skip
        skip
        refine lv_iconst (v := 1) hx hb dX5_tableOf_43 (by decide) ?_
        refine lv_goto (tgt := 48) hx hb dX5_tableOf_44 (by decide) ?_
        exact hQ 1 (cRx f ib ia, cRy f ib ia, cVx f (f (5 * ib + 2)) (f (5 * ib + 3)) ia, cVy f (f (5 * ib + 2)) (f (5 * ib + 3)) ia, q1_1, q2_2, q3_3, q4_4) _ _ _ _ (rfl) (by simp [cTab, cTb, c_8, c_13, c_14]) hP hD hS dX5_tableOf_48
    · skip
      refine lv_iload_n hx hb dX5_tableOf_32 rfl (lv_at hl 1 rfl) ?_
      refine lv_iconst (v := 3) hx hb dX5_tableOf_33 (by decide) ?_
      refine lv_icmp_ne (tgt := 49) hx hb dX5_tableOf_34 (by decide) (fun c_15 => ?_) (fun c_15 => ?_)
      · skip
        refine lv_iload_n hx hb dX5_tableOf_49 rfl (lv_at hl 1 rfl) ?_
        refine lv_if_eq (tgt := 55) hx hb dX5_tableOf_50 (by decide) (fun c_16 => ?_) (fun c_16 => ?_)
        · skip
          refine lv_iload hx hb dX5_tableOf_55 (lv_at hl 0 rfl) ?_
          refine lv_iconst (v := 1) hx hb dX5_tableOf_57 (by decide) ?_
          refine lv_icmp_ne (tgt := 65) hx hb dX5_tableOf_58 (by decide) (fun c_17 => ?_) (fun c_17 => ?_)
          · skip
            refine lv_iconst (v := 1) hx hb dX5_tableOf_65 (by decide) ?_
            exact hQ 1 (cRx f ib ia, cRy f ib ia, cVx f (f (5 * ib + 2)) (f (5 * ib + 3)) ia, cVy f (f (5 * ib + 2)) (f (5 * ib + 3)) ia, q1_1, q2_2, q3_3, q4_4) _ _ _ _ (rfl) (by simp [cTab, cTb, c_8, c_13, c_15, c_16, c_17]) hP hD hS dX5_tableOf_66
          · skip
            refine lv_iconst (v := 2) hx hb dX5_tableOf_61 (by decide) ?_
            refine lv_goto (tgt := 66) hx hb dX5_tableOf_62 (by decide) ?_
            exact hQ 2 (cRx f ib ia, cRy f ib ia, cVx f (f (5 * ib + 2)) (f (5 * ib + 3)) ia, cVy f (f (5 * ib + 2)) (f (5 * ib + 3)) ia, q1_1, q2_2, q3_3, q4_4) _ _ _ _ (rfl) (by simp [cTab, cTb, c_8, c_13, c_15, c_16, c_17]) hP hD hS dX5_tableOf_66
        · skip
          refine lv_iload_n hx hb dX5_tableOf_53 rfl (lv_at hl 1 rfl) ?_
          exact hQ (cSec f ia ib) (cRx f ib ia, cRy f ib ia, cVx f (f (5 * ib + 2)) (f (5 * ib + 3)) ia, cVy f (f (5 * ib + 2)) (f (5 * ib + 3)) ia, q1_1, q2_2, q3_3, q4_4) _ _ _ _ (rfl) (by rw [cTab, if_pos c_8]; exact tab_m c_13 c_15 c_16) hP hD hS dX5_tableOf_54
      · skip
        refine lv_iload hx hb dX5_tableOf_37 (lv_at hl 0 rfl) ?_
        refine lv_iconst (v := 3) hx hb dX5_tableOf_39 (by decide) ?_
        refine lv_icmp_ne (tgt := 47) hx hb dX5_tableOf_40 (by decide) (fun c_18 => ?_) (fun c_18 => ?_)
        · skip
          skip
          refine lv_iconst (v := 2) hx hb dX5_tableOf_47 (by decide) ?_
          exact hQ 2 (cRx f ib ia, cRy f ib ia, cVx f (f (5 * ib + 2)) (f (5 * ib + 3)) ia, cVy f (f (5 * ib + 2)) (f (5 * ib + 3)) ia, q1_1, q2_2, q3_3, q4_4) _ _ _ _ (rfl) (by simp [cTab, cTb, c_8, c_13, c_15, c_18]) hP hD hS dX5_tableOf_48
        · skip
          exact absurd c_18 c_13
  · skip
    have c_8 := z_b0 c_8
    refine lv_iconst (v := 0) hx hb dX5_tableOf_9 (by decide) ?_
    exact hQ 0 (cRx f ia ib, cRy f ia ib, cVx f (f (5 * ia + 2)) (f (5 * ia + 3)) ib, cVy f (f (5 * ia + 2)) (f (5 * ia + 3)) ib, q1_1, q2_2, q3_3, q4_4) _ _ _ _ (rfl) (by simp [cTab, cTb, c_8]) hP hD hS dX5_tableOf_10

set_option maxHeartbeats 4000000 in
set_option maxRecDepth 100000 in
theorem kX5_puts (l : Launch) (D : va_G) (cI cB : ClassId) (tE tN : Nat) (oM : Nat) (mN : Nat) (mA : Nat) (mP : Nat) (mR : Nat) (mT : Nat) (mL : Nat) (mB : Nat) (ks : Nat) (ln : Nat) (x1 : Int64) (x2 : Int64) (x3 : Int64) (x4 : Int64) (y1 : Int64) (y2 : Int64) (y3 : Int64) (y4 : Int64) (od : Int32) (spt : Int32) (wa : Int32) (hs : Int64) (qn : Nat → Int32) (n : Nat) (px : Int32) (py : Int32) (ph : Int32) (ps : Int32) (sz : Nat) (hn6 : n ≤ 6) : zV l yX5_puts wsX5_puts ({ frames := 1, cells := 0, slots := 0, locals := 23 }) D cI cB tE tN [.ref oM, .int (nI n), .int px, .int py, .int ph, .int ps] [(oM, .inr (5, [.ref mN, .ref mA, .ref mP, .int (nI ks), .ref mR, .ref mT, .int (nI ln), .long x1, .long x2, .long x3, .long x4, .long y1, .long y2, .long y3, .long y4, .ref mL, .ref mB, .int od, .int spt, .int wa, .long hs])), (mN, .inl (cI, 39, .inl qn))] sz (fun u : Unit => [(oM, .inr (5, [.ref mN, .ref mA, .ref mP, .int (nI ks), .ref mR, .ref mT, .int (nI ln), .long x1, .long x2, .long x3, .long x4, .long y1, .long y2, .long y3, .long y4, .ref mL, .ref mB, .int od, .int spt, .int wa, .long hs])), (mN, .inl (cI, 39, .inl (putQ qn n px py ph ps)))]) (fun (u : Unit) => True) 0 0 := by
  refine zV_mk (cc := cX5_puts) (maxL := 6) (by decide) rfl (Nat.le_of_ble_eq_true rfl) ?_
  intro p e s m below meth c A Q ls S0 hname hA hK hP hD hT hS hQ hl
  obtain ⟨hx, hb, hml, hown, hts⟩ := id S0
  have hl : lv_has ls 6 [(0, .ref oM), (1, .int (nI n)), (2, .int px), (3, .int py), (4, .int ph), (5, .int ps)] := hl
  refine lv_aload_n hx hb dX5_puts_0 rfl (lv_at hl 0 rfl) ?_
  refine lv_iload_n hx hb dX5_puts_1 rfl (lv_at hl 1 rfl) ?_
  refine lv_iconst (v := 0) hx hb dX5_puts_2 (by decide) ?_
  refine lv_iload_n hx hb dX5_puts_3 rfl (lv_at hl 2 rfl) ?_
  refine z_VV (n := 3) (wn := (fun u : Unit => [(oM, .inr (5, [.ref mN, .ref mA, .ref mP, .int (nI ks), .ref mR, .ref mT, .int (nI ln), .long x1, .long x2, .long x3, .long x4, .long y1, .long y2, .long y3, .long y4, .ref mL, .ref mB, .int od, .int spt, .int wa, .long hs])), (mN, .inl (cI, 39, .inl (upd qn (4 + 5 * n + 0) px)))])) (wr := []) (As := [.int (nI n), .int 0, .int px]) (rest := []) ⟨hx, hb, hml, hown, hts⟩ hK hP hD hS hA hT (kX5_tells l D cI cB tE tN oM mN mA mP mR mT mL mB ks ln x1 x2 x3 x4 y1 y2 y3 y4 od spt wa hs qn n 0 px _ (by omega) (by omega)) gX5_puts_X5_tells rfl rfl rfl (by decide +kernel) ⟨Nat.le_of_ble_eq_true rfl, Nat.le_of_ble_eq_true rfl⟩ [0, 1] [] [0, 1] (by decide) rfl rfl (by decide) (by decide) (by decide) (fun u => rfl) 0 5 rfl rfl rfl rfl hl.1 rfl (Nat.le_of_ble_eq_true rfl) dX5_puts_4 ⟨Nat.le_of_ble_eq_true rfl, Nat.le_of_ble_eq_true rfl⟩ (fun u H locs hw_2 hP hD hS => ?_)
  try dsimp only at hw_2
  have hP : va_P D vwCl [(oM, .inr (5, [.ref mN, .ref mA, .ref mP, .int (nI ks), .ref mR, .ref mT, .int (nI ln), .long x1, .long x2, .long x3, .long x4, .long y1, .long y2, .long y3, .long y4, .ref mL, .ref mB, .int od, .int spt, .int wa, .long hs])), (mN, .inl (cI, 39, .inl (upd qn (4 + 5 * n + 0) px)))] H := hP
  have hD : va_D A [(oM, .inr (5, [.ref mN, .ref mA, .ref mP, .int (nI ks), .ref mR, .ref mT, .int (nI ln), .long x1, .long x2, .long x3, .long x4, .long y1, .long y2, .long y3, .long y4, .ref mL, .ref mB, .int od, .int spt, .int wa, .long hs])), (mN, .inl (cI, 39, .inl (upd qn (4 + 5 * n + 0) px)))] := hD
  refine lv_aload_n hx hb dX5_puts_7 rfl (lv_at hl 0 rfl) ?_
  refine lv_iload_n hx hb dX5_puts_8 rfl (lv_at hl 1 rfl) ?_
  refine lv_iconst (v := 1) hx hb dX5_puts_9 (by decide) ?_
  refine lv_iload_n hx hb dX5_puts_10 rfl (lv_at hl 3 rfl) ?_
  refine z_VV (n := 3) (wn := (fun u : Unit => [(oM, .inr (5, [.ref mN, .ref mA, .ref mP, .int (nI ks), .ref mR, .ref mT, .int (nI ln), .long x1, .long x2, .long x3, .long x4, .long y1, .long y2, .long y3, .long y4, .ref mL, .ref mB, .int od, .int spt, .int wa, .long hs])), (mN, .inl (cI, 39, .inl (upd (upd qn (4 + 5 * n + 0) px) (4 + 5 * n + 1) py)))])) (wr := []) (As := [.int (nI n), .int 1, .int py]) (rest := []) ⟨hx, hb, hml, hown, hts⟩ hK hP hD hS hA hT (kX5_tells l D cI cB tE tN oM mN mA mP mR mT mL mB ks ln x1 x2 x3 x4 y1 y2 y3 y4 od spt wa hs (upd qn (4 + 5 * n + 0) px) n 1 py _ (by omega) (by omega)) gX5_puts_X5_tells rfl rfl rfl (by decide +kernel) ⟨Nat.le_of_ble_eq_true rfl, Nat.le_of_ble_eq_true rfl⟩ [0, 1] [] [0, 1] (by decide) rfl rfl (by decide) (by decide) (by decide) (fun u => rfl) 0 5 rfl rfl rfl rfl hl.1 rfl (Nat.le_of_ble_eq_true rfl) dX5_puts_11 ⟨Nat.le_of_ble_eq_true rfl, Nat.le_of_ble_eq_true rfl⟩ (fun u H locs hw_4 hP hD hS => ?_)
  try dsimp only at hw_4
  have hP : va_P D vwCl [(oM, .inr (5, [.ref mN, .ref mA, .ref mP, .int (nI ks), .ref mR, .ref mT, .int (nI ln), .long x1, .long x2, .long x3, .long x4, .long y1, .long y2, .long y3, .long y4, .ref mL, .ref mB, .int od, .int spt, .int wa, .long hs])), (mN, .inl (cI, 39, .inl (upd (upd qn (4 + 5 * n + 0) px) (4 + 5 * n + 1) py)))] H := hP
  have hD : va_D A [(oM, .inr (5, [.ref mN, .ref mA, .ref mP, .int (nI ks), .ref mR, .ref mT, .int (nI ln), .long x1, .long x2, .long x3, .long x4, .long y1, .long y2, .long y3, .long y4, .ref mL, .ref mB, .int od, .int spt, .int wa, .long hs])), (mN, .inl (cI, 39, .inl (upd (upd qn (4 + 5 * n + 0) px) (4 + 5 * n + 1) py)))] := hD
  refine lv_aload_n hx hb dX5_puts_14 rfl (lv_at hl 0 rfl) ?_
  refine lv_iload_n hx hb dX5_puts_15 rfl (lv_at hl 1 rfl) ?_
  refine lv_iconst (v := 2) hx hb dX5_puts_16 (by decide) ?_
  refine lv_iload hx hb dX5_puts_17 (lv_at hl 4 rfl) ?_
  refine z_VV (n := 3) (wn := (fun u : Unit => [(oM, .inr (5, [.ref mN, .ref mA, .ref mP, .int (nI ks), .ref mR, .ref mT, .int (nI ln), .long x1, .long x2, .long x3, .long x4, .long y1, .long y2, .long y3, .long y4, .ref mL, .ref mB, .int od, .int spt, .int wa, .long hs])), (mN, .inl (cI, 39, .inl (upd (upd (upd qn (4 + 5 * n + 0) px) (4 + 5 * n + 1) py) (4 + 5 * n + 2) ph)))])) (wr := []) (As := [.int (nI n), .int 2, .int ph]) (rest := []) ⟨hx, hb, hml, hown, hts⟩ hK hP hD hS hA hT (kX5_tells l D cI cB tE tN oM mN mA mP mR mT mL mB ks ln x1 x2 x3 x4 y1 y2 y3 y4 od spt wa hs (upd (upd qn (4 + 5 * n + 0) px) (4 + 5 * n + 1) py) n 2 ph _ (by omega) (by omega)) gX5_puts_X5_tells rfl rfl rfl (by decide +kernel) ⟨Nat.le_of_ble_eq_true rfl, Nat.le_of_ble_eq_true rfl⟩ [0, 1] [] [0, 1] (by decide) rfl rfl (by decide) (by decide) (by decide) (fun u => rfl) 0 5 rfl rfl rfl rfl hl.1 rfl (Nat.le_of_ble_eq_true rfl) dX5_puts_19 ⟨Nat.le_of_ble_eq_true rfl, Nat.le_of_ble_eq_true rfl⟩ (fun u H locs hw_6 hP hD hS => ?_)
  try dsimp only at hw_6
  have hP : va_P D vwCl [(oM, .inr (5, [.ref mN, .ref mA, .ref mP, .int (nI ks), .ref mR, .ref mT, .int (nI ln), .long x1, .long x2, .long x3, .long x4, .long y1, .long y2, .long y3, .long y4, .ref mL, .ref mB, .int od, .int spt, .int wa, .long hs])), (mN, .inl (cI, 39, .inl (upd (upd (upd qn (4 + 5 * n + 0) px) (4 + 5 * n + 1) py) (4 + 5 * n + 2) ph)))] H := hP
  have hD : va_D A [(oM, .inr (5, [.ref mN, .ref mA, .ref mP, .int (nI ks), .ref mR, .ref mT, .int (nI ln), .long x1, .long x2, .long x3, .long x4, .long y1, .long y2, .long y3, .long y4, .ref mL, .ref mB, .int od, .int spt, .int wa, .long hs])), (mN, .inl (cI, 39, .inl (upd (upd (upd qn (4 + 5 * n + 0) px) (4 + 5 * n + 1) py) (4 + 5 * n + 2) ph)))] := hD
  refine lv_aload_n hx hb dX5_puts_22 rfl (lv_at hl 0 rfl) ?_
  refine lv_iload_n hx hb dX5_puts_23 rfl (lv_at hl 1 rfl) ?_
  refine lv_iconst (v := 3) hx hb dX5_puts_24 (by decide) ?_
  refine lv_iload hx hb dX5_puts_25 (lv_at hl 5 rfl) ?_
  refine z_VV (n := 3) (wn := (fun u : Unit => [(oM, .inr (5, [.ref mN, .ref mA, .ref mP, .int (nI ks), .ref mR, .ref mT, .int (nI ln), .long x1, .long x2, .long x3, .long x4, .long y1, .long y2, .long y3, .long y4, .ref mL, .ref mB, .int od, .int spt, .int wa, .long hs])), (mN, .inl (cI, 39, .inl (upd (upd (upd (upd qn (4 + 5 * n + 0) px) (4 + 5 * n + 1) py) (4 + 5 * n + 2) ph) (4 + 5 * n + 3) ps)))])) (wr := []) (As := [.int (nI n), .int 3, .int ps]) (rest := []) ⟨hx, hb, hml, hown, hts⟩ hK hP hD hS hA hT (kX5_tells l D cI cB tE tN oM mN mA mP mR mT mL mB ks ln x1 x2 x3 x4 y1 y2 y3 y4 od spt wa hs (upd (upd (upd qn (4 + 5 * n + 0) px) (4 + 5 * n + 1) py) (4 + 5 * n + 2) ph) n 3 ps _ (by omega) (by omega)) gX5_puts_X5_tells rfl rfl rfl (by decide +kernel) ⟨Nat.le_of_ble_eq_true rfl, Nat.le_of_ble_eq_true rfl⟩ [0, 1] [] [0, 1] (by decide) rfl rfl (by decide) (by decide) (by decide) (fun u => rfl) 0 5 rfl rfl rfl rfl hl.1 rfl (Nat.le_of_ble_eq_true rfl) dX5_puts_27 ⟨Nat.le_of_ble_eq_true rfl, Nat.le_of_ble_eq_true rfl⟩ (fun u H locs hw_8 hP hD hS => ?_)
  try dsimp only at hw_8
  have hP : va_P D vwCl [(oM, .inr (5, [.ref mN, .ref mA, .ref mP, .int (nI ks), .ref mR, .ref mT, .int (nI ln), .long x1, .long x2, .long x3, .long x4, .long y1, .long y2, .long y3, .long y4, .ref mL, .ref mB, .int od, .int spt, .int wa, .long hs])), (mN, .inl (cI, 39, .inl (upd (upd (upd (upd qn (4 + 5 * n + 0) px) (4 + 5 * n + 1) py) (4 + 5 * n + 2) ph) (4 + 5 * n + 3) ps)))] H := hP
  have hD : va_D A [(oM, .inr (5, [.ref mN, .ref mA, .ref mP, .int (nI ks), .ref mR, .ref mT, .int (nI ln), .long x1, .long x2, .long x3, .long x4, .long y1, .long y2, .long y3, .long y4, .ref mL, .ref mB, .int od, .int spt, .int wa, .long hs])), (mN, .inl (cI, 39, .inl (upd (upd (upd (upd qn (4 + 5 * n + 0) px) (4 + 5 * n + 1) py) (4 + 5 * n + 2) ph) (4 + 5 * n + 3) ps)))] := hD
  refine lv_aload_n hx hb dX5_puts_30 rfl (lv_at hl 0 rfl) ?_
  refine lv_iload_n hx hb dX5_puts_31 rfl (lv_at hl 1 rfl) ?_
  refine lv_iconst (v := 4) hx hb dX5_puts_32 (by decide) ?_
  refine lv_iconst (v := 0) hx hb dX5_puts_33 (by decide) ?_
  refine z_VV (n := 3) (wn := (fun u : Unit => [(oM, .inr (5, [.ref mN, .ref mA, .ref mP, .int (nI ks), .ref mR, .ref mT, .int (nI ln), .long x1, .long x2, .long x3, .long x4, .long y1, .long y2, .long y3, .long y4, .ref mL, .ref mB, .int od, .int spt, .int wa, .long hs])), (mN, .inl (cI, 39, .inl (upd (upd (upd (upd (upd qn (4 + 5 * n + 0) px) (4 + 5 * n + 1) py) (4 + 5 * n + 2) ph) (4 + 5 * n + 3) ps) (4 + 5 * n + 4) 0)))])) (wr := []) (As := [.int (nI n), .int 4, .int 0]) (rest := []) ⟨hx, hb, hml, hown, hts⟩ hK hP hD hS hA hT (kX5_tells l D cI cB tE tN oM mN mA mP mR mT mL mB ks ln x1 x2 x3 x4 y1 y2 y3 y4 od spt wa hs (upd (upd (upd (upd qn (4 + 5 * n + 0) px) (4 + 5 * n + 1) py) (4 + 5 * n + 2) ph) (4 + 5 * n + 3) ps) n 4 0 _ (by omega) (by omega)) gX5_puts_X5_tells rfl rfl rfl (by decide +kernel) ⟨Nat.le_of_ble_eq_true rfl, Nat.le_of_ble_eq_true rfl⟩ [0, 1] [] [0, 1] (by decide) rfl rfl (by decide) (by decide) (by decide) (fun u => rfl) 0 5 rfl rfl rfl rfl hl.1 rfl (Nat.le_of_ble_eq_true rfl) dX5_puts_34 ⟨Nat.le_of_ble_eq_true rfl, Nat.le_of_ble_eq_true rfl⟩ (fun u H locs hw_10 hP hD hS => ?_)
  try dsimp only at hw_10
  have hP : va_P D vwCl [(oM, .inr (5, [.ref mN, .ref mA, .ref mP, .int (nI ks), .ref mR, .ref mT, .int (nI ln), .long x1, .long x2, .long x3, .long x4, .long y1, .long y2, .long y3, .long y4, .ref mL, .ref mB, .int od, .int spt, .int wa, .long hs])), (mN, .inl (cI, 39, .inl (upd (upd (upd (upd (upd qn (4 + 5 * n + 0) px) (4 + 5 * n + 1) py) (4 + 5 * n + 2) ph) (4 + 5 * n + 3) ps) (4 + 5 * n + 4) 0)))] H := hP
  have hD : va_D A [(oM, .inr (5, [.ref mN, .ref mA, .ref mP, .int (nI ks), .ref mR, .ref mT, .int (nI ln), .long x1, .long x2, .long x3, .long x4, .long y1, .long y2, .long y3, .long y4, .ref mL, .ref mB, .int od, .int spt, .int wa, .long hs])), (mN, .inl (cI, 39, .inl (upd (upd (upd (upd (upd qn (4 + 5 * n + 0) px) (4 + 5 * n + 1) py) (4 + 5 * n + 2) ph) (4 + 5 * n + 3) ps) (4 + 5 * n + 4) 0)))] := hD
  exact hQ () _ _ _ _ (trivial) hP hD hS dX5_puts_37

set_option maxHeartbeats 4000000 in
set_option maxRecDepth 100000 in
theorem kX5_putOther (l : Launch) (D : va_G) (cI cB : ClassId) (tE tN : Nat) (oM : Nat) (mN : Nat) (mA : Nat) (mP : Nat) (mR : Nat) (mT : Nat) (mL : Nat) (mB : Nat) (ks : Nat) (ln : Nat) (x1 : Int64) (x2 : Int64) (x3 : Int64) (x4 : Int64) (y1 : Int64) (y2 : Int64) (y3 : Int64) (y4 : Int64) (od : Int32) (spt : Int32) (wa : Int32) (hs : Int64) (qn : Nat → Int32) (f : Nat → Int32) (N : Nat) (px : Int32) (py : Int32) (ph : Int32) (ps : Int32) (sz : Nat) (hR : Rg N f qn) (hI : Iv f) (hNN : nN f = N) : zI l yX5_putOther wsX5_putOther ({ frames := 2, cells := 0, slots := 0, locals := 48 }) D cI cB tE tN [.ref oM, .int px, .int py, .int ph, .int ps] [(oM, .inr (5, [.ref mN, .ref mA, .ref mP, .int (nI ks), .ref mR, .ref mT, .int (nI ln), .long x1, .long x2, .long x3, .long x4, .long y1, .long y2, .long y3, .long y4, .ref mL, .ref mB, .int od, .int spt, .int wa, .long hs])), (mN, .inl (cI, 39, .inl qn))] sz (fun u : (Nat → Int32) => [(oM, .inr (5, [.ref mN, .ref mA, .ref mP, .int (nI ks), .ref mR, .ref mT, .int (nI ln), .long x1, .long x2, .long x3, .long x4, .long y1, .long y2, .long y3, .long y4, .ref mL, .ref mB, .int od, .int spt, .int wa, .long hs])), (mN, .inl (cI, 39, .inl u))]) (fun (r : Int32) (u : (Nat → Int32)) => r = (cJoin f N px py ph ps).1 ∧ Rg (nN (cJoin f N px py ph ps).2) (cJoin f N px py ph ps).2 u) 0 0 := by
  refine zI_mk (cc := cX5_putOther) (maxL := 6) (rt := .int) (by decide) rfl (Nat.le_of_ble_eq_true rfl) ?_
  intro p e s m below meth c A Q ls S0 hname hA hK hP hD hT hS hQ hl
  obtain ⟨hx, hb, hml, hown, hts⟩ := id S0
  have hl : lv_has ls 6 [(0, .ref oM), (1, .int px), (2, .int py), (3, .int ph), (4, .int ps)] := hl
  have L7 : (Cond.fieldLink RX5 7 "PastAndClearModel" "now" "[I").before ([.ref oM, .int px, .int py, .int ph, .int ps] : List Value).toArray s = true := hts (.fieldLink RX5 7 "PastAndClearModel" "now" "[I") (by decide +kernel)
  have N5 : ∀ w ∈ u_ws RX5 TX5 21, w ∈ wsX5_putOther := by decide +kernel
  have hN6 : N ≤ 6 := by rw [← hNN]; exact hI.1
  refine lv_iload_n hx hb dX5_putOther_0 rfl (lv_at hl 1 rfl) ?_
  refine lv_iload_n hx hb dX5_putOther_1 rfl (lv_at hl 2 rfl) ?_
  refine z_SI (n := 2) (wn := (fun u : Unit => [(oM, .inr (5, [.ref mN, .ref mA, .ref mP, .int (nI ks), .ref mR, .ref mT, .int (nI ln), .long x1, .long x2, .long x3, .long x4, .long y1, .long y2, .long y3, .long y4, .ref mL, .ref mB, .int od, .int spt, .int wa, .long hs])), (mN, .inl (cI, 39, .inl qn))])) (wr := [(oM, .inr (5, [.ref mN, .ref mA, .ref mP, .int (nI ks), .ref mR, .ref mT, .int (nI ln), .long x1, .long x2, .long x3, .long x4, .long y1, .long y2, .long y3, .long y4, .ref mL, .ref mB, .int od, .int spt, .int wa, .long hs])), (mN, .inl (cI, 39, .inl qn))]) (As := [.int px, .int py]) (rest := []) ⟨hx, hb, hml, hown, hts⟩ hK hP hD hS hA hT (kX5_isPlace l D cI cB tE tN px py _ ) gX5_putOther_X5_isPlace rfl rfl rfl (by decide +kernel) ⟨Nat.le_of_ble_eq_true rfl, Nat.le_of_ble_eq_true rfl⟩ [] [0, 1] [0, 1] (by decide) rfl rfl (by decide) (by decide) (by decide) (fun u => rfl) rfl hl.1 rfl (Nat.le_of_ble_eq_true rfl) dX5_putOther_2 ⟨Nat.le_of_ble_eq_true rfl, Nat.le_of_ble_eq_true rfl⟩ (fun r_1 u H locs hw_2 hP hD hS => ?_)
  try dsimp only at hw_2
  have hP : va_P D vwCl [(oM, .inr (5, [.ref mN, .ref mA, .ref mP, .int (nI ks), .ref mR, .ref mT, .int (nI ln), .long x1, .long x2, .long x3, .long x4, .long y1, .long y2, .long y3, .long y4, .ref mL, .ref mB, .int od, .int spt, .int wa, .long hs])), (mN, .inl (cI, 39, .inl qn))] H := hP
  have hD : va_D A [(oM, .inr (5, [.ref mN, .ref mA, .ref mP, .int (nI ks), .ref mR, .ref mT, .int (nI ln), .long x1, .long x2, .long x3, .long x4, .long y1, .long y2, .long y3, .long y4, .ref mL, .ref mB, .int od, .int spt, .int wa, .long hs])), (mN, .inl (cI, 39, .inl qn))] := hD
  subst r_1
  refine lv_if_eq (tgt := 17) hx hb dX5_putOther_5 (by decide) (fun c_3 => ?_) (fun c_3 => ?_)
  · skip
    have c_3 := z_b0 c_3
    refine lv_sipush (v := (-10002)) hx hb dX5_putOther_17 (by decide) ?_
    exact hQ (-10002) qn _ _ _ _ (rfl) (by rw [join_bad (Or.inl c_3)]; exact ⟨rfl, by rw [hNN]; exact hR⟩) hP hD hS dX5_putOther_20
  · skip
    have c_3 := z_b1 c_3
    refine lv_iload_n hx hb dX5_putOther_8 rfl (lv_at hl 3 rfl) ?_
    refine lv_iload hx hb dX5_putOther_9 (lv_at hl 4 rfl) ?_
    refine z_SI (n := 2) (wn := (fun u : Unit => [(oM, .inr (5, [.ref mN, .ref mA, .ref mP, .int (nI ks), .ref mR, .ref mT, .int (nI ln), .long x1, .long x2, .long x3, .long x4, .long y1, .long y2, .long y3, .long y4, .ref mL, .ref mB, .int od, .int spt, .int wa, .long hs])), (mN, .inl (cI, 39, .inl qn))])) (wr := [(oM, .inr (5, [.ref mN, .ref mA, .ref mP, .int (nI ks), .ref mR, .ref mT, .int (nI ln), .long x1, .long x2, .long x3, .long x4, .long y1, .long y2, .long y3, .long y4, .ref mL, .ref mB, .int od, .int spt, .int wa, .long hs])), (mN, .inl (cI, 39, .inl qn))]) (As := [.int ph, .int ps]) (rest := []) ⟨hx, hb, hml, hown, hts⟩ hK hP hD hS hA hT (kX5_isCourse l D cI cB tE tN ph ps _ ) gX5_putOther_X5_isCourse rfl rfl rfl (by decide +kernel) ⟨Nat.le_of_ble_eq_true rfl, Nat.le_of_ble_eq_true rfl⟩ [] [0, 1] [0, 1] (by decide) rfl rfl (by decide) (by decide) (by decide) (fun u => rfl) rfl hl.1 rfl (Nat.le_of_ble_eq_true rfl) dX5_putOther_11 ⟨Nat.le_of_ble_eq_true rfl, Nat.le_of_ble_eq_true rfl⟩ (fun r_4 u H locs hw_5 hP hD hS => ?_)
    try dsimp only at hw_5
    have hP : va_P D vwCl [(oM, .inr (5, [.ref mN, .ref mA, .ref mP, .int (nI ks), .ref mR, .ref mT, .int (nI ln), .long x1, .long x2, .long x3, .long x4, .long y1, .long y2, .long y3, .long y4, .ref mL, .ref mB, .int od, .int spt, .int wa, .long hs])), (mN, .inl (cI, 39, .inl qn))] H := hP
    have hD : va_D A [(oM, .inr (5, [.ref mN, .ref mA, .ref mP, .int (nI ks), .ref mR, .ref mT, .int (nI ln), .long x1, .long x2, .long x3, .long x4, .long y1, .long y2, .long y3, .long y4, .ref mL, .ref mB, .int od, .int spt, .int wa, .long hs])), (mN, .inl (cI, 39, .inl qn))] := hD
    subst r_4
    refine lv_if_ne (tgt := 21) hx hb dX5_putOther_14 (by decide) (fun c_6 => ?_) (fun c_6 => ?_)
    · skip
      have c_6 := z_b1 c_6
      have hpl := Bool.and_eq_true_iff.mp c_3
      refine lv_aload_n hx hb dX5_putOther_21 rfl (lv_at hl 0 rfl) ?_
      refine va_get (D := D) (ci := 5) (v := .ref mN) (C := RX5) (T := TX5) (N := 21) hx hb hts N5 hown hK hP 0 rfl rfl 0 (by decide) L7 (fun _ h9 => h9) rfl dX5_putOther_22 ?_
      refine lv_iconst (v := 0) hx hb dX5_putOther_25 (by decide) ?_
      refine z_ild (v := nI (N + 1)) (j := 0) hx hb hK hP 1 rfl rfl (by omega) (by decide) (hR.1) dX5_putOther_26 ?_
      refine lv_bipush (v := 7) hx hb dX5_putOther_27 (by decide) ?_
      refine lv_icmp_ne (tgt := 36) hx hb dX5_putOther_29 (by decide) (fun c_7 => ?_) (fun c_7 => ?_)
      · skip
        have c_7 := (z_eqn (a := N + 1) (b := 7) rfl rfl (by omega) (by omega)).mp c_7
        have c_7 : N < 6 := by omega
        refine lv_aload_n hx hb dX5_putOther_36 rfl (lv_at hl 0 rfl) ?_
        refine va_get (D := D) (ci := 5) (v := .ref mN) (C := RX5) (T := TX5) (N := 21) hx hb hts N5 hown hK hP 0 rfl rfl 0 (by decide) L7 (fun _ h9 => h9) rfl dX5_putOther_37 ?_
        refine lv_iconst (v := 0) hx hb dX5_putOther_40 (by decide) ?_
        refine z_ild (v := nI (N + 1)) (j := 0) hx hb hK hP 1 rfl rfl (by omega) (by decide) (hR.1) dX5_putOther_41 ?_
        refine lv_istore (lv' := [(5, .int (nI (N + 1))), (0, .ref oM), (1, .int px), (2, .int py), (3, .int ph), (4, .int ps)]) hx hb dX5_putOther_42 hl (by decide) rfl (fun ls hl => ?_)
        refine lv_aload_n hx hb dX5_putOther_44 rfl (lv_at hl 1 rfl) ?_
        refine va_get (D := D) (ci := 5) (v := .ref mN) (C := RX5) (T := TX5) (N := 21) hx hb hts N5 hown hK hP 0 rfl rfl 0 (by decide) L7 (fun _ h9 => h9) rfl dX5_putOther_45 ?_
        refine lv_iconst (v := 0) hx hb dX5_putOther_48 (by decide) ?_
        refine lv_dup2_11 hx hb dX5_putOther_49 rfl rfl ?_
        refine z_ild (v := nI (N + 1)) (j := 0) hx hb hK hP 1 rfl rfl (by omega) (by decide) (hR.1) dX5_putOther_50 ?_
        refine lv_iconst (v := 1) hx hb dX5_putOther_51 (by decide) ?_
        refine lv_iadd hx hb dX5_putOther_52 ?_
        refine z_topi (x := (nI (N + 1)) + 1) (y := nI (N + 1 + 1)) (nI_1 (N + 1)) ?_
        refine z_ist (j := 0) hx hb hK hP hD hS 1 rfl rfl (by omega) (by decide) dX5_putOther_53 (fun H locs hP hD hS => ?_)
        have hP : va_P D vwCl [(oM, .inr (5, [.ref mN, .ref mA, .ref mP, .int (nI ks), .ref mR, .ref mT, .int (nI ln), .long x1, .long x2, .long x3, .long x4, .long y1, .long y2, .long y3, .long y4, .ref mL, .ref mB, .int od, .int spt, .int wa, .long hs])), (mN, .inl (cI, 39, .inl (upd qn 0 (nI (N + 1 + 1)))))] H := hP
        have hD : va_D A [(oM, .inr (5, [.ref mN, .ref mA, .ref mP, .int (nI ks), .ref mR, .ref mT, .int (nI ln), .long x1, .long x2, .long x3, .long x4, .long y1, .long y2, .long y3, .long y4, .ref mL, .ref mB, .int od, .int spt, .int wa, .long hs])), (mN, .inl (cI, 39, .inl (upd qn 0 (nI (N + 1 + 1)))))] := hD
        refine lv_aload_n hx hb dX5_putOther_54 rfl (lv_at hl 1 rfl) ?_
        refine lv_iload hx hb dX5_putOther_55 (lv_at hl 0 rfl) ?_
        refine lv_iload_n hx hb dX5_putOther_57 rfl (lv_at hl 2 rfl) ?_
        refine lv_iload_n hx hb dX5_putOther_58 rfl (lv_at hl 3 rfl) ?_
        refine lv_iload_n hx hb dX5_putOther_59 rfl (lv_at hl 4 rfl) ?_
        refine lv_iload hx hb dX5_putOther_60 (lv_at hl 5 rfl) ?_
        refine z_VV (n := 5) (wn := (fun u : Unit => [(oM, .inr (5, [.ref mN, .ref mA, .ref mP, .int (nI ks), .ref mR, .ref mT, .int (nI ln), .long x1, .long x2, .long x3, .long x4, .long y1, .long y2, .long y3, .long y4, .ref mL, .ref mB, .int od, .int spt, .int wa, .long hs])), (mN, .inl (cI, 39, .inl (putQ (upd qn 0 (nI (N + 1 + 1))) (N + 1) px py ph ps)))])) (wr := []) (As := [.int (nI (N + 1)), .int px, .int py, .int ph, .int ps]) (rest := []) ⟨hx, hb, hml, hown, hts⟩ hK hP hD hS hA hT (kX5_puts l D cI cB tE tN oM mN mA mP mR mT mL mB ks ln x1 x2 x3 x4 y1 y2 y3 y4 od spt wa hs (upd qn 0 (nI (N + 1 + 1))) (N + 1) px py ph ps _ (by omega)) gX5_putOther_X5_puts rfl rfl rfl (by decide +kernel) ⟨Nat.le_of_ble_eq_true rfl, Nat.le_of_ble_eq_true rfl⟩ [0, 1] [] [0, 1] (by decide) rfl rfl (by decide) (by decide) (by decide) (fun u => rfl) 0 5 rfl rfl rfl rfl hl.1 rfl (Nat.le_of_ble_eq_true rfl) dX5_putOther_62 ⟨Nat.le_of_ble_eq_true rfl, Nat.le_of_ble_eq_true rfl⟩ (fun u H locs hw_9 hP hD hS => ?_)
        try dsimp only at hw_9
        have hP : va_P D vwCl [(oM, .inr (5, [.ref mN, .ref mA, .ref mP, .int (nI ks), .ref mR, .ref mT, .int (nI ln), .long x1, .long x2, .long x3, .long x4, .long y1, .long y2, .long y3, .long y4, .ref mL, .ref mB, .int od, .int spt, .int wa, .long hs])), (mN, .inl (cI, 39, .inl (putQ (upd qn 0 (nI (N + 1 + 1))) (N + 1) px py ph ps)))] H := hP
        have hD : va_D A [(oM, .inr (5, [.ref mN, .ref mA, .ref mP, .int (nI ks), .ref mR, .ref mT, .int (nI ln), .long x1, .long x2, .long x3, .long x4, .long y1, .long y2, .long y3, .long y4, .ref mL, .ref mB, .int od, .int spt, .int wa, .long hs])), (mN, .inl (cI, 39, .inl (putQ (upd qn 0 (nI (N + 1 + 1))) (N + 1) px py ph ps)))] := hD
        refine lv_iload hx hb dX5_putOther_65 (lv_at hl 0 rfl) ?_
        exact hQ (nI (N + 1)) (putQ (upd qn 0 (nI (N + 1 + 1))) (N + 1) px py ph ps) _ _ _ _ (rfl) (by rw [join_ok hpl.1 hpl.2 c_6 c_7, nN_put (by omega), nN_of upd_eq (by omega)]; exact ⟨rfl, Rg_join hR c_7⟩) hP hD hS dX5_putOther_67
      · skip
        have c_7 := (z_eq (a := N + 1) (b := 7) rfl rfl (by omega) (by omega)).mp c_7
        have c_7 : ¬ N < 6 := by omega
        refine lv_sipush (v := (-10004)) hx hb dX5_putOther_32 (by decide) ?_
        exact hQ (-10004) qn _ _ _ _ (rfl) (by rw [join_full hpl.1 hpl.2 c_6 c_7]; exact ⟨rfl, by rw [hNN]; exact hR⟩) hP hD hS dX5_putOther_35
    · skip
      have c_6 := z_b0 c_6
      refine lv_sipush (v := (-10002)) hx hb dX5_putOther_17 (by decide) ?_
      exact hQ (-10002) qn _ _ _ _ (rfl) (by rw [join_bad (Or.inr c_6)]; exact ⟨rfl, by rw [hNN]; exact hR⟩) hP hD hS dX5_putOther_20

set_option maxHeartbeats 4000000 in
set_option maxRecDepth 100000 in
theorem kX5_putOwn (l : Launch) (D : va_G) (cI cB : ClassId) (tE tN : Nat) (oM : Nat) (mN : Nat) (mA : Nat) (mP : Nat) (mR : Nat) (mT : Nat) (mL : Nat) (mB : Nat) (ks : Nat) (ln : Nat) (x1 : Int64) (x2 : Int64) (x3 : Int64) (x4 : Int64) (y1 : Int64) (y2 : Int64) (y3 : Int64) (y4 : Int64) (od : Int32) (spt : Int32) (wa : Int32) (hs : Int64) (qn : Nat → Int32) (f : Nat → Int32) (N : Nat) (px : Int32) (py : Int32) (ph : Int32) (ps : Int32) (sz : Nat) (hR : Rg N f qn) (hI : Iv f) (hNN : nN f = N) : zI l yX5_putOwn wsX5_putOwn ({ frames := 2, cells := 0, slots := 0, locals := 48 }) D cI cB tE tN [.ref oM, .int px, .int py, .int ph, .int ps] [(oM, .inr (5, [.ref mN, .ref mA, .ref mP, .int (nI ks), .ref mR, .ref mT, .int (nI ln), .long x1, .long x2, .long x3, .long x4, .long y1, .long y2, .long y3, .long y4, .ref mL, .ref mB, .int od, .int spt, .int wa, .long hs])), (mN, .inl (cI, 39, .inl qn))] sz (fun u : (Nat → Int32) => [(oM, .inr (5, [.ref mN, .ref mA, .ref mP, .int (nI ks), .ref mR, .ref mT, .int (nI ln), .long x1, .long x2, .long x3, .long x4, .long y1, .long y2, .long y3, .long y4, .ref mL, .ref mB, .int od, .int spt, .int wa, .long hs])), (mN, .inl (cI, 39, .inl u))]) (fun (r : Int32) (u : (Nat → Int32)) => r = (cOwn f N px py ph ps).1 ∧ Rg (nN (cOwn f N px py ph ps).2) (cOwn f N px py ph ps).2 u) 0 0 := by
  refine zI_mk (cc := cX5_putOwn) (maxL := 6) (rt := .int) (by decide) rfl (Nat.le_of_ble_eq_true rfl) ?_
  intro p e s m below meth c A Q ls S0 hname hA hK hP hD hT hS hQ hl
  obtain ⟨hx, hb, hml, hown, hts⟩ := id S0
  have hl : lv_has ls 6 [(0, .ref oM), (1, .int px), (2, .int py), (3, .int ph), (4, .int ps)] := hl
  have L7 : (Cond.fieldLink RX5 7 "PastAndClearModel" "now" "[I").before ([.ref oM, .int px, .int py, .int ph, .int ps] : List Value).toArray s = true := hts (.fieldLink RX5 7 "PastAndClearModel" "now" "[I") (by decide +kernel)
  have N5 : ∀ w ∈ u_ws RX5 TX5 21, w ∈ wsX5_putOwn := by decide +kernel
  have hN6 : N ≤ 6 := by rw [← hNN]; exact hI.1
  have lp34 : ∀ (k : Nat) (n : Nat) (q1 : Nat → Int32) (H : Heap) (locs : List Loc) (ls : Array Slot), N - n = k → (n ≤ N) → (Rg N (nodF (putF f 0 px py ph ps) n) q1) → (cPlace px = true) → (cPlace py = true) → (cCourse ph ps = true) → va_P D vwCl [(oM, .inr (5, [.ref mN, .ref mA, .ref mP, .int (nI ks), .ref mR, .ref mT, .int (nI ln), .long x1, .long x2, .long x3, .long x4, .long y1, .long y2, .long y3, .long y4, .ref mL, .ref mB, .int od, .int spt, .int wa, .long hs])), (mN, .inl (cI, 39, .inl q1))] H → va_D A [(oM, .inr (5, [.ref mN, .ref mA, .ref mP, .int (nI ks), .ref mR, .ref mT, .int (nI ln), .long x1, .long x2, .long x3, .long x4, .long y1, .long y2, .long y3, .long y4, .ref mL, .ref mB, .int od, .int spt, .int wa, .long hs])), (mN, .inl (cI, 39, .inl q1))] → va_S A s.heap H locs → lv_has ls 6 [(5, .int (nI (n + 1))), (0, .ref oM), (1, .int px), (2, .int py), (3, .int ph), (4, .int ps)] → W p l e ({ frames := 2, cells := 0, slots := 0, locals := 48 } : Room) s m ([.ref oM, .int px, .int py, .int ph, .int ps] : List Value).toArray below meth c H locs 0 0 Q (F0 m 34 ls []) := by
    intro k
    induction k using Nat.strongRecOn with
    | ind k ih =>
    intro n q1 H locs ls hk hn hR1 c1 c2 c3 hP hD hS hl
    refine lv_iload hx hb dX5_putOwn_34 (lv_at hl 0 rfl) ?_
    refine lv_aload_n hx hb dX5_putOwn_36 rfl (lv_at hl 1 rfl) ?_
    refine va_get (D := D) (ci := 5) (v := .ref mN) (C := RX5) (T := TX5) (N := 21) hx hb hts N5 hown hK hP 0 rfl rfl 0 (by decide) L7 (fun _ h9 => h9) rfl dX5_putOwn_37 ?_
    refine lv_iconst (v := 0) hx hb dX5_putOwn_40 (by decide) ?_
    refine z_ild (v := nI (N + 1)) (j := 0) hx hb hK hP 1 rfl rfl (by omega) (by decide) (hR1.1) dX5_putOwn_41 ?_
    refine lv_icmp_ge (tgt := 59) hx hb dX5_putOwn_42 (by decide) (fun c_1 => ?_) (fun c_1 => ?_)
    · skip
      have c_1 := (z_le (a := N + 1) (b := n + 1) rfl rfl (by omega) (by omega)).mp c_1
      refine lv_aload_n hx hb dX5_putOwn_59 rfl (lv_at hl 1 rfl) ?_
      refine va_get (D := D) (ci := 5) (v := .ref mN) (C := RX5) (T := TX5) (N := 21) hx hb hts N5 hown hK hP 0 rfl rfl 0 (by decide) L7 (fun _ h9 => h9) rfl dX5_putOwn_60 ?_
      refine lv_iconst (v := 3) hx hb dX5_putOwn_63 (by decide) ?_
      refine lv_iconst (v := 0) hx hb dX5_putOwn_64 (by decide) ?_
      refine z_ist (j := 3) hx hb hK hP hD hS 1 rfl rfl (by omega) (by decide) dX5_putOwn_65 (fun H locs hP hD hS => ?_)
      have hP : va_P D vwCl [(oM, .inr (5, [.ref mN, .ref mA, .ref mP, .int (nI ks), .ref mR, .ref mT, .int (nI ln), .long x1, .long x2, .long x3, .long x4, .long y1, .long y2, .long y3, .long y4, .ref mL, .ref mB, .int od, .int spt, .int wa, .long hs])), (mN, .inl (cI, 39, .inl (upd q1 3 0)))] H := hP
      have hD : va_D A [(oM, .inr (5, [.ref mN, .ref mA, .ref mP, .int (nI ks), .ref mR, .ref mT, .int (nI ln), .long x1, .long x2, .long x3, .long x4, .long y1, .long y2, .long y3, .long y4, .ref mL, .ref mB, .int od, .int spt, .int wa, .long hs])), (mN, .inl (cI, 39, .inl (upd q1 3 0)))] := hD
      refine lv_aload_n hx hb dX5_putOwn_66 rfl (lv_at hl 1 rfl) ?_
      refine va_get (D := D) (ci := 5) (v := .ref mN) (C := RX5) (T := TX5) (N := 21) hx hb hts N5 hown hK hP 0 rfl rfl 0 (by decide) L7 (fun _ h9 => h9) rfl dX5_putOwn_67 ?_
      refine lv_iconst (v := 0) hx hb dX5_putOwn_70 (by decide) ?_
      refine z_ild (v := nI (N + 1)) (j := 0) hx hb hK hP 1 rfl rfl (by omega) (by decide) (by rw [upd_ne (by omega)]; exact hR1.1) dX5_putOwn_71 ?_
      refine lv_iconst (v := 1) hx hb dX5_putOwn_72 (by decide) ?_
      refine lv_isub hx hb dX5_putOwn_73 ?_
      refine z_topi (x := (nI (N + 1)) - 1) (y := nI N) (nI_pred N) ?_
      exact hQ (nI N) (upd q1 3 0) _ _ _ _ (rfl) (by rw [own_ok c1 c2 c3, nN_upd (by omega), nN_nod (by omega), nN_put (by omega), hNN]; refine ⟨rfl, ?_⟩; rw [show N = n by omega] at hR1 ⊢; exact Rg_cell hR1 (by omega) (k := 3) (by omega)) hP hD hS dX5_putOwn_74
    · skip
      have c_1 := (z_len (a := N + 1) (b := n + 1) rfl rfl (by omega) (by omega)).mp c_1
      refine lv_aload_n hx hb dX5_putOwn_45 rfl (lv_at hl 1 rfl) ?_
      refine lv_iload hx hb dX5_putOwn_46 (lv_at hl 0 rfl) ?_
      refine lv_iconst (v := 4) hx hb dX5_putOwn_48 (by decide) ?_
      refine lv_iconst (v := 0) hx hb dX5_putOwn_49 (by decide) ?_
      refine z_VV (n := 3) (wn := (fun u : Unit => [(oM, .inr (5, [.ref mN, .ref mA, .ref mP, .int (nI ks), .ref mR, .ref mT, .int (nI ln), .long x1, .long x2, .long x3, .long x4, .long y1, .long y2, .long y3, .long y4, .ref mL, .ref mB, .int od, .int spt, .int wa, .long hs])), (mN, .inl (cI, 39, .inl (upd q1 (4 + 5 * (n + 1) + 4) 0)))])) (wr := []) (As := [.int (nI (n + 1)), .int 4, .int 0]) (rest := []) ⟨hx, hb, hml, hown, hts⟩ hK hP hD hS hA hT (kX5_tells l D cI cB tE tN oM mN mA mP mR mT mL mB ks ln x1 x2 x3 x4 y1 y2 y3 y4 od spt wa hs q1 (n + 1) 4 0 _ (by omega) (by omega)) gX5_putOwn_X5_tells rfl rfl rfl (by decide +kernel) ⟨Nat.le_of_ble_eq_true rfl, Nat.le_of_ble_eq_true rfl⟩ [0, 1] [] [0, 1] (by decide) rfl rfl (by decide) (by decide) (by decide) (fun u => rfl) 0 5 rfl rfl rfl rfl hl.1 rfl (Nat.le_of_ble_eq_true rfl) dX5_putOwn_50 ⟨Nat.le_of_ble_eq_true rfl, Nat.le_of_ble_eq_true rfl⟩ (fun u H locs hw_3 hP hD hS => ?_)
      try dsimp only at hw_3
      have hP : va_P D vwCl [(oM, .inr (5, [.ref mN, .ref mA, .ref mP, .int (nI ks), .ref mR, .ref mT, .int (nI ln), .long x1, .long x2, .long x3, .long x4, .long y1, .long y2, .long y3, .long y4, .ref mL, .ref mB, .int od, .int spt, .int wa, .long hs])), (mN, .inl (cI, 39, .inl (upd q1 (4 + 5 * (n + 1) + 4) 0)))] H := hP
      have hD : va_D A [(oM, .inr (5, [.ref mN, .ref mA, .ref mP, .int (nI ks), .ref mR, .ref mT, .int (nI ln), .long x1, .long x2, .long x3, .long x4, .long y1, .long y2, .long y3, .long y4, .ref mL, .ref mB, .int od, .int spt, .int wa, .long hs])), (mN, .inl (cI, 39, .inl (upd q1 (4 + 5 * (n + 1) + 4) 0)))] := hD
      refine lv_iinc (v := nI (n + 1 + 1)) (lv' := [(5, .int (nI (n + 1 + 1))), (0, .ref oM), (1, .int px), (2, .int py), (3, .int ph), (4, .int ps)]) hx hb dX5_putOwn_53 hl (k := 0) rfl (z_add rfl rfl) (by decide) rfl (fun ls hl => ?_)
      refine lv_goto (tgt := 34) hx hb dX5_putOwn_56 (by decide) ?_
      exact ih _ (by omega) (n + 1) (upd q1 (4 + 5 * (n + 1) + 4) 0) _ _ _ rfl (by omega) (hR1.put (n := n + 1) (k := 4) (by omega) (by omega) hN6 0) c1 c2 c3 hP hD hS (lv_sub hl [0, 1, 2, 3, 4, 5] rfl)
  refine lv_iload_n hx hb dX5_putOwn_0 rfl (lv_at hl 1 rfl) ?_
  refine lv_iload_n hx hb dX5_putOwn_1 rfl (lv_at hl 2 rfl) ?_
  refine z_SI (n := 2) (wn := (fun u : Unit => [(oM, .inr (5, [.ref mN, .ref mA, .ref mP, .int (nI ks), .ref mR, .ref mT, .int (nI ln), .long x1, .long x2, .long x3, .long x4, .long y1, .long y2, .long y3, .long y4, .ref mL, .ref mB, .int od, .int spt, .int wa, .long hs])), (mN, .inl (cI, 39, .inl qn))])) (wr := [(oM, .inr (5, [.ref mN, .ref mA, .ref mP, .int (nI ks), .ref mR, .ref mT, .int (nI ln), .long x1, .long x2, .long x3, .long x4, .long y1, .long y2, .long y3, .long y4, .ref mL, .ref mB, .int od, .int spt, .int wa, .long hs])), (mN, .inl (cI, 39, .inl qn))]) (As := [.int px, .int py]) (rest := []) ⟨hx, hb, hml, hown, hts⟩ hK hP hD hS hA hT (kX5_isPlace l D cI cB tE tN px py _ ) gX5_putOwn_X5_isPlace rfl rfl rfl (by decide +kernel) ⟨Nat.le_of_ble_eq_true rfl, Nat.le_of_ble_eq_true rfl⟩ [] [0, 1] [0, 1] (by decide) rfl rfl (by decide) (by decide) (by decide) (fun u => rfl) rfl hl.1 rfl (Nat.le_of_ble_eq_true rfl) dX5_putOwn_2 ⟨Nat.le_of_ble_eq_true rfl, Nat.le_of_ble_eq_true rfl⟩ (fun r_4 u H locs hw_5 hP hD hS => ?_)
  try dsimp only at hw_5
  have hP : va_P D vwCl [(oM, .inr (5, [.ref mN, .ref mA, .ref mP, .int (nI ks), .ref mR, .ref mT, .int (nI ln), .long x1, .long x2, .long x3, .long x4, .long y1, .long y2, .long y3, .long y4, .ref mL, .ref mB, .int od, .int spt, .int wa, .long hs])), (mN, .inl (cI, 39, .inl qn))] H := hP
  have hD : va_D A [(oM, .inr (5, [.ref mN, .ref mA, .ref mP, .int (nI ks), .ref mR, .ref mT, .int (nI ln), .long x1, .long x2, .long x3, .long x4, .long y1, .long y2, .long y3, .long y4, .ref mL, .ref mB, .int od, .int spt, .int wa, .long hs])), (mN, .inl (cI, 39, .inl qn))] := hD
  subst r_4
  refine lv_if_eq (tgt := 17) hx hb dX5_putOwn_5 (by decide) (fun c_6 => ?_) (fun c_6 => ?_)
  · skip
    have c_6 := z_b0 c_6
    refine lv_sipush (v := (-10002)) hx hb dX5_putOwn_17 (by decide) ?_
    exact hQ (-10002) qn _ _ _ _ (rfl) (by rw [own_bad (Or.inl c_6)]; exact ⟨rfl, by rw [hNN]; exact hR⟩) hP hD hS dX5_putOwn_20
  · skip
    have c_6 := z_b1 c_6
    refine lv_iload_n hx hb dX5_putOwn_8 rfl (lv_at hl 3 rfl) ?_
    refine lv_iload hx hb dX5_putOwn_9 (lv_at hl 4 rfl) ?_
    refine z_SI (n := 2) (wn := (fun u : Unit => [(oM, .inr (5, [.ref mN, .ref mA, .ref mP, .int (nI ks), .ref mR, .ref mT, .int (nI ln), .long x1, .long x2, .long x3, .long x4, .long y1, .long y2, .long y3, .long y4, .ref mL, .ref mB, .int od, .int spt, .int wa, .long hs])), (mN, .inl (cI, 39, .inl qn))])) (wr := [(oM, .inr (5, [.ref mN, .ref mA, .ref mP, .int (nI ks), .ref mR, .ref mT, .int (nI ln), .long x1, .long x2, .long x3, .long x4, .long y1, .long y2, .long y3, .long y4, .ref mL, .ref mB, .int od, .int spt, .int wa, .long hs])), (mN, .inl (cI, 39, .inl qn))]) (As := [.int ph, .int ps]) (rest := []) ⟨hx, hb, hml, hown, hts⟩ hK hP hD hS hA hT (kX5_isCourse l D cI cB tE tN ph ps _ ) gX5_putOwn_X5_isCourse rfl rfl rfl (by decide +kernel) ⟨Nat.le_of_ble_eq_true rfl, Nat.le_of_ble_eq_true rfl⟩ [] [0, 1] [0, 1] (by decide) rfl rfl (by decide) (by decide) (by decide) (fun u => rfl) rfl hl.1 rfl (Nat.le_of_ble_eq_true rfl) dX5_putOwn_11 ⟨Nat.le_of_ble_eq_true rfl, Nat.le_of_ble_eq_true rfl⟩ (fun r_7 u H locs hw_8 hP hD hS => ?_)
    try dsimp only at hw_8
    have hP : va_P D vwCl [(oM, .inr (5, [.ref mN, .ref mA, .ref mP, .int (nI ks), .ref mR, .ref mT, .int (nI ln), .long x1, .long x2, .long x3, .long x4, .long y1, .long y2, .long y3, .long y4, .ref mL, .ref mB, .int od, .int spt, .int wa, .long hs])), (mN, .inl (cI, 39, .inl qn))] H := hP
    have hD : va_D A [(oM, .inr (5, [.ref mN, .ref mA, .ref mP, .int (nI ks), .ref mR, .ref mT, .int (nI ln), .long x1, .long x2, .long x3, .long x4, .long y1, .long y2, .long y3, .long y4, .ref mL, .ref mB, .int od, .int spt, .int wa, .long hs])), (mN, .inl (cI, 39, .inl qn))] := hD
    subst r_7
    refine lv_if_ne (tgt := 21) hx hb dX5_putOwn_14 (by decide) (fun c_9 => ?_) (fun c_9 => ?_)
    · skip
      have c_9 := z_b1 c_9
      have hpl := Bool.and_eq_true_iff.mp c_6
      refine lv_aload_n hx hb dX5_putOwn_21 rfl (lv_at hl 0 rfl) ?_
      refine lv_iconst (v := 0) hx hb dX5_putOwn_22 (by decide) ?_
      refine lv_iload_n hx hb dX5_putOwn_23 rfl (lv_at hl 1 rfl) ?_
      refine lv_iload_n hx hb dX5_putOwn_24 rfl (lv_at hl 2 rfl) ?_
      refine lv_iload_n hx hb dX5_putOwn_25 rfl (lv_at hl 3 rfl) ?_
      refine lv_iload hx hb dX5_putOwn_26 (lv_at hl 4 rfl) ?_
      refine z_VV (n := 5) (wn := (fun u : Unit => [(oM, .inr (5, [.ref mN, .ref mA, .ref mP, .int (nI ks), .ref mR, .ref mT, .int (nI ln), .long x1, .long x2, .long x3, .long x4, .long y1, .long y2, .long y3, .long y4, .ref mL, .ref mB, .int od, .int spt, .int wa, .long hs])), (mN, .inl (cI, 39, .inl (putQ qn 0 px py ph ps)))])) (wr := []) (As := [.int 0, .int px, .int py, .int ph, .int ps]) (rest := []) ⟨hx, hb, hml, hown, hts⟩ hK hP hD hS hA hT (kX5_puts l D cI cB tE tN oM mN mA mP mR mT mL mB ks ln x1 x2 x3 x4 y1 y2 y3 y4 od spt wa hs qn 0 px py ph ps _ (by omega)) gX5_putOwn_X5_puts rfl rfl rfl (by decide +kernel) ⟨Nat.le_of_ble_eq_true rfl, Nat.le_of_ble_eq_true rfl⟩ [0, 1] [] [0, 1] (by decide) rfl rfl (by decide) (by decide) (by decide) (fun u => rfl) 0 5 rfl rfl rfl rfl hl.1 rfl (Nat.le_of_ble_eq_true rfl) dX5_putOwn_28 ⟨Nat.le_of_ble_eq_true rfl, Nat.le_of_ble_eq_true rfl⟩ (fun u H locs hw_11 hP hD hS => ?_)
      try dsimp only at hw_11
      have hP : va_P D vwCl [(oM, .inr (5, [.ref mN, .ref mA, .ref mP, .int (nI ks), .ref mR, .ref mT, .int (nI ln), .long x1, .long x2, .long x3, .long x4, .long y1, .long y2, .long y3, .long y4, .ref mL, .ref mB, .int od, .int spt, .int wa, .long hs])), (mN, .inl (cI, 39, .inl (putQ qn 0 px py ph ps)))] H := hP
      have hD : va_D A [(oM, .inr (5, [.ref mN, .ref mA, .ref mP, .int (nI ks), .ref mR, .ref mT, .int (nI ln), .long x1, .long x2, .long x3, .long x4, .long y1, .long y2, .long y3, .long y4, .ref mL, .ref mB, .int od, .int spt, .int wa, .long hs])), (mN, .inl (cI, 39, .inl (putQ qn 0 px py ph ps)))] := hD
      refine lv_iconst (v := 1) hx hb dX5_putOwn_31 (by decide) ?_
      refine lv_istore (lv' := [(5, .int 1), (0, .ref oM), (1, .int px), (2, .int py), (3, .int ph), (4, .int ps)]) hx hb dX5_putOwn_32 hl (by decide) rfl (fun ls hl => ?_)
      exact lp34 _ 0 (putQ qn 0 px py ph ps) _ _ _ rfl (by omega) (Rg_put5 hR (by omega) hN6) hpl.1 hpl.2 c_9 hP hD hS (lv_sub hl [0, 1, 2, 3, 4, 5] rfl)
    · skip
      have c_9 := z_b0 c_9
      refine lv_sipush (v := (-10002)) hx hb dX5_putOwn_17 (by decide) ?_
      exact hQ (-10002) qn _ _ _ _ (rfl) (by rw [own_bad (Or.inr c_9)]; exact ⟨rfl, by rw [hNN]; exact hR⟩) hP hD hS dX5_putOwn_20

set_option maxHeartbeats 4000000 in
set_option maxRecDepth 100000 in
theorem kX5_putAway (l : Launch) (D : va_G) (cI cB : ClassId) (tE tN : Nat) (oM : Nat) (mN : Nat) (mA : Nat) (mP : Nat) (mR : Nat) (mT : Nat) (mL : Nat) (mB : Nat) (ks : Nat) (ln : Nat) (x1 : Int64) (x2 : Int64) (x3 : Int64) (x4 : Int64) (y1 : Int64) (y2 : Int64) (y3 : Int64) (y4 : Int64) (od : Int32) (spt : Int32) (wa : Int32) (hs : Int64) (qn : Nat → Int32) (f : Nat → Int32) (N : Nat) (i : Int32) (sz : Nat) (hR : Rg N f qn) (hI : Iv f) (hNN : nN f = N) : zI l yX5_putAway wsX5_putAway ({ frames := 3, cells := 0, slots := 0, locals := 64 }) D cI cB tE tN [.ref oM, .int i] [(oM, .inr (5, [.ref mN, .ref mA, .ref mP, .int (nI ks), .ref mR, .ref mT, .int (nI ln), .long x1, .long x2, .long x3, .long x4, .long y1, .long y2, .long y3, .long y4, .ref mL, .ref mB, .int od, .int spt, .int wa, .long hs])), (mN, .inl (cI, 39, .inl qn))] sz (fun u : (Nat → Int32) => [(oM, .inr (5, [.ref mN, .ref mA, .ref mP, .int (nI ks), .ref mR, .ref mT, .int (nI ln), .long x1, .long x2, .long x3, .long x4, .long y1, .long y2, .long y3, .long y4, .ref mL, .ref mB, .int od, .int spt, .int wa, .long hs])), (mN, .inl (cI, 39, .inl u))]) (fun (r : Int32) (u : (Nat → Int32)) => r = (cLeave f N i).1 ∧ Rg (nN (cLeave f N i).2) (cLeave f N i).2 u) 0 0 := by
  refine zI_mk (cc := cX5_putAway) (maxL := 3) (rt := .int) (by decide) rfl (Nat.le_of_ble_eq_true rfl) ?_
  intro p e s m below meth c A Q ls S0 hname hA hK hP hD hT hS hQ hl
  obtain ⟨hx, hb, hml, hown, hts⟩ := id S0
  have hl : lv_has ls 3 [(0, .ref oM), (1, .int i)] := hl
  have L7 : (Cond.fieldLink RX5 7 "PastAndClearModel" "now" "[I").before ([.ref oM, .int i] : List Value).toArray s = true := hts (.fieldLink RX5 7 "PastAndClearModel" "now" "[I") (by decide +kernel)
  have N5 : ∀ w ∈ u_ws RX5 TX5 21, w ∈ wsX5_putAway := by decide +kernel
  have hN6 : N ≤ 6 := by rw [← hNN]; exact hI.1
  have lp28 : ∀ (k : Nat) (n : Nat) (kk : Nat) (q1 : Nat → Int32) (H : Heap) (locs : List Loc) (ls : Array Slot), 39 - kk = k → (1 ≤ n) → (n ≤ N) → (4 + 5 * n ≤ kk) → (kk ≤ 39) → (i = nI n) → (cOther f i = true) → (q1 0 = nI N) → (∀ j, 1 ≤ j → j < 4 + 5 * n → q1 j = qn j) → (∀ j, 4 + 5 * n ≤ j → j < kk → j < 39 → q1 j = if j + 5 < 39 then qn (j + 5) else 0) → (∀ j, kk ≤ j → j < 39 → q1 j = qn j) → va_P D vwCl [(oM, .inr (5, [.ref mN, .ref mA, .ref mP, .int (nI ks), .ref mR, .ref mT, .int (nI ln), .long x1, .long x2, .long x3, .long x4, .long y1, .long y2, .long y3, .long y4, .ref mL, .ref mB, .int od, .int spt, .int wa, .long hs])), (mN, .inl (cI, 39, .inl q1))] H → va_D A [(oM, .inr (5, [.ref mN, .ref mA, .ref mP, .int (nI ks), .ref mR, .ref mT, .int (nI ln), .long x1, .long x2, .long x3, .long x4, .long y1, .long y2, .long y3, .long y4, .ref mL, .ref mB, .int od, .int spt, .int wa, .long hs])), (mN, .inl (cI, 39, .inl q1))] → va_S A s.heap H locs → lv_has ls 3 [(2, .int (nI kk)), (0, .ref oM)] → W p l e ({ frames := 3, cells := 0, slots := 0, locals := 64 } : Room) s m ([.ref oM, .int i] : List Value).toArray below meth c H locs 0 0 Q (F0 m 28 ls []) := by
    intro k
    induction k using Nat.strongRecOn with
    | ind k ih =>
    intro n kk q1 H locs ls hk hn1 hn2 hk1 hk2 hin hc e0 e1 e2 e3 hP hD hS hl
    refine lv_iload_n hx hb dX5_putAway_28 rfl (lv_at hl 0 rfl) ?_
    refine lv_bipush (v := 39) hx hb dX5_putAway_29 (by decide) ?_
    refine lv_icmp_ge (tgt := 66) hx hb dX5_putAway_31 (by decide) (fun c_1 => ?_) (fun c_1 => ?_)
    · skip
      have c_1 := (z_le (a := 39) (b := kk) rfl rfl (by omega) (by omega)).mp c_1
      refine lv_aload_n hx hb dX5_putAway_66 rfl (lv_at hl 1 rfl) ?_
      refine va_get (D := D) (ci := 5) (v := .ref mN) (C := RX5) (T := TX5) (N := 21) hx hb hts N5 hown hK hP 0 rfl rfl 0 (by decide) L7 (fun _ h9 => h9) rfl dX5_putAway_67 ?_
      refine lv_iconst (v := 0) hx hb dX5_putAway_70 (by decide) ?_
      refine z_ild (v := nI N) (j := 0) hx hb hK hP 1 rfl rfl (by omega) (by decide) (e0) dX5_putAway_71 ?_
      refine lv_iconst (v := 1) hx hb dX5_putAway_72 (by decide) ?_
      refine lv_isub hx hb dX5_putAway_73 ?_
      refine z_topi (x := (nI N) - 1) (y := nI (N - 1)) (z_sub (b := 1) (by omega)) ?_
      exact hQ (nI (N - 1)) q1 _ _ _ _ (rfl) (by rw [cLeave, if_pos hc, hin, nI_clamp (by omega), nN_of upd_eq (by omega)]; exact ⟨rfl, Rg_leave hR hN6 hn1 hn2 e0 e1 (fun j h1 h2 => e2 j h1 (by omega) h2)⟩) hP hD hS dX5_putAway_74
    · skip
      have c_1 := (z_len (a := 39) (b := kk) rfl rfl (by omega) (by omega)).mp c_1
      refine lv_aload_n hx hb dX5_putAway_34 rfl (lv_at hl 1 rfl) ?_
      refine va_get (D := D) (ci := 5) (v := .ref mN) (C := RX5) (T := TX5) (N := 21) hx hb hts N5 hown hK hP 0 rfl rfl 0 (by decide) L7 (fun _ h9 => h9) rfl dX5_putAway_35 ?_
      refine lv_iload_n hx hb dX5_putAway_38 rfl (lv_at hl 0 rfl) ?_
      refine lv_iload_n hx hb dX5_putAway_39 rfl (lv_at hl 0 rfl) ?_
      refine lv_iconst (v := 5) hx hb dX5_putAway_40 (by decide) ?_
      refine lv_iadd hx hb dX5_putAway_41 ?_
      refine lv_bipush (v := 39) hx hb dX5_putAway_42 (by decide) ?_
      refine lv_icmp_ge (tgt := 58) hx hb dX5_putAway_44 (by decide) (fun c_2 => ?_) (fun c_2 => ?_)
      · skip
        have c_2 := (z_le (a := 39) (b := kk + 5) rfl (z_add rfl rfl) (by omega) (by omega)).mp c_2
        refine lv_iconst (v := 0) hx hb dX5_putAway_58 (by decide) ?_
        refine z_ist (j := kk) hx hb hK hP hD hS 1 rfl rfl (by omega) (by decide) dX5_putAway_59 (fun H locs hP hD hS => ?_)
        have hP : va_P D vwCl [(oM, .inr (5, [.ref mN, .ref mA, .ref mP, .int (nI ks), .ref mR, .ref mT, .int (nI ln), .long x1, .long x2, .long x3, .long x4, .long y1, .long y2, .long y3, .long y4, .ref mL, .ref mB, .int od, .int spt, .int wa, .long hs])), (mN, .inl (cI, 39, .inl (upd q1 kk 0)))] H := hP
        have hD : va_D A [(oM, .inr (5, [.ref mN, .ref mA, .ref mP, .int (nI ks), .ref mR, .ref mT, .int (nI ln), .long x1, .long x2, .long x3, .long x4, .long y1, .long y2, .long y3, .long y4, .ref mL, .ref mB, .int od, .int spt, .int wa, .long hs])), (mN, .inl (cI, 39, .inl (upd q1 kk 0)))] := hD
        refine lv_iinc (v := nI (kk + 1)) (lv' := [(2, .int (nI (kk + 1))), (0, .ref oM)]) hx hb dX5_putAway_60 hl (k := 0) rfl (z_add rfl rfl) (by decide) rfl (fun ls hl => ?_)
        refine lv_goto (tgt := 28) hx hb dX5_putAway_63 (by decide) ?_
        exact ih _ (by omega) n (kk + 1) (upd q1 kk 0) _ _ _ rfl (by omega) (by omega) (by omega) (by omega) hin hc (by rw [upd_ne (by omega)]; exact e0) (fun j h1 h2 => by rw [upd_ne (by omega)]; exact e1 j h1 h2) (fun j h1 h2 h3 => by exact pa_step e2 (by rw [if_neg (by omega)]) j h1 (by omega) h3) (fun j h1 h2 => by rw [upd_ne (by omega)]; exact e3 j (by omega) h2) hP hD hS (lv_sub hl [0, 1] rfl)
      · skip
        have c_2 := (z_len (a := 39) (b := kk + 5) rfl (z_add rfl rfl) (by omega) (by omega)).mp c_2
        refine lv_aload_n hx hb dX5_putAway_47 rfl (lv_at hl 1 rfl) ?_
        refine va_get (D := D) (ci := 5) (v := .ref mN) (C := RX5) (T := TX5) (N := 21) hx hb hts N5 hown hK hP 0 rfl rfl 0 (by decide) L7 (fun _ h9 => h9) rfl dX5_putAway_48 ?_
        refine lv_iload_n hx hb dX5_putAway_51 rfl (lv_at hl 0 rfl) ?_
        refine lv_iconst (v := 5) hx hb dX5_putAway_52 (by decide) ?_
        refine lv_iadd hx hb dX5_putAway_53 ?_
        refine z_ild (v := q1 (kk + 5)) (j := kk + 5) hx hb hK hP 1 rfl (z_add rfl rfl) (by omega) (by decide) (rfl) dX5_putAway_54 ?_
        refine lv_goto (tgt := 59) hx hb dX5_putAway_55 (by decide) ?_
        refine z_ist (j := kk) hx hb hK hP hD hS 1 rfl rfl (by omega) (by decide) dX5_putAway_59 (fun H locs hP hD hS => ?_)
        have hP : va_P D vwCl [(oM, .inr (5, [.ref mN, .ref mA, .ref mP, .int (nI ks), .ref mR, .ref mT, .int (nI ln), .long x1, .long x2, .long x3, .long x4, .long y1, .long y2, .long y3, .long y4, .ref mL, .ref mB, .int od, .int spt, .int wa, .long hs])), (mN, .inl (cI, 39, .inl (upd q1 kk (q1 (kk + 5)))))] H := hP
        have hD : va_D A [(oM, .inr (5, [.ref mN, .ref mA, .ref mP, .int (nI ks), .ref mR, .ref mT, .int (nI ln), .long x1, .long x2, .long x3, .long x4, .long y1, .long y2, .long y3, .long y4, .ref mL, .ref mB, .int od, .int spt, .int wa, .long hs])), (mN, .inl (cI, 39, .inl (upd q1 kk (q1 (kk + 5)))))] := hD
        refine lv_iinc (v := nI (kk + 1)) (lv' := [(2, .int (nI (kk + 1))), (0, .ref oM)]) hx hb dX5_putAway_60 hl (k := 0) rfl (z_add rfl rfl) (by decide) rfl (fun ls hl => ?_)
        refine lv_goto (tgt := 28) hx hb dX5_putAway_63 (by decide) ?_
        exact ih _ (by omega) n (kk + 1) (upd q1 kk (q1 (kk + 5))) _ _ _ rfl (by omega) (by omega) (by omega) (by omega) hin hc (by rw [upd_ne (by omega)]; exact e0) (fun j h1 h2 => by rw [upd_ne (by omega)]; exact e1 j h1 h2) (fun j h1 h2 h3 => by exact pa_step e2 (by rw [if_pos (by omega)]; exact e3 _ (by omega) (by omega)) j h1 (by omega) h3) (fun j h1 h2 => by rw [upd_ne (by omega)]; exact e3 j (by omega) h2) hP hD hS (lv_sub hl [0, 1] rfl)
  refine lv_aload_n hx hb dX5_putAway_0 rfl (lv_at hl 0 rfl) ?_
  refine lv_iload_n hx hb dX5_putAway_1 rfl (lv_at hl 1 rfl) ?_
  refine z_VI (n := 1) (wn := (fun u : Unit => [(oM, .inr (5, [.ref mN, .ref mA, .ref mP, .int (nI ks), .ref mR, .ref mT, .int (nI ln), .long x1, .long x2, .long x3, .long x4, .long y1, .long y2, .long y3, .long y4, .ref mL, .ref mB, .int od, .int spt, .int wa, .long hs])), (mN, .inl (cI, 39, .inl qn))])) (wr := []) (As := [.int i]) (rest := []) ⟨hx, hb, hml, hown, hts⟩ hK hP hD hS hA hT (kX5_isOther l D cI cB tE tN oM mN mA mP mR mT mL mB ks ln x1 x2 x3 x4 y1 y2 y3 y4 od spt wa hs qn f N i _ (hR) (hI) (hNN)) gX5_putAway_X5_isOther rfl rfl rfl (by decide +kernel) ⟨Nat.le_of_ble_eq_true rfl, Nat.le_of_ble_eq_true rfl⟩ [0, 1] [] [0, 1] (by decide) rfl rfl (by decide) (by decide) (by decide) (fun u => rfl) 0 5 rfl rfl rfl rfl hl.1 rfl (Nat.le_of_ble_eq_true rfl) dX5_putAway_2 ⟨Nat.le_of_ble_eq_true rfl, Nat.le_of_ble_eq_true rfl⟩ (fun r_3 u H locs hw_4 hP hD hS => ?_)
  try dsimp only at hw_4
  have hP : va_P D vwCl [(oM, .inr (5, [.ref mN, .ref mA, .ref mP, .int (nI ks), .ref mR, .ref mT, .int (nI ln), .long x1, .long x2, .long x3, .long x4, .long y1, .long y2, .long y3, .long y4, .ref mL, .ref mB, .int od, .int spt, .int wa, .long hs])), (mN, .inl (cI, 39, .inl qn))] H := hP
  have hD : va_D A [(oM, .inr (5, [.ref mN, .ref mA, .ref mP, .int (nI ks), .ref mR, .ref mT, .int (nI ln), .long x1, .long x2, .long x3, .long x4, .long y1, .long y2, .long y3, .long y4, .ref mL, .ref mB, .int od, .int spt, .int wa, .long hs])), (mN, .inl (cI, 39, .inl qn))] := hD
  subst r_3
  refine lv_if_ne (tgt := 12) hx hb dX5_putAway_5 (by decide) (fun c_5 => ?_) (fun c_5 => ?_)
  · skip
    have c_5 := z_b1 c_5
    obtain ⟨n, rfl, hn1, hn2⟩ := cOther_n hI.2.1 hI.1 c_5
    rw [hNN] at hn2
    have hcl : (nI n).toNatClampNeg = n := nI_clamp (by omega)
    refine lv_aload_n hx hb dX5_putAway_12 rfl (lv_at hl 0 rfl) ?_
    refine va_get (D := D) (ci := 5) (v := .ref mN) (C := RX5) (T := TX5) (N := 21) hx hb hts N5 hown hK hP 0 rfl rfl 0 (by decide) L7 (fun _ h9 => h9) rfl dX5_putAway_13 ?_
    refine lv_iconst (v := 0) hx hb dX5_putAway_16 (by decide) ?_
    refine lv_dup2_11 hx hb dX5_putAway_17 rfl rfl ?_
    refine z_ild (v := nI (N + 1)) (j := 0) hx hb hK hP 1 rfl rfl (by omega) (by decide) (hR.1) dX5_putAway_18 ?_
    refine lv_iconst (v := 1) hx hb dX5_putAway_19 (by decide) ?_
    refine lv_isub hx hb dX5_putAway_20 ?_
    refine z_topi (x := (nI (N + 1)) - 1) (y := nI N) (nI_pred N) ?_
    refine z_ist (j := 0) hx hb hK hP hD hS 1 rfl rfl (by omega) (by decide) dX5_putAway_21 (fun H locs hP hD hS => ?_)
    have hP : va_P D vwCl [(oM, .inr (5, [.ref mN, .ref mA, .ref mP, .int (nI ks), .ref mR, .ref mT, .int (nI ln), .long x1, .long x2, .long x3, .long x4, .long y1, .long y2, .long y3, .long y4, .ref mL, .ref mB, .int od, .int spt, .int wa, .long hs])), (mN, .inl (cI, 39, .inl (upd qn 0 (nI N))))] H := hP
    have hD : va_D A [(oM, .inr (5, [.ref mN, .ref mA, .ref mP, .int (nI ks), .ref mR, .ref mT, .int (nI ln), .long x1, .long x2, .long x3, .long x4, .long y1, .long y2, .long y3, .long y4, .ref mL, .ref mB, .int od, .int spt, .int wa, .long hs])), (mN, .inl (cI, 39, .inl (upd qn 0 (nI N))))] := hD
    refine lv_iconst (v := 4) hx hb dX5_putAway_22 (by decide) ?_
    refine lv_iconst (v := 5) hx hb dX5_putAway_23 (by decide) ?_
    refine lv_iload_n hx hb dX5_putAway_24 rfl (lv_at hl 1 rfl) ?_
    refine lv_imul hx hb dX5_putAway_25 ?_
    refine lv_iadd hx hb dX5_putAway_26 ?_
    refine z_topi (x := 4 + (5 * (nI n))) (y := nI (4 + (5 * n))) (z_add rfl (z_mul rfl rfl)) ?_
    refine lv_istore_n (lv' := [(2, .int (nI (4 + (5 * n)))), (0, .ref oM), (1, .int (nI n))]) hx hb dX5_putAway_27 rfl hl (by decide) rfl (fun ls hl => ?_)
    exact lp28 _ n (4 + 5 * n) (upd qn 0 (nI N)) _ _ _ rfl (by omega) (by omega) (by omega) (by omega) rfl c_5 (by rw [upd_eq]) (fun j h1 h2 => by rw [upd_ne (by omega)]) (fun j h1 h2 h3 => absurd h2 (by omega)) (fun j h1 h2 => by rw [upd_ne (by omega)]) hP hD hS (lv_sub hl [0, 1] rfl)
  · skip
    have c_5 := z_b0 c_5
    refine lv_sipush (v := (-10002)) hx hb dX5_putAway_8 (by decide) ?_
    exact hQ (-10002) qn _ _ _ _ (rfl) (by rw [cLeave, if_neg (by rw [c_5]; decide)]; exact ⟨rfl, by rw [hNN]; exact hR⟩) hP hD hS dX5_putAway_11

set_option maxHeartbeats 4000000 in
set_option maxRecDepth 100000 in
theorem kX5_putCourse (l : Launch) (D : va_G) (cI cB : ClassId) (tE tN : Nat) (oM : Nat) (mN : Nat) (mA : Nat) (mP : Nat) (mR : Nat) (mT : Nat) (mL : Nat) (mB : Nat) (ks : Nat) (ln : Nat) (x1 : Int64) (x2 : Int64) (x3 : Int64) (x4 : Int64) (y1 : Int64) (y2 : Int64) (y3 : Int64) (y4 : Int64) (od : Int32) (spt : Int32) (wa : Int32) (hs : Int64) (qn : Nat → Int32) (f : Nat → Int32) (N : Nat) (i : Int32) (ph : Int32) (ps : Int32) (sz : Nat) (hR : Rg N f qn) (hI : Iv f) (hNN : nN f = N) : zI l yX5_putCourse wsX5_putCourse ({ frames := 2, cells := 0, slots := 0, locals := 43 }) D cI cB tE tN [.ref oM, .int i, .int ph, .int ps] [(oM, .inr (5, [.ref mN, .ref mA, .ref mP, .int (nI ks), .ref mR, .ref mT, .int (nI ln), .long x1, .long x2, .long x3, .long x4, .long y1, .long y2, .long y3, .long y4, .ref mL, .ref mB, .int od, .int spt, .int wa, .long hs])), (mN, .inl (cI, 39, .inl qn))] sz (fun u : (Nat → Int32) => [(oM, .inr (5, [.ref mN, .ref mA, .ref mP, .int (nI ks), .ref mR, .ref mT, .int (nI ln), .long x1, .long x2, .long x3, .long x4, .long y1, .long y2, .long y3, .long y4, .ref mL, .ref mB, .int od, .int spt, .int wa, .long hs])), (mN, .inl (cI, 39, .inl u))]) (fun (r : Int32) (u : (Nat → Int32)) => r = (cSteer f i ph ps).1 ∧ Rg (nN (cSteer f i ph ps).2) (cSteer f i ph ps).2 u) 0 0 := by
  refine zI_mk (cc := cX5_putCourse) (maxL := 5) (rt := .int) (by decide) rfl (Nat.le_of_ble_eq_true rfl) ?_
  intro p e s m below meth c A Q ls S0 hname hA hK hP hD hT hS hQ hl
  obtain ⟨hx, hb, hml, hown, hts⟩ := id S0
  have hl : lv_has ls 5 [(0, .ref oM), (1, .int i), (2, .int ph), (3, .int ps)] := hl
  have hN6 : N ≤ 6 := by rw [← hNN]; exact hI.1
  refine lv_aload_n hx hb dX5_putCourse_0 rfl (lv_at hl 0 rfl) ?_
  refine lv_iload_n hx hb dX5_putCourse_1 rfl (lv_at hl 1 rfl) ?_
  refine z_VI (n := 1) (wn := (fun u : Unit => [(oM, .inr (5, [.ref mN, .ref mA, .ref mP, .int (nI ks), .ref mR, .ref mT, .int (nI ln), .long x1, .long x2, .long x3, .long x4, .long y1, .long y2, .long y3, .long y4, .ref mL, .ref mB, .int od, .int spt, .int wa, .long hs])), (mN, .inl (cI, 39, .inl qn))])) (wr := []) (As := [.int i]) (rest := []) ⟨hx, hb, hml, hown, hts⟩ hK hP hD hS hA hT (kX5_isShip l D cI cB tE tN oM mN mA mP mR mT mL mB ks ln x1 x2 x3 x4 y1 y2 y3 y4 od spt wa hs qn f N i _ (hR) (hI) (hNN)) gX5_putCourse_X5_isShip rfl rfl rfl (by decide +kernel) ⟨Nat.le_of_ble_eq_true rfl, Nat.le_of_ble_eq_true rfl⟩ [0, 1] [] [0, 1] (by decide) rfl rfl (by decide) (by decide) (by decide) (fun u => rfl) 0 5 rfl rfl rfl rfl hl.1 rfl (Nat.le_of_ble_eq_true rfl) dX5_putCourse_2 ⟨Nat.le_of_ble_eq_true rfl, Nat.le_of_ble_eq_true rfl⟩ (fun r_1 u H locs hw_2 hP hD hS => ?_)
  try dsimp only at hw_2
  have hP : va_P D vwCl [(oM, .inr (5, [.ref mN, .ref mA, .ref mP, .int (nI ks), .ref mR, .ref mT, .int (nI ln), .long x1, .long x2, .long x3, .long x4, .long y1, .long y2, .long y3, .long y4, .ref mL, .ref mB, .int od, .int spt, .int wa, .long hs])), (mN, .inl (cI, 39, .inl qn))] H := hP
  have hD : va_D A [(oM, .inr (5, [.ref mN, .ref mA, .ref mP, .int (nI ks), .ref mR, .ref mT, .int (nI ln), .long x1, .long x2, .long x3, .long x4, .long y1, .long y2, .long y3, .long y4, .ref mL, .ref mB, .int od, .int spt, .int wa, .long hs])), (mN, .inl (cI, 39, .inl qn))] := hD
  subst r_1
  refine lv_if_eq (tgt := 16) hx hb dX5_putCourse_5 (by decide) (fun c_3 => ?_) (fun c_3 => ?_)
  · skip
    have c_3 := z_b0 c_3
    refine lv_sipush (v := (-10002)) hx hb dX5_putCourse_16 (by decide) ?_
    exact hQ (-10002) qn _ _ _ _ (rfl) (by rw [cSteer, if_neg (by simp [c_3])]; exact ⟨rfl, by rw [hNN]; exact hR⟩) hP hD hS dX5_putCourse_19
  · skip
    have c_3 := z_b1 c_3
    refine lv_iload_n hx hb dX5_putCourse_8 rfl (lv_at hl 2 rfl) ?_
    refine lv_iload_n hx hb dX5_putCourse_9 rfl (lv_at hl 3 rfl) ?_
    refine z_SI (n := 2) (wn := (fun u : Unit => [(oM, .inr (5, [.ref mN, .ref mA, .ref mP, .int (nI ks), .ref mR, .ref mT, .int (nI ln), .long x1, .long x2, .long x3, .long x4, .long y1, .long y2, .long y3, .long y4, .ref mL, .ref mB, .int od, .int spt, .int wa, .long hs])), (mN, .inl (cI, 39, .inl qn))])) (wr := [(oM, .inr (5, [.ref mN, .ref mA, .ref mP, .int (nI ks), .ref mR, .ref mT, .int (nI ln), .long x1, .long x2, .long x3, .long x4, .long y1, .long y2, .long y3, .long y4, .ref mL, .ref mB, .int od, .int spt, .int wa, .long hs])), (mN, .inl (cI, 39, .inl qn))]) (As := [.int ph, .int ps]) (rest := []) ⟨hx, hb, hml, hown, hts⟩ hK hP hD hS hA hT (kX5_isCourse l D cI cB tE tN ph ps _ ) gX5_putCourse_X5_isCourse rfl rfl rfl (by decide +kernel) ⟨Nat.le_of_ble_eq_true rfl, Nat.le_of_ble_eq_true rfl⟩ [] [0, 1] [0, 1] (by decide) rfl rfl (by decide) (by decide) (by decide) (fun u => rfl) rfl hl.1 rfl (Nat.le_of_ble_eq_true rfl) dX5_putCourse_10 ⟨Nat.le_of_ble_eq_true rfl, Nat.le_of_ble_eq_true rfl⟩ (fun r_4 u H locs hw_5 hP hD hS => ?_)
    try dsimp only at hw_5
    have hP : va_P D vwCl [(oM, .inr (5, [.ref mN, .ref mA, .ref mP, .int (nI ks), .ref mR, .ref mT, .int (nI ln), .long x1, .long x2, .long x3, .long x4, .long y1, .long y2, .long y3, .long y4, .ref mL, .ref mB, .int od, .int spt, .int wa, .long hs])), (mN, .inl (cI, 39, .inl qn))] H := hP
    have hD : va_D A [(oM, .inr (5, [.ref mN, .ref mA, .ref mP, .int (nI ks), .ref mR, .ref mT, .int (nI ln), .long x1, .long x2, .long x3, .long x4, .long y1, .long y2, .long y3, .long y4, .ref mL, .ref mB, .int od, .int spt, .int wa, .long hs])), (mN, .inl (cI, 39, .inl qn))] := hD
    subst r_4
    refine lv_if_ne (tgt := 20) hx hb dX5_putCourse_13 (by decide) (fun c_6 => ?_) (fun c_6 => ?_)
    · skip
      have c_6 := z_b1 c_6
      obtain ⟨n, rfl, hn2⟩ := cShip_n hI.2.1 hI.1 c_3
      rw [hNN] at hn2
      have hcl : (nI n).toNatClampNeg = n := nI_clamp (by omega)
      refine lv_bipush (v := 16) hx hb dX5_putCourse_20 (by decide) ?_
      refine lv_aload_n hx hb dX5_putCourse_22 rfl (lv_at hl 0 rfl) ?_
      refine lv_iload_n hx hb dX5_putCourse_23 rfl (lv_at hl 1 rfl) ?_
      refine lv_iconst (v := 3) hx hb dX5_putCourse_24 (by decide) ?_
      refine z_VI (n := 2) (wn := (fun u : Unit => [(oM, .inr (5, [.ref mN, .ref mA, .ref mP, .int (nI ks), .ref mR, .ref mT, .int (nI ln), .long x1, .long x2, .long x3, .long x4, .long y1, .long y2, .long y3, .long y4, .ref mL, .ref mB, .int od, .int spt, .int wa, .long hs])), (mN, .inl (cI, 39, .inl qn))])) (wr := []) (As := [.int (nI n), .int 3]) (rest := [.int 16]) ⟨hx, hb, hml, hown, hts⟩ hK hP hD hS hA hT (kX5_shipOf l D cI cB tE tN oM mN mA mP mR mT mL mB ks ln x1 x2 x3 x4 y1 y2 y3 y4 od spt wa hs qn f N n 3 _ (hR) (hI) (hNN) (by omega) (by omega)) gX5_putCourse_X5_shipOf rfl rfl rfl (by decide +kernel) ⟨Nat.le_of_ble_eq_true rfl, Nat.le_of_ble_eq_true rfl⟩ [0, 1] [] [0, 1] (by decide) rfl rfl (by decide) (by decide) (by decide) (fun u => rfl) 0 5 rfl rfl rfl rfl hl.1 rfl (Nat.le_of_ble_eq_true rfl) dX5_putCourse_25 ⟨Nat.le_of_ble_eq_true rfl, Nat.le_of_ble_eq_true rfl⟩ (fun r_7 u H locs hw_8 hP hD hS => ?_)
      try dsimp only at hw_8
      have hP : va_P D vwCl [(oM, .inr (5, [.ref mN, .ref mA, .ref mP, .int (nI ks), .ref mR, .ref mT, .int (nI ln), .long x1, .long x2, .long x3, .long x4, .long y1, .long y2, .long y3, .long y4, .ref mL, .ref mB, .int od, .int spt, .int wa, .long hs])), (mN, .inl (cI, 39, .inl qn))] H := hP
      have hD : va_D A [(oM, .inr (5, [.ref mN, .ref mA, .ref mP, .int (nI ks), .ref mR, .ref mT, .int (nI ln), .long x1, .long x2, .long x3, .long x4, .long y1, .long y2, .long y3, .long y4, .ref mL, .ref mB, .int od, .int spt, .int wa, .long hs])), (mN, .inl (cI, 39, .inl qn))] := hD
      subst r_7
      refine lv_imul hx hb dX5_putCourse_28 ?_
      refine lv_aload_n hx hb dX5_putCourse_29 rfl (lv_at hl 0 rfl) ?_
      refine lv_iload_n hx hb dX5_putCourse_30 rfl (lv_at hl 1 rfl) ?_
      refine lv_iconst (v := 2) hx hb dX5_putCourse_31 (by decide) ?_
      refine z_VI (n := 2) (wn := (fun u : Unit => [(oM, .inr (5, [.ref mN, .ref mA, .ref mP, .int (nI ks), .ref mR, .ref mT, .int (nI ln), .long x1, .long x2, .long x3, .long x4, .long y1, .long y2, .long y3, .long y4, .ref mL, .ref mB, .int od, .int spt, .int wa, .long hs])), (mN, .inl (cI, 39, .inl qn))])) (wr := []) (As := [.int (nI n), .int 2]) (rest := [.int (16 * (f (5 * n + 3)))]) ⟨hx, hb, hml, hown, hts⟩ hK hP hD hS hA hT (kX5_shipOf l D cI cB tE tN oM mN mA mP mR mT mL mB ks ln x1 x2 x3 x4 y1 y2 y3 y4 od spt wa hs qn f N n 2 _ (hR) (hI) (hNN) (by omega) (by omega)) gX5_putCourse_X5_shipOf rfl rfl rfl (by decide +kernel) ⟨Nat.le_of_ble_eq_true rfl, Nat.le_of_ble_eq_true rfl⟩ [0, 1] [] [0, 1] (by decide) rfl rfl (by decide) (by decide) (by decide) (fun u => rfl) 0 5 rfl rfl rfl rfl hl.1 rfl (Nat.le_of_ble_eq_true rfl) dX5_putCourse_32 ⟨Nat.le_of_ble_eq_true rfl, Nat.le_of_ble_eq_true rfl⟩ (fun r_9 u H locs hw_10 hP hD hS => ?_)
      try dsimp only at hw_10
      have hP : va_P D vwCl [(oM, .inr (5, [.ref mN, .ref mA, .ref mP, .int (nI ks), .ref mR, .ref mT, .int (nI ln), .long x1, .long x2, .long x3, .long x4, .long y1, .long y2, .long y3, .long y4, .ref mL, .ref mB, .int od, .int spt, .int wa, .long hs])), (mN, .inl (cI, 39, .inl qn))] H := hP
      have hD : va_D A [(oM, .inr (5, [.ref mN, .ref mA, .ref mP, .int (nI ks), .ref mR, .ref mT, .int (nI ln), .long x1, .long x2, .long x3, .long x4, .long y1, .long y2, .long y3, .long y4, .ref mL, .ref mB, .int od, .int spt, .int wa, .long hs])), (mN, .inl (cI, 39, .inl qn))] := hD
      subst r_9
      refine lv_iadd hx hb dX5_putCourse_35 ?_
      refine lv_istore (lv' := [(4, .int ((16 * (f (5 * n + 3))) + (f (5 * n + 2)))), (0, .ref oM), (1, .int (nI n)), (2, .int ph), (3, .int ps)]) hx hb dX5_putCourse_36 hl (by decide) rfl (fun ls hl => ?_)
      refine lv_aload_n hx hb dX5_putCourse_38 rfl (lv_at hl 1 rfl) ?_
      refine lv_iload_n hx hb dX5_putCourse_39 rfl (lv_at hl 2 rfl) ?_
      refine lv_iconst (v := 2) hx hb dX5_putCourse_40 (by decide) ?_
      refine lv_iload_n hx hb dX5_putCourse_41 rfl (lv_at hl 3 rfl) ?_
      refine z_VV (n := 3) (wn := (fun u : Unit => [(oM, .inr (5, [.ref mN, .ref mA, .ref mP, .int (nI ks), .ref mR, .ref mT, .int (nI ln), .long x1, .long x2, .long x3, .long x4, .long y1, .long y2, .long y3, .long y4, .ref mL, .ref mB, .int od, .int spt, .int wa, .long hs])), (mN, .inl (cI, 39, .inl (upd qn (4 + 5 * n + 2) ph)))])) (wr := []) (As := [.int (nI n), .int 2, .int ph]) (rest := []) ⟨hx, hb, hml, hown, hts⟩ hK hP hD hS hA hT (kX5_tells l D cI cB tE tN oM mN mA mP mR mT mL mB ks ln x1 x2 x3 x4 y1 y2 y3 y4 od spt wa hs qn n 2 ph _ (by omega) (by omega)) gX5_putCourse_X5_tells rfl rfl rfl (by decide +kernel) ⟨Nat.le_of_ble_eq_true rfl, Nat.le_of_ble_eq_true rfl⟩ [0, 1] [] [0, 1] (by decide) rfl rfl (by decide) (by decide) (by decide) (fun u => rfl) 0 5 rfl rfl rfl rfl hl.1 rfl (Nat.le_of_ble_eq_true rfl) dX5_putCourse_42 ⟨Nat.le_of_ble_eq_true rfl, Nat.le_of_ble_eq_true rfl⟩ (fun u H locs hw_12 hP hD hS => ?_)
      try dsimp only at hw_12
      have hP : va_P D vwCl [(oM, .inr (5, [.ref mN, .ref mA, .ref mP, .int (nI ks), .ref mR, .ref mT, .int (nI ln), .long x1, .long x2, .long x3, .long x4, .long y1, .long y2, .long y3, .long y4, .ref mL, .ref mB, .int od, .int spt, .int wa, .long hs])), (mN, .inl (cI, 39, .inl (upd qn (4 + 5 * n + 2) ph)))] H := hP
      have hD : va_D A [(oM, .inr (5, [.ref mN, .ref mA, .ref mP, .int (nI ks), .ref mR, .ref mT, .int (nI ln), .long x1, .long x2, .long x3, .long x4, .long y1, .long y2, .long y3, .long y4, .ref mL, .ref mB, .int od, .int spt, .int wa, .long hs])), (mN, .inl (cI, 39, .inl (upd qn (4 + 5 * n + 2) ph)))] := hD
      refine lv_aload_n hx hb dX5_putCourse_45 rfl (lv_at hl 1 rfl) ?_
      refine lv_iload_n hx hb dX5_putCourse_46 rfl (lv_at hl 2 rfl) ?_
      refine lv_iconst (v := 3) hx hb dX5_putCourse_47 (by decide) ?_
      refine lv_iload_n hx hb dX5_putCourse_48 rfl (lv_at hl 4 rfl) ?_
      refine z_VV (n := 3) (wn := (fun u : Unit => [(oM, .inr (5, [.ref mN, .ref mA, .ref mP, .int (nI ks), .ref mR, .ref mT, .int (nI ln), .long x1, .long x2, .long x3, .long x4, .long y1, .long y2, .long y3, .long y4, .ref mL, .ref mB, .int od, .int spt, .int wa, .long hs])), (mN, .inl (cI, 39, .inl (upd (upd qn (4 + 5 * n + 2) ph) (4 + 5 * n + 3) ps)))])) (wr := []) (As := [.int (nI n), .int 3, .int ps]) (rest := []) ⟨hx, hb, hml, hown, hts⟩ hK hP hD hS hA hT (kX5_tells l D cI cB tE tN oM mN mA mP mR mT mL mB ks ln x1 x2 x3 x4 y1 y2 y3 y4 od spt wa hs (upd qn (4 + 5 * n + 2) ph) n 3 ps _ (by omega) (by omega)) gX5_putCourse_X5_tells rfl rfl rfl (by decide +kernel) ⟨Nat.le_of_ble_eq_true rfl, Nat.le_of_ble_eq_true rfl⟩ [0, 1] [] [0, 1] (by decide) rfl rfl (by decide) (by decide) (by decide) (fun u => rfl) 0 5 rfl rfl rfl rfl hl.1 rfl (Nat.le_of_ble_eq_true rfl) dX5_putCourse_49 ⟨Nat.le_of_ble_eq_true rfl, Nat.le_of_ble_eq_true rfl⟩ (fun u H locs hw_14 hP hD hS => ?_)
      try dsimp only at hw_14
      have hP : va_P D vwCl [(oM, .inr (5, [.ref mN, .ref mA, .ref mP, .int (nI ks), .ref mR, .ref mT, .int (nI ln), .long x1, .long x2, .long x3, .long x4, .long y1, .long y2, .long y3, .long y4, .ref mL, .ref mB, .int od, .int spt, .int wa, .long hs])), (mN, .inl (cI, 39, .inl (upd (upd qn (4 + 5 * n + 2) ph) (4 + 5 * n + 3) ps)))] H := hP
      have hD : va_D A [(oM, .inr (5, [.ref mN, .ref mA, .ref mP, .int (nI ks), .ref mR, .ref mT, .int (nI ln), .long x1, .long x2, .long x3, .long x4, .long y1, .long y2, .long y3, .long y4, .ref mL, .ref mB, .int od, .int spt, .int wa, .long hs])), (mN, .inl (cI, 39, .inl (upd (upd qn (4 + 5 * n + 2) ph) (4 + 5 * n + 3) ps)))] := hD
      refine lv_iload hx hb dX5_putCourse_52 (lv_at hl 0 rfl) ?_
      exact hQ ((16 * (f (5 * n + 3))) + (f (5 * n + 2))) (upd (upd qn (4 + 5 * n + 2) ph) (4 + 5 * n + 3) ps) _ _ _ _ (rfl) (by rw [cSteer, if_pos ⟨c_3, c_6⟩, hcl, nN_upd (by omega), nN_upd (by omega), hNN]; exact ⟨rfl, (hR.put hn2 (k := 2) (by omega) hN6 ph).put hn2 (k := 3) (by omega) hN6 ps⟩) hP hD hS dX5_putCourse_54
    · skip
      have c_6 := z_b0 c_6
      refine lv_sipush (v := (-10002)) hx hb dX5_putCourse_16 (by decide) ?_
      exact hQ (-10002) qn _ _ _ _ (rfl) (by rw [cSteer, if_neg (by simp [c_3, c_6])]; exact ⟨rfl, by rw [hNN]; exact hR⟩) hP hD hS dX5_putCourse_19

set_option maxHeartbeats 4000000 in
set_option maxRecDepth 100000 in
theorem kX5_putSetting (l : Launch) (D : va_G) (cI cB : ClassId) (tE tN : Nat) (oM : Nat) (mN : Nat) (mA : Nat) (mP : Nat) (mR : Nat) (mT : Nat) (mL : Nat) (mB : Nat) (ks : Nat) (ln : Nat) (x1 : Int64) (x2 : Int64) (x3 : Int64) (x4 : Int64) (y1 : Int64) (y2 : Int64) (y3 : Int64) (y4 : Int64) (od : Int32) (spt : Int32) (wa : Int32) (hs : Int64) (qn : Nat → Int32) (f : Nat → Int32) (N : Nat) (i : Int32) (v : Int32) (sz : Nat) (hR : Rg N f qn) (hI : Iv f) (hNN : nN f = N) : zI l yX5_putSetting wsX5_putSetting ({ frames := 1, cells := 0, slots := 0, locals := 22 }) D cI cB tE tN [.ref oM, .int i, .int v] [(oM, .inr (5, [.ref mN, .ref mA, .ref mP, .int (nI ks), .ref mR, .ref mT, .int (nI ln), .long x1, .long x2, .long x3, .long x4, .long y1, .long y2, .long y3, .long y4, .ref mL, .ref mB, .int od, .int spt, .int wa, .long hs])), (mN, .inl (cI, 39, .inl qn))] sz (fun u : (Nat → Int32) => [(oM, .inr (5, [.ref mN, .ref mA, .ref mP, .int (nI ks), .ref mR, .ref mT, .int (nI ln), .long x1, .long x2, .long x3, .long x4, .long y1, .long y2, .long y3, .long y4, .ref mL, .ref mB, .int od, .int spt, .int wa, .long hs])), (mN, .inl (cI, 39, .inl u))]) (fun (r : Int32) (u : (Nat → Int32)) => r = (cRule f i v).1 ∧ Rg (nN (cRule f i v).2) (cRule f i v).2 u) 0 0 := by
  refine zI_mk (cc := cX5_putSetting) (maxL := 4) (rt := .int) (by decide) rfl (Nat.le_of_ble_eq_true rfl) ?_
  intro p e s m below meth c A Q ls S0 hname hA hK hP hD hT hS hQ hl
  obtain ⟨hx, hb, hml, hown, hts⟩ := id S0
  have hl : lv_has ls 4 [(0, .ref oM), (1, .int i), (2, .int v)] := hl
  have L7 : (Cond.fieldLink RX5 7 "PastAndClearModel" "now" "[I").before ([.ref oM, .int i, .int v] : List Value).toArray s = true := hts (.fieldLink RX5 7 "PastAndClearModel" "now" "[I") (by decide +kernel)
  have N5 : ∀ w ∈ u_ws RX5 TX5 21, w ∈ wsX5_putSetting := by decide +kernel
  have hN6 : N ≤ 6 := by rw [← hNN]; exact hI.1
  refine lv_iload_n hx hb dX5_putSetting_0 rfl (lv_at hl 1 rfl) ?_
  refine lv_iconst (v := 0) hx hb dX5_putSetting_1 (by decide) ?_
  refine lv_iconst (v := 1) hx hb dX5_putSetting_2 (by decide) ?_
  refine z_SI (n := 3) (wn := (fun u : Unit => [(oM, .inr (5, [.ref mN, .ref mA, .ref mP, .int (nI ks), .ref mR, .ref mT, .int (nI ln), .long x1, .long x2, .long x3, .long x4, .long y1, .long y2, .long y3, .long y4, .ref mL, .ref mB, .int od, .int spt, .int wa, .long hs])), (mN, .inl (cI, 39, .inl qn))])) (wr := [(oM, .inr (5, [.ref mN, .ref mA, .ref mP, .int (nI ks), .ref mR, .ref mT, .int (nI ln), .long x1, .long x2, .long x3, .long x4, .long y1, .long y2, .long y3, .long y4, .ref mL, .ref mB, .int od, .int spt, .int wa, .long hs])), (mN, .inl (cI, 39, .inl qn))]) (As := [.int i, .int 0, .int 1]) (rest := []) ⟨hx, hb, hml, hown, hts⟩ hK hP hD hS hA hT (kX5_in l D cI cB tE tN i 0 1 _ ) gX5_putSetting_X5_in rfl rfl rfl (by decide +kernel) ⟨Nat.le_of_ble_eq_true rfl, Nat.le_of_ble_eq_true rfl⟩ [] [0, 1] [0, 1] (by decide) rfl rfl (by decide) (by decide) (by decide) (fun u => rfl) rfl hl.1 rfl (Nat.le_of_ble_eq_true rfl) dX5_putSetting_3 ⟨Nat.le_of_ble_eq_true rfl, Nat.le_of_ble_eq_true rfl⟩ (fun r_1 u H locs hw_2 hP hD hS => ?_)
  try dsimp only at hw_2
  have hP : va_P D vwCl [(oM, .inr (5, [.ref mN, .ref mA, .ref mP, .int (nI ks), .ref mR, .ref mT, .int (nI ln), .long x1, .long x2, .long x3, .long x4, .long y1, .long y2, .long y3, .long y4, .ref mL, .ref mB, .int od, .int spt, .int wa, .long hs])), (mN, .inl (cI, 39, .inl qn))] H := hP
  have hD : va_D A [(oM, .inr (5, [.ref mN, .ref mA, .ref mP, .int (nI ks), .ref mR, .ref mT, .int (nI ln), .long x1, .long x2, .long x3, .long x4, .long y1, .long y2, .long y3, .long y4, .ref mL, .ref mB, .int od, .int spt, .int wa, .long hs])), (mN, .inl (cI, 39, .inl qn))] := hD
  subst r_1
  refine lv_if_eq (tgt := 29) hx hb dX5_putSetting_6 (by decide) (fun c_3 => ?_) (fun c_3 => ?_)
  · skip
    have c_3 := z_b0 c_3
    refine lv_sipush (v := (-10002)) hx hb dX5_putSetting_29 (by decide) ?_
    exact hQ (-10002) qn _ _ _ _ (rfl) (by rw [rule_bad1 c_3]; exact ⟨rfl, by rw [hNN]; exact hR⟩) hP hD hS dX5_putSetting_32
  · skip
    have c_3 := z_b1 c_3
    refine lv_iload_n hx hb dX5_putSetting_9 rfl (lv_at hl 2 rfl) ?_
    refine lv_iconst (v := 1) hx hb dX5_putSetting_10 (by decide) ?_
    refine lv_iload_n hx hb dX5_putSetting_11 rfl (lv_at hl 1 rfl) ?_
    refine lv_if_ne (tgt := 21) hx hb dX5_putSetting_12 (by decide) (fun c_4 => ?_) (fun c_4 => ?_)
    · skip
      refine lv_bipush (v := 99) hx hb dX5_putSetting_21 (by decide) ?_
      refine z_SI (n := 3) (wn := (fun u : Unit => [(oM, .inr (5, [.ref mN, .ref mA, .ref mP, .int (nI ks), .ref mR, .ref mT, .int (nI ln), .long x1, .long x2, .long x3, .long x4, .long y1, .long y2, .long y3, .long y4, .ref mL, .ref mB, .int od, .int spt, .int wa, .long hs])), (mN, .inl (cI, 39, .inl qn))])) (wr := [(oM, .inr (5, [.ref mN, .ref mA, .ref mP, .int (nI ks), .ref mR, .ref mT, .int (nI ln), .long x1, .long x2, .long x3, .long x4, .long y1, .long y2, .long y3, .long y4, .ref mL, .ref mB, .int od, .int spt, .int wa, .long hs])), (mN, .inl (cI, 39, .inl qn))]) (As := [.int v, .int 1, .int 99]) (rest := []) ⟨hx, hb, hml, hown, hts⟩ hK hP hD hS hA hT (kX5_in l D cI cB tE tN v 1 99 _ ) gX5_putSetting_X5_in rfl rfl rfl (by decide +kernel) ⟨Nat.le_of_ble_eq_true rfl, Nat.le_of_ble_eq_true rfl⟩ [] [0, 1] [0, 1] (by decide) rfl rfl (by decide) (by decide) (by decide) (fun u => rfl) rfl hl.1 rfl (Nat.le_of_ble_eq_true rfl) dX5_putSetting_23 ⟨Nat.le_of_ble_eq_true rfl, Nat.le_of_ble_eq_true rfl⟩ (fun r_5 u H locs hw_6 hP hD hS => ?_)
      try dsimp only at hw_6
      have hP : va_P D vwCl [(oM, .inr (5, [.ref mN, .ref mA, .ref mP, .int (nI ks), .ref mR, .ref mT, .int (nI ln), .long x1, .long x2, .long x3, .long x4, .long y1, .long y2, .long y3, .long y4, .ref mL, .ref mB, .int od, .int spt, .int wa, .long hs])), (mN, .inl (cI, 39, .inl qn))] H := hP
      have hD : va_D A [(oM, .inr (5, [.ref mN, .ref mA, .ref mP, .int (nI ks), .ref mR, .ref mT, .int (nI ln), .long x1, .long x2, .long x3, .long x4, .long y1, .long y2, .long y3, .long y4, .ref mL, .ref mB, .int od, .int spt, .int wa, .long hs])), (mN, .inl (cI, 39, .inl qn))] := hD
      subst r_5
      refine lv_if_ne (tgt := 33) hx hb dX5_putSetting_26 (by decide) (fun c_7 => ?_) (fun c_7 => ?_)
      · skip
        have c_7 := z_b1 c_7
        have h01 := of_decide_eq_true c_3
        obtain ⟨n, rfl, hn2⟩ := z_nat (b := 1) (Int32.not_lt.mp h01.1) (Int32.not_lt.mp h01.2) (by decide)
        have hcl : (nI n).toNatClampNeg = n := nI_clamp (by omega)
        refine lv_aload_n hx hb dX5_putSetting_33 rfl (lv_at hl 0 rfl) ?_
        refine va_get (D := D) (ci := 5) (v := .ref mN) (C := RX5) (T := TX5) (N := 21) hx hb hts N5 hown hK hP 0 rfl rfl 0 (by decide) L7 (fun _ h9 => h9) rfl dX5_putSetting_34 ?_
        refine lv_iconst (v := 1) hx hb dX5_putSetting_37 (by decide) ?_
        refine lv_iload_n hx hb dX5_putSetting_38 rfl (lv_at hl 1 rfl) ?_
        refine lv_iadd hx hb dX5_putSetting_39 ?_
        refine z_ild (v := f (36 + n)) (j := 1 + n) hx hb hK hP 1 rfl (z_add rfl rfl) (by omega) (by decide) (rd12 hR hn2) dX5_putSetting_40 ?_
        refine lv_istore_n (lv' := [(3, .int (f (36 + n))), (0, .ref oM), (1, .int (nI n)), (2, .int v)]) hx hb dX5_putSetting_41 rfl hl (by decide) rfl (fun ls hl => ?_)
        refine lv_aload_n hx hb dX5_putSetting_42 rfl (lv_at hl 1 rfl) ?_
        refine va_get (D := D) (ci := 5) (v := .ref mN) (C := RX5) (T := TX5) (N := 21) hx hb hts N5 hown hK hP 0 rfl rfl 0 (by decide) L7 (fun _ h9 => h9) rfl dX5_putSetting_43 ?_
        refine lv_iconst (v := 1) hx hb dX5_putSetting_46 (by decide) ?_
        refine lv_iload_n hx hb dX5_putSetting_47 rfl (lv_at hl 2 rfl) ?_
        refine lv_iadd hx hb dX5_putSetting_48 ?_
        refine lv_iload_n hx hb dX5_putSetting_49 rfl (lv_at hl 3 rfl) ?_
        refine z_ist (j := 1 + n) hx hb hK hP hD hS 1 rfl (z_add rfl rfl) (by omega) (by decide) dX5_putSetting_50 (fun H locs hP hD hS => ?_)
        have hP : va_P D vwCl [(oM, .inr (5, [.ref mN, .ref mA, .ref mP, .int (nI ks), .ref mR, .ref mT, .int (nI ln), .long x1, .long x2, .long x3, .long x4, .long y1, .long y2, .long y3, .long y4, .ref mL, .ref mB, .int od, .int spt, .int wa, .long hs])), (mN, .inl (cI, 39, .inl (upd qn (1 + n) v)))] H := hP
        have hD : va_D A [(oM, .inr (5, [.ref mN, .ref mA, .ref mP, .int (nI ks), .ref mR, .ref mT, .int (nI ln), .long x1, .long x2, .long x3, .long x4, .long y1, .long y2, .long y3, .long y4, .ref mL, .ref mB, .int od, .int spt, .int wa, .long hs])), (mN, .inl (cI, 39, .inl (upd qn (1 + n) v)))] := hD
        refine lv_iload_n hx hb dX5_putSetting_51 rfl (lv_at hl 0 rfl) ?_
        exact hQ (f (36 + n)) (upd qn (1 + n) v) _ _ _ _ (rfl) (by rw [rule_ok c_3 (by first | exact Or.inl c_4 | exact Or.inr c_4) c_7 (by first | rw [if_pos c_4] | rw [if_neg c_4]), hcl, nN_upd (by omega), hNN]; refine ⟨rfl, ?_⟩; have := Rg_cell (v := v) hR hN6 (k := 1 + n) (by omega); rw [show 35 + (1 + n) = 36 + n by omega] at this; exact this) hP hD hS dX5_putSetting_52
      · skip
        have c_7 := z_b0 c_7
        refine lv_sipush (v := (-10002)) hx hb dX5_putSetting_29 (by decide) ?_
        exact hQ (-10002) qn _ _ _ _ (rfl) (by rw [rule_bad2 c_3 (by first | exact Or.inl c_4 | exact Or.inr c_4) c_7 (by first | rw [if_pos c_4] | rw [if_neg c_4])]; exact ⟨rfl, by rw [hNN]; exact hR⟩) hP hD hS dX5_putSetting_32
    · skip
      refine lv_sipush (v := 999) hx hb dX5_putSetting_15 (by decide) ?_
      refine lv_goto (tgt := 23) hx hb dX5_putSetting_18 (by decide) ?_
      refine z_SI (n := 3) (wn := (fun u : Unit => [(oM, .inr (5, [.ref mN, .ref mA, .ref mP, .int (nI ks), .ref mR, .ref mT, .int (nI ln), .long x1, .long x2, .long x3, .long x4, .long y1, .long y2, .long y3, .long y4, .ref mL, .ref mB, .int od, .int spt, .int wa, .long hs])), (mN, .inl (cI, 39, .inl qn))])) (wr := [(oM, .inr (5, [.ref mN, .ref mA, .ref mP, .int (nI ks), .ref mR, .ref mT, .int (nI ln), .long x1, .long x2, .long x3, .long x4, .long y1, .long y2, .long y3, .long y4, .ref mL, .ref mB, .int od, .int spt, .int wa, .long hs])), (mN, .inl (cI, 39, .inl qn))]) (As := [.int v, .int 1, .int 999]) (rest := []) ⟨hx, hb, hml, hown, hts⟩ hK hP hD hS hA hT (kX5_in l D cI cB tE tN v 1 999 _ ) gX5_putSetting_X5_in rfl rfl rfl (by decide +kernel) ⟨Nat.le_of_ble_eq_true rfl, Nat.le_of_ble_eq_true rfl⟩ [] [0, 1] [0, 1] (by decide) rfl rfl (by decide) (by decide) (by decide) (fun u => rfl) rfl hl.1 rfl (Nat.le_of_ble_eq_true rfl) dX5_putSetting_23 ⟨Nat.le_of_ble_eq_true rfl, Nat.le_of_ble_eq_true rfl⟩ (fun r_8 u H locs hw_9 hP hD hS => ?_)
      try dsimp only at hw_9
      have hP : va_P D vwCl [(oM, .inr (5, [.ref mN, .ref mA, .ref mP, .int (nI ks), .ref mR, .ref mT, .int (nI ln), .long x1, .long x2, .long x3, .long x4, .long y1, .long y2, .long y3, .long y4, .ref mL, .ref mB, .int od, .int spt, .int wa, .long hs])), (mN, .inl (cI, 39, .inl qn))] H := hP
      have hD : va_D A [(oM, .inr (5, [.ref mN, .ref mA, .ref mP, .int (nI ks), .ref mR, .ref mT, .int (nI ln), .long x1, .long x2, .long x3, .long x4, .long y1, .long y2, .long y3, .long y4, .ref mL, .ref mB, .int od, .int spt, .int wa, .long hs])), (mN, .inl (cI, 39, .inl qn))] := hD
      subst r_8
      refine lv_if_ne (tgt := 33) hx hb dX5_putSetting_26 (by decide) (fun c_10 => ?_) (fun c_10 => ?_)
      · skip
        have c_10 := z_b1 c_10
        have h01 := of_decide_eq_true c_3
        obtain ⟨n, rfl, hn2⟩ := z_nat (b := 1) (Int32.not_lt.mp h01.1) (Int32.not_lt.mp h01.2) (by decide)
        have hcl : (nI n).toNatClampNeg = n := nI_clamp (by omega)
        refine lv_aload_n hx hb dX5_putSetting_33 rfl (lv_at hl 0 rfl) ?_
        refine va_get (D := D) (ci := 5) (v := .ref mN) (C := RX5) (T := TX5) (N := 21) hx hb hts N5 hown hK hP 0 rfl rfl 0 (by decide) L7 (fun _ h9 => h9) rfl dX5_putSetting_34 ?_
        refine lv_iconst (v := 1) hx hb dX5_putSetting_37 (by decide) ?_
        refine lv_iload_n hx hb dX5_putSetting_38 rfl (lv_at hl 1 rfl) ?_
        refine lv_iadd hx hb dX5_putSetting_39 ?_
        refine z_ild (v := f (36 + n)) (j := 1 + n) hx hb hK hP 1 rfl (z_add rfl rfl) (by omega) (by decide) (rd12 hR hn2) dX5_putSetting_40 ?_
        refine lv_istore_n (lv' := [(3, .int (f (36 + n))), (0, .ref oM), (1, .int (nI n)), (2, .int v)]) hx hb dX5_putSetting_41 rfl hl (by decide) rfl (fun ls hl => ?_)
        refine lv_aload_n hx hb dX5_putSetting_42 rfl (lv_at hl 1 rfl) ?_
        refine va_get (D := D) (ci := 5) (v := .ref mN) (C := RX5) (T := TX5) (N := 21) hx hb hts N5 hown hK hP 0 rfl rfl 0 (by decide) L7 (fun _ h9 => h9) rfl dX5_putSetting_43 ?_
        refine lv_iconst (v := 1) hx hb dX5_putSetting_46 (by decide) ?_
        refine lv_iload_n hx hb dX5_putSetting_47 rfl (lv_at hl 2 rfl) ?_
        refine lv_iadd hx hb dX5_putSetting_48 ?_
        refine lv_iload_n hx hb dX5_putSetting_49 rfl (lv_at hl 3 rfl) ?_
        refine z_ist (j := 1 + n) hx hb hK hP hD hS 1 rfl (z_add rfl rfl) (by omega) (by decide) dX5_putSetting_50 (fun H locs hP hD hS => ?_)
        have hP : va_P D vwCl [(oM, .inr (5, [.ref mN, .ref mA, .ref mP, .int (nI ks), .ref mR, .ref mT, .int (nI ln), .long x1, .long x2, .long x3, .long x4, .long y1, .long y2, .long y3, .long y4, .ref mL, .ref mB, .int od, .int spt, .int wa, .long hs])), (mN, .inl (cI, 39, .inl (upd qn (1 + n) v)))] H := hP
        have hD : va_D A [(oM, .inr (5, [.ref mN, .ref mA, .ref mP, .int (nI ks), .ref mR, .ref mT, .int (nI ln), .long x1, .long x2, .long x3, .long x4, .long y1, .long y2, .long y3, .long y4, .ref mL, .ref mB, .int od, .int spt, .int wa, .long hs])), (mN, .inl (cI, 39, .inl (upd qn (1 + n) v)))] := hD
        refine lv_iload_n hx hb dX5_putSetting_51 rfl (lv_at hl 0 rfl) ?_
        exact hQ (f (36 + n)) (upd qn (1 + n) v) _ _ _ _ (rfl) (by rw [rule_ok c_3 (by first | exact Or.inl c_4 | exact Or.inr c_4) c_10 (by first | rw [if_pos c_4] | rw [if_neg c_4]), hcl, nN_upd (by omega), hNN]; refine ⟨rfl, ?_⟩; have := Rg_cell (v := v) hR hN6 (k := 1 + n) (by omega); rw [show 35 + (1 + n) = 36 + n by omega] at this; exact this) hP hD hS dX5_putSetting_52
      · skip
        have c_10 := z_b0 c_10
        refine lv_sipush (v := (-10002)) hx hb dX5_putSetting_29 (by decide) ?_
        exact hQ (-10002) qn _ _ _ _ (rfl) (by rw [rule_bad2 c_3 (by first | exact Or.inl c_4 | exact Or.inr c_4) c_10 (by first | rw [if_pos c_4] | rw [if_neg c_4])]; exact ⟨rfl, by rw [hNN]; exact hR⟩) hP hD hS dX5_putSetting_32

set_option maxHeartbeats 4000000 in
set_option maxRecDepth 100000 in
theorem kX5_isPastAndClear (l : Launch) (D : va_G) (cI cB : ClassId) (tE tN : Nat) (oM : Nat) (mN : Nat) (mA : Nat) (mP : Nat) (mR : Nat) (mT : Nat) (mL : Nat) (mB : Nat) (ks : Nat) (ln : Nat) (x1 : Int64) (x2 : Int64) (x3 : Int64) (x4 : Int64) (y1 : Int64) (y2 : Int64) (y3 : Int64) (y4 : Int64) (od : Int32) (spt : Int32) (wa : Int32) (hs : Int64) (qn : Nat → Int32) (f : Nat → Int32) (N : Nat) (ib : Nat) (sz : Nat) (hR : Rg N f qn) (hI : Iv f) (hNN : nN f = N) (hb6 : ib ≤ N) : zI l yX5_isPastAndClear wsX5_isPastAndClear ({ frames := 4, cells := 0, slots := 0, locals := 89 }) D cI cB tE tN [.ref oM, .int (nI ib)] [(oM, .inr (5, [.ref mN, .ref mA, .ref mP, .int (nI ks), .ref mR, .ref mT, .int (nI ln), .long x1, .long x2, .long x3, .long x4, .long y1, .long y2, .long y3, .long y4, .ref mL, .ref mB, .int od, .int spt, .int wa, .long hs])), (mN, .inl (cI, 39, .inl qn))] sz (fun u : Int64 × Int64 × Int64 × Int64 => [(oM, .inr (5, [.ref mN, .ref mA, .ref mP, .int (nI ks), .ref mR, .ref mT, .int (nI ln), .long u.1, .long u.2.1, .long u.2.2.1, .long u.2.2.2, .long y1, .long y2, .long y3, .long y4, .ref mL, .ref mB, .int od, .int spt, .int wa, .long hs])), (mN, .inl (cI, 39, .inl qn))]) (fun (r : Int32) (u : Int64 × Int64 × Int64 × Int64) => r = b2i (cPC f ib)) 0 0 := by
  refine zI_mk (cc := cX5_isPastAndClear) (maxL := 4) (rt := .boolean) (by decide) rfl (Nat.le_of_ble_eq_true rfl) ?_
  intro p e s m below meth c A Q ls S0 hname hA hK hP hD hT hS hQ hl
  obtain ⟨hx, hb, hml, hown, hts⟩ := id S0
  have hl : lv_has ls 4 [(0, .ref oM), (1, .int (nI ib))] := hl
  have L7 : (Cond.fieldLink RX5 7 "PastAndClearModel" "now" "[I").before ([.ref oM, .int (nI ib)] : List Value).toArray s = true := hts (.fieldLink RX5 7 "PastAndClearModel" "now" "[I") (by decide +kernel)
  have N5 : ∀ w ∈ u_ws RX5 TX5 21, w ∈ wsX5_isPastAndClear := by decide +kernel
  refine lv_aload_n hx hb dX5_isPastAndClear_0 rfl (lv_at hl 0 rfl) ?_
  refine lv_iconst (v := 0) hx hb dX5_isPastAndClear_1 (by decide) ?_
  refine lv_iload_n hx hb dX5_isPastAndClear_2 rfl (lv_at hl 1 rfl) ?_
  refine z_VV (n := 2) (wn := (fun u : Unit => [(oM, .inr (5, [.ref mN, .ref mA, .ref mP, .int (nI ks), .ref mR, .ref mT, .int (nI ln), .long (cRx f 0 ib), .long (cRy f 0 ib), .long (cVx f (f (5 * 0 + 2)) (f (5 * 0 + 3)) ib), .long (cVy f (f (5 * 0 + 2)) (f (5 * 0 + 3)) ib), .long y1, .long y2, .long y3, .long y4, .ref mL, .ref mB, .int od, .int spt, .int wa, .long hs])), (mN, .inl (cI, 39, .inl qn))])) (wr := []) (As := [.int 0, .int (nI ib)]) (rest := []) ⟨hx, hb, hml, hown, hts⟩ hK hP hD hS hA hT (kX5_laysAsTheyAre l D cI cB tE tN oM mN mA mP mR mT mL mB ks ln x1 x2 x3 x4 y1 y2 y3 y4 od spt wa hs qn f N 0 ib _ (hR) (hI) (hNN) (by omega) (by omega)) gX5_isPastAndClear_X5_laysAsTheyAre rfl rfl rfl (by decide +kernel) ⟨Nat.le_of_ble_eq_true rfl, Nat.le_of_ble_eq_true rfl⟩ [0, 1] [] [0, 1] (by decide) rfl rfl (by decide) (by decide) (by decide) (fun u => rfl) 0 5 rfl rfl rfl rfl hl.1 rfl (Nat.le_of_ble_eq_true rfl) dX5_isPastAndClear_3 ⟨Nat.le_of_ble_eq_true rfl, Nat.le_of_ble_eq_true rfl⟩ (fun u H locs hw_2 hP hD hS => ?_)
  try dsimp only at hw_2
  have hP : va_P D vwCl [(oM, .inr (5, [.ref mN, .ref mA, .ref mP, .int (nI ks), .ref mR, .ref mT, .int (nI ln), .long (cRx f 0 ib), .long (cRy f 0 ib), .long (cVx f (f (5 * 0 + 2)) (f (5 * 0 + 3)) ib), .long (cVy f (f (5 * 0 + 2)) (f (5 * 0 + 3)) ib), .long y1, .long y2, .long y3, .long y4, .ref mL, .ref mB, .int od, .int spt, .int wa, .long hs])), (mN, .inl (cI, 39, .inl qn))] H := hP
  have hD : va_D A [(oM, .inr (5, [.ref mN, .ref mA, .ref mP, .int (nI ks), .ref mR, .ref mT, .int (nI ln), .long (cRx f 0 ib), .long (cRy f 0 ib), .long (cVx f (f (5 * 0 + 2)) (f (5 * 0 + 3)) ib), .long (cVy f (f (5 * 0 + 2)) (f (5 * 0 + 3)) ib), .long y1, .long y2, .long y3, .long y4, .ref mL, .ref mB, .int od, .int spt, .int wa, .long hs])), (mN, .inl (cI, 39, .inl qn))] := hD
  refine lv_aload_n hx hb dX5_isPastAndClear_6 rfl (lv_at hl 0 rfl) ?_
  refine va_get (D := D) (ci := 5) (v := .ref mN) (C := RX5) (T := TX5) (N := 21) hx hb hts N5 hown hK hP 0 rfl rfl 0 (by decide) L7 (fun _ h9 => h9) rfl dX5_isPastAndClear_7 ?_
  refine lv_iconst (v := 1) hx hb dX5_isPastAndClear_10 (by decide) ?_
  refine z_ild (v := f 36) (j := 1) hx hb hK hP 1 rfl rfl (by omega) (by decide) (hR.2.1) dX5_isPastAndClear_11 ?_
  refine lv_i2l (v := (f 36).toInt64) hx hb dX5_isPastAndClear_12 rfl ?_
  refine lv_lstore_n (lv' := [(2, .long ((f 36).toInt64)), (0, .ref oM), (1, .int (nI ib))]) hx hb dX5_isPastAndClear_13 rfl hl (by decide) rfl (fun ls hl => ?_)
  refine lv_aload_n hx hb dX5_isPastAndClear_14 rfl (lv_at hl 1 rfl) ?_
  refine z_VL (n := 0) (wn := (fun u : Unit => [(oM, .inr (5, [.ref mN, .ref mA, .ref mP, .int (nI ks), .ref mR, .ref mT, .int (nI ln), .long (cRx f 0 ib), .long (cRy f 0 ib), .long (cVx f (f (5 * 0 + 2)) (f (5 * 0 + 3)) ib), .long (cVy f (f (5 * 0 + 2)) (f (5 * 0 + 3)) ib), .long y1, .long y2, .long y3, .long y4, .ref mL, .ref mB, .int od, .int spt, .int wa, .long hs])), (mN, .inl (cI, 39, .inl qn))])) (wr := [(mN, .inl (cI, 39, .inl qn))]) (As := []) (rest := []) ⟨hx, hb, hml, hown, hts⟩ hK hP hD hS hA hT (kX5_towards l D cI cB tE tN oM mN mA mP mR mT mL mB ks ln (cRx f 0 ib) (cRy f 0 ib) (cVx f (f (5 * 0 + 2)) (f (5 * 0 + 3)) ib) (cVy f (f (5 * 0 + 2)) (f (5 * 0 + 3)) ib) y1 y2 y3 y4 od spt wa hs _ ) gX5_isPastAndClear_X5_towards rfl rfl rfl (by decide +kernel) ⟨Nat.le_of_ble_eq_true rfl, Nat.le_of_ble_eq_true rfl⟩ [0] [1] [1, 0] (by decide) rfl rfl (by decide) (by decide) (by decide) (fun u => rfl) 0 5 rfl rfl rfl rfl hl.1 rfl (Nat.le_of_ble_eq_true rfl) dX5_isPastAndClear_15 ⟨Nat.le_of_ble_eq_true rfl, Nat.le_of_ble_eq_true rfl⟩ (fun r_3 u H locs hw_4 hP hD hS => ?_)
  try dsimp only at hw_4
  have hP : va_P D vwCl [(oM, .inr (5, [.ref mN, .ref mA, .ref mP, .int (nI ks), .ref mR, .ref mT, .int (nI ln), .long (cRx f 0 ib), .long (cRy f 0 ib), .long (cVx f (f (5 * 0 + 2)) (f (5 * 0 + 3)) ib), .long (cVy f (f (5 * 0 + 2)) (f (5 * 0 + 3)) ib), .long y1, .long y2, .long y3, .long y4, .ref mL, .ref mB, .int od, .int spt, .int wa, .long hs])), (mN, .inl (cI, 39, .inl qn))] H := hP
  have hD : va_D A [(oM, .inr (5, [.ref mN, .ref mA, .ref mP, .int (nI ks), .ref mR, .ref mT, .int (nI ln), .long (cRx f 0 ib), .long (cRy f 0 ib), .long (cVx f (f (5 * 0 + 2)) (f (5 * 0 + 3)) ib), .long (cVy f (f (5 * 0 + 2)) (f (5 * 0 + 3)) ib), .long y1, .long y2, .long y3, .long y4, .ref mL, .ref mB, .int od, .int spt, .int wa, .long hs])), (mN, .inl (cI, 39, .inl qn))] := hD
  subst r_3
  refine lv_lconst (v := 0) hx hb dX5_isPastAndClear_18 (by decide) ?_
  refine W.lcmp hx hb dX5_isPastAndClear_19 ?_
  refine lv_if_lt (tgt := 38) hx hb dX5_isPastAndClear_20 (by decide) (fun c_5 => ?_) (fun c_5 => ?_)
  · skip
    have c_5 := (lg_cmp_lt _ _).mp c_5
    refine lv_iconst (v := 0) hx hb dX5_isPastAndClear_38 (by decide) ?_
    exact hQ 0 ((cRx f 0 ib), (cRy f 0 ib), (cVx f (f (5 * 0 + 2)) (f (5 * 0 + 3)) ib), (cVy f (f (5 * 0 + 2)) (f (5 * 0 + 3)) ib)) _ _ _ _ (rfl) (by rw [pc_eq hI (by omega)]; simp [b2i, c_5]) hP hD hS dX5_isPastAndClear_39
  · skip
    have c_5 := mt (lg_cmp_lt _ _).mpr c_5
    refine lv_aload_n hx hb dX5_isPastAndClear_23 rfl (lv_at hl 1 rfl) ?_
    refine z_VL (n := 0) (wn := (fun u : Unit => [(oM, .inr (5, [.ref mN, .ref mA, .ref mP, .int (nI ks), .ref mR, .ref mT, .int (nI ln), .long (cRx f 0 ib), .long (cRy f 0 ib), .long (cVx f (f (5 * 0 + 2)) (f (5 * 0 + 3)) ib), .long (cVy f (f (5 * 0 + 2)) (f (5 * 0 + 3)) ib), .long y1, .long y2, .long y3, .long y4, .ref mL, .ref mB, .int od, .int spt, .int wa, .long hs])), (mN, .inl (cI, 39, .inl qn))])) (wr := [(mN, .inl (cI, 39, .inl qn))]) (As := []) (rest := []) ⟨hx, hb, hml, hown, hts⟩ hK hP hD hS hA hT (kX5_squareAway l D cI cB tE tN oM mN mA mP mR mT mL mB ks ln (cRx f 0 ib) (cRy f 0 ib) (cVx f (f (5 * 0 + 2)) (f (5 * 0 + 3)) ib) (cVy f (f (5 * 0 + 2)) (f (5 * 0 + 3)) ib) y1 y2 y3 y4 od spt wa hs _ ) gX5_isPastAndClear_X5_squareAway rfl rfl rfl (by decide +kernel) ⟨Nat.le_of_ble_eq_true rfl, Nat.le_of_ble_eq_true rfl⟩ [0] [1] [1, 0] (by decide) rfl rfl (by decide) (by decide) (by decide) (fun u => rfl) 0 5 rfl rfl rfl rfl hl.1 rfl (Nat.le_of_ble_eq_true rfl) dX5_isPastAndClear_24 ⟨Nat.le_of_ble_eq_true rfl, Nat.le_of_ble_eq_true rfl⟩ (fun r_6 u H locs hw_7 hP hD hS => ?_)
    try dsimp only at hw_7
    have hP : va_P D vwCl [(oM, .inr (5, [.ref mN, .ref mA, .ref mP, .int (nI ks), .ref mR, .ref mT, .int (nI ln), .long (cRx f 0 ib), .long (cRy f 0 ib), .long (cVx f (f (5 * 0 + 2)) (f (5 * 0 + 3)) ib), .long (cVy f (f (5 * 0 + 2)) (f (5 * 0 + 3)) ib), .long y1, .long y2, .long y3, .long y4, .ref mL, .ref mB, .int od, .int spt, .int wa, .long hs])), (mN, .inl (cI, 39, .inl qn))] H := hP
    have hD : va_D A [(oM, .inr (5, [.ref mN, .ref mA, .ref mP, .int (nI ks), .ref mR, .ref mT, .int (nI ln), .long (cRx f 0 ib), .long (cRy f 0 ib), .long (cVx f (f (5 * 0 + 2)) (f (5 * 0 + 3)) ib), .long (cVy f (f (5 * 0 + 2)) (f (5 * 0 + 3)) ib), .long y1, .long y2, .long y3, .long y4, .ref mL, .ref mB, .int od, .int spt, .int wa, .long hs])), (mN, .inl (cI, 39, .inl qn))] := hD
    subst r_6
    refine lv_lload_n hx hb dX5_isPastAndClear_27 rfl (lv_at hl 0 rfl) ?_
    refine lv_lload_n hx hb dX5_isPastAndClear_28 rfl (lv_at hl 0 rfl) ?_
    refine lv_lmul hx hb dX5_isPastAndClear_29 ?_
    refine W.lcmp hx hb dX5_isPastAndClear_30 ?_
    refine lv_if_lt (tgt := 38) hx hb dX5_isPastAndClear_31 (by decide) (fun c_8 => ?_) (fun c_8 => ?_)
    · skip
      have c_8 := (lg_cmp_lt _ _).mp c_8
      refine lv_iconst (v := 0) hx hb dX5_isPastAndClear_38 (by decide) ?_
      exact hQ 0 ((cRx f 0 ib), (cRy f 0 ib), (cVx f (f (5 * 0 + 2)) (f (5 * 0 + 3)) ib), (cVy f (f (5 * 0 + 2)) (f (5 * 0 + 3)) ib)) _ _ _ _ (rfl) (by rw [pc_eq hI (by omega)]; simp [b2i, c_5, c_8]) hP hD hS dX5_isPastAndClear_39
    · skip
      have c_8 := mt (lg_cmp_lt _ _).mpr c_8
      refine lv_iconst (v := 1) hx hb dX5_isPastAndClear_34 (by decide) ?_
      refine lv_goto (tgt := 39) hx hb dX5_isPastAndClear_35 (by decide) ?_
      exact hQ 1 ((cRx f 0 ib), (cRy f 0 ib), (cVx f (f (5 * 0 + 2)) (f (5 * 0 + 3)) ib), (cVy f (f (5 * 0 + 2)) (f (5 * 0 + 3)) ib)) _ _ _ _ (rfl) (by rw [pc_eq hI (by omega)]; simp [b2i, c_5, c_8]) hP hD hS dX5_isPastAndClear_39
