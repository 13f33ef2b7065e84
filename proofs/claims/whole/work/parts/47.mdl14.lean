theorem pr_eta {p : Int32 × (Nat → Int32)} : (p.1, p.2) = p := rfl
theorem rd_split {b : Nat → Int32} {L n : Nat} {r wa : Int32} {lt nb : Nat → Int32} (h : (r = b2i false ∧ ¬ cFault b L < 0 ∧ wa = cFault b L) ∨ (r = b2i true ∧ cFault b L < 0 ∧ PO b L n lt nb)) : r = b2i (decide (cFault b L < 0)) ∧ (¬ cFault b L < 0 → wa = cFault b L) ∧ (cFault b L < 0 → PO b L n lt nb) := by
  rcases h with ⟨h1, h2, h3⟩ | ⟨h1, h2, h3⟩
  · exact ⟨by rw [decide_eq_false h2]; exact h1, fun _ => h3, fun q => absurd q h2⟩
  · exact ⟨by rw [decide_eq_true h2]; exact h1, fun q => absurd h2 q, fun _ => h3⟩
theorem pf_eq {b : Nat → Int32} {L i N : Nat} {f lt nb : Nat → Int32} (h : PO1 b L i lt nb) : cPerf f N (lt i) (fun q => nb (4 * i + q)) = cPerf f N (chF b L (posF b L i)) (odVal b L (posF b L i)) := by
  rw [h.2.2.1]; exact cPerf_congr h.2.1 (fun q wn h1 h2 h3 => h.2.2.2 q wn h1 h2 h3)
theorem rmF_congr {ks : Nat} {qa qb qp : Nat → Int32} {j : Nat} (h : ∀ j, j < 39 → qa j = qb j) (hj : j < 195) : rmF ks qa qp j = rmF ks qb qp j := by
  have e := rmK_congr (v := 0) (ks := ks) (qp := qp) h hj
  rw [rmK, rmK, if_neg (by decide), if_neg (by decide)] at e
  exact e
theorem cp_up2 {n : Nat} {q1 q qa : Nat → Int32} (h : ∀ j, j < n → q1 j = q j) (hla : ∀ j, j < 39 → qa j = q j) (hn : n < 39) : ∀ j, j < n + 1 → upd q1 n (qa n) j = q j := by
  intro j hj
  by_cases e : j = n
  · rw [e, upd_eq]; exact hla n hn
  · rw [upd_ne e]; exact h j (by omega)
theorem rs_perf {f : Nat → Int32} {kd : Int32} {v : Nat → Int32} (hI : Iv f) (q : (cPerf f (nN f) kd v).1 ≤ -10002) : cRef (cPerf f (nN f) kd v).1 = true := by
  refine cRef_of ?_
  revert q
  rw [cPerf]
  by_cases h1 : kd = 97
  · rw [if_pos h1]; exact rs_join hI.1
  rw [if_neg h1]
  by_cases h2 : kd = 98
  · rw [if_pos h2]; exact fun q => rs_adv hI rfl q
  rw [if_neg h2]
  by_cases h3 : kd = 110
  · rw [if_pos h3]; exact rs_go hI.1
  rw [if_neg h3]
  by_cases h4 : kd = 111
  · rw [if_pos h4]; exact rs_own hI.1
  rw [if_neg h4]
  by_cases h5 : kd = 116
  · rw [if_pos h5]; exact rs_steer hI
  rw [if_neg h5]
  exact rs_rule hI
theorem Iv_ds {b : Nat → Int32} {L : Nat} : ∀ (k d n : Nat) (f : Nat → Int32), Iv f → Iv (dsF b L k d n f).2.2
  | 0, _, _, _, h => h
  | k + 1, d, n, f, h => by
    rw [dsF]
    split
    · split
      · split
        · exact h
        · exact Iv_ds k _ _ _ (Iv_perf h pr_eta)
      · exact h
    · exact h
set_option maxHeartbeats 4000000 in
set_option maxRecDepth 100000 in
theorem kX5_doneOne (l : Launch) (D : va_G) (cI cB : ClassId) (tE tN : Nat) (oM : Nat) (mN : Nat) (mA : Nat) (mP : Nat) (mR : Nat) (mT : Nat) (mL : Nat) (mB : Nat) (ks : Nat) (ln : Nat) (x1 : Int64) (x2 : Int64) (x3 : Int64) (x4 : Int64) (y1 : Int64) (y2 : Int64) (y3 : Int64) (y4 : Int64) (od : Int32) (spt : Int32) (wa : Int32) (hs : Int64) (qn : Nat → Int32) (f : Nat → Int32) (N : Nat) (lt : Nat → Int32) (nb : Nat → Int32) (kk : Nat) (sz : Nat) (hR : Rg N f qn) (hI : Iv f) (hNN : nN f = N) (hkk : kk < 75) : zI l yX5_doneOne wsX5_doneOne ({ frames := 9, cells := 0, slots := 0, locals := 213 }) D cI cB tE tN [.ref oM, .int (nI kk)] [(oM, .inr (5, [.ref mN, .ref mA, .ref mP, .int (nI ks), .ref mR, .ref mT, .int (nI ln), .long x1, .long x2, .long x3, .long x4, .long y1, .long y2, .long y3, .long y4, .ref mL, .ref mB, .int od, .int spt, .int wa, .long hs])), (mN, .inl (cI, 39, .inl qn)), (mL, .inl (cI, 75, .inl lt)), (mB, .inl (cI, 300, .inl nb))] sz (fun u : (Nat → Int32) × Int64 × Int64 × Int64 × Int64 × Int64 × Int64 × Int64 × Int64 => [(oM, .inr (5, [.ref mN, .ref mA, .ref mP, .int (nI ks), .ref mR, .ref mT, .int (nI ln), .long u.2.1, .long u.2.2.1, .long u.2.2.2.1, .long u.2.2.2.2.1, .long u.2.2.2.2.2.1, .long u.2.2.2.2.2.2.1, .long u.2.2.2.2.2.2.2.1, .long u.2.2.2.2.2.2.2.2, .ref mL, .ref mB, .int od, .int spt, .int wa, .long hs])), (mN, .inl (cI, 39, .inl u.1)), (mL, .inl (cI, 75, .inl lt)), (mB, .inl (cI, 300, .inl nb))]) (fun (r : Int32) (u : (Nat → Int32) × Int64 × Int64 × Int64 × Int64 × Int64 × Int64 × Int64 × Int64) => r = (cPerf f N (lt kk) (fun i => nb (4 * kk + i))).1 ∧ Rg (nN (cPerf f N (lt kk) (fun i => nb (4 * kk + i))).2) (cPerf f N (lt kk) (fun i => nb (4 * kk + i))).2 u.1) 0 0 := by
  refine zI_mk (cc := cX5_doneOne) (maxL := 6) (rt := .int) (by decide) rfl (Nat.le_of_ble_eq_true rfl) ?_
  intro p e s m below meth c A Q ls S0 hname hA hK hP hD hT hS hQ hl
  obtain ⟨hx, hb, hml, hown, hts⟩ := id S0
  have hl : lv_has ls 6 [(0, .ref oM), (1, .int (nI kk))] := hl
  have L28 : (Cond.fieldLink RX5 28 "PastAndClearModel" "numbers" "[I").before ([.ref oM, .int (nI kk)] : List Value).toArray s = true := hts (.fieldLink RX5 28 "PastAndClearModel" "numbers" "[I") (by decide +kernel)
  have N5 : ∀ w ∈ u_ws RX5 TX5 21, w ∈ wsX5_doneOne := by decide +kernel
  have L25 : (Cond.fieldLink RX5 25 "PastAndClearModel" "letters" "[I").before ([.ref oM, .int (nI kk)] : List Value).toArray s = true := hts (.fieldLink RX5 25 "PastAndClearModel" "letters" "[I") (by decide +kernel)
  refine lv_aload_n hx hb dX5_doneOne_0 rfl (lv_at hl 0 rfl) ?_
  refine va_get (D := D) (ci := 5) (v := .ref mB) (C := RX5) (T := TX5) (N := 21) hx hb hts N5 hown hK hP 0 rfl rfl 16 (by decide) L28 (fun _ h9 => h9) rfl dX5_doneOne_1 ?_
  refine lv_iconst (v := 4) hx hb dX5_doneOne_4 (by decide) ?_
  refine lv_iload_n hx hb dX5_doneOne_5 rfl (lv_at hl 1 rfl) ?_
  refine lv_imul hx hb dX5_doneOne_6 ?_
  refine z_ild (v := nb (4 * kk)) (j := 4 * kk) hx hb hK hP 3 rfl (z_mul rfl rfl) (by omega) (by decide) (rfl) dX5_doneOne_7 ?_
  refine lv_istore_n (lv' := [(2, .int (nb (4 * kk))), (0, .ref oM), (1, .int (nI kk))]) hx hb dX5_doneOne_8 rfl hl (by decide) rfl (fun ls hl => ?_)
  refine lv_aload_n hx hb dX5_doneOne_9 rfl (lv_at hl 1 rfl) ?_
  refine va_get (D := D) (ci := 5) (v := .ref mB) (C := RX5) (T := TX5) (N := 21) hx hb hts N5 hown hK hP 0 rfl rfl 16 (by decide) L28 (fun _ h9 => h9) rfl dX5_doneOne_10 ?_
  refine lv_iconst (v := 4) hx hb dX5_doneOne_13 (by decide) ?_
  refine lv_iload_n hx hb dX5_doneOne_14 rfl (lv_at hl 2 rfl) ?_
  refine lv_imul hx hb dX5_doneOne_15 ?_
  refine lv_iconst (v := 1) hx hb dX5_doneOne_16 (by decide) ?_
  refine lv_iadd hx hb dX5_doneOne_17 ?_
  refine z_ild (v := nb ((4 * kk) + 1)) (j := (4 * kk) + 1) hx hb hK hP 3 rfl (z_add (z_mul rfl rfl) rfl) (by omega) (by decide) (rfl) dX5_doneOne_18 ?_
  refine lv_istore_n (lv' := [(3, .int (nb ((4 * kk) + 1))), (2, .int (nb (4 * kk))), (0, .ref oM), (1, .int (nI kk))]) hx hb dX5_doneOne_19 rfl hl (by decide) rfl (fun ls hl => ?_)
  refine lv_aload_n hx hb dX5_doneOne_20 rfl (lv_at hl 2 rfl) ?_
  refine va_get (D := D) (ci := 5) (v := .ref mB) (C := RX5) (T := TX5) (N := 21) hx hb hts N5 hown hK hP 0 rfl rfl 16 (by decide) L28 (fun _ h9 => h9) rfl dX5_doneOne_21 ?_
  refine lv_iconst (v := 4) hx hb dX5_doneOne_24 (by decide) ?_
  refine lv_iload_n hx hb dX5_doneOne_25 rfl (lv_at hl 3 rfl) ?_
  refine lv_imul hx hb dX5_doneOne_26 ?_
  refine lv_iconst (v := 2) hx hb dX5_doneOne_27 (by decide) ?_
  refine lv_iadd hx hb dX5_doneOne_28 ?_
  refine z_ild (v := nb ((4 * kk) + 2)) (j := (4 * kk) + 2) hx hb hK hP 3 rfl (z_add (z_mul rfl rfl) rfl) (by omega) (by decide) (rfl) dX5_doneOne_29 ?_
  refine lv_istore (lv' := [(4, .int (nb ((4 * kk) + 2))), (3, .int (nb ((4 * kk) + 1))), (2, .int (nb (4 * kk))), (0, .ref oM), (1, .int (nI kk))]) hx hb dX5_doneOne_30 hl (by decide) rfl (fun ls hl => ?_)
  refine lv_aload_n hx hb dX5_doneOne_32 rfl (lv_at hl 3 rfl) ?_
  refine va_get (D := D) (ci := 5) (v := .ref mB) (C := RX5) (T := TX5) (N := 21) hx hb hts N5 hown hK hP 0 rfl rfl 16 (by decide) L28 (fun _ h9 => h9) rfl dX5_doneOne_33 ?_
  refine lv_iconst (v := 4) hx hb dX5_doneOne_36 (by decide) ?_
  refine lv_iload_n hx hb dX5_doneOne_37 rfl (lv_at hl 4 rfl) ?_
  refine lv_imul hx hb dX5_doneOne_38 ?_
  refine lv_iconst (v := 3) hx hb dX5_doneOne_39 (by decide) ?_
  refine lv_iadd hx hb dX5_doneOne_40 ?_
  refine z_ild (v := nb ((4 * kk) + 3)) (j := (4 * kk) + 3) hx hb hK hP 3 rfl (z_add (z_mul rfl rfl) rfl) (by omega) (by decide) (rfl) dX5_doneOne_41 ?_
  refine lv_istore (lv' := [(5, .int (nb ((4 * kk) + 3))), (4, .int (nb ((4 * kk) + 2))), (3, .int (nb ((4 * kk) + 1))), (2, .int (nb (4 * kk))), (0, .ref oM), (1, .int (nI kk))]) hx hb dX5_doneOne_42 hl (by decide) rfl (fun ls hl => ?_)
  refine lv_aload_n hx hb dX5_doneOne_44 rfl (lv_at hl 4 rfl) ?_
  refine va_get (D := D) (ci := 5) (v := .ref mL) (C := RX5) (T := TX5) (N := 21) hx hb hts N5 hown hK hP 0 rfl rfl 15 (by decide) L25 (fun _ h9 => h9) rfl dX5_doneOne_45 ?_
  refine lv_iload_n hx hb dX5_doneOne_48 rfl (lv_at hl 5 rfl) ?_
  refine z_ild (v := lt kk) (j := kk) hx hb hK hP 2 rfl rfl (by omega) (by decide) (rfl) dX5_doneOne_49 ?_
  by_cases w_1 : (lt kk) = 97
  · skip
    refine lv_lookup (tgt := 100) (off := 50) hx hb dX5_doneOne_50 (by decide) (by rw [w_1]; decide) (by decide) ?_
    refine lv_aload_n hx hb dX5_doneOne_100 rfl (lv_at hl 4 rfl) ?_
    refine lv_iload_n hx hb dX5_doneOne_101 rfl (lv_at hl 3 rfl) ?_
    refine lv_iload_n hx hb dX5_doneOne_102 rfl (lv_at hl 2 rfl) ?_
    refine lv_iload hx hb dX5_doneOne_103 (lv_at hl 1 rfl) ?_
    refine lv_iload hx hb dX5_doneOne_105 (lv_at hl 0 rfl) ?_
    refine z_VI (n := 4) (wn := (fun u : (Nat → Int32) => [(oM, .inr (5, [.ref mN, .ref mA, .ref mP, .int (nI ks), .ref mR, .ref mT, .int (nI ln), .long x1, .long x2, .long x3, .long x4, .long y1, .long y2, .long y3, .long y4, .ref mL, .ref mB, .int od, .int spt, .int wa, .long hs])), (mN, .inl (cI, 39, .inl u)), (mL, .inl (cI, 75, .inl lt)), (mB, .inl (cI, 300, .inl nb))])) (wr := [(mL, .inl (cI, 75, .inl lt)), (mB, .inl (cI, 300, .inl nb))]) (As := [.int (nb (4 * kk)), .int (nb ((4 * kk) + 1)), .int (nb ((4 * kk) + 2)), .int (nb ((4 * kk) + 3))]) (rest := []) ⟨hx, hb, hml, hown, hts⟩ hK hP hD hS hA hT (kX5_putOther l D cI cB tE tN oM mN mA mP mR mT mL mB ks ln x1 x2 x3 x4 y1 y2 y3 y4 od spt wa hs qn f N (nb (4 * kk)) (nb ((4 * kk) + 1)) (nb ((4 * kk) + 2)) (nb ((4 * kk) + 3)) _ (hR) (hI) (hNN)) gX5_doneOne_X5_putOther rfl rfl rfl (by decide +kernel) ⟨Nat.le_of_ble_eq_true rfl, Nat.le_of_ble_eq_true rfl⟩ [0, 1] [2, 3] [2, 3, 0, 1] (by decide) rfl rfl (by decide) (by decide) (by decide) (fun u => rfl) 0 5 rfl rfl rfl rfl hl.1 rfl (Nat.le_of_ble_eq_true rfl) dX5_doneOne_107 ⟨Nat.le_of_ble_eq_true rfl, Nat.le_of_ble_eq_true rfl⟩ (fun r_3 u H locs hw_4 hP hD hS => ?_)
    obtain ⟨q2_2, rfl⟩ : ∃ z, z = u := ⟨_, rfl⟩
    try dsimp only at hw_4
    have hP : va_P D vwCl [(oM, .inr (5, [.ref mN, .ref mA, .ref mP, .int (nI ks), .ref mR, .ref mT, .int (nI ln), .long x1, .long x2, .long x3, .long x4, .long y1, .long y2, .long y3, .long y4, .ref mL, .ref mB, .int od, .int spt, .int wa, .long hs])), (mN, .inl (cI, 39, .inl q2_2)), (mL, .inl (cI, 75, .inl lt)), (mB, .inl (cI, 300, .inl nb))] H := hP
    have hD : va_D A [(oM, .inr (5, [.ref mN, .ref mA, .ref mP, .int (nI ks), .ref mR, .ref mT, .int (nI ln), .long x1, .long x2, .long x3, .long x4, .long y1, .long y2, .long y3, .long y4, .ref mL, .ref mB, .int od, .int spt, .int wa, .long hs])), (mN, .inl (cI, 39, .inl q2_2)), (mL, .inl (cI, 75, .inl lt)), (mB, .inl (cI, 300, .inl nb))] := hD
    have hj := hw_4
    exact hQ r_3 (q2_2, x1, x2, x3, x4, y1, y2, y3, y4) _ _ _ _ (rfl) (by rw [cPerf, if_pos w_1]; exact hj) hP hD hS dX5_doneOne_110
  · skip
    by_cases w_5 : (lt kk) = 98
    · skip
      refine lv_lookup (tgt := 136) (off := 86) hx hb dX5_doneOne_50 (by decide) (by rw [w_5]; decide) (by decide) ?_
      refine lv_aload_n hx hb dX5_doneOne_136 rfl (lv_at hl 4 rfl) ?_
      refine z_VI (n := 0) (wn := (fun u : (Nat → Int32) × Int64 × Int64 × Int64 × Int64 × Int64 × Int64 × Int64 × Int64 => [(oM, .inr (5, [.ref mN, .ref mA, .ref mP, .int (nI ks), .ref mR, .ref mT, .int (nI ln), .long u.2.1, .long u.2.2.1, .long u.2.2.2.1, .long u.2.2.2.2.1, .long u.2.2.2.2.2.1, .long u.2.2.2.2.2.2.1, .long u.2.2.2.2.2.2.2.1, .long u.2.2.2.2.2.2.2.2, .ref mL, .ref mB, .int od, .int spt, .int wa, .long hs])), (mN, .inl (cI, 39, .inl u.1)), (mL, .inl (cI, 75, .inl lt)), (mB, .inl (cI, 300, .inl nb))])) (wr := [(mL, .inl (cI, 75, .inl lt)), (mB, .inl (cI, 300, .inl nb))]) (As := []) (rest := []) ⟨hx, hb, hml, hown, hts⟩ hK hP hD hS hA hT (kX5_putObeyed l D cI cB tE tN oM mN mA mP mR mT mL mB ks ln x1 x2 x3 x4 y1 y2 y3 y4 od spt wa hs qn f N _ (hR) (hI) (hNN)) gX5_doneOne_X5_putObeyed rfl rfl rfl (by decide +kernel) ⟨Nat.le_of_ble_eq_true rfl, Nat.le_of_ble_eq_true rfl⟩ [0, 1] [2, 3] [2, 3, 0, 1] (by decide) rfl rfl (by decide) (by decide) (by decide) (fun u => rfl) 0 5 rfl rfl rfl rfl hl.1 rfl (Nat.le_of_ble_eq_true rfl) dX5_doneOne_137 ⟨Nat.le_of_ble_eq_true rfl, Nat.le_of_ble_eq_true rfl⟩ (fun r_15 u H locs hw_16 hP hD hS => ?_)
      obtain ⟨qz_6, p1_7, p2_8, p3_9, p4_10, q1_11, q2_12, q3_13, q4_14⟩ := u
      try dsimp only at hw_16
      have hP : va_P D vwCl [(oM, .inr (5, [.ref mN, .ref mA, .ref mP, .int (nI ks), .ref mR, .ref mT, .int (nI ln), .long p1_7, .long p2_8, .long p3_9, .long p4_10, .long q1_11, .long q2_12, .long q3_13, .long q4_14, .ref mL, .ref mB, .int od, .int spt, .int wa, .long hs])), (mN, .inl (cI, 39, .inl qz_6)), (mL, .inl (cI, 75, .inl lt)), (mB, .inl (cI, 300, .inl nb))] H := hP
      have hD : va_D A [(oM, .inr (5, [.ref mN, .ref mA, .ref mP, .int (nI ks), .ref mR, .ref mT, .int (nI ln), .long p1_7, .long p2_8, .long p3_9, .long p4_10, .long q1_11, .long q2_12, .long q3_13, .long q4_14, .ref mL, .ref mB, .int od, .int spt, .int wa, .long hs])), (mN, .inl (cI, 39, .inl qz_6)), (mL, .inl (cI, 75, .inl lt)), (mB, .inl (cI, 300, .inl nb))] := hD
      have hj := hw_16
      exact hQ r_15 (qz_6, p1_7, p2_8, p3_9, p4_10, q1_11, q2_12, q3_13, q4_14) _ _ _ _ (rfl) (by rw [cPerf, if_neg w_1, if_pos w_5]; exact hj) hP hD hS dX5_doneOne_140
    · skip
      by_cases w_17 : (lt kk) = 110
      · skip
        refine lv_lookup (tgt := 130) (off := 80) hx hb dX5_doneOne_50 (by decide) (by rw [w_17]; decide) (by decide) ?_
        refine lv_aload_n hx hb dX5_doneOne_130 rfl (lv_at hl 4 rfl) ?_
        refine lv_iload_n hx hb dX5_doneOne_131 rfl (lv_at hl 3 rfl) ?_
        refine z_VI (n := 1) (wn := (fun u : (Nat → Int32) × Int64 × Int64 × Int64 × Int64 × Int64 × Int64 × Int64 × Int64 => [(oM, .inr (5, [.ref mN, .ref mA, .ref mP, .int (nI ks), .ref mR, .ref mT, .int (nI ln), .long u.2.1, .long u.2.2.1, .long u.2.2.2.1, .long u.2.2.2.2.1, .long u.2.2.2.2.2.1, .long u.2.2.2.2.2.2.1, .long u.2.2.2.2.2.2.2.1, .long u.2.2.2.2.2.2.2.2, .ref mL, .ref mB, .int od, .int spt, .int wa, .long hs])), (mN, .inl (cI, 39, .inl u.1)), (mL, .inl (cI, 75, .inl lt)), (mB, .inl (cI, 300, .inl nb))])) (wr := [(mL, .inl (cI, 75, .inl lt)), (mB, .inl (cI, 300, .inl nb))]) (As := [.int (nb (4 * kk))]) (rest := []) ⟨hx, hb, hml, hown, hts⟩ hK hP hD hS hA hT (kX5_putSteps l D cI cB tE tN oM mN mA mP mR mT mL mB ks ln x1 x2 x3 x4 y1 y2 y3 y4 od spt wa hs qn f N (nb (4 * kk)) _ (hR) (hI) (hNN)) gX5_doneOne_X5_putSteps rfl rfl rfl (by decide +kernel) ⟨Nat.le_of_ble_eq_true rfl, Nat.le_of_ble_eq_true rfl⟩ [0, 1] [2, 3] [2, 3, 0, 1] (by decide) rfl rfl (by decide) (by decide) (by decide) (fun u => rfl) 0 5 rfl rfl rfl rfl hl.1 rfl (Nat.le_of_ble_eq_true rfl) dX5_doneOne_132 ⟨Nat.le_of_ble_eq_true rfl, Nat.le_of_ble_eq_true rfl⟩ (fun r_27 u H locs hw_28 hP hD hS => ?_)
        obtain ⟨qz_18, p1_19, p2_20, p3_21, p4_22, q1_23, q2_24, q3_25, q4_26⟩ := u
        try dsimp only at hw_28
        have hP : va_P D vwCl [(oM, .inr (5, [.ref mN, .ref mA, .ref mP, .int (nI ks), .ref mR, .ref mT, .int (nI ln), .long p1_19, .long p2_20, .long p3_21, .long p4_22, .long q1_23, .long q2_24, .long q3_25, .long q4_26, .ref mL, .ref mB, .int od, .int spt, .int wa, .long hs])), (mN, .inl (cI, 39, .inl qz_18)), (mL, .inl (cI, 75, .inl lt)), (mB, .inl (cI, 300, .inl nb))] H := hP
        have hD : va_D A [(oM, .inr (5, [.ref mN, .ref mA, .ref mP, .int (nI ks), .ref mR, .ref mT, .int (nI ln), .long p1_19, .long p2_20, .long p3_21, .long p4_22, .long q1_23, .long q2_24, .long q3_25, .long q4_26, .ref mL, .ref mB, .int od, .int spt, .int wa, .long hs])), (mN, .inl (cI, 39, .inl qz_18)), (mL, .inl (cI, 75, .inl lt)), (mB, .inl (cI, 300, .inl nb))] := hD
        have hj := hw_28
        exact hQ r_27 (qz_18, p1_19, p2_20, p3_21, p4_22, q1_23, q2_24, q3_25, q4_26) _ _ _ _ (rfl) (by rw [cPerf, if_neg w_1, if_neg w_5, if_pos w_17]; exact hj) hP hD hS dX5_doneOne_135
      · skip
        by_cases w_29 : (lt kk) = 111
        · skip
          refine lv_lookup (tgt := 111) (off := 61) hx hb dX5_doneOne_50 (by decide) (by rw [w_29]; decide) (by decide) ?_
          refine lv_aload_n hx hb dX5_doneOne_111 rfl (lv_at hl 4 rfl) ?_
          refine lv_iload_n hx hb dX5_doneOne_112 rfl (lv_at hl 3 rfl) ?_
          refine lv_iload_n hx hb dX5_doneOne_113 rfl (lv_at hl 2 rfl) ?_
          refine lv_iload hx hb dX5_doneOne_114 (lv_at hl 1 rfl) ?_
          refine lv_iload hx hb dX5_doneOne_116 (lv_at hl 0 rfl) ?_
          refine z_VI (n := 4) (wn := (fun u : (Nat → Int32) => [(oM, .inr (5, [.ref mN, .ref mA, .ref mP, .int (nI ks), .ref mR, .ref mT, .int (nI ln), .long x1, .long x2, .long x3, .long x4, .long y1, .long y2, .long y3, .long y4, .ref mL, .ref mB, .int od, .int spt, .int wa, .long hs])), (mN, .inl (cI, 39, .inl u)), (mL, .inl (cI, 75, .inl lt)), (mB, .inl (cI, 300, .inl nb))])) (wr := [(mL, .inl (cI, 75, .inl lt)), (mB, .inl (cI, 300, .inl nb))]) (As := [.int (nb (4 * kk)), .int (nb ((4 * kk) + 1)), .int (nb ((4 * kk) + 2)), .int (nb ((4 * kk) + 3))]) (rest := []) ⟨hx, hb, hml, hown, hts⟩ hK hP hD hS hA hT (kX5_putOwn l D cI cB tE tN oM mN mA mP mR mT mL mB ks ln x1 x2 x3 x4 y1 y2 y3 y4 od spt wa hs qn f N (nb (4 * kk)) (nb ((4 * kk) + 1)) (nb ((4 * kk) + 2)) (nb ((4 * kk) + 3)) _ (hR) (hI) (hNN)) gX5_doneOne_X5_putOwn rfl rfl rfl (by decide +kernel) ⟨Nat.le_of_ble_eq_true rfl, Nat.le_of_ble_eq_true rfl⟩ [0, 1] [2, 3] [2, 3, 0, 1] (by decide) rfl rfl (by decide) (by decide) (by decide) (fun u => rfl) 0 5 rfl rfl rfl rfl hl.1 rfl (Nat.le_of_ble_eq_true rfl) dX5_doneOne_118 ⟨Nat.le_of_ble_eq_true rfl, Nat.le_of_ble_eq_true rfl⟩ (fun r_31 u H locs hw_32 hP hD hS => ?_)
          obtain ⟨q2_30, rfl⟩ : ∃ z, z = u := ⟨_, rfl⟩
          try dsimp only at hw_32
          have hP : va_P D vwCl [(oM, .inr (5, [.ref mN, .ref mA, .ref mP, .int (nI ks), .ref mR, .ref mT, .int (nI ln), .long x1, .long x2, .long x3, .long x4, .long y1, .long y2, .long y3, .long y4, .ref mL, .ref mB, .int od, .int spt, .int wa, .long hs])), (mN, .inl (cI, 39, .inl q2_30)), (mL, .inl (cI, 75, .inl lt)), (mB, .inl (cI, 300, .inl nb))] H := hP
          have hD : va_D A [(oM, .inr (5, [.ref mN, .ref mA, .ref mP, .int (nI ks), .ref mR, .ref mT, .int (nI ln), .long x1, .long x2, .long x3, .long x4, .long y1, .long y2, .long y3, .long y4, .ref mL, .ref mB, .int od, .int spt, .int wa, .long hs])), (mN, .inl (cI, 39, .inl q2_30)), (mL, .inl (cI, 75, .inl lt)), (mB, .inl (cI, 300, .inl nb))] := hD
          have hj := hw_32
          exact hQ r_31 (q2_30, x1, x2, x3, x4, y1, y2, y3, y4) _ _ _ _ (rfl) (by rw [cPerf, if_neg w_1, if_neg w_5, if_neg w_17, if_pos w_29]; exact hj) hP hD hS dX5_doneOne_121
        · skip
          by_cases w_33 : (lt kk) = 116
          · skip
            refine lv_lookup (tgt := 122) (off := 72) hx hb dX5_doneOne_50 (by decide) (by rw [w_33]; decide) (by decide) ?_
            refine lv_aload_n hx hb dX5_doneOne_122 rfl (lv_at hl 4 rfl) ?_
            refine lv_iconst (v := 0) hx hb dX5_doneOne_123 (by decide) ?_
            refine lv_iload_n hx hb dX5_doneOne_124 rfl (lv_at hl 3 rfl) ?_
            refine lv_iload_n hx hb dX5_doneOne_125 rfl (lv_at hl 2 rfl) ?_
            refine z_VI (n := 3) (wn := (fun u : (Nat → Int32) => [(oM, .inr (5, [.ref mN, .ref mA, .ref mP, .int (nI ks), .ref mR, .ref mT, .int (nI ln), .long x1, .long x2, .long x3, .long x4, .long y1, .long y2, .long y3, .long y4, .ref mL, .ref mB, .int od, .int spt, .int wa, .long hs])), (mN, .inl (cI, 39, .inl u)), (mL, .inl (cI, 75, .inl lt)), (mB, .inl (cI, 300, .inl nb))])) (wr := [(mL, .inl (cI, 75, .inl lt)), (mB, .inl (cI, 300, .inl nb))]) (As := [.int 0, .int (nb (4 * kk)), .int (nb ((4 * kk) + 1))]) (rest := []) ⟨hx, hb, hml, hown, hts⟩ hK hP hD hS hA hT (kX5_putCourse l D cI cB tE tN oM mN mA mP mR mT mL mB ks ln x1 x2 x3 x4 y1 y2 y3 y4 od spt wa hs qn f N 0 (nb (4 * kk)) (nb ((4 * kk) + 1)) _ (hR) (hI) (hNN)) gX5_doneOne_X5_putCourse rfl rfl rfl (by decide +kernel) ⟨Nat.le_of_ble_eq_true rfl, Nat.le_of_ble_eq_true rfl⟩ [0, 1] [2, 3] [2, 3, 0, 1] (by decide) rfl rfl (by decide) (by decide) (by decide) (fun u => rfl) 0 5 rfl rfl rfl rfl hl.1 rfl (Nat.le_of_ble_eq_true rfl) dX5_doneOne_126 ⟨Nat.le_of_ble_eq_true rfl, Nat.le_of_ble_eq_true rfl⟩ (fun r_35 u H locs hw_36 hP hD hS => ?_)
            obtain ⟨q2_34, rfl⟩ : ∃ z, z = u := ⟨_, rfl⟩
            try dsimp only at hw_36
            have hP : va_P D vwCl [(oM, .inr (5, [.ref mN, .ref mA, .ref mP, .int (nI ks), .ref mR, .ref mT, .int (nI ln), .long x1, .long x2, .long x3, .long x4, .long y1, .long y2, .long y3, .long y4, .ref mL, .ref mB, .int od, .int spt, .int wa, .long hs])), (mN, .inl (cI, 39, .inl q2_34)), (mL, .inl (cI, 75, .inl lt)), (mB, .inl (cI, 300, .inl nb))] H := hP
            have hD : va_D A [(oM, .inr (5, [.ref mN, .ref mA, .ref mP, .int (nI ks), .ref mR, .ref mT, .int (nI ln), .long x1, .long x2, .long x3, .long x4, .long y1, .long y2, .long y3, .long y4, .ref mL, .ref mB, .int od, .int spt, .int wa, .long hs])), (mN, .inl (cI, 39, .inl q2_34)), (mL, .inl (cI, 75, .inl lt)), (mB, .inl (cI, 300, .inl nb))] := hD
            have hj := hw_36
            exact hQ r_35 (q2_34, x1, x2, x3, x4, y1, y2, y3, y4) _ _ _ _ (rfl) (by rw [cPerf, if_neg w_1, if_neg w_5, if_neg w_17, if_neg w_29, if_pos w_33]; exact hj) hP hD hS dX5_doneOne_129
          · skip
            refine lv_lookup (tgt := 141) (off := 91) hx hb dX5_doneOne_50 (by decide) (by rw [lv_osw w_1 (k := 97) (a := 97) (by decide), lv_osw w_5 (k := 98) (a := 98) (by decide), lv_osw w_17 (k := 110) (a := 110) (by decide), lv_osw w_29 (k := 111) (a := 111) (by decide), lv_osw w_33 (k := 116) (a := 116) (by decide)]; rfl) (by decide) ?_
            refine lv_aload_n hx hb dX5_doneOne_141 rfl (lv_at hl 4 rfl) ?_
            refine lv_iload_n hx hb dX5_doneOne_142 rfl (lv_at hl 3 rfl) ?_
            refine lv_iload_n hx hb dX5_doneOne_143 rfl (lv_at hl 2 rfl) ?_
            refine z_VI (n := 2) (wn := (fun u : (Nat → Int32) => [(oM, .inr (5, [.ref mN, .ref mA, .ref mP, .int (nI ks), .ref mR, .ref mT, .int (nI ln), .long x1, .long x2, .long x3, .long x4, .long y1, .long y2, .long y3, .long y4, .ref mL, .ref mB, .int od, .int spt, .int wa, .long hs])), (mN, .inl (cI, 39, .inl u)), (mL, .inl (cI, 75, .inl lt)), (mB, .inl (cI, 300, .inl nb))])) (wr := [(mL, .inl (cI, 75, .inl lt)), (mB, .inl (cI, 300, .inl nb))]) (As := [.int (nb (4 * kk)), .int (nb ((4 * kk) + 1))]) (rest := []) ⟨hx, hb, hml, hown, hts⟩ hK hP hD hS hA hT (kX5_putSetting l D cI cB tE tN oM mN mA mP mR mT mL mB ks ln x1 x2 x3 x4 y1 y2 y3 y4 od spt wa hs qn f N (nb (4 * kk)) (nb ((4 * kk) + 1)) _ (hR) (hI) (hNN)) gX5_doneOne_X5_putSetting rfl rfl rfl (by decide +kernel) ⟨Nat.le_of_ble_eq_true rfl, Nat.le_of_ble_eq_true rfl⟩ [0, 1] [2, 3] [2, 3, 0, 1] (by decide) rfl rfl (by decide) (by decide) (by decide) (fun u => rfl) 0 5 rfl rfl rfl rfl hl.1 rfl (Nat.le_of_ble_eq_true rfl) dX5_doneOne_144 ⟨Nat.le_of_ble_eq_true rfl, Nat.le_of_ble_eq_true rfl⟩ (fun r_38 u H locs hw_39 hP hD hS => ?_)
            obtain ⟨q2_37, rfl⟩ : ∃ z, z = u := ⟨_, rfl⟩
            try dsimp only at hw_39
            have hP : va_P D vwCl [(oM, .inr (5, [.ref mN, .ref mA, .ref mP, .int (nI ks), .ref mR, .ref mT, .int (nI ln), .long x1, .long x2, .long x3, .long x4, .long y1, .long y2, .long y3, .long y4, .ref mL, .ref mB, .int od, .int spt, .int wa, .long hs])), (mN, .inl (cI, 39, .inl q2_37)), (mL, .inl (cI, 75, .inl lt)), (mB, .inl (cI, 300, .inl nb))] H := hP
            have hD : va_D A [(oM, .inr (5, [.ref mN, .ref mA, .ref mP, .int (nI ks), .ref mR, .ref mT, .int (nI ln), .long x1, .long x2, .long x3, .long x4, .long y1, .long y2, .long y3, .long y4, .ref mL, .ref mB, .int od, .int spt, .int wa, .long hs])), (mN, .inl (cI, 39, .inl q2_37)), (mL, .inl (cI, 75, .inl lt)), (mB, .inl (cI, 300, .inl nb))] := hD
            have hj := hw_39
            exact hQ r_38 (q2_37, x1, x2, x3, x4, y1, y2, y3, y4) _ _ _ _ (rfl) (by rw [cPerf, if_neg w_1, if_neg w_5, if_neg w_17, if_neg w_29, if_neg w_33]; exact hj) hP hD hS dX5_doneOne_147

set_option maxHeartbeats 4000000 in
set_option maxRecDepth 100000 in
theorem kX5_does (l : Launch) (D : va_G) (cI cB : ClassId) (tE tN : Nat) (oM : Nat) (mN : Nat) (mA : Nat) (mP : Nat) (mR : Nat) (mT : Nat) (mL : Nat) (mB : Nat) (ks : Nat) (ln : Nat) (x1 : Int64) (x2 : Int64) (x3 : Int64) (x4 : Int64) (y1 : Int64) (y2 : Int64) (y3 : Int64) (y4 : Int64) (od : Int32) (spt : Int32) (wa : Int32) (hs : Int64) (qn : Nat → Int32) (qa : Nat → Int32) (qp : Nat → Int32) (tx : Nat → Int32) (bt : Nat → Int32) (lt : Nat → Int32) (nb : Nat → Int32) (f : Nat → Int32) (sz : Nat) (hR0 : Rg (nN f) f qn) (hI0 : Iv f) (hks : ks ≤ 5) (hln : ln ≤ 150) (hTx : ∀ j, j < ln → tx j = bt j) : zI l yX5_does wsX5_does ({ frames := 10, cells := 0, slots := 0, locals := 238 }) D cI cB tE tN [.ref oM] [(oM, .inr (5, [.ref mN, .ref mA, .ref mP, .int (nI ks), .ref mR, .ref mT, .int (nI ln), .long x1, .long x2, .long x3, .long x4, .long y1, .long y2, .long y3, .long y4, .ref mL, .ref mB, .int od, .int spt, .int wa, .long hs])), (mN, .inl (cI, 39, .inl qn)), (mA, .inl (cI, 39, .inl qa)), (mP, .inl (cI, 195, .inl qp)), (mT, .inl (cI, 150, .inl tx)), (mL, .inl (cI, 75, .inl lt)), (mB, .inl (cI, 300, .inl nb))] sz (fun u : (Nat → Int32) × Int64 × Int64 × Int64 × Int64 × Int64 × Int64 × Int64 × Int64 × (Nat → Int32) × Nat × (Nat → Int32) × Int32 × Int32 × Int32 × (Nat → Int32) × (Nat → Int32) => [(oM, .inr (5, [.ref mN, .ref mA, .ref mP, .int (nI u.2.2.2.2.2.2.2.2.2.2.1), .ref mR, .ref mT, .int (nI ln), .long u.2.1, .long u.2.2.1, .long u.2.2.2.1, .long u.2.2.2.2.1, .long u.2.2.2.2.2.1, .long u.2.2.2.2.2.2.1, .long u.2.2.2.2.2.2.2.1, .long u.2.2.2.2.2.2.2.2.1, .ref mL, .ref mB, .int u.2.2.2.2.2.2.2.2.2.2.2.2.2.1, .int u.2.2.2.2.2.2.2.2.2.2.2.2.1, .int u.2.2.2.2.2.2.2.2.2.2.2.2.2.2.1, .long hs])), (mN, .inl (cI, 39, .inl u.1)), (mA, .inl (cI, 39, .inl u.2.2.2.2.2.2.2.2.2.1)), (mP, .inl (cI, 195, .inl u.2.2.2.2.2.2.2.2.2.2.2.1)), (mT, .inl (cI, 150, .inl tx)), (mL, .inl (cI, 75, .inl u.2.2.2.2.2.2.2.2.2.2.2.2.2.2.2.1)), (mB, .inl (cI, 300, .inl u.2.2.2.2.2.2.2.2.2.2.2.2.2.2.2.2))]) (fun (r : Int32) (u : (Nat → Int32) × Int64 × Int64 × Int64 × Int64 × Int64 × Int64 × Int64 × Int64 × (Nat → Int32) × Nat × (Nat → Int32) × Int32 × Int32 × Int32 × (Nat → Int32) × (Nat → Int32)) => (¬ cFault bt ln < 0 ∧ r = (-10) - cFault bt ln ∧ u.2.2.2.2.2.2.2.2.2.2.1 = ks ∧ u.1 = qn ∧ u.2.2.2.2.2.2.2.2.2.2.2.1 = qp) ∨ (cFault bt ln < 0 ∧ (dsF bt ln 75 0 (sk bt ln 0) f).1 = true ∧ r = nI (dsF bt ln 75 0 (sk bt ln 0) f).2.1 ∧ u.2.2.2.2.2.2.2.2.2.2.1 = kpS ks ∧ Rg (nN (dsF bt ln 75 0 (sk bt ln 0) f).2.2) (dsF bt ln 75 0 (sk bt ln 0) f).2.2 u.1 ∧ ∀ j, j < 195 → u.2.2.2.2.2.2.2.2.2.2.2.1 j = rmF ks qn qp j) ∨ (cFault bt ln < 0 ∧ (dsF bt ln 75 0 (sk bt ln 0) f).1 = false ∧ r = (-1000) - nI (dsF bt ln 75 0 (sk bt ln 0) f).2.1 ∧ u.2.2.2.2.2.2.2.2.2.2.1 = ks ∧ (∀ j, j < 39 → u.1 j = qn j) ∧ u.2.2.2.2.2.2.2.2.2.2.2.1 = qp)) 0 0 := by
  refine zI_mk (cc := cX5_does) (maxL := 3) (rt := .int) (by decide) rfl (Nat.le_of_ble_eq_true rfl) ?_
  intro p e s m below meth c A Q ls S0 hname hA hK hP hD hT hS hQ hl
  obtain ⟨hx, hb, hml, hown, hts⟩ := id S0
  have hl : lv_has ls 3 [(0, .ref oM)] := hl
  have L7 : (Cond.fieldLink RX5 7 "PastAndClearModel" "now" "[I").before ([.ref oM] : List Value).toArray s = true := hts (.fieldLink RX5 7 "PastAndClearModel" "now" "[I") (by decide +kernel)
  have N5 : ∀ w ∈ u_ws RX5 TX5 21, w ∈ wsX5_does := by decide +kernel
  have L13 : (Cond.fieldLink RX5 13 "PastAndClearModel" "aside" "[I").before ([.ref oM] : List Value).toArray s = true := hts (.fieldLink RX5 13 "PastAndClearModel" "aside" "[I") (by decide +kernel)
  have L230 : (Cond.fieldLink RX5 230 "PastAndClearModel" "orders" "I").before ([.ref oM] : List Value).toArray s = true := hts (.fieldLink RX5 230 "PastAndClearModel" "orders" "I") (by decide +kernel)
  have L218 : (Cond.fieldLink RX5 218 "PastAndClearModel" "wrongAt" "I").before ([.ref oM] : List Value).toArray s = true := hts (.fieldLink RX5 218 "PastAndClearModel" "wrongAt" "I") (by decide +kernel)
  have lp42 : ∀ (k : Nat) (d : Nat) (n : Nat) (f1 : Nat → Int32) (q2z : Nat → Int32) (pn1 : Nat) (on1 : Nat) (wa1 : Int32) (lt1 : Nat → Int32) (nb1 : Nat → Int32) (qa1 : Nat → Int32) (x1z : Int64) (x2z : Int64) (x3z : Int64) (x4z : Int64) (y1z : Int64) (y2z : Int64) (y3z : Int64) (y4z : Int64) (H : Heap) (locs : List Loc) (ls : Array Slot), 39 - n = k → (d < 75) → (n ≤ 39) → (cFault bt ln < 0) → (dsF bt ln 75 0 (sk bt ln 0) f = (false, d, f1)) → (∀ j, j < 39 → qa1 j = qn j) → (∀ j, j < n → q2z j = qn j) → va_P D vwCl [(oM, .inr (5, [.ref mN, .ref mA, .ref mP, .int (nI ks), .ref mR, .ref mT, .int (nI ln), .long x1z, .long x2z, .long x3z, .long x4z, .long y1z, .long y2z, .long y3z, .long y4z, .ref mL, .ref mB, .int (nI on1), .int (nI pn1), .int wa1, .long hs])), (mN, .inl (cI, 39, .inl q2z)), (mA, .inl (cI, 39, .inl qa1)), (mP, .inl (cI, 195, .inl qp)), (mT, .inl (cI, 150, .inl tx)), (mL, .inl (cI, 75, .inl lt1)), (mB, .inl (cI, 300, .inl nb1))] H → va_D A [(oM, .inr (5, [.ref mN, .ref mA, .ref mP, .int (nI ks), .ref mR, .ref mT, .int (nI ln), .long x1z, .long x2z, .long x3z, .long x4z, .long y1z, .long y2z, .long y3z, .long y4z, .ref mL, .ref mB, .int (nI on1), .int (nI pn1), .int wa1, .long hs])), (mN, .inl (cI, 39, .inl q2z)), (mA, .inl (cI, 39, .inl qa1)), (mP, .inl (cI, 195, .inl qp)), (mT, .inl (cI, 150, .inl tx)), (mL, .inl (cI, 75, .inl lt1)), (mB, .inl (cI, 300, .inl nb1))] → va_S A s.heap H locs → lv_has ls 3 [(2, .int (nI n)), (1, .int (nI d)), (0, .ref oM)] → W p l e ({ frames := 10, cells := 0, slots := 0, locals := 238 } : Room) s m ([.ref oM] : List Value).toArray below meth c H locs 0 0 Q (F0 m 42 ls []) := by
    intro k
    induction k using Nat.strongRecOn with
    | ind k ih =>
    intro d n f1 q2z pn1 on1 wa1 lt1 nb1 qa1 x1z x2z x3z x4z y1z y2z y3z y4z H locs ls hk hd hn hfl hds hla hi hP hD hS hl
    refine lv_iload_n hx hb dX5_does_42 rfl (lv_at hl 0 rfl) ?_
    refine lv_bipush (v := 39) hx hb dX5_does_43 (by decide) ?_
    refine lv_icmp_ge (tgt := 66) hx hb dX5_does_45 (by decide) (fun c_1 => ?_) (fun c_1 => ?_)
    · skip
      have c_1 := (z_le (a := 39) (b := n) rfl rfl (by omega) (by omega)).mp c_1
      refine lv_sipush (v := (-1000)) hx hb dX5_does_66 (by decide) ?_
      refine lv_iload_n hx hb dX5_does_69 rfl (lv_at hl 1 rfl) ?_
      refine lv_isub hx hb dX5_does_70 ?_
      exact hQ ((-1000) - (nI d)) (q2z, x1z, x2z, x3z, x4z, y1z, y2z, y3z, y4z, qa1, ks, qp, nI pn1, nI on1, wa1, lt1, nb1) _ _ _ _ (rfl) (by refine Or.inr (Or.inr ⟨hfl, ?_, ?_, rfl, fun j h => hi j (by omega), rfl⟩) <;> rw [hds]) hP hD hS dX5_does_71
    · skip
      have c_1 := (z_len (a := 39) (b := n) rfl rfl (by omega) (by omega)).mp c_1
      refine lv_aload_n hx hb dX5_does_48 rfl (lv_at hl 2 rfl) ?_
      refine va_get (D := D) (ci := 5) (v := .ref mN) (C := RX5) (T := TX5) (N := 21) hx hb hts N5 hown hK hP 0 rfl rfl 0 (by decide) L7 (fun _ h9 => h9) rfl dX5_does_49 ?_
      refine lv_iload_n hx hb dX5_does_52 rfl (lv_at hl 0 rfl) ?_
      refine lv_aload_n hx hb dX5_does_53 rfl (lv_at hl 2 rfl) ?_
      refine va_get (D := D) (ci := 5) (v := .ref mA) (C := RX5) (T := TX5) (N := 21) hx hb hts N5 hown hK hP 0 rfl rfl 1 (by decide) L13 (fun _ h9 => h9) rfl dX5_does_54 ?_
      refine lv_iload_n hx hb dX5_does_57 rfl (lv_at hl 0 rfl) ?_
      refine z_ild (v := qa1 n) (j := n) hx hb hK hP 2 rfl rfl (by omega) (by decide) (rfl) dX5_does_58 ?_
      refine z_ist (j := n) hx hb hK hP hD hS 1 rfl rfl (by omega) (by decide) dX5_does_59 (fun H locs hP hD hS => ?_)
      have hP : va_P D vwCl [(oM, .inr (5, [.ref mN, .ref mA, .ref mP, .int (nI ks), .ref mR, .ref mT, .int (nI ln), .long x1z, .long x2z, .long x3z, .long x4z, .long y1z, .long y2z, .long y3z, .long y4z, .ref mL, .ref mB, .int (nI on1), .int (nI pn1), .int wa1, .long hs])), (mN, .inl (cI, 39, .inl (upd q2z n (qa1 n)))), (mA, .inl (cI, 39, .inl qa1)), (mP, .inl (cI, 195, .inl qp)), (mT, .inl (cI, 150, .inl tx)), (mL, .inl (cI, 75, .inl lt1)), (mB, .inl (cI, 300, .inl nb1))] H := hP
      have hD : va_D A [(oM, .inr (5, [.ref mN, .ref mA, .ref mP, .int (nI ks), .ref mR, .ref mT, .int (nI ln), .long x1z, .long x2z, .long x3z, .long x4z, .long y1z, .long y2z, .long y3z, .long y4z, .ref mL, .ref mB, .int (nI on1), .int (nI pn1), .int wa1, .long hs])), (mN, .inl (cI, 39, .inl (upd q2z n (qa1 n)))), (mA, .inl (cI, 39, .inl qa1)), (mP, .inl (cI, 195, .inl qp)), (mT, .inl (cI, 150, .inl tx)), (mL, .inl (cI, 75, .inl lt1)), (mB, .inl (cI, 300, .inl nb1))] := hD
      refine lv_iinc (v := nI (n + 1)) (lv' := [(2, .int (nI (n + 1))), (1, .int (nI d)), (0, .ref oM)]) hx hb dX5_does_60 hl (k := 0) rfl (z_add rfl rfl) (by decide) rfl (fun ls hl => ?_)
      refine lv_goto (tgt := 42) hx hb dX5_does_63 (by decide) ?_
      exact ih _ (by omega) d (n + 1) f1 (upd q2z n (qa1 n)) pn1 on1 wa1 lt1 nb1 qa1 x1z x2z x3z x4z y1z y2z y3z y4z _ _ _ rfl (by omega) (by omega) hfl hds hla (cp_up2 hi hla (by omega)) hP hD hS (lv_sub hl [0, 1, 2] rfl)
  have lp21 : ∀ (k : Nat) (d : Nat) (f1 : Nat → Int32) (q1z : Nat → Int32) (pn1 : Nat) (on1 : Nat) (wa1 : Int32) (lt1 : Nat → Int32) (nb1 : Nat → Int32) (qa1 : Nat → Int32) (x1z : Int64) (x2z : Int64) (x3z : Int64) (x4z : Int64) (y1z : Int64) (y2z : Int64) (y3z : Int64) (y4z : Int64) (H : Heap) (locs : List Loc) (ls : Array Slot), 75 - d = k → (d ≤ on1) → (Iv f1) → (Rg (nN f1) f1 q1z) → (cFault bt ln < 0) → (PO bt ln on1 lt1 nb1) → (∀ j, j < 39 → qa1 j = qn j) → (dsF bt ln 75 0 (sk bt ln 0) f = dsF bt ln (75 - d) d (posF bt ln d) f1) → va_P D vwCl [(oM, .inr (5, [.ref mN, .ref mA, .ref mP, .int (nI ks), .ref mR, .ref mT, .int (nI ln), .long x1z, .long x2z, .long x3z, .long x4z, .long y1z, .long y2z, .long y3z, .long y4z, .ref mL, .ref mB, .int (nI on1), .int (nI pn1), .int wa1, .long hs])), (mN, .inl (cI, 39, .inl q1z)), (mA, .inl (cI, 39, .inl qa1)), (mP, .inl (cI, 195, .inl qp)), (mT, .inl (cI, 150, .inl tx)), (mL, .inl (cI, 75, .inl lt1)), (mB, .inl (cI, 300, .inl nb1))] H → va_D A [(oM, .inr (5, [.ref mN, .ref mA, .ref mP, .int (nI ks), .ref mR, .ref mT, .int (nI ln), .long x1z, .long x2z, .long x3z, .long x4z, .long y1z, .long y2z, .long y3z, .long y4z, .ref mL, .ref mB, .int (nI on1), .int (nI pn1), .int wa1, .long hs])), (mN, .inl (cI, 39, .inl q1z)), (mA, .inl (cI, 39, .inl qa1)), (mP, .inl (cI, 195, .inl qp)), (mT, .inl (cI, 150, .inl tx)), (mL, .inl (cI, 75, .inl lt1)), (mB, .inl (cI, 300, .inl nb1))] → va_S A s.heap H locs → lv_has ls 3 [(1, .int (nI d)), (0, .ref oM)] → W p l e ({ frames := 10, cells := 0, slots := 0, locals := 238 } : Room) s m ([.ref oM] : List Value).toArray below meth c H locs 0 0 Q (F0 m 21 ls []) := by
    intro k
    induction k using Nat.strongRecOn with
    | ind k ih =>
    intro d f1 q1z pn1 on1 wa1 lt1 nb1 qa1 x1z x2z x3z x4z y1z y2z y3z y4z H locs ls hk hd hI hR hfl hPO hla hinv hP hD hS hl
    have h75 := hPO.2.2
    refine lv_iload_n hx hb dX5_does_21 rfl (lv_at hl 0 rfl) ?_
    refine lv_aload_n hx hb dX5_does_22 rfl (lv_at hl 1 rfl) ?_
    refine va_get (D := D) (ci := 5) (v := .int (nI on1)) (C := RX5) (T := TX5) (N := 21) hx hb hts N5 hown hK hP 0 rfl rfl 17 (by decide) L230 (fun _ h9 => h9) rfl dX5_does_23 ?_
    refine lv_icmp_ge (tgt := 78) hx hb dX5_does_26 (by decide) (fun c_2 => ?_) (fun c_2 => ?_)
    · skip
      have c_2 := (z_le (a := on1) (b := d) rfl rfl (by omega) (by omega)).mp c_2
      refine lv_aload_n hx hb dX5_does_78 rfl (lv_at hl 1 rfl) ?_
      refine z_VV (n := 0) (wn := (fun u : Nat × (Nat → Int32) => [(oM, .inr (5, [.ref mN, .ref mA, .ref mP, .int (nI u.1), .ref mR, .ref mT, .int (nI ln), .long x1z, .long x2z, .long x3z, .long x4z, .long y1z, .long y2z, .long y3z, .long y4z, .ref mL, .ref mB, .int (nI on1), .int (nI pn1), .int wa1, .long hs])), (mN, .inl (cI, 39, .inl q1z)), (mA, .inl (cI, 39, .inl qa1)), (mP, .inl (cI, 195, .inl u.2)), (mT, .inl (cI, 150, .inl tx)), (mL, .inl (cI, 75, .inl lt1)), (mB, .inl (cI, 300, .inl nb1))])) (wr := [(mN, .inl (cI, 39, .inl q1z)), (mT, .inl (cI, 150, .inl tx)), (mL, .inl (cI, 75, .inl lt1)), (mB, .inl (cI, 300, .inl nb1))]) (As := []) (rest := []) ⟨hx, hb, hml, hown, hts⟩ hK hP hD hS hA hT (kX5_remembers l D cI cB tE tN oM mN mA mP mR mT mL mB ks ln x1z x2z x3z x4z y1z y2z y3z y4z (nI on1) (nI pn1) wa1 hs qa1 qp _ (by omega)) gX5_does_X5_remembers rfl rfl rfl (by decide +kernel) ⟨Nat.le_of_ble_eq_true rfl, Nat.le_of_ble_eq_true rfl⟩ [0, 2, 3] [1, 4, 5, 6] [4, 0, 5, 6, 1, 2, 3] (by decide) rfl rfl (by decide) (by decide) (by decide) (fun u => rfl) 0 5 rfl rfl rfl rfl hl.1 rfl (Nat.le_of_ble_eq_true rfl) dX5_does_79 ⟨Nat.le_of_ble_eq_true rfl, Nat.le_of_ble_eq_true rfl⟩ (fun u H locs hw_6 hP hD hS => ?_)
      obtain ⟨ks2_3, qp2_4⟩ := u
      try dsimp only at hw_6
      have hP : va_P D vwCl [(oM, .inr (5, [.ref mN, .ref mA, .ref mP, .int (nI ks2_3), .ref mR, .ref mT, .int (nI ln), .long x1z, .long x2z, .long x3z, .long x4z, .long y1z, .long y2z, .long y3z, .long y4z, .ref mL, .ref mB, .int (nI on1), .int (nI pn1), .int wa1, .long hs])), (mN, .inl (cI, 39, .inl q1z)), (mA, .inl (cI, 39, .inl qa1)), (mP, .inl (cI, 195, .inl qp2_4)), (mT, .inl (cI, 150, .inl tx)), (mL, .inl (cI, 75, .inl lt1)), (mB, .inl (cI, 300, .inl nb1))] H := hP
      have hD : va_D A [(oM, .inr (5, [.ref mN, .ref mA, .ref mP, .int (nI ks2_3), .ref mR, .ref mT, .int (nI ln), .long x1z, .long x2z, .long x3z, .long x4z, .long y1z, .long y2z, .long y3z, .long y4z, .ref mL, .ref mB, .int (nI on1), .int (nI pn1), .int wa1, .long hs])), (mN, .inl (cI, 39, .inl q1z)), (mA, .inl (cI, 39, .inl qa1)), (mP, .inl (cI, 195, .inl qp2_4)), (mT, .inl (cI, 150, .inl tx)), (mL, .inl (cI, 75, .inl lt1)), (mB, .inl (cI, 300, .inl nb1))] := hD
      have hk9 := hw_6
      refine lv_aload_n hx hb dX5_does_82 rfl (lv_at hl 1 rfl) ?_
      refine va_get (D := D) (ci := 5) (v := .int (nI on1)) (C := RX5) (T := TX5) (N := 21) hx hb hts N5 hown hK hP 0 rfl rfl 17 (by decide) L230 (fun _ h9 => h9) rfl dX5_does_83 ?_
      exact hQ (nI on1) (q1z, x1z, x2z, x3z, x4z, y1z, y2z, y3z, y4z, qa1, ks2_3, qp2_4, (nI pn1), (nI on1), wa1, lt1, nb1) _ _ _ _ (rfl) (by have e := hinv; rw [ds_end (Or.inr (by rw [show d = on1 by omega]; exact hPO.2.1))] at e; refine Or.inr (Or.inl ⟨hfl, ?_, ?_, hk9.1, ?_, fun j h => (hk9.2 j h).trans (rmF_congr hla h)⟩) <;> rw [e] <;> first | exact hR | rw [show d = on1 by omega]) hP hD hS dX5_does_86
    · skip
      have c_2 := (z_len (a := on1) (b := d) rfl rfl (by omega) (by omega)).mp c_2
      refine lv_aload_n hx hb dX5_does_29 rfl (lv_at hl 1 rfl) ?_
      refine lv_iload_n hx hb dX5_does_30 rfl (lv_at hl 0 rfl) ?_
      refine z_VI (n := 1) (wn := (fun u : (Nat → Int32) × Int64 × Int64 × Int64 × Int64 × Int64 × Int64 × Int64 × Int64 => [(oM, .inr (5, [.ref mN, .ref mA, .ref mP, .int (nI ks), .ref mR, .ref mT, .int (nI ln), .long u.2.1, .long u.2.2.1, .long u.2.2.2.1, .long u.2.2.2.2.1, .long u.2.2.2.2.2.1, .long u.2.2.2.2.2.2.1, .long u.2.2.2.2.2.2.2.1, .long u.2.2.2.2.2.2.2.2, .ref mL, .ref mB, .int (nI on1), .int (nI pn1), .int wa1, .long hs])), (mN, .inl (cI, 39, .inl u.1)), (mA, .inl (cI, 39, .inl qa1)), (mP, .inl (cI, 195, .inl qp)), (mT, .inl (cI, 150, .inl tx)), (mL, .inl (cI, 75, .inl lt1)), (mB, .inl (cI, 300, .inl nb1))])) (wr := [(mA, .inl (cI, 39, .inl qa1)), (mP, .inl (cI, 195, .inl qp)), (mT, .inl (cI, 150, .inl tx))]) (As := [.int (nI d)]) (rest := []) ⟨hx, hb, hml, hown, hts⟩ hK hP hD hS hA hT (kX5_doneOne l D cI cB tE tN oM mN mA mP mR mT mL mB ks ln x1z x2z x3z x4z y1z y2z y3z y4z (nI on1) (nI pn1) wa1 hs q1z f1 (nN f1) lt1 nb1 d _ (hR) (hI) (rfl) (by omega)) gX5_does_X5_doneOne rfl rfl rfl (by decide +kernel) ⟨Nat.le_of_ble_eq_true rfl, Nat.le_of_ble_eq_true rfl⟩ [0, 1, 5, 6] [2, 3, 4] [3, 4, 0, 1, 2, 5, 6] (by decide) rfl rfl (by decide) (by decide) (by decide) (fun u => rfl) 0 5 rfl rfl rfl rfl hl.1 rfl (Nat.le_of_ble_eq_true rfl) dX5_does_31 ⟨Nat.le_of_ble_eq_true rfl, Nat.le_of_ble_eq_true rfl⟩ (fun r_16 u H locs hw_17 hP hD hS => ?_)
      obtain ⟨qz_7, p1_8, p2_9, p3_10, p4_11, q1_12, q2_13, q3_14, q4_15⟩ := u
      try dsimp only at hw_17
      have hP : va_P D vwCl [(oM, .inr (5, [.ref mN, .ref mA, .ref mP, .int (nI ks), .ref mR, .ref mT, .int (nI ln), .long p1_8, .long p2_9, .long p3_10, .long p4_11, .long q1_12, .long q2_13, .long q3_14, .long q4_15, .ref mL, .ref mB, .int (nI on1), .int (nI pn1), .int wa1, .long hs])), (mN, .inl (cI, 39, .inl qz_7)), (mA, .inl (cI, 39, .inl qa1)), (mP, .inl (cI, 195, .inl qp)), (mT, .inl (cI, 150, .inl tx)), (mL, .inl (cI, 75, .inl lt1)), (mB, .inl (cI, 300, .inl nb1))] H := hP
      have hD : va_D A [(oM, .inr (5, [.ref mN, .ref mA, .ref mP, .int (nI ks), .ref mR, .ref mT, .int (nI ln), .long p1_8, .long p2_9, .long p3_10, .long p4_11, .long q1_12, .long q2_13, .long q3_14, .long q4_15, .ref mL, .ref mB, .int (nI on1), .int (nI pn1), .int wa1, .long hs])), (mN, .inl (cI, 39, .inl qz_7)), (mA, .inl (cI, 39, .inl qa1)), (mP, .inl (cI, 195, .inl qp)), (mT, .inl (cI, 150, .inl tx)), (mL, .inl (cI, 75, .inl lt1)), (mB, .inl (cI, 300, .inl nb1))] := hD
      have hj := hw_17
      rw [pf_eq (hPO.1 d (by omega))] at hj
      refine lv_sipush (v := (-10002)) hx hb dX5_does_34 (by decide) ?_
      refine lv_icmp_gt (tgt := 72) hx hb dX5_does_37 (by decide) (fun c_18 => ?_) (fun c_18 => ?_)
      · skip
        refine lv_iinc (v := nI (d + 1)) (lv' := [(1, .int (nI (d + 1))), (0, .ref oM)]) hx hb dX5_does_72 hl (k := 0) rfl (z_add rfl rfl) (by decide) rfl (fun ls hl => ?_)
        refine lv_goto (tgt := 21) hx hb dX5_does_75 (by decide) ?_
        exact ih _ (by omega) (d + 1) ((cPerf f1 (nN f1) (chF bt ln (posF bt ln d)) (odVal bt ln (posF bt ln d))).2) qz_7 pn1 on1 wa1 lt1 nb1 qa1 p1_8 p2_9 p3_10 p4_11 q1_12 q2_13 q3_14 q4_15 _ _ _ rfl (by omega) (Iv_perf hI pr_eta) hj.2 hfl hPO hla (by rw [hinv]; exact ds_ok (by omega) (hPO.1 d (by omega)).1 (hPO.1 d (by omega)).2.1 pr_eta (by rw [← hj.1]; exact cRef_gt c_18)) hP hD hS (lv_sub hl [0, 1] rfl)
      · skip
        refine lv_iconst (v := 0) hx hb dX5_does_40 (by decide) ?_
        refine lv_istore_n (lv' := [(2, .int 0), (1, .int (nI d)), (0, .ref oM)]) hx hb dX5_does_41 rfl hl (by decide) rfl (fun ls hl => ?_)
        exact lp42 _ d 0 f1 qz_7 pn1 on1 wa1 lt1 nb1 qa1 p1_8 p2_9 p3_10 p4_11 q1_12 q2_13 q3_14 q4_15 _ _ _ rfl (by omega) (by omega) hfl (by rw [hinv]; exact ds_bad2 (by omega) (hPO.1 d (by omega)).1 (hPO.1 d (by omega)).2.1 pr_eta (rs_perf hI (by rw [← hj.1]; exact Int32.not_lt.mp c_18))) hla (fun j h => absurd h (Nat.not_lt_zero j)) hP hD hS (lv_sub hl [0, 1, 2] rfl)
  refine lv_aload_n hx hb dX5_does_0 rfl (lv_at hl 0 rfl) ?_
  refine z_VI (n := 0) (wn := (fun u : Nat × Nat × Int32 × (Nat → Int32) × (Nat → Int32) => [(oM, .inr (5, [.ref mN, .ref mA, .ref mP, .int (nI ks), .ref mR, .ref mT, .int (nI ln), .long x1, .long x2, .long x3, .long x4, .long y1, .long y2, .long y3, .long y4, .ref mL, .ref mB, .int (nI u.2.1), .int (nI u.1), .int u.2.2.1, .long hs])), (mN, .inl (cI, 39, .inl qn)), (mA, .inl (cI, 39, .inl qa)), (mP, .inl (cI, 195, .inl qp)), (mT, .inl (cI, 150, .inl tx)), (mL, .inl (cI, 75, .inl u.2.2.2.1)), (mB, .inl (cI, 300, .inl u.2.2.2.2))])) (wr := [(mN, .inl (cI, 39, .inl qn)), (mA, .inl (cI, 39, .inl qa)), (mP, .inl (cI, 195, .inl qp))]) (As := []) (rest := []) ⟨hx, hb, hml, hown, hts⟩ hK hP hD hS hA hT (kX5_isRead l D cI cB tE tN oM mN mA mP mR mT mL mB ks ln x1 x2 x3 x4 y1 y2 y3 y4 od spt wa hs tx bt lt nb _ (by omega) (hTx)) gX5_does_X5_isRead rfl rfl rfl (by decide +kernel) ⟨Nat.le_of_ble_eq_true rfl, Nat.le_of_ble_eq_true rfl⟩ [0, 4, 5, 6] [1, 2, 3] [3, 0, 1, 2, 4, 5, 6] (by decide) rfl rfl (by decide) (by decide) (by decide) (fun u => rfl) 0 5 rfl rfl rfl rfl hl.1 rfl (Nat.le_of_ble_eq_true rfl) dX5_does_1 ⟨Nat.le_of_ble_eq_true rfl, Nat.le_of_ble_eq_true rfl⟩ (fun r_24 u H locs hw_25 hP hD hS => ?_)
  obtain ⟨pn2_19, on2_20, wa2_21, lt2_22, nb2_23⟩ := u
  try dsimp only at hw_25
  have hP : va_P D vwCl [(oM, .inr (5, [.ref mN, .ref mA, .ref mP, .int (nI ks), .ref mR, .ref mT, .int (nI ln), .long x1, .long x2, .long x3, .long x4, .long y1, .long y2, .long y3, .long y4, .ref mL, .ref mB, .int (nI on2_20), .int (nI pn2_19), .int wa2_21, .long hs])), (mN, .inl (cI, 39, .inl qn)), (mA, .inl (cI, 39, .inl qa)), (mP, .inl (cI, 195, .inl qp)), (mT, .inl (cI, 150, .inl tx)), (mL, .inl (cI, 75, .inl lt2_22)), (mB, .inl (cI, 300, .inl nb2_23))] H := hP
  have hD : va_D A [(oM, .inr (5, [.ref mN, .ref mA, .ref mP, .int (nI ks), .ref mR, .ref mT, .int (nI ln), .long x1, .long x2, .long x3, .long x4, .long y1, .long y2, .long y3, .long y4, .ref mL, .ref mB, .int (nI on2_20), .int (nI pn2_19), .int wa2_21, .long hs])), (mN, .inl (cI, 39, .inl qn)), (mA, .inl (cI, 39, .inl qa)), (mP, .inl (cI, 195, .inl qp)), (mT, .inl (cI, 150, .inl tx)), (mL, .inl (cI, 75, .inl lt2_22)), (mB, .inl (cI, 300, .inl nb2_23))] := hD
  obtain ⟨hw_25, hrd⟩ := rd_split hw_25
  subst r_24
  refine lv_if_ne (tgt := 15) hx hb dX5_does_4 (by decide) (fun c_26 => ?_) (fun c_26 => ?_)
  · skip
    have c_26 := z_b1 c_26
    have hfl0 := of_decide_eq_true c_26
    have hPO0 := hrd.2 hfl0
    refine lv_aload_n hx hb dX5_does_15 rfl (lv_at hl 0 rfl) ?_
    refine z_VV (n := 0) (wn := (fun u : (Nat → Int32) => [(oM, .inr (5, [.ref mN, .ref mA, .ref mP, .int (nI ks), .ref mR, .ref mT, .int (nI ln), .long x1, .long x2, .long x3, .long x4, .long y1, .long y2, .long y3, .long y4, .ref mL, .ref mB, .int (nI on2_20), .int (nI pn2_19), .int wa2_21, .long hs])), (mN, .inl (cI, 39, .inl qn)), (mA, .inl (cI, 39, .inl u)), (mP, .inl (cI, 195, .inl qp)), (mT, .inl (cI, 150, .inl tx)), (mL, .inl (cI, 75, .inl lt2_22)), (mB, .inl (cI, 300, .inl nb2_23))])) (wr := [(mP, .inl (cI, 195, .inl qp)), (mT, .inl (cI, 150, .inl tx)), (mL, .inl (cI, 75, .inl lt2_22)), (mB, .inl (cI, 300, .inl nb2_23))]) (As := []) (rest := []) ⟨hx, hb, hml, hown, hts⟩ hK hP hD hS hA hT (kX5_laysAside l D cI cB tE tN oM mN mA mP mR mT mL mB ks ln x1 x2 x3 x4 y1 y2 y3 y4 (nI on2_20) (nI pn2_19) wa2_21 hs qn qa _ ) gX5_does_X5_laysAside rfl rfl rfl (by decide +kernel) ⟨Nat.le_of_ble_eq_true rfl, Nat.le_of_ble_eq_true rfl⟩ [0, 1, 2] [3, 4, 5, 6] [4, 5, 6, 0, 1, 2, 3] (by decide) rfl rfl (by decide) (by decide) (by decide) (fun u => rfl) 0 5 rfl rfl rfl rfl hl.1 rfl (Nat.le_of_ble_eq_true rfl) dX5_does_16 ⟨Nat.le_of_ble_eq_true rfl, Nat.le_of_ble_eq_true rfl⟩ (fun u H locs hw_29 hP hD hS => ?_)
    obtain ⟨qa2_27, rfl⟩ : ∃ z, z = u := ⟨_, rfl⟩
    try dsimp only at hw_29
    have hP : va_P D vwCl [(oM, .inr (5, [.ref mN, .ref mA, .ref mP, .int (nI ks), .ref mR, .ref mT, .int (nI ln), .long x1, .long x2, .long x3, .long x4, .long y1, .long y2, .long y3, .long y4, .ref mL, .ref mB, .int (nI on2_20), .int (nI pn2_19), .int wa2_21, .long hs])), (mN, .inl (cI, 39, .inl qn)), (mA, .inl (cI, 39, .inl qa2_27)), (mP, .inl (cI, 195, .inl qp)), (mT, .inl (cI, 150, .inl tx)), (mL, .inl (cI, 75, .inl lt2_22)), (mB, .inl (cI, 300, .inl nb2_23))] H := hP
    have hD : va_D A [(oM, .inr (5, [.ref mN, .ref mA, .ref mP, .int (nI ks), .ref mR, .ref mT, .int (nI ln), .long x1, .long x2, .long x3, .long x4, .long y1, .long y2, .long y3, .long y4, .ref mL, .ref mB, .int (nI on2_20), .int (nI pn2_19), .int wa2_21, .long hs])), (mN, .inl (cI, 39, .inl qn)), (mA, .inl (cI, 39, .inl qa2_27)), (mP, .inl (cI, 195, .inl qp)), (mT, .inl (cI, 150, .inl tx)), (mL, .inl (cI, 75, .inl lt2_22)), (mB, .inl (cI, 300, .inl nb2_23))] := hD
    have hla0 := hw_29
    refine lv_iconst (v := 0) hx hb dX5_does_19 (by decide) ?_
    refine lv_istore_n (lv' := [(1, .int 0), (0, .ref oM)]) hx hb dX5_does_20 rfl hl (by decide) rfl (fun ls hl => ?_)
    exact lp21 _ 0 f qn pn2_19 on2_20 wa2_21 lt2_22 nb2_23 qa2_27 x1 x2 x3 x4 y1 y2 y3 y4 _ _ _ rfl (by omega) hI0 hR0 hfl0 hPO0 hla0 rfl hP hD hS (lv_sub hl [0, 1] rfl)
  · skip
    have c_26 := z_b0 c_26
    refine lv_bipush (v := (-10)) hx hb dX5_does_7 (by decide) ?_
    refine lv_aload_n hx hb dX5_does_9 rfl (lv_at hl 0 rfl) ?_
    refine va_get (D := D) (ci := 5) (v := .int wa2_21) (C := RX5) (T := TX5) (N := 21) hx hb hts N5 hown hK hP 0 rfl rfl 19 (by decide) L218 (fun _ h9 => h9) rfl dX5_does_10 ?_
    refine lv_isub hx hb dX5_does_13 ?_
    exact hQ ((-10) - wa2_21) (qn, x1, x2, x3, x4, y1, y2, y3, y4, qa, ks, qp, nI pn2_19, nI on2_20, wa2_21, lt2_22, nb2_23) _ _ _ _ (rfl) (Or.inl ⟨of_decide_eq_false c_26, by rw [hrd.1 (of_decide_eq_false c_26)], rfl, rfl, rfl⟩) hP hD hS dX5_does_14
