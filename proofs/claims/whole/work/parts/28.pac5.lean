set_option maxHeartbeats 4000000 in
set_option maxRecDepth 100000 in
theorem kX4_perform (l : Launch) (D : va_G) (cI cB : ClassId) (tE tN : Nat) (oP : Nat) (hF : Nat) (hH : Nat) (hC : Nat) (cb : Int32) (cn : Int32) (cf : Int32) (cF : Nat) (aF : Nat) (wF : Nat) (f : Nat → Int32) (t1 : Int64) (t2 : Int64) (t3 : Int64) (t4 : Int64) (bF : Nat) (nF : Nat) (ln : Nat) (xat : Int32) (kd : Int32) (nu : Nat → Int32) (N : Nat) (sz : Nat) (hN : f 35 = nI N) (hN6 : N ≤ 6) : zI l yX4_perform wsX4_perform ({ frames := 5, cells := 0, slots := 0, locals := 132 }) D cI cB tE tN [.ref oP] [(oP, .inr (4, [.ref hF, .ref hH, .ref hC, .int cb, .int cn, .int cf])), (hF, .inr (1, [.ref cF, .ref aF, .ref wF])), (cF, .inl (cI, 39, .inl f)), (aF, .inr (0, [.long t1, .long t2, .long t3, .long t4])), (hC, .inr (3, [.ref bF, .int (nI ln), .int xat, .int kd, .ref nF])), (nF, .inl (cI, 4, .inl nu))] sz (fun u : (Nat → Int32) × Int64 × Int64 × Int64 × Int64 => [(oP, .inr (4, [.ref hF, .ref hH, .ref hC, .int cb, .int cn, .int cf])), (hF, .inr (1, [.ref cF, .ref aF, .ref wF])), (cF, .inl (cI, 39, .inl u.1)), (aF, .inr (0, [.long u.2.1, .long u.2.2.1, .long u.2.2.2.1, .long u.2.2.2.2])), (hC, .inr (3, [.ref bF, .int (nI ln), .int xat, .int kd, .ref nF])), (nF, .inl (cI, 4, .inl nu))]) (fun (r : Int32) (u : (Nat → Int32) × Int64 × Int64 × Int64 × Int64) => (r, u.1) = cPerf f N kd nu) 0 0 := by
  refine zI_mk (cc := cX4_perform) (maxL := 2) (rt := .int) (by decide) rfl (Nat.le_of_ble_eq_true rfl) ?_
  intro p e s m below meth c A Q ls S0 hname hA hK hP hD hT hS hQ hl
  obtain ⟨hx, hb, hml, hown, hts⟩ := id S0
  have hl : lv_has ls 2 [(0, .ref oP)] := hl
  have L26 : (Cond.fieldLink RX4 26 "PastAndClear" "script" "LPastAndClear$Script;").before ([.ref oP] : List Value).toArray s = true := hts (.fieldLink RX4 26 "PastAndClear" "script" "LPastAndClear$Script;") (by decide +kernel)
  have N4 : ∀ w ∈ u_ws RX4 TX4 6, w ∈ wsX4_perform := by decide +kernel
  have L186 : (Cond.fieldLink RX4 186 "PastAndClear$Script" "numbers" "[I").before ([.ref oP] : List Value).toArray s = true := hts (.fieldLink RX4 186 "PastAndClear$Script" "numbers" "[I") (by decide +kernel)
  have N3 : ∀ w ∈ u_ws RX3 TX3 5, w ∈ wsX4_perform := by decide +kernel
  have L189 : (Cond.fieldLink RX4 189 "PastAndClear$Script" "kind" "I").before ([.ref oP] : List Value).toArray s = true := hts (.fieldLink RX4 189 "PastAndClear$Script" "kind" "I") (by decide +kernel)
  have L10 : (Cond.fieldLink RX4 10 "PastAndClear" "fleet" "LPastAndClear$Fleet;").before ([.ref oP] : List Value).toArray s = true := hts (.fieldLink RX4 10 "PastAndClear" "fleet" "LPastAndClear$Fleet;") (by decide +kernel)
  refine lv_aload_n hx hb dX4_perform_0 rfl (lv_at hl 0 rfl) ?_
  refine va_get (D := D) (ci := 4) (v := .ref hC) (C := RX4) (T := TX4) (N := 6) hx hb hts N4 hown hK hP 0 rfl rfl 2 (by decide) L26 (fun _ h9 => h9) rfl dX4_perform_1 ?_
  refine va_get (D := D) (ci := 3) (v := .ref nF) (C := RX3) (T := TX3) (N := 5) hx hb hts N3 hown hK hP 4 rfl rfl 4 (by decide) L186 (fun _ h9 => h9) rfl dX4_perform_4 ?_
  refine lv_astore_n (lv' := [(1, .ref nF), (0, .ref oP)]) hx hb dX4_perform_7 rfl hl (by decide) rfl (fun ls hl => ?_)
  refine lv_aload_n hx hb dX4_perform_8 rfl (lv_at hl 1 rfl) ?_
  refine va_get (D := D) (ci := 4) (v := .ref hC) (C := RX4) (T := TX4) (N := 6) hx hb hts N4 hown hK hP 0 rfl rfl 2 (by decide) L26 (fun _ h9 => h9) rfl dX4_perform_9 ?_
  refine va_get (D := D) (ci := 3) (v := .int kd) (C := RX3) (T := TX3) (N := 5) hx hb hts N3 hown hK hP 4 rfl rfl 3 (by decide) L189 (fun _ h9 => h9) rfl dX4_perform_12 ?_
  by_cases w_1 : kd = 97
  · skip
    refine lv_lookup (tgt := 64) (off := 49) hx hb dX4_perform_15 (by decide) (by rw [w_1]; decide) (by decide) ?_
    refine lv_aload_n hx hb dX4_perform_64 rfl (lv_at hl 1 rfl) ?_
    refine va_get (D := D) (ci := 4) (v := .ref hF) (C := RX4) (T := TX4) (N := 6) hx hb hts N4 hown hK hP 0 rfl rfl 0 (by decide) L10 (fun _ h9 => h9) rfl dX4_perform_65 ?_
    refine lv_aload_n hx hb dX4_perform_68 rfl (lv_at hl 0 rfl) ?_
    refine lv_iconst (v := 0) hx hb dX4_perform_69 (by decide) ?_
    refine z_ild (v := nu 0) (j := 0) hx hb hK hP 5 rfl rfl (by omega) (by decide) (rfl) dX4_perform_70 ?_
    refine lv_aload_n hx hb dX4_perform_71 rfl (lv_at hl 0 rfl) ?_
    refine lv_iconst (v := 1) hx hb dX4_perform_72 (by decide) ?_
    refine z_ild (v := nu 1) (j := 1) hx hb hK hP 5 rfl rfl (by omega) (by decide) (rfl) dX4_perform_73 ?_
    refine lv_aload_n hx hb dX4_perform_74 rfl (lv_at hl 0 rfl) ?_
    refine lv_iconst (v := 2) hx hb dX4_perform_75 (by decide) ?_
    refine z_ild (v := nu 2) (j := 2) hx hb hK hP 5 rfl rfl (by omega) (by decide) (rfl) dX4_perform_76 ?_
    refine lv_aload_n hx hb dX4_perform_77 rfl (lv_at hl 0 rfl) ?_
    refine lv_iconst (v := 3) hx hb dX4_perform_78 (by decide) ?_
    refine z_ild (v := nu 3) (j := 3) hx hb hK hP 5 rfl rfl (by omega) (by decide) (rfl) dX4_perform_79 ?_
    refine z_VI (n := 4) (wn := (fun u : (Nat → Int32) => [(oP, .inr (4, [.ref hF, .ref hH, .ref hC, .int cb, .int cn, .int cf])), (hF, .inr (1, [.ref cF, .ref aF, .ref wF])), (cF, .inl (cI, 39, .inl u)), (aF, .inr (0, [.long t1, .long t2, .long t3, .long t4])), (hC, .inr (3, [.ref bF, .int (nI ln), .int xat, .int kd, .ref nF])), (nF, .inl (cI, 4, .inl nu))])) (wr := [(oP, .inr (4, [.ref hF, .ref hH, .ref hC, .int cb, .int cn, .int cf])), (aF, .inr (0, [.long t1, .long t2, .long t3, .long t4])), (hC, .inr (3, [.ref bF, .int (nI ln), .int xat, .int kd, .ref nF])), (nF, .inl (cI, 4, .inl nu))]) (As := [.int (nu 0), .int (nu 1), .int (nu 2), .int (nu 3)]) (rest := []) ⟨hx, hb, hml, hown, hts⟩ hK hP hD hS hA hT (kX1_join l D cI cB tE tN hF cF aF wF f (nu 0) (nu 1) (nu 2) (nu 3) N _ (by omega) (by omega)) gX4_perform_X1_join rfl rfl rfl (by decide +kernel) ⟨Nat.le_of_ble_eq_true rfl, Nat.le_of_ble_eq_true rfl⟩ [1, 2] [0, 3, 4, 5] [0, 4, 5, 1, 2, 3] (by decide) rfl rfl (by decide) (by decide) (by decide) (fun u => rfl) 0 1 rfl rfl rfl rfl hl.1 rfl (Nat.le_of_ble_eq_true rfl) dX4_perform_80 ⟨Nat.le_of_ble_eq_true rfl, Nat.le_of_ble_eq_true rfl⟩ (fun r_3 u H locs hw_4 hP hD hS => ?_)
    obtain ⟨f2_2, rfl⟩ : ∃ z, z = u := ⟨_, rfl⟩
    try dsimp only at hw_4
    have hP : va_P D vwCl [(oP, .inr (4, [.ref hF, .ref hH, .ref hC, .int cb, .int cn, .int cf])), (hF, .inr (1, [.ref cF, .ref aF, .ref wF])), (cF, .inl (cI, 39, .inl f2_2)), (aF, .inr (0, [.long t1, .long t2, .long t3, .long t4])), (hC, .inr (3, [.ref bF, .int (nI ln), .int xat, .int kd, .ref nF])), (nF, .inl (cI, 4, .inl nu))] H := hP
    have hD : va_D A [(oP, .inr (4, [.ref hF, .ref hH, .ref hC, .int cb, .int cn, .int cf])), (hF, .inr (1, [.ref cF, .ref aF, .ref wF])), (cF, .inl (cI, 39, .inl f2_2)), (aF, .inr (0, [.long t1, .long t2, .long t3, .long t4])), (hC, .inr (3, [.ref bF, .int (nI ln), .int xat, .int kd, .ref nF])), (nF, .inl (cI, 4, .inl nu))] := hD
    have hj := hw_4
    exact hQ r_3 (f2_2, t1, t2, t3, t4) _ _ _ _ (rfl) (by rw [cPerf, if_pos w_1]; exact hj) hP hD hS dX4_perform_83
  · skip
    by_cases w_5 : kd = 98
    · skip
      refine lv_lookup (tgt := 130) (off := 115) hx hb dX4_perform_15 (by decide) (by rw [w_5]; decide) (by decide) ?_
      refine lv_aload_n hx hb dX4_perform_130 rfl (lv_at hl 1 rfl) ?_
      refine va_get (D := D) (ci := 4) (v := .ref hF) (C := RX4) (T := TX4) (N := 6) hx hb hts N4 hown hK hP 0 rfl rfl 0 (by decide) L10 (fun _ h9 => h9) rfl dX4_perform_131 ?_
      refine lv_aload_n hx hb dX4_perform_134 rfl (lv_at hl 1 rfl) ?_
      refine va_get (D := D) (ci := 4) (v := .ref hF) (C := RX4) (T := TX4) (N := 6) hx hb hts N4 hown hK hP 0 rfl rfl 0 (by decide) L10 (fun _ h9 => h9) rfl dX4_perform_135 ?_
      refine lv_iconst (v := 0) hx hb dX4_perform_138 (by decide) ?_
      refine z_VI (n := 1) (wn := (fun u : Int64 × Int64 × Int64 × Int64 => [(oP, .inr (4, [.ref hF, .ref hH, .ref hC, .int cb, .int cn, .int cf])), (hF, .inr (1, [.ref cF, .ref aF, .ref wF])), (cF, .inl (cI, 39, .inl f)), (aF, .inr (0, [.long u.1, .long u.2.1, .long u.2.2.1, .long u.2.2.2])), (hC, .inr (3, [.ref bF, .int (nI ln), .int xat, .int kd, .ref nF])), (nF, .inl (cI, 4, .inl nu))])) (wr := [(oP, .inr (4, [.ref hF, .ref hH, .ref hC, .int cb, .int cn, .int cf])), (hC, .inr (3, [.ref bF, .int (nI ln), .int xat, .int kd, .ref nF])), (nF, .inl (cI, 4, .inl nu))]) (As := [.int 0]) (rest := [.ref hF]) ⟨hx, hb, hml, hown, hts⟩ hK hP hD hS hA hT (kX1_adviceFor l D cI cB tE tN hF cF aF wF f t1 t2 t3 t4 0 N _ (by omega) (by omega) (by omega)) gX4_perform_X1_adviceFor rfl rfl rfl (by decide +kernel) ⟨Nat.le_of_ble_eq_true rfl, Nat.le_of_ble_eq_true rfl⟩ [1, 2, 3] [0, 4, 5] [0, 3, 4, 5, 1, 2] (by decide) rfl rfl (by decide) (by decide) (by decide) (fun u => rfl) 0 1 rfl rfl rfl rfl hl.1 rfl (Nat.le_of_ble_eq_true rfl) dX4_perform_139 ⟨Nat.le_of_ble_eq_true rfl, Nat.le_of_ble_eq_true rfl⟩ (fun r_10 u H locs hw_11 hP hD hS => ?_)
      obtain ⟨b1_6, b2_7, b3_8, b4_9⟩ := u
      try dsimp only at hw_11
      have hP : va_P D vwCl [(oP, .inr (4, [.ref hF, .ref hH, .ref hC, .int cb, .int cn, .int cf])), (hF, .inr (1, [.ref cF, .ref aF, .ref wF])), (cF, .inl (cI, 39, .inl f)), (aF, .inr (0, [.long b1_6, .long b2_7, .long b3_8, .long b4_9])), (hC, .inr (3, [.ref bF, .int (nI ln), .int xat, .int kd, .ref nF])), (nF, .inl (cI, 4, .inl nu))] H := hP
      have hD : va_D A [(oP, .inr (4, [.ref hF, .ref hH, .ref hC, .int cb, .int cn, .int cf])), (hF, .inr (1, [.ref cF, .ref aF, .ref wF])), (cF, .inl (cI, 39, .inl f)), (aF, .inr (0, [.long b1_6, .long b2_7, .long b3_8, .long b4_9])), (hC, .inr (3, [.ref bF, .int (nI ln), .int xat, .int kd, .ref nF])), (nF, .inl (cI, 4, .inl nu))] := hD
      subst r_10
      refine z_VI (n := 1) (wn := (fun u : (Nat → Int32) => [(oP, .inr (4, [.ref hF, .ref hH, .ref hC, .int cb, .int cn, .int cf])), (hF, .inr (1, [.ref cF, .ref aF, .ref wF])), (cF, .inl (cI, 39, .inl u)), (aF, .inr (0, [.long b1_6, .long b2_7, .long b3_8, .long b4_9])), (hC, .inr (3, [.ref bF, .int (nI ln), .int xat, .int kd, .ref nF])), (nF, .inl (cI, 4, .inl nu))])) (wr := [(oP, .inr (4, [.ref hF, .ref hH, .ref hC, .int cb, .int cn, .int cf])), (aF, .inr (0, [.long b1_6, .long b2_7, .long b3_8, .long b4_9])), (hC, .inr (3, [.ref bF, .int (nI ln), .int xat, .int kd, .ref nF])), (nF, .inl (cI, 4, .inl nu))]) (As := [.int (cAdv f N 0)]) (rest := []) ⟨hx, hb, hml, hown, hts⟩ hK hP hD hS hA hT (kX1_follow l D cI cB tE tN hF cF aF wF f (cAdv f N 0) _ ) gX4_perform_X1_follow rfl rfl rfl (by decide +kernel) ⟨Nat.le_of_ble_eq_true rfl, Nat.le_of_ble_eq_true rfl⟩ [1, 2] [0, 3, 4, 5] [0, 4, 5, 1, 2, 3] (by decide) rfl rfl (by decide) (by decide) (by decide) (fun u => rfl) 0 1 rfl rfl rfl rfl hl.1 rfl (Nat.le_of_ble_eq_true rfl) dX4_perform_142 ⟨Nat.le_of_ble_eq_true rfl, Nat.le_of_ble_eq_true rfl⟩ (fun r_13 u H locs hw_14 hP hD hS => ?_)
      obtain ⟨f2_12, rfl⟩ : ∃ z, z = u := ⟨_, rfl⟩
      try dsimp only at hw_14
      have hP : va_P D vwCl [(oP, .inr (4, [.ref hF, .ref hH, .ref hC, .int cb, .int cn, .int cf])), (hF, .inr (1, [.ref cF, .ref aF, .ref wF])), (cF, .inl (cI, 39, .inl f2_12)), (aF, .inr (0, [.long b1_6, .long b2_7, .long b3_8, .long b4_9])), (hC, .inr (3, [.ref bF, .int (nI ln), .int xat, .int kd, .ref nF])), (nF, .inl (cI, 4, .inl nu))] H := hP
      have hD : va_D A [(oP, .inr (4, [.ref hF, .ref hH, .ref hC, .int cb, .int cn, .int cf])), (hF, .inr (1, [.ref cF, .ref aF, .ref wF])), (cF, .inl (cI, 39, .inl f2_12)), (aF, .inr (0, [.long b1_6, .long b2_7, .long b3_8, .long b4_9])), (hC, .inr (3, [.ref bF, .int (nI ln), .int xat, .int kd, .ref nF])), (nF, .inl (cI, 4, .inl nu))] := hD
      obtain ⟨hw_14, hq_15⟩ := hw_14
      subst r_13
      have hj : (cAdv f N 0, f2_12) = (cAdv f N 0, cFol f (cAdv f N 0)) := by rw [hq_15]
      exact hQ (cAdv f N 0) (f2_12, b1_6, b2_7, b3_8, b4_9) _ _ _ _ (rfl) (by rw [cPerf, if_neg w_1, if_pos w_5]; exact hj) hP hD hS dX4_perform_145
    · skip
      by_cases w_16 : kd = 110
      · skip
        refine lv_lookup (tgt := 119) (off := 104) hx hb dX4_perform_15 (by decide) (by rw [w_16]; decide) (by decide) ?_
        refine lv_aload_n hx hb dX4_perform_119 rfl (lv_at hl 1 rfl) ?_
        refine va_get (D := D) (ci := 4) (v := .ref hF) (C := RX4) (T := TX4) (N := 6) hx hb hts N4 hown hK hP 0 rfl rfl 0 (by decide) L10 (fun _ h9 => h9) rfl dX4_perform_120 ?_
        refine lv_aload_n hx hb dX4_perform_123 rfl (lv_at hl 0 rfl) ?_
        refine lv_iconst (v := 0) hx hb dX4_perform_124 (by decide) ?_
        refine z_ild (v := nu 0) (j := 0) hx hb hK hP 5 rfl rfl (by omega) (by decide) (rfl) dX4_perform_125 ?_
        refine z_VI (n := 1) (wn := (fun u : (Nat → Int32) × Int64 × Int64 × Int64 × Int64 => [(oP, .inr (4, [.ref hF, .ref hH, .ref hC, .int cb, .int cn, .int cf])), (hF, .inr (1, [.ref cF, .ref aF, .ref wF])), (cF, .inl (cI, 39, .inl u.1)), (aF, .inr (0, [.long u.2.1, .long u.2.2.1, .long u.2.2.2.1, .long u.2.2.2.2])), (hC, .inr (3, [.ref bF, .int (nI ln), .int xat, .int kd, .ref nF])), (nF, .inl (cI, 4, .inl nu))])) (wr := [(oP, .inr (4, [.ref hF, .ref hH, .ref hC, .int cb, .int cn, .int cf])), (hC, .inr (3, [.ref bF, .int (nI ln), .int xat, .int kd, .ref nF])), (nF, .inl (cI, 4, .inl nu))]) (As := [.int (nu 0)]) (rest := []) ⟨hx, hb, hml, hown, hts⟩ hK hP hD hS hA hT (kX1_goOn l D cI cB tE tN hF cF aF wF f t1 t2 t3 t4 (nu 0) N _ (by omega) (by omega)) gX4_perform_X1_goOn rfl rfl rfl (by decide +kernel) ⟨Nat.le_of_ble_eq_true rfl, Nat.le_of_ble_eq_true rfl⟩ [1, 2, 3] [0, 4, 5] [0, 3, 4, 5, 1, 2] (by decide) rfl rfl (by decide) (by decide) (by decide) (fun u => rfl) 0 1 rfl rfl rfl rfl hl.1 rfl (Nat.le_of_ble_eq_true rfl) dX4_perform_126 ⟨Nat.le_of_ble_eq_true rfl, Nat.le_of_ble_eq_true rfl⟩ (fun r_22 u H locs hw_23 hP hD hS => ?_)
        obtain ⟨f2_17, b1_18, b2_19, b3_20, b4_21⟩ := u
        try dsimp only at hw_23
        have hP : va_P D vwCl [(oP, .inr (4, [.ref hF, .ref hH, .ref hC, .int cb, .int cn, .int cf])), (hF, .inr (1, [.ref cF, .ref aF, .ref wF])), (cF, .inl (cI, 39, .inl f2_17)), (aF, .inr (0, [.long b1_18, .long b2_19, .long b3_20, .long b4_21])), (hC, .inr (3, [.ref bF, .int (nI ln), .int xat, .int kd, .ref nF])), (nF, .inl (cI, 4, .inl nu))] H := hP
        have hD : va_D A [(oP, .inr (4, [.ref hF, .ref hH, .ref hC, .int cb, .int cn, .int cf])), (hF, .inr (1, [.ref cF, .ref aF, .ref wF])), (cF, .inl (cI, 39, .inl f2_17)), (aF, .inr (0, [.long b1_18, .long b2_19, .long b3_20, .long b4_21])), (hC, .inr (3, [.ref bF, .int (nI ln), .int xat, .int kd, .ref nF])), (nF, .inl (cI, 4, .inl nu))] := hD
        have hj := hw_23
        exact hQ r_22 (f2_17, b1_18, b2_19, b3_20, b4_21) _ _ _ _ (rfl) (by rw [cPerf, if_neg w_1, if_neg w_5, if_pos w_16]; exact hj) hP hD hS dX4_perform_129
      · skip
        by_cases w_24 : kd = 111
        · skip
          refine lv_lookup (tgt := 84) (off := 69) hx hb dX4_perform_15 (by decide) (by rw [w_24]; decide) (by decide) ?_
          refine lv_aload_n hx hb dX4_perform_84 rfl (lv_at hl 1 rfl) ?_
          refine va_get (D := D) (ci := 4) (v := .ref hF) (C := RX4) (T := TX4) (N := 6) hx hb hts N4 hown hK hP 0 rfl rfl 0 (by decide) L10 (fun _ h9 => h9) rfl dX4_perform_85 ?_
          refine lv_aload_n hx hb dX4_perform_88 rfl (lv_at hl 0 rfl) ?_
          refine lv_iconst (v := 0) hx hb dX4_perform_89 (by decide) ?_
          refine z_ild (v := nu 0) (j := 0) hx hb hK hP 5 rfl rfl (by omega) (by decide) (rfl) dX4_perform_90 ?_
          refine lv_aload_n hx hb dX4_perform_91 rfl (lv_at hl 0 rfl) ?_
          refine lv_iconst (v := 1) hx hb dX4_perform_92 (by decide) ?_
          refine z_ild (v := nu 1) (j := 1) hx hb hK hP 5 rfl rfl (by omega) (by decide) (rfl) dX4_perform_93 ?_
          refine lv_aload_n hx hb dX4_perform_94 rfl (lv_at hl 0 rfl) ?_
          refine lv_iconst (v := 2) hx hb dX4_perform_95 (by decide) ?_
          refine z_ild (v := nu 2) (j := 2) hx hb hK hP 5 rfl rfl (by omega) (by decide) (rfl) dX4_perform_96 ?_
          refine lv_aload_n hx hb dX4_perform_97 rfl (lv_at hl 0 rfl) ?_
          refine lv_iconst (v := 3) hx hb dX4_perform_98 (by decide) ?_
          refine z_ild (v := nu 3) (j := 3) hx hb hK hP 5 rfl rfl (by omega) (by decide) (rfl) dX4_perform_99 ?_
          refine z_VI (n := 4) (wn := (fun u : (Nat → Int32) => [(oP, .inr (4, [.ref hF, .ref hH, .ref hC, .int cb, .int cn, .int cf])), (hF, .inr (1, [.ref cF, .ref aF, .ref wF])), (cF, .inl (cI, 39, .inl u)), (aF, .inr (0, [.long t1, .long t2, .long t3, .long t4])), (hC, .inr (3, [.ref bF, .int (nI ln), .int xat, .int kd, .ref nF])), (nF, .inl (cI, 4, .inl nu))])) (wr := [(oP, .inr (4, [.ref hF, .ref hH, .ref hC, .int cb, .int cn, .int cf])), (aF, .inr (0, [.long t1, .long t2, .long t3, .long t4])), (hC, .inr (3, [.ref bF, .int (nI ln), .int xat, .int kd, .ref nF])), (nF, .inl (cI, 4, .inl nu))]) (As := [.int (nu 0), .int (nu 1), .int (nu 2), .int (nu 3)]) (rest := []) ⟨hx, hb, hml, hown, hts⟩ hK hP hD hS hA hT (kX1_placeOwn l D cI cB tE tN hF cF aF wF f (nu 0) (nu 1) (nu 2) (nu 3) N _ (by omega) (by omega)) gX4_perform_X1_placeOwn rfl rfl rfl (by decide +kernel) ⟨Nat.le_of_ble_eq_true rfl, Nat.le_of_ble_eq_true rfl⟩ [1, 2] [0, 3, 4, 5] [0, 4, 5, 1, 2, 3] (by decide) rfl rfl (by decide) (by decide) (by decide) (fun u => rfl) 0 1 rfl rfl rfl rfl hl.1 rfl (Nat.le_of_ble_eq_true rfl) dX4_perform_100 ⟨Nat.le_of_ble_eq_true rfl, Nat.le_of_ble_eq_true rfl⟩ (fun r_26 u H locs hw_27 hP hD hS => ?_)
          obtain ⟨f2_25, rfl⟩ : ∃ z, z = u := ⟨_, rfl⟩
          try dsimp only at hw_27
          have hP : va_P D vwCl [(oP, .inr (4, [.ref hF, .ref hH, .ref hC, .int cb, .int cn, .int cf])), (hF, .inr (1, [.ref cF, .ref aF, .ref wF])), (cF, .inl (cI, 39, .inl f2_25)), (aF, .inr (0, [.long t1, .long t2, .long t3, .long t4])), (hC, .inr (3, [.ref bF, .int (nI ln), .int xat, .int kd, .ref nF])), (nF, .inl (cI, 4, .inl nu))] H := hP
          have hD : va_D A [(oP, .inr (4, [.ref hF, .ref hH, .ref hC, .int cb, .int cn, .int cf])), (hF, .inr (1, [.ref cF, .ref aF, .ref wF])), (cF, .inl (cI, 39, .inl f2_25)), (aF, .inr (0, [.long t1, .long t2, .long t3, .long t4])), (hC, .inr (3, [.ref bF, .int (nI ln), .int xat, .int kd, .ref nF])), (nF, .inl (cI, 4, .inl nu))] := hD
          have hj := hw_27
          exact hQ r_26 (f2_25, t1, t2, t3, t4) _ _ _ _ (rfl) (by rw [cPerf, if_neg w_1, if_neg w_5, if_neg w_16, if_pos w_24]; exact hj) hP hD hS dX4_perform_103
        · skip
          by_cases w_28 : kd = 116
          · skip
            refine lv_lookup (tgt := 104) (off := 89) hx hb dX4_perform_15 (by decide) (by rw [w_28]; decide) (by decide) ?_
            refine lv_aload_n hx hb dX4_perform_104 rfl (lv_at hl 1 rfl) ?_
            refine va_get (D := D) (ci := 4) (v := .ref hF) (C := RX4) (T := TX4) (N := 6) hx hb hts N4 hown hK hP 0 rfl rfl 0 (by decide) L10 (fun _ h9 => h9) rfl dX4_perform_105 ?_
            refine lv_iconst (v := 0) hx hb dX4_perform_108 (by decide) ?_
            refine lv_aload_n hx hb dX4_perform_109 rfl (lv_at hl 0 rfl) ?_
            refine lv_iconst (v := 0) hx hb dX4_perform_110 (by decide) ?_
            refine z_ild (v := nu 0) (j := 0) hx hb hK hP 5 rfl rfl (by omega) (by decide) (rfl) dX4_perform_111 ?_
            refine lv_aload_n hx hb dX4_perform_112 rfl (lv_at hl 0 rfl) ?_
            refine lv_iconst (v := 1) hx hb dX4_perform_113 (by decide) ?_
            refine z_ild (v := nu 1) (j := 1) hx hb hK hP 5 rfl rfl (by omega) (by decide) (rfl) dX4_perform_114 ?_
            refine z_VI (n := 3) (wn := (fun u : (Nat → Int32) => [(oP, .inr (4, [.ref hF, .ref hH, .ref hC, .int cb, .int cn, .int cf])), (hF, .inr (1, [.ref cF, .ref aF, .ref wF])), (cF, .inl (cI, 39, .inl u)), (aF, .inr (0, [.long t1, .long t2, .long t3, .long t4])), (hC, .inr (3, [.ref bF, .int (nI ln), .int xat, .int kd, .ref nF])), (nF, .inl (cI, 4, .inl nu))])) (wr := [(oP, .inr (4, [.ref hF, .ref hH, .ref hC, .int cb, .int cn, .int cf])), (aF, .inr (0, [.long t1, .long t2, .long t3, .long t4])), (hC, .inr (3, [.ref bF, .int (nI ln), .int xat, .int kd, .ref nF])), (nF, .inl (cI, 4, .inl nu))]) (As := [.int 0, .int (nu 0), .int (nu 1)]) (rest := []) ⟨hx, hb, hml, hown, hts⟩ hK hP hD hS hA hT (kX1_steer l D cI cB tE tN hF cF aF wF f 0 (nu 0) (nu 1) N _ (by omega) (by omega)) gX4_perform_X1_steer rfl rfl rfl (by decide +kernel) ⟨Nat.le_of_ble_eq_true rfl, Nat.le_of_ble_eq_true rfl⟩ [1, 2] [0, 3, 4, 5] [0, 4, 5, 1, 2, 3] (by decide) rfl rfl (by decide) (by decide) (by decide) (fun u => rfl) 0 1 rfl rfl rfl rfl hl.1 rfl (Nat.le_of_ble_eq_true rfl) dX4_perform_115 ⟨Nat.le_of_ble_eq_true rfl, Nat.le_of_ble_eq_true rfl⟩ (fun r_30 u H locs hw_31 hP hD hS => ?_)
            obtain ⟨f2_29, rfl⟩ : ∃ z, z = u := ⟨_, rfl⟩
            try dsimp only at hw_31
            have hP : va_P D vwCl [(oP, .inr (4, [.ref hF, .ref hH, .ref hC, .int cb, .int cn, .int cf])), (hF, .inr (1, [.ref cF, .ref aF, .ref wF])), (cF, .inl (cI, 39, .inl f2_29)), (aF, .inr (0, [.long t1, .long t2, .long t3, .long t4])), (hC, .inr (3, [.ref bF, .int (nI ln), .int xat, .int kd, .ref nF])), (nF, .inl (cI, 4, .inl nu))] H := hP
            have hD : va_D A [(oP, .inr (4, [.ref hF, .ref hH, .ref hC, .int cb, .int cn, .int cf])), (hF, .inr (1, [.ref cF, .ref aF, .ref wF])), (cF, .inl (cI, 39, .inl f2_29)), (aF, .inr (0, [.long t1, .long t2, .long t3, .long t4])), (hC, .inr (3, [.ref bF, .int (nI ln), .int xat, .int kd, .ref nF])), (nF, .inl (cI, 4, .inl nu))] := hD
            have hj := hw_31
            exact hQ r_30 (f2_29, t1, t2, t3, t4) _ _ _ _ (rfl) (by rw [cPerf, if_neg w_1, if_neg w_5, if_neg w_16, if_neg w_24, if_pos w_28]; exact hj) hP hD hS dX4_perform_118
          · skip
            refine lv_lookup (tgt := 146) (off := 131) hx hb dX4_perform_15 (by decide) (by rw [lv_osw w_1 (k := 97) (a := 97) (by decide), lv_osw w_5 (k := 98) (a := 98) (by decide), lv_osw w_16 (k := 110) (a := 110) (by decide), lv_osw w_24 (k := 111) (a := 111) (by decide), lv_osw w_28 (k := 116) (a := 116) (by decide)]; rfl) (by decide) ?_
            refine lv_aload_n hx hb dX4_perform_146 rfl (lv_at hl 1 rfl) ?_
            refine va_get (D := D) (ci := 4) (v := .ref hF) (C := RX4) (T := TX4) (N := 6) hx hb hts N4 hown hK hP 0 rfl rfl 0 (by decide) L10 (fun _ h9 => h9) rfl dX4_perform_147 ?_
            refine lv_aload_n hx hb dX4_perform_150 rfl (lv_at hl 0 rfl) ?_
            refine lv_iconst (v := 0) hx hb dX4_perform_151 (by decide) ?_
            refine z_ild (v := nu 0) (j := 0) hx hb hK hP 5 rfl rfl (by omega) (by decide) (rfl) dX4_perform_152 ?_
            refine lv_aload_n hx hb dX4_perform_153 rfl (lv_at hl 0 rfl) ?_
            refine lv_iconst (v := 1) hx hb dX4_perform_154 (by decide) ?_
            refine z_ild (v := nu 1) (j := 1) hx hb hK hP 5 rfl rfl (by omega) (by decide) (rfl) dX4_perform_155 ?_
            refine z_VI (n := 2) (wn := (fun u : (Nat → Int32) => [(oP, .inr (4, [.ref hF, .ref hH, .ref hC, .int cb, .int cn, .int cf])), (hF, .inr (1, [.ref cF, .ref aF, .ref wF])), (cF, .inl (cI, 39, .inl u)), (aF, .inr (0, [.long t1, .long t2, .long t3, .long t4])), (hC, .inr (3, [.ref bF, .int (nI ln), .int xat, .int kd, .ref nF])), (nF, .inl (cI, 4, .inl nu))])) (wr := [(oP, .inr (4, [.ref hF, .ref hH, .ref hC, .int cb, .int cn, .int cf])), (aF, .inr (0, [.long t1, .long t2, .long t3, .long t4])), (hC, .inr (3, [.ref bF, .int (nI ln), .int xat, .int kd, .ref nF])), (nF, .inl (cI, 4, .inl nu))]) (As := [.int (nu 0), .int (nu 1)]) (rest := []) ⟨hx, hb, hml, hown, hts⟩ hK hP hD hS hA hT (kX1_setRule l D cI cB tE tN hF cF aF wF f (nu 0) (nu 1) _ ) gX4_perform_X1_setRule rfl rfl rfl (by decide +kernel) ⟨Nat.le_of_ble_eq_true rfl, Nat.le_of_ble_eq_true rfl⟩ [1, 2] [0, 3, 4, 5] [0, 4, 5, 1, 2, 3] (by decide) rfl rfl (by decide) (by decide) (by decide) (fun u => rfl) 0 1 rfl rfl rfl rfl hl.1 rfl (Nat.le_of_ble_eq_true rfl) dX4_perform_156 ⟨Nat.le_of_ble_eq_true rfl, Nat.le_of_ble_eq_true rfl⟩ (fun r_33 u H locs hw_34 hP hD hS => ?_)
            obtain ⟨f2_32, rfl⟩ : ∃ z, z = u := ⟨_, rfl⟩
            try dsimp only at hw_34
            have hP : va_P D vwCl [(oP, .inr (4, [.ref hF, .ref hH, .ref hC, .int cb, .int cn, .int cf])), (hF, .inr (1, [.ref cF, .ref aF, .ref wF])), (cF, .inl (cI, 39, .inl f2_32)), (aF, .inr (0, [.long t1, .long t2, .long t3, .long t4])), (hC, .inr (3, [.ref bF, .int (nI ln), .int xat, .int kd, .ref nF])), (nF, .inl (cI, 4, .inl nu))] H := hP
            have hD : va_D A [(oP, .inr (4, [.ref hF, .ref hH, .ref hC, .int cb, .int cn, .int cf])), (hF, .inr (1, [.ref cF, .ref aF, .ref wF])), (cF, .inl (cI, 39, .inl f2_32)), (aF, .inr (0, [.long t1, .long t2, .long t3, .long t4])), (hC, .inr (3, [.ref bF, .int (nI ln), .int xat, .int kd, .ref nF])), (nF, .inl (cI, 4, .inl nu))] := hD
            have hj := hw_34
            exact hQ r_33 (f2_32, t1, t2, t3, t4) _ _ _ _ (rfl) (by rw [cPerf, if_neg w_1, if_neg w_5, if_neg w_16, if_neg w_24, if_neg w_28]; exact hj) hP hD hS dX4_perform_159
