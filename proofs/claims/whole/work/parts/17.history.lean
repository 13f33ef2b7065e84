def kpS (kp : Nat) : Nat := if kp < 5 then kp + 1 else kp
def gS (kp : Nat) (g : Nat → Int32) : Nat → Int32 := if kp < 5 then g else va_cpy g g 39 0 195
def cRef (v : Int32) : Bool := decide (v = -10002 ∨ v = -10003 ∨ v = -10004)
def cnt (k c v : Int32) : Int32 := if v = k then c + 1 else c
set_option maxHeartbeats 4000000 in
set_option maxRecDepth 100000 in
theorem kX2_mark (l : Launch) (D : va_G) (cI cB : ClassId) (tE tN : Nat) (hH : Nat) (rF : Nat) (kp : Nat) (g : Nat → Int32) (cF : Nat) (f : Nat → Int32) (sz : Nat) (hkp : kp ≤ 5) : zV l yX2_mark wsX2_mark ({ frames := 1, cells := 0, slots := 0, locals := 18 }) D cI cB tE tN [.ref hH, .ref cF] [(hH, .inr (2, [.ref rF, .int (nI kp)])), (rF, .inl (cI, 234, .inl g)), (cF, .inl (cI, 39, .inl f))] sz (fun u : Unit => [(hH, .inr (2, [.ref rF, .int (nI kp)])), (rF, .inl (cI, 234, .inl (va_cpy f g 0 (kp * 39) 39))), (cF, .inl (cI, 39, .inl f))]) (fun (u : Unit) => True) 0 0 := by
  refine zV_mk (cc := cX2_mark) (maxL := 2) (by decide) rfl (Nat.le_of_ble_eq_true rfl) ?_
  intro p e s m below meth c A Q ls S0 hname hA hK hP hD hT hS hQ hl
  obtain ⟨hx, hb, hml, hown, hts⟩ := id S0
  have hl : lv_has ls 2 [(0, .ref hH), (1, .ref cF)] := hl
  have L11 : (Cond.fieldLink RX2 11 "PastAndClear$History" "rows" "[I").before ([.ref hH, .ref cF] : List Value).toArray s = true := hts (.fieldLink RX2 11 "PastAndClear$History" "rows" "[I") (by decide +kernel)
  have N2 : ∀ w ∈ u_ws RX2 TX2 2, w ∈ wsX2_mark := by decide +kernel
  have L15 : (Cond.fieldLink RX2 15 "PastAndClear$History" "kept" "I").before ([.ref hH, .ref cF] : List Value).toArray s = true := hts (.fieldLink RX2 15 "PastAndClear$History" "kept" "I") (by decide +kernel)
  refine lv_aload_n hx hb dX2_mark_0 rfl (lv_at hl 1 rfl) ?_
  refine lv_iconst (v := 0) hx hb dX2_mark_1 (by decide) ?_
  refine lv_aload_n hx hb dX2_mark_2 rfl (lv_at hl 0 rfl) ?_
  refine va_get (D := D) (ci := 2) (v := .ref rF) (C := RX2) (T := TX2) (N := 2) hx hb hts N2 hown hK hP 0 rfl rfl 0 (by decide) L11 (fun _ h9 => h9) rfl dX2_mark_3 ?_
  refine lv_aload_n hx hb dX2_mark_6 rfl (lv_at hl 0 rfl) ?_
  refine va_get (D := D) (ci := 2) (v := .int (nI kp)) (C := RX2) (T := TX2) (N := 2) hx hb hts N2 hown hK hP 0 rfl rfl 1 (by decide) L15 (fun _ h9 => h9) rfl dX2_mark_7 ?_
  refine lv_bipush (v := 39) hx hb dX2_mark_10 (by decide) ?_
  refine lv_imul hx hb dX2_mark_12 ?_
  refine lv_bipush (v := 39) hx hb dX2_mark_13 (by decide) ?_
  refine z_copy (sp := 0) (dp := (nI kp) * 39) (n := 39) (js := 0) (jd := kp * 39) (jn := 39) hx hb (hml.trans hl.1.symm) hown (hts (.methodLink RX2 19 arraycopyName) (by decide +kernel)) (hts (.native arraycopyName) (by decide +kernel)) (hts (.static arraycopyName) (by decide +kernel)) (hts (.initialized "java/lang/System") (by decide +kernel)) hK hP hD hS 2 1 rfl rfl rfl (z_mul rfl rfl) rfl (by omega) (by omega) (by decide) (by decide) (Nat.le_of_ble_eq_true rfl) (Nat.le_of_ble_eq_true rfl) dX2_mark_15 (fun H locs hP hD hS => ?_)
  have hP : va_P D vwCl [(hH, .inr (2, [.ref rF, .int (nI kp)])), (rF, .inl (cI, 234, .inl (va_cpy f g 0 (kp * 39) 39))), (cF, .inl (cI, 39, .inl f))] H := hP
  have hD : va_D A [(hH, .inr (2, [.ref rF, .int (nI kp)])), (rF, .inl (cI, 234, .inl (va_cpy f g 0 (kp * 39) 39))), (cF, .inl (cI, 39, .inl f))] := hD
  exact hQ () _ _ _ _ (trivial) hP hD hS dX2_mark_18

set_option maxHeartbeats 4000000 in
set_option maxRecDepth 100000 in
theorem kX2_restore (l : Launch) (D : va_G) (cI cB : ClassId) (tE tN : Nat) (hH : Nat) (rF : Nat) (kp : Nat) (g : Nat → Int32) (cF : Nat) (f : Nat → Int32) (sz : Nat) (hkp : kp ≤ 5) : zV l yX2_restore wsX2_restore ({ frames := 1, cells := 0, slots := 0, locals := 18 }) D cI cB tE tN [.ref hH, .ref cF] [(hH, .inr (2, [.ref rF, .int (nI kp)])), (rF, .inl (cI, 234, .inl g)), (cF, .inl (cI, 39, .inl f))] sz (fun u : Unit => [(hH, .inr (2, [.ref rF, .int (nI kp)])), (rF, .inl (cI, 234, .inl g)), (cF, .inl (cI, 39, .inl (va_cpy g f (kp * 39) 0 39)))]) (fun (u : Unit) => True) 0 0 := by
  refine zV_mk (cc := cX2_restore) (maxL := 2) (by decide) rfl (Nat.le_of_ble_eq_true rfl) ?_
  intro p e s m below meth c A Q ls S0 hname hA hK hP hD hT hS hQ hl
  obtain ⟨hx, hb, hml, hown, hts⟩ := id S0
  have hl : lv_has ls 2 [(0, .ref hH), (1, .ref cF)] := hl
  have L11 : (Cond.fieldLink RX2 11 "PastAndClear$History" "rows" "[I").before ([.ref hH, .ref cF] : List Value).toArray s = true := hts (.fieldLink RX2 11 "PastAndClear$History" "rows" "[I") (by decide +kernel)
  have N2 : ∀ w ∈ u_ws RX2 TX2 2, w ∈ wsX2_restore := by decide +kernel
  have L15 : (Cond.fieldLink RX2 15 "PastAndClear$History" "kept" "I").before ([.ref hH, .ref cF] : List Value).toArray s = true := hts (.fieldLink RX2 15 "PastAndClear$History" "kept" "I") (by decide +kernel)
  refine lv_aload_n hx hb dX2_restore_0 rfl (lv_at hl 0 rfl) ?_
  refine va_get (D := D) (ci := 2) (v := .ref rF) (C := RX2) (T := TX2) (N := 2) hx hb hts N2 hown hK hP 0 rfl rfl 0 (by decide) L11 (fun _ h9 => h9) rfl dX2_restore_1 ?_
  refine lv_aload_n hx hb dX2_restore_4 rfl (lv_at hl 0 rfl) ?_
  refine va_get (D := D) (ci := 2) (v := .int (nI kp)) (C := RX2) (T := TX2) (N := 2) hx hb hts N2 hown hK hP 0 rfl rfl 1 (by decide) L15 (fun _ h9 => h9) rfl dX2_restore_5 ?_
  refine lv_bipush (v := 39) hx hb dX2_restore_8 (by decide) ?_
  refine lv_imul hx hb dX2_restore_10 ?_
  refine lv_aload_n hx hb dX2_restore_11 rfl (lv_at hl 1 rfl) ?_
  refine lv_iconst (v := 0) hx hb dX2_restore_12 (by decide) ?_
  refine lv_bipush (v := 39) hx hb dX2_restore_13 (by decide) ?_
  refine z_copy (sp := (nI kp) * 39) (dp := 0) (n := 39) (js := kp * 39) (jd := 0) (jn := 39) hx hb (hml.trans hl.1.symm) hown (hts (.methodLink RX2 19 arraycopyName) (by decide +kernel)) (hts (.native arraycopyName) (by decide +kernel)) (hts (.static arraycopyName) (by decide +kernel)) (hts (.initialized "java/lang/System") (by decide +kernel)) hK hP hD hS 1 2 rfl rfl (z_mul rfl rfl) rfl rfl (by omega) (by omega) (by decide) (by decide) (Nat.le_of_ble_eq_true rfl) (Nat.le_of_ble_eq_true rfl) dX2_restore_15 (fun H locs hP hD hS => ?_)
  have hP : va_P D vwCl [(hH, .inr (2, [.ref rF, .int (nI kp)])), (rF, .inl (cI, 234, .inl g)), (cF, .inl (cI, 39, .inl (va_cpy g f (kp * 39) 0 39)))] H := hP
  have hD : va_D A [(hH, .inr (2, [.ref rF, .int (nI kp)])), (rF, .inl (cI, 234, .inl g)), (cF, .inl (cI, 39, .inl (va_cpy g f (kp * 39) 0 39)))] := hD
  exact hQ () _ _ _ _ (trivial) hP hD hS dX2_restore_18

set_option maxHeartbeats 4000000 in
set_option maxRecDepth 100000 in
theorem kX2_keep (l : Launch) (D : va_G) (cI cB : ClassId) (tE tN : Nat) (hH : Nat) (rF : Nat) (kp : Nat) (g : Nat → Int32) (sz : Nat) (hkp : kp ≤ 5) : zV l yX2_keep wsX2_keep ({ frames := 1, cells := 0, slots := 0, locals := 18 }) D cI cB tE tN [.ref hH] [(hH, .inr (2, [.ref rF, .int (nI kp)])), (rF, .inl (cI, 234, .inl g))] sz (fun u : Nat × (Nat → Int32) => [(hH, .inr (2, [.ref rF, .int (nI u.1)])), (rF, .inl (cI, 234, .inl u.2))]) (fun (u : Nat × (Nat → Int32)) => u.1 = kpS kp ∧ u.2 = gS kp g) 0 0 := by
  refine zV_mk (cc := cX2_keep) (maxL := 1) (by decide) rfl (Nat.le_of_ble_eq_true rfl) ?_
  intro p e s m below meth c A Q ls S0 hname hA hK hP hD hT hS hQ hl
  obtain ⟨hx, hb, hml, hown, hts⟩ := id S0
  have hl : lv_has ls 1 [(0, .ref hH)] := hl
  have L15 : (Cond.fieldLink RX2 15 "PastAndClear$History" "kept" "I").before ([.ref hH] : List Value).toArray s = true := hts (.fieldLink RX2 15 "PastAndClear$History" "kept" "I") (by decide +kernel)
  have N2 : ∀ w ∈ u_ws RX2 TX2 2, w ∈ wsX2_keep := by decide +kernel
  have L11 : (Cond.fieldLink RX2 11 "PastAndClear$History" "rows" "[I").before ([.ref hH] : List Value).toArray s = true := hts (.fieldLink RX2 11 "PastAndClear$History" "rows" "[I") (by decide +kernel)
  refine lv_aload_n hx hb dX2_keep_0 rfl (lv_at hl 0 rfl) ?_
  refine va_get (D := D) (ci := 2) (v := .int (nI kp)) (C := RX2) (T := TX2) (N := 2) hx hb hts N2 hown hK hP 0 rfl rfl 1 (by decide) L15 (fun _ h9 => h9) rfl dX2_keep_1 ?_
  refine lv_iconst (v := 5) hx hb dX2_keep_4 (by decide) ?_
  refine lv_icmp_ge (tgt := 21) hx hb dX2_keep_5 (by decide) (fun c_1 => ?_) (fun c_1 => ?_)
  · skip
    have c_1 := (z_le (a := 5) (b := kp) rfl rfl (by omega) (by omega)).mp c_1
    have c_1 : ¬ kp < 5 := by omega
    refine lv_aload_n hx hb dX2_keep_21 rfl (lv_at hl 0 rfl) ?_
    refine va_get (D := D) (ci := 2) (v := .ref rF) (C := RX2) (T := TX2) (N := 2) hx hb hts N2 hown hK hP 0 rfl rfl 0 (by decide) L11 (fun _ h9 => h9) rfl dX2_keep_22 ?_
    refine lv_bipush (v := 39) hx hb dX2_keep_25 (by decide) ?_
    refine lv_aload_n hx hb dX2_keep_27 rfl (lv_at hl 0 rfl) ?_
    refine va_get (D := D) (ci := 2) (v := .ref rF) (C := RX2) (T := TX2) (N := 2) hx hb hts N2 hown hK hP 0 rfl rfl 0 (by decide) L11 (fun _ h9 => h9) rfl dX2_keep_28 ?_
    refine lv_iconst (v := 0) hx hb dX2_keep_31 (by decide) ?_
    refine lv_sipush (v := 195) hx hb dX2_keep_32 (by decide) ?_
    refine z_copy (sp := 39) (dp := 0) (n := 195) (js := 39) (jd := 0) (jn := 195) hx hb (hml.trans hl.1.symm) hown (hts (.methodLink RX2 19 arraycopyName) (by decide +kernel)) (hts (.native arraycopyName) (by decide +kernel)) (hts (.static arraycopyName) (by decide +kernel)) (hts (.initialized "java/lang/System") (by decide +kernel)) hK hP hD hS 1 1 rfl rfl rfl rfl rfl (by omega) (by omega) (by decide) (by decide) (Nat.le_of_ble_eq_true rfl) (Nat.le_of_ble_eq_true rfl) dX2_keep_35 (fun H locs hP hD hS => ?_)
    have hP : va_P D vwCl [(hH, .inr (2, [.ref rF, .int (nI kp)])), (rF, .inl (cI, 234, .inl (va_cpy g g 39 0 195)))] H := hP
    have hD : va_D A [(hH, .inr (2, [.ref rF, .int (nI kp)])), (rF, .inl (cI, 234, .inl (va_cpy g g 39 0 195)))] := hD
    exact hQ (kp, va_cpy g g 39 0 195) _ _ _ _ (⟨by simp [kpS, c_1], by simp [gS, c_1]⟩) hP hD hS dX2_keep_38
  · skip
    have c_1 := (z_len (a := 5) (b := kp) rfl rfl (by omega) (by omega)).mp c_1
    refine lv_aload_n hx hb dX2_keep_8 rfl (lv_at hl 0 rfl) ?_
    refine lv_dup hx hb dX2_keep_9 rfl ?_
    refine va_get (D := D) (ci := 2) (v := .int (nI kp)) (C := RX2) (T := TX2) (N := 2) hx hb hts N2 hown hK hP 0 rfl rfl 1 (by decide) L15 (fun _ h9 => h9) rfl dX2_keep_10 ?_
    refine lv_iconst (v := 1) hx hb dX2_keep_13 (by decide) ?_
    refine lv_iadd hx hb dX2_keep_14 ?_
    refine z_topi (x := (nI kp) + 1) (y := nI (kp + 1)) (nI_1 kp) ?_
    refine va_put (D := D) (ci := 2) (v := .int (nI (kp + 1))) (ty := .int) (C := RX2) (T := TX2) (N := 2) hx hb hts N2 tyX2 tyX2_ok nmX2 hown hK hP hD hS 0 rfl rfl 1 (by decide) L15 (fun _ h9 => h9) rfl (by decide +kernel) rfl rfl (Nat.le_of_ble_eq_true rfl) dX2_keep_15 (fun H locs hP hD hS => ?_)
    have hP : va_P D vwCl [(hH, .inr (2, [.ref rF, .int (nI (kp + 1))])), (rF, .inl (cI, 234, .inl g))] H := hP
    have hD : va_D A [(hH, .inr (2, [.ref rF, .int (nI (kp + 1))])), (rF, .inl (cI, 234, .inl g))] := hD
    refine lv_goto (tgt := 38) hx hb dX2_keep_18 (by decide) ?_
    exact hQ (kp + 1, g) _ _ _ _ (⟨by simp [kpS, c_1], by simp [gS, c_1]⟩) hP hD hS dX2_keep_38

set_option maxHeartbeats 4000000 in
set_option maxRecDepth 100000 in
theorem kX2_takeBack (l : Launch) (D : va_G) (cI cB : ClassId) (tE tN : Nat) (hH : Nat) (rF : Nat) (kp : Nat) (g : Nat → Int32) (cF : Nat) (f : Nat → Int32) (sz : Nat) (hkp : kp ≤ 5) (hk1 : 1 ≤ kp) : zV l yX2_takeBack wsX2_takeBack ({ frames := 2, cells := 0, slots := 0, locals := 39 }) D cI cB tE tN [.ref hH, .ref cF] [(hH, .inr (2, [.ref rF, .int (nI kp)])), (rF, .inl (cI, 234, .inl g)), (cF, .inl (cI, 39, .inl f))] sz (fun u : Unit => [(hH, .inr (2, [.ref rF, .int (nI (kp - 1))])), (rF, .inl (cI, 234, .inl g)), (cF, .inl (cI, 39, .inl (va_cpy g f ((kp - 1) * 39) 0 39)))]) (fun (u : Unit) => True) 0 0 := by
  refine zV_mk (cc := cX2_takeBack) (maxL := 2) (by decide) rfl (Nat.le_of_ble_eq_true rfl) ?_
  intro p e s m below meth c A Q ls S0 hname hA hK hP hD hT hS hQ hl
  obtain ⟨hx, hb, hml, hown, hts⟩ := id S0
  have hl : lv_has ls 2 [(0, .ref hH), (1, .ref cF)] := hl
  have L15 : (Cond.fieldLink RX2 15 "PastAndClear$History" "kept" "I").before ([.ref hH, .ref cF] : List Value).toArray s = true := hts (.fieldLink RX2 15 "PastAndClear$History" "kept" "I") (by decide +kernel)
  have N2 : ∀ w ∈ u_ws RX2 TX2 2, w ∈ wsX2_takeBack := by decide +kernel
  refine lv_aload_n hx hb dX2_takeBack_0 rfl (lv_at hl 0 rfl) ?_
  refine va_get (D := D) (ci := 2) (v := .int (nI kp)) (C := RX2) (T := TX2) (N := 2) hx hb hts N2 hown hK hP 0 rfl rfl 1 (by decide) L15 (fun _ h9 => h9) rfl dX2_takeBack_1 ?_
  refine lv_if_ne (tgt := 8) hx hb dX2_takeBack_4 (by decide) (fun c_1 => ?_) (fun c_1 => ?_)
  · skip
    have c_1 := (z_eqn (a := kp) (b := 0) rfl rfl (by omega) (by omega)).mp c_1
    refine lv_aload_n hx hb dX2_takeBack_8 rfl (lv_at hl 0 rfl) ?_
    refine lv_dup hx hb dX2_takeBack_9 rfl ?_
    refine va_get (D := D) (ci := 2) (v := .int (nI kp)) (C := RX2) (T := TX2) (N := 2) hx hb hts N2 hown hK hP 0 rfl rfl 1 (by decide) L15 (fun _ h9 => h9) rfl dX2_takeBack_10 ?_
    refine lv_iconst (v := 1) hx hb dX2_takeBack_13 (by decide) ?_
    refine lv_isub hx hb dX2_takeBack_14 ?_
    refine z_topi (x := (nI kp) - 1) (y := nI (kp - 1)) (z_sub (b := 1) (by omega)) ?_
    refine va_put (D := D) (ci := 2) (v := .int (nI (kp - 1))) (ty := .int) (C := RX2) (T := TX2) (N := 2) hx hb hts N2 tyX2 tyX2_ok nmX2 hown hK hP hD hS 0 rfl rfl 1 (by decide) L15 (fun _ h9 => h9) rfl (by decide +kernel) rfl rfl (Nat.le_of_ble_eq_true rfl) dX2_takeBack_15 (fun H locs hP hD hS => ?_)
    have hP : va_P D vwCl [(hH, .inr (2, [.ref rF, .int (nI (kp - 1))])), (rF, .inl (cI, 234, .inl g)), (cF, .inl (cI, 39, .inl f))] H := hP
    have hD : va_D A [(hH, .inr (2, [.ref rF, .int (nI (kp - 1))])), (rF, .inl (cI, 234, .inl g)), (cF, .inl (cI, 39, .inl f))] := hD
    refine lv_aload_n hx hb dX2_takeBack_18 rfl (lv_at hl 0 rfl) ?_
    refine lv_aload_n hx hb dX2_takeBack_19 rfl (lv_at hl 1 rfl) ?_
    refine z_VV (n := 1) (wn := (fun u : Unit => [(hH, .inr (2, [.ref rF, .int (nI (kp - 1))])), (rF, .inl (cI, 234, .inl g)), (cF, .inl (cI, 39, .inl (va_cpy g f ((kp - 1) * 39) 0 39)))])) (wr := []) (As := [.ref cF]) (rest := []) ⟨hx, hb, hml, hown, hts⟩ hK hP hD hS hA hT (kX2_restore l D cI cB tE tN hH rF (kp - 1) g cF f _ (by omega)) gX2_takeBack_X2_restore rfl rfl rfl (by decide +kernel) ⟨Nat.le_of_ble_eq_true rfl, Nat.le_of_ble_eq_true rfl⟩ [0, 1, 2] [] [0, 1, 2] (by decide) rfl rfl (by decide) (by decide) (by decide) (fun u => rfl) 0 2 rfl rfl rfl rfl hl.1 rfl (Nat.le_of_ble_eq_true rfl) dX2_takeBack_20 ⟨Nat.le_of_ble_eq_true rfl, Nat.le_of_ble_eq_true rfl⟩ (fun u H locs hw_3 hP hD hS => ?_)
    try dsimp only at hw_3
    have hP : va_P D vwCl [(hH, .inr (2, [.ref rF, .int (nI (kp - 1))])), (rF, .inl (cI, 234, .inl g)), (cF, .inl (cI, 39, .inl (va_cpy g f ((kp - 1) * 39) 0 39)))] H := hP
    have hD : va_D A [(hH, .inr (2, [.ref rF, .int (nI (kp - 1))])), (rF, .inl (cI, 234, .inl g)), (cF, .inl (cI, 39, .inl (va_cpy g f ((kp - 1) * 39) 0 39)))] := hD
    exact hQ () _ _ _ _ (trivial) hP hD hS dX2_takeBack_23
  · skip
    have c_1 := (z_eq (a := kp) (b := 0) rfl rfl (by omega) (by omega)).mp c_1
    exact absurd c_1 (by omega)
