theorem sdF_step {t : Nat} {p q : Int64} (ht : t < 100) (hq : ¬ q = 0) : sdF (100 - t) p q = sdF (100 - (t + 1)) q (p - p / q * q) := by
  rw [show 100 - t = (100 - (t + 1)) + 1 by omega, sdF, if_neg hq]
theorem sdF_zero {k : Nat} {p q : Int64} (hq : q = 0) : sdF k p q = p := by
  cases k with
  | zero => rfl
  | succ k => rw [sdF, if_pos hq]
set_option maxHeartbeats 4000000 in
set_option maxRecDepth 100000 in
theorem kX0_take (l : Launch) (D : va_G) (cI cB : ClassId) (tE tN : Nat) (wF : Nat) (aF : Nat) (w1 : Int64) (w2 : Int64) (w3 : Int64) (w4 : Int64) (t1 : Int64) (t2 : Int64) (t3 : Int64) (t4 : Int64) (sz : Nat)  : zV l yX0_take wsX0_take ({ frames := 0, cells := 0, slots := 0, locals := 0 }) D cI cB tE tN [.ref wF, .ref aF] [(wF, .inr (0, [.long w1, .long w2, .long w3, .long w4])), (aF, .inr (0, [.long t1, .long t2, .long t3, .long t4]))] sz (fun u : Unit => [(wF, .inr (0, [.long t1, .long t2, .long t3, .long t4])), (aF, .inr (0, [.long t1, .long t2, .long t3, .long t4]))]) (fun (u : Unit) => True) 0 0 := by
  refine zV_mk (cc := cX0_take) (maxL := 2) (by decide) rfl (Nat.le_of_ble_eq_true rfl) ?_
  intro p e s m below meth c A Q ls S0 hname hA hK hP hD hT hS hQ hl
  obtain ⟨hx, hb, hml, hown, hts⟩ := id S0
  have hl : lv_has ls 2 [(0, .ref wF), (1, .ref aF)] := hl
  have L16 : (Cond.fieldLink RX0 16 "PastAndClear$Approach" "timeAbove" "J").before ([.ref wF, .ref aF] : List Value).toArray s = true := hts (.fieldLink RX0 16 "PastAndClear$Approach" "timeAbove" "J") (by decide +kernel)
  have N0 : ∀ w ∈ u_ws RX0 TX0 4, w ∈ wsX0_take := by decide +kernel
  have L7 : (Cond.fieldLink RX0 7 "PastAndClear$Approach" "timeBelow" "J").before ([.ref wF, .ref aF] : List Value).toArray s = true := hts (.fieldLink RX0 7 "PastAndClear$Approach" "timeBelow" "J") (by decide +kernel)
  have L19 : (Cond.fieldLink RX0 19 "PastAndClear$Approach" "nearAbove" "J").before ([.ref wF, .ref aF] : List Value).toArray s = true := hts (.fieldLink RX0 19 "PastAndClear$Approach" "nearAbove" "J") (by decide +kernel)
  have L13 : (Cond.fieldLink RX0 13 "PastAndClear$Approach" "nearBelow" "J").before ([.ref wF, .ref aF] : List Value).toArray s = true := hts (.fieldLink RX0 13 "PastAndClear$Approach" "nearBelow" "J") (by decide +kernel)
  refine lv_aload_n hx hb dX0_take_0 rfl (lv_at hl 0 rfl) ?_
  refine lv_aload_n hx hb dX0_take_1 rfl (lv_at hl 1 rfl) ?_
  refine va_get (D := D) (ci := 0) (v := .long t1) (C := RX0) (T := TX0) (N := 4) hx hb hts N0 hown hK hP 1 rfl rfl 0 (by decide) L16 (fun _ h9 => h9) rfl dX0_take_2 ?_
  refine va_put (D := D) (ci := 0) (v := .long t1) (ty := .long) (C := RX0) (T := TX0) (N := 4) hx hb hts N0 tyX0 tyX0_ok nmX0 hown hK hP hD hS 0 rfl rfl 0 (by decide) L16 (fun _ h9 => h9) rfl (by decide +kernel) rfl rfl (Nat.le_of_ble_eq_true rfl) dX0_take_5 (fun H locs hP hD hS => ?_)
  have hP : va_P D vwCl [(wF, .inr (0, [.long t1, .long w2, .long w3, .long w4])), (aF, .inr (0, [.long t1, .long t2, .long t3, .long t4]))] H := hP
  have hD : va_D A [(wF, .inr (0, [.long t1, .long w2, .long w3, .long w4])), (aF, .inr (0, [.long t1, .long t2, .long t3, .long t4]))] := hD
  refine lv_aload_n hx hb dX0_take_8 rfl (lv_at hl 0 rfl) ?_
  refine lv_aload_n hx hb dX0_take_9 rfl (lv_at hl 1 rfl) ?_
  refine va_get (D := D) (ci := 0) (v := .long t2) (C := RX0) (T := TX0) (N := 4) hx hb hts N0 hown hK hP 1 rfl rfl 1 (by decide) L7 (fun _ h9 => h9) rfl dX0_take_10 ?_
  refine va_put (D := D) (ci := 0) (v := .long t2) (ty := .long) (C := RX0) (T := TX0) (N := 4) hx hb hts N0 tyX0 tyX0_ok nmX0 hown hK hP hD hS 0 rfl rfl 1 (by decide) L7 (fun _ h9 => h9) rfl (by decide +kernel) rfl rfl (Nat.le_of_ble_eq_true rfl) dX0_take_13 (fun H locs hP hD hS => ?_)
  have hP : va_P D vwCl [(wF, .inr (0, [.long t1, .long t2, .long w3, .long w4])), (aF, .inr (0, [.long t1, .long t2, .long t3, .long t4]))] H := hP
  have hD : va_D A [(wF, .inr (0, [.long t1, .long t2, .long w3, .long w4])), (aF, .inr (0, [.long t1, .long t2, .long t3, .long t4]))] := hD
  refine lv_aload_n hx hb dX0_take_16 rfl (lv_at hl 0 rfl) ?_
  refine lv_aload_n hx hb dX0_take_17 rfl (lv_at hl 1 rfl) ?_
  refine va_get (D := D) (ci := 0) (v := .long t3) (C := RX0) (T := TX0) (N := 4) hx hb hts N0 hown hK hP 1 rfl rfl 2 (by decide) L19 (fun _ h9 => h9) rfl dX0_take_18 ?_
  refine va_put (D := D) (ci := 0) (v := .long t3) (ty := .long) (C := RX0) (T := TX0) (N := 4) hx hb hts N0 tyX0 tyX0_ok nmX0 hown hK hP hD hS 0 rfl rfl 2 (by decide) L19 (fun _ h9 => h9) rfl (by decide +kernel) rfl rfl (Nat.le_of_ble_eq_true rfl) dX0_take_21 (fun H locs hP hD hS => ?_)
  have hP : va_P D vwCl [(wF, .inr (0, [.long t1, .long t2, .long t3, .long w4])), (aF, .inr (0, [.long t1, .long t2, .long t3, .long t4]))] H := hP
  have hD : va_D A [(wF, .inr (0, [.long t1, .long t2, .long t3, .long w4])), (aF, .inr (0, [.long t1, .long t2, .long t3, .long t4]))] := hD
  refine lv_aload_n hx hb dX0_take_24 rfl (lv_at hl 0 rfl) ?_
  refine lv_aload_n hx hb dX0_take_25 rfl (lv_at hl 1 rfl) ?_
  refine va_get (D := D) (ci := 0) (v := .long t4) (C := RX0) (T := TX0) (N := 4) hx hb hts N0 hown hK hP 1 rfl rfl 3 (by decide) L13 (fun _ h9 => h9) rfl dX0_take_26 ?_
  refine va_put (D := D) (ci := 0) (v := .long t4) (ty := .long) (C := RX0) (T := TX0) (N := 4) hx hb hts N0 tyX0 tyX0_ok nmX0 hown hK hP hD hS 0 rfl rfl 3 (by decide) L13 (fun _ h9 => h9) rfl (by decide +kernel) rfl rfl (Nat.le_of_ble_eq_true rfl) dX0_take_29 (fun H locs hP hD hS => ?_)
  have hP : va_P D vwCl [(wF, .inr (0, [.long t1, .long t2, .long t3, .long t4])), (aF, .inr (0, [.long t1, .long t2, .long t3, .long t4]))] H := hP
  have hD : va_D A [(wF, .inr (0, [.long t1, .long t2, .long t3, .long t4])), (aF, .inr (0, [.long t1, .long t2, .long t3, .long t4]))] := hD
  exact hQ () _ _ _ _ (trivial) hP hD hS dX0_take_32

set_option maxHeartbeats 4000000 in
set_option maxRecDepth 100000 in
theorem kX0_isRisk (l : Launch) (D : va_G) (cI cB : ClassId) (tE tN : Nat) (aF : Nat) (t1 : Int64) (t2 : Int64) (t3 : Int64) (t4 : Int64) (sf : Int64) (sp : Int64) (sz : Nat)  : zI l yX0_isRisk wsX0_isRisk ({ frames := 0, cells := 0, slots := 0, locals := 0 }) D cI cB tE tN [.ref aF, .long sf, .long sp] [(aF, .inr (0, [.long t1, .long t2, .long t3, .long t4]))] sz (fun u : Unit => [(aF, .inr (0, [.long t1, .long t2, .long t3, .long t4]))]) (fun (r : Int32) (u : Unit) => r = b2i (cRk t1 t2 t3 t4 sf sp)) 0 0 := by
  refine zI_mk (cc := cX0_isRisk) (maxL := 5) (rt := .boolean) (by decide) rfl (Nat.le_of_ble_eq_true rfl) ?_
  intro p e s m below meth c A Q ls S0 hname hA hK hP hD hT hS hQ hl
  obtain ⟨hx, hb, hml, hown, hts⟩ := id S0
  have hl : lv_has ls 5 [(0, .ref aF), (1, .long sf), (3, .long sp)] := hl
  have L19 : (Cond.fieldLink RX0 19 "PastAndClear$Approach" "nearAbove" "J").before ([.ref aF, .long sf, .long sp] : List Value).toArray s = true := hts (.fieldLink RX0 19 "PastAndClear$Approach" "nearAbove" "J") (by decide +kernel)
  have N0 : ∀ w ∈ u_ws RX0 TX0 4, w ∈ wsX0_isRisk := by decide +kernel
  have L13 : (Cond.fieldLink RX0 13 "PastAndClear$Approach" "nearBelow" "J").before ([.ref aF, .long sf, .long sp] : List Value).toArray s = true := hts (.fieldLink RX0 13 "PastAndClear$Approach" "nearBelow" "J") (by decide +kernel)
  have L16 : (Cond.fieldLink RX0 16 "PastAndClear$Approach" "timeAbove" "J").before ([.ref aF, .long sf, .long sp] : List Value).toArray s = true := hts (.fieldLink RX0 16 "PastAndClear$Approach" "timeAbove" "J") (by decide +kernel)
  have L7 : (Cond.fieldLink RX0 7 "PastAndClear$Approach" "timeBelow" "J").before ([.ref aF, .long sf, .long sp] : List Value).toArray s = true := hts (.fieldLink RX0 7 "PastAndClear$Approach" "timeBelow" "J") (by decide +kernel)
  refine lv_aload_n hx hb dX0_isRisk_0 rfl (lv_at hl 0 rfl) ?_
  refine va_get (D := D) (ci := 0) (v := .long t3) (C := RX0) (T := TX0) (N := 4) hx hb hts N0 hown hK hP 0 rfl rfl 2 (by decide) L19 (fun _ h9 => h9) rfl dX0_isRisk_1 ?_
  refine lv_lload_n hx hb dX0_isRisk_4 rfl (lv_at hl 1 rfl) ?_
  refine lv_lload_n hx hb dX0_isRisk_5 rfl (lv_at hl 1 rfl) ?_
  refine lv_lmul hx hb dX0_isRisk_6 ?_
  refine lv_aload_n hx hb dX0_isRisk_7 rfl (lv_at hl 0 rfl) ?_
  refine va_get (D := D) (ci := 0) (v := .long t4) (C := RX0) (T := TX0) (N := 4) hx hb hts N0 hown hK hP 0 rfl rfl 3 (by decide) L13 (fun _ h9 => h9) rfl dX0_isRisk_8 ?_
  refine lv_lmul hx hb dX0_isRisk_11 ?_
  refine W.lcmp hx hb dX0_isRisk_12 ?_
  refine lv_if_ge (tgt := 34) hx hb dX0_isRisk_13 (by decide) (fun c_1 => ?_) (fun c_1 => ?_)
  · skip
    have c_1 := (lg_cmp_ge _ _).mp c_1
    refine lv_iconst (v := 0) hx hb dX0_isRisk_34 (by decide) ?_
    exact hQ 0 () _ _ _ _ (rfl) (by simp [b2i, cRk, c_1]) hP hD hS dX0_isRisk_35
  · skip
    have c_1 := mt (lg_cmp_ge _ _).mpr c_1
    refine lv_aload_n hx hb dX0_isRisk_16 rfl (lv_at hl 0 rfl) ?_
    refine va_get (D := D) (ci := 0) (v := .long t1) (C := RX0) (T := TX0) (N := 4) hx hb hts N0 hown hK hP 0 rfl rfl 0 (by decide) L16 (fun _ h9 => h9) rfl dX0_isRisk_17 ?_
    refine lv_lload_n hx hb dX0_isRisk_20 rfl (lv_at hl 2 rfl) ?_
    refine lv_aload_n hx hb dX0_isRisk_21 rfl (lv_at hl 0 rfl) ?_
    refine va_get (D := D) (ci := 0) (v := .long t2) (C := RX0) (T := TX0) (N := 4) hx hb hts N0 hown hK hP 0 rfl rfl 1 (by decide) L7 (fun _ h9 => h9) rfl dX0_isRisk_22 ?_
    refine lv_lmul hx hb dX0_isRisk_25 ?_
    refine W.lcmp hx hb dX0_isRisk_26 ?_
    refine lv_if_gt (tgt := 34) hx hb dX0_isRisk_27 (by decide) (fun c_2 => ?_) (fun c_2 => ?_)
    · skip
      have c_2 := (lg_cmp_gt _ _).mp c_2
      refine lv_iconst (v := 0) hx hb dX0_isRisk_34 (by decide) ?_
      exact hQ 0 () _ _ _ _ (rfl) (by simp [b2i, cRk, c_1, c_2]) hP hD hS dX0_isRisk_35
    · skip
      have c_2 := mt (lg_cmp_gt _ _).mpr c_2
      refine lv_iconst (v := 1) hx hb dX0_isRisk_30 (by decide) ?_
      refine lv_goto (tgt := 35) hx hb dX0_isRisk_31 (by decide) ?_
      exact hQ 1 () _ _ _ _ (rfl) (by simp [b2i, cRk, c_1, c_2]) hP hD hS dX0_isRisk_35

set_option maxHeartbeats 4000000 in
set_option maxRecDepth 100000 in
theorem kX0_isPastAndClear (l : Launch) (D : va_G) (cI cB : ClassId) (tE tN : Nat) (aF : Nat) (t1 : Int64) (t2 : Int64) (t3 : Int64) (t4 : Int64) (sf : Int64) (sz : Nat)  : zI l yX0_isPastAndClear wsX0_isPastAndClear ({ frames := 0, cells := 0, slots := 0, locals := 0 }) D cI cB tE tN [.ref aF, .long sf] [(aF, .inr (0, [.long t1, .long t2, .long t3, .long t4]))] sz (fun u : Unit => [(aF, .inr (0, [.long t1, .long t2, .long t3, .long t4]))]) (fun (r : Int32) (u : Unit) => r = b2i (cPc t1 t3 sf)) 0 0 := by
  refine zI_mk (cc := cX0_isPastAndClear) (maxL := 3) (rt := .boolean) (by decide) rfl (Nat.le_of_ble_eq_true rfl) ?_
  intro p e s m below meth c A Q ls S0 hname hA hK hP hD hT hS hQ hl
  obtain ⟨hx, hb, hml, hown, hts⟩ := id S0
  have hl : lv_has ls 3 [(0, .ref aF), (1, .long sf)] := hl
  have L16 : (Cond.fieldLink RX0 16 "PastAndClear$Approach" "timeAbove" "J").before ([.ref aF, .long sf] : List Value).toArray s = true := hts (.fieldLink RX0 16 "PastAndClear$Approach" "timeAbove" "J") (by decide +kernel)
  have N0 : ∀ w ∈ u_ws RX0 TX0 4, w ∈ wsX0_isPastAndClear := by decide +kernel
  have L19 : (Cond.fieldLink RX0 19 "PastAndClear$Approach" "nearAbove" "J").before ([.ref aF, .long sf] : List Value).toArray s = true := hts (.fieldLink RX0 19 "PastAndClear$Approach" "nearAbove" "J") (by decide +kernel)
  refine lv_aload_n hx hb dX0_isPastAndClear_0 rfl (lv_at hl 0 rfl) ?_
  refine va_get (D := D) (ci := 0) (v := .long t1) (C := RX0) (T := TX0) (N := 4) hx hb hts N0 hown hK hP 0 rfl rfl 0 (by decide) L16 (fun _ h9 => h9) rfl dX0_isPastAndClear_1 ?_
  refine lv_lconst (v := 0) hx hb dX0_isPastAndClear_4 (by decide) ?_
  refine W.lcmp hx hb dX0_isPastAndClear_5 ?_
  refine lv_if_ne (tgt := 24) hx hb dX0_isPastAndClear_6 (by decide) (fun c_1 => ?_) (fun c_1 => ?_)
  · skip
    have c_1 := mt (lg_cmp_eq _ _).mpr c_1
    refine lv_iconst (v := 0) hx hb dX0_isPastAndClear_24 (by decide) ?_
    exact hQ 0 () _ _ _ _ (rfl) (by simp [b2i, cPc, c_1]) hP hD hS dX0_isPastAndClear_25
  · skip
    have c_1 := (lg_cmp_eq _ _).mp c_1
    refine lv_aload_n hx hb dX0_isPastAndClear_9 rfl (lv_at hl 0 rfl) ?_
    refine va_get (D := D) (ci := 0) (v := .long t3) (C := RX0) (T := TX0) (N := 4) hx hb hts N0 hown hK hP 0 rfl rfl 2 (by decide) L19 (fun _ h9 => h9) rfl dX0_isPastAndClear_10 ?_
    refine lv_lload_n hx hb dX0_isPastAndClear_13 rfl (lv_at hl 1 rfl) ?_
    refine lv_lload_n hx hb dX0_isPastAndClear_14 rfl (lv_at hl 1 rfl) ?_
    refine lv_lmul hx hb dX0_isPastAndClear_15 ?_
    refine W.lcmp hx hb dX0_isPastAndClear_16 ?_
    refine lv_if_lt (tgt := 24) hx hb dX0_isPastAndClear_17 (by decide) (fun c_2 => ?_) (fun c_2 => ?_)
    · skip
      have c_2 := (lg_cmp_lt _ _).mp c_2
      refine lv_iconst (v := 0) hx hb dX0_isPastAndClear_24 (by decide) ?_
      exact hQ 0 () _ _ _ _ (rfl) (by simp [b2i, cPc, c_1, c_2]) hP hD hS dX0_isPastAndClear_25
    · skip
      have c_2 := mt (lg_cmp_lt _ _).mpr c_2
      refine lv_iconst (v := 1) hx hb dX0_isPastAndClear_20 (by decide) ?_
      refine lv_goto (tgt := 25) hx hb dX0_isPastAndClear_21 (by decide) ?_
      exact hQ 1 () _ _ _ _ (rfl) (by simp [b2i, cPc, c_1, c_2]) hP hD hS dX0_isPastAndClear_25

set_option maxHeartbeats 4000000 in
set_option maxRecDepth 100000 in
theorem kX0_isWorse (l : Launch) (D : va_G) (cI cB : ClassId) (tE tN : Nat) (aF : Nat) (wF : Nat) (t1 : Int64) (t2 : Int64) (t3 : Int64) (t4 : Int64) (w1 : Int64) (w2 : Int64) (w3 : Int64) (w4 : Int64) (sz : Nat)  : zI l yX0_isWorse wsX0_isWorse ({ frames := 0, cells := 0, slots := 0, locals := 0 }) D cI cB tE tN [.ref aF, .ref wF] [(aF, .inr (0, [.long t1, .long t2, .long t3, .long t4])), (wF, .inr (0, [.long w1, .long w2, .long w3, .long w4]))] sz (fun u : Unit => [(aF, .inr (0, [.long t1, .long t2, .long t3, .long t4])), (wF, .inr (0, [.long w1, .long w2, .long w3, .long w4]))]) (fun (r : Int32) (u : Unit) => r = b2i (cWorse (t1, t2, t3, t4) (w1, w2, w3, w4))) 0 0 := by
  refine zI_mk (cc := cX0_isWorse) (maxL := 4) (rt := .boolean) (by decide) rfl (Nat.le_of_ble_eq_true rfl) ?_
  intro p e s m below meth c A Q ls S0 hname hA hK hP hD hT hS hQ hl
  obtain ⟨hx, hb, hml, hown, hts⟩ := id S0
  have hl : lv_has ls 4 [(0, .ref aF), (1, .ref wF)] := hl
  have L16 : (Cond.fieldLink RX0 16 "PastAndClear$Approach" "timeAbove" "J").before ([.ref aF, .ref wF] : List Value).toArray s = true := hts (.fieldLink RX0 16 "PastAndClear$Approach" "timeAbove" "J") (by decide +kernel)
  have N0 : ∀ w ∈ u_ws RX0 TX0 4, w ∈ wsX0_isWorse := by decide +kernel
  have L7 : (Cond.fieldLink RX0 7 "PastAndClear$Approach" "timeBelow" "J").before ([.ref aF, .ref wF] : List Value).toArray s = true := hts (.fieldLink RX0 7 "PastAndClear$Approach" "timeBelow" "J") (by decide +kernel)
  have L19 : (Cond.fieldLink RX0 19 "PastAndClear$Approach" "nearAbove" "J").before ([.ref aF, .ref wF] : List Value).toArray s = true := hts (.fieldLink RX0 19 "PastAndClear$Approach" "nearAbove" "J") (by decide +kernel)
  have L13 : (Cond.fieldLink RX0 13 "PastAndClear$Approach" "nearBelow" "J").before ([.ref aF, .ref wF] : List Value).toArray s = true := hts (.fieldLink RX0 13 "PastAndClear$Approach" "nearBelow" "J") (by decide +kernel)
  refine lv_aload_n hx hb dX0_isWorse_0 rfl (lv_at hl 1 rfl) ?_
  refine va_get (D := D) (ci := 0) (v := .long w1) (C := RX0) (T := TX0) (N := 4) hx hb hts N0 hown hK hP 1 rfl rfl 0 (by decide) L16 (fun _ h9 => h9) rfl dX0_isWorse_1 ?_
  refine lv_aload_n hx hb dX0_isWorse_4 rfl (lv_at hl 0 rfl) ?_
  refine va_get (D := D) (ci := 0) (v := .long t2) (C := RX0) (T := TX0) (N := 4) hx hb hts N0 hown hK hP 0 rfl rfl 1 (by decide) L7 (fun _ h9 => h9) rfl dX0_isWorse_5 ?_
  refine lv_lmul hx hb dX0_isWorse_8 ?_
  refine lv_aload_n hx hb dX0_isWorse_9 rfl (lv_at hl 0 rfl) ?_
  refine va_get (D := D) (ci := 0) (v := .long t1) (C := RX0) (T := TX0) (N := 4) hx hb hts N0 hown hK hP 0 rfl rfl 0 (by decide) L16 (fun _ h9 => h9) rfl dX0_isWorse_10 ?_
  refine lv_aload_n hx hb dX0_isWorse_13 rfl (lv_at hl 1 rfl) ?_
  refine va_get (D := D) (ci := 0) (v := .long w2) (C := RX0) (T := TX0) (N := 4) hx hb hts N0 hown hK hP 1 rfl rfl 1 (by decide) L7 (fun _ h9 => h9) rfl dX0_isWorse_14 ?_
  refine lv_lmul hx hb dX0_isWorse_17 ?_
  refine lv_lsub hx hb dX0_isWorse_18 ?_
  refine lv_lstore_n (lv' := [(2, .long ((w1 * t2) - (t1 * w2))), (0, .ref aF), (1, .ref wF)]) hx hb dX0_isWorse_19 rfl hl (by decide) rfl (fun ls hl => ?_)
  refine lv_lload_n hx hb dX0_isWorse_20 rfl (lv_at hl 0 rfl) ?_
  refine lv_lconst (v := 0) hx hb dX0_isWorse_21 (by decide) ?_
  refine W.lcmp hx hb dX0_isWorse_22 ?_
  refine lv_if_eq (tgt := 38) hx hb dX0_isWorse_23 (by decide) (fun c_1 => ?_) (fun c_1 => ?_)
  · skip
    have c_1 := (lg_cmp_eq _ _).mp c_1
    refine lv_aload_n hx hb dX0_isWorse_38 rfl (lv_at hl 1 rfl) ?_
    refine va_get (D := D) (ci := 0) (v := .long t3) (C := RX0) (T := TX0) (N := 4) hx hb hts N0 hown hK hP 0 rfl rfl 2 (by decide) L19 (fun _ h9 => h9) rfl dX0_isWorse_39 ?_
    refine lv_aload_n hx hb dX0_isWorse_42 rfl (lv_at hl 2 rfl) ?_
    refine va_get (D := D) (ci := 0) (v := .long w4) (C := RX0) (T := TX0) (N := 4) hx hb hts N0 hown hK hP 1 rfl rfl 3 (by decide) L13 (fun _ h9 => h9) rfl dX0_isWorse_43 ?_
    refine lv_lmul hx hb dX0_isWorse_46 ?_
    refine lv_aload_n hx hb dX0_isWorse_47 rfl (lv_at hl 2 rfl) ?_
    refine va_get (D := D) (ci := 0) (v := .long w3) (C := RX0) (T := TX0) (N := 4) hx hb hts N0 hown hK hP 1 rfl rfl 2 (by decide) L19 (fun _ h9 => h9) rfl dX0_isWorse_48 ?_
    refine lv_aload_n hx hb dX0_isWorse_51 rfl (lv_at hl 1 rfl) ?_
    refine va_get (D := D) (ci := 0) (v := .long t4) (C := RX0) (T := TX0) (N := 4) hx hb hts N0 hown hK hP 0 rfl rfl 3 (by decide) L13 (fun _ h9 => h9) rfl dX0_isWorse_52 ?_
    refine lv_lmul hx hb dX0_isWorse_55 ?_
    refine W.lcmp hx hb dX0_isWorse_56 ?_
    refine lv_if_ge (tgt := 64) hx hb dX0_isWorse_57 (by decide) (fun c_2 => ?_) (fun c_2 => ?_)
    · skip
      have c_2 := (lg_cmp_ge _ _).mp c_2
      refine lv_iconst (v := 0) hx hb dX0_isWorse_64 (by decide) ?_
      exact hQ 0 () _ _ _ _ (rfl) (by simp [b2i, cWorse, c_1, c_2]) hP hD hS dX0_isWorse_65
    · skip
      have c_2 := mt (lg_cmp_ge _ _).mpr c_2
      refine lv_iconst (v := 1) hx hb dX0_isWorse_60 (by decide) ?_
      refine lv_goto (tgt := 65) hx hb dX0_isWorse_61 (by decide) ?_
      exact hQ 1 () _ _ _ _ (rfl) (by simp [b2i, cWorse, c_1, c_2]) hP hD hS dX0_isWorse_65
  · skip
    have c_1 := mt (lg_cmp_eq _ _).mpr c_1
    refine lv_lload_n hx hb dX0_isWorse_26 rfl (lv_at hl 0 rfl) ?_
    refine lv_lconst (v := 0) hx hb dX0_isWorse_27 (by decide) ?_
    refine W.lcmp hx hb dX0_isWorse_28 ?_
    refine lv_if_le (tgt := 36) hx hb dX0_isWorse_29 (by decide) (fun c_3 => ?_) (fun c_3 => ?_)
    · skip
      have c_3 := (lg_cmp_le _ _).mp c_3
      refine lv_iconst (v := 0) hx hb dX0_isWorse_36 (by decide) ?_
      exact hQ 0 () _ _ _ _ (rfl) (by simp [b2i, cWorse, c_1, c_3]) hP hD hS dX0_isWorse_37
    · skip
      have c_3 := mt (lg_cmp_le _ _).mpr c_3
      refine lv_iconst (v := 1) hx hb dX0_isWorse_32 (by decide) ?_
      refine lv_goto (tgt := 37) hx hb dX0_isWorse_33 (by decide) ?_
      exact hQ 1 () _ _ _ _ (rfl) (by simp [b2i, cWorse, c_1, c_3]) hP hD hS dX0_isWorse_37

set_option maxHeartbeats 4000000 in
set_option maxRecDepth 100000 in
theorem kX0_sharedDivisor (l : Launch) (D : va_G) (cI cB : ClassId) (tE tN : Nat) (p0 : Int64) (q0 : Int64) (sz : Nat)  : zL l yX0_sharedDivisor wsX0_sharedDivisor ({ frames := 0, cells := 0, slots := 0, locals := 0 }) D cI cB tE tN [.long p0, .long q0] [] sz (fun u : Unit => []) (fun (r : Int64) (u : Unit) => r = sdF 100 p0 q0) 0 0 := by
  refine zL_mk (cc := cX0_sharedDivisor) (maxL := 7) (by decide) rfl (Nat.le_of_ble_eq_true rfl) ?_
  intro p e s m below meth c A Q ls S0 hname hA hK hP hD hT hS hQ hl
  obtain ⟨hx, hb, hml, hown, hts⟩ := id S0
  have hl : lv_has ls 7 [(0, .long p0), (2, .long q0)] := hl
  have lp3 : ∀ (k : Nat) (t : Nat) (pa : Int64) (qa : Int64) (H : Heap) (locs : List Loc) (ls : Array Slot), 100 - t = k → (t ≤ 100) → (sdF 100 p0 q0 = sdF (100 - t) pa qa) → va_P D vwCl [] H → va_D A [] → va_S A s.heap H locs → lv_has ls 7 [(4, .int (nI t)), (2, .long qa), (0, .long pa)] → W p l e ({ frames := 0, cells := 0, slots := 0, locals := 0 } : Room) s m ([.long p0, .long q0] : List Value).toArray below meth c H locs 0 0 Q (F0 m 3 ls []) := by
    intro k
    induction k using Nat.strongRecOn with
    | ind k ih =>
    intro t pa qa H locs ls hk ht hinv hP hD hS hl
    refine lv_iload hx hb dX0_sharedDivisor_3 (lv_at hl 0 rfl) ?_
    refine lv_bipush (v := 100) hx hb dX0_sharedDivisor_5 (by decide) ?_
    refine lv_icmp_ge (tgt := 32) hx hb dX0_sharedDivisor_7 (by decide) (fun c_1 => ?_) (fun c_1 => ?_)
    · skip
      have c_1 := (z_le (a := 100) (b := t) rfl rfl (by omega) (by omega)).mp c_1
      refine lv_lload_n hx hb dX0_sharedDivisor_32 rfl (lv_at hl 2 rfl) ?_
      exact hQ pa () _ _ _ _ (by rw [hinv, show 100 - t = 0 by omega]; rfl) hP hD hS dX0_sharedDivisor_33
    · skip
      have c_1 := (z_len (a := 100) (b := t) rfl rfl (by omega) (by omega)).mp c_1
      refine lv_lload_n hx hb dX0_sharedDivisor_10 rfl (lv_at hl 1 rfl) ?_
      refine lv_lconst (v := 0) hx hb dX0_sharedDivisor_11 (by decide) ?_
      refine W.lcmp hx hb dX0_sharedDivisor_12 ?_
      refine lv_if_eq (tgt := 32) hx hb dX0_sharedDivisor_13 (by decide) (fun c_2 => ?_) (fun c_2 => ?_)
      · skip
        have c_2 := (lg_cmp_eq _ _).mp c_2
        refine lv_lload_n hx hb dX0_sharedDivisor_32 rfl (lv_at hl 2 rfl) ?_
        exact hQ pa () _ _ _ _ (by rw [hinv]; exact (sdF_zero c_2).symm) hP hD hS dX0_sharedDivisor_33
      · skip
        have c_2 := mt (lg_cmp_eq _ _).mpr c_2
        refine lv_lload_n hx hb dX0_sharedDivisor_16 rfl (lv_at hl 2 rfl) ?_
        refine lv_lload_n hx hb dX0_sharedDivisor_17 rfl (lv_at hl 1 rfl) ?_
        refine lv_lrem hx hb dX0_sharedDivisor_18 (c_2) ?_
        refine lv_lstore (lv' := [(5, .long (pa - pa / qa * qa)), (4, .int (nI t)), (2, .long qa), (0, .long pa)]) hx hb dX0_sharedDivisor_19 hl (by decide) rfl (fun ls hl => ?_)
        refine lv_lload_n hx hb dX0_sharedDivisor_21 rfl (lv_at hl 2 rfl) ?_
        refine lv_lstore_n (lv' := [(0, .long qa), (5, .long (pa - pa / qa * qa)), (4, .int (nI t)), (2, .long qa)]) hx hb dX0_sharedDivisor_22 rfl hl (by decide) rfl (fun ls hl => ?_)
        refine lv_lload hx hb dX0_sharedDivisor_23 (lv_at hl 1 rfl) ?_
        refine lv_lstore_n (lv' := [(2, .long (pa - pa / qa * qa)), (0, .long qa), (5, .long (pa - pa / qa * qa)), (4, .int (nI t))]) hx hb dX0_sharedDivisor_25 rfl hl (by decide) rfl (fun ls hl => ?_)
        refine lv_iinc (v := nI (t + 1)) (lv' := [(4, .int (nI (t + 1))), (2, .long (pa - pa / qa * qa)), (0, .long qa), (5, .long (pa - pa / qa * qa))]) hx hb dX0_sharedDivisor_26 hl (k := 3) rfl (z_add rfl rfl) (by decide) rfl (fun ls hl => ?_)
        refine lv_goto (tgt := 3) hx hb dX0_sharedDivisor_29 (by decide) ?_
        exact ih _ (by omega) (t + 1) qa (pa - pa / qa * qa) _ _ _ rfl (by omega) (by rw [hinv]; exact sdF_step (by omega) c_2) hP hD hS (lv_sub hl [0, 1, 2] rfl)
  refine lv_iconst (v := 0) hx hb dX0_sharedDivisor_0 (by decide) ?_
  refine lv_istore (lv' := [(4, .int 0), (0, .long p0), (2, .long q0)]) hx hb dX0_sharedDivisor_1 hl (by decide) rfl (fun ls hl => ?_)
  exact lp3 _ 0 p0 q0 _ _ _ rfl (by omega) rfl hP hD hS (lv_sub hl [0, 2, 1] rfl)

set_option maxHeartbeats 4000000 in
set_option maxRecDepth 100000 in
theorem kX0_lowest (l : Launch) (D : va_G) (cI cB : ClassId) (tE tN : Nat) (p0 : Int64) (q0 : Int64) (b : Bool) (sz : Nat)  : zL l yX0_lowest wsX0_lowest ({ frames := 1, cells := 0, slots := 0, locals := 26 }) D cI cB tE tN [.long p0, .long q0, .int (b2i b)] [] sz (fun u : Unit => []) (fun (r : Int64) (u : Unit) => r = cLow p0 q0 b) 0 0 := by
  refine zL_mk (cc := cX0_lowest) (maxL := 7) (by decide) rfl (Nat.le_of_ble_eq_true rfl) ?_
  intro p e s m below meth c A Q ls S0 hname hA hK hP hD hT hS hQ hl
  obtain ⟨hx, hb, hml, hown, hts⟩ := id S0
  have hl : lv_has ls 7 [(0, .long p0), (2, .long q0), (4, .int (b2i b))] := hl
  refine lv_lload_n hx hb dX0_lowest_0 rfl (lv_at hl 0 rfl) ?_
  refine lv_lload_n hx hb dX0_lowest_1 rfl (lv_at hl 1 rfl) ?_
  refine z_SL (n := 2) (wn := (fun u : Unit => [])) (wr := []) (As := [.long p0, .long q0]) (rest := []) ⟨hx, hb, hml, hown, hts⟩ hK hP hD hS hA hT (kX0_sharedDivisor l D cI cB tE tN p0 q0 _ ) gX0_lowest_X0_sharedDivisor rfl rfl rfl (by decide +kernel) ⟨Nat.le_of_ble_eq_true rfl, Nat.le_of_ble_eq_true rfl⟩ [] [] [] (by decide) rfl rfl (by decide) (by decide) (by decide) (fun u => rfl) rfl hl.1 rfl (Nat.le_of_ble_eq_true rfl) dX0_lowest_2 ⟨Nat.le_of_ble_eq_true rfl, Nat.le_of_ble_eq_true rfl⟩ (fun r_1 u H locs hw_2 hP hD hS => ?_)
  try dsimp only at hw_2
  have hP : va_P D vwCl [] H := hP
  have hD : va_D A [] := hD
  subst r_1
  refine lv_lstore (lv' := [(5, .long (sdF 100 p0 q0)), (0, .long p0), (2, .long q0), (4, .int (b2i b))]) hx hb dX0_lowest_5 hl (by decide) rfl (fun ls hl => ?_)
  refine lv_lload hx hb dX0_lowest_7 (lv_at hl 0 rfl) ?_
  refine lv_lconst (v := 0) hx hb dX0_lowest_9 (by decide) ?_
  refine W.lcmp hx hb dX0_lowest_10 ?_
  refine lv_if_ne (tgt := 16) hx hb dX0_lowest_11 (by decide) (fun c_3 => ?_) (fun c_3 => ?_)
  · skip
    have c_3 := mt (lg_cmp_eq _ _).mpr c_3
    refine lv_iload hx hb dX0_lowest_16 (lv_at hl 3 rfl) ?_
    refine lv_if_eq (tgt := 25) hx hb dX0_lowest_18 (by decide) (fun c_4 => ?_) (fun c_4 => ?_)
    · skip
      have c_4 := z_b0 c_4
      refine lv_lload_n hx hb dX0_lowest_25 rfl (lv_at hl 2 rfl) ?_
      refine lv_lload hx hb dX0_lowest_26 (lv_at hl 0 rfl) ?_
      refine lv_ldiv hx hb dX0_lowest_28 (c_3) ?_
      exact hQ (q0 / (sdF 100 p0 q0)) () _ _ _ _ (by simp [cLow, c_3, c_4]) hP hD hS dX0_lowest_29
    · skip
      have c_4 := z_b1 c_4
      refine lv_lload_n hx hb dX0_lowest_21 rfl (lv_at hl 1 rfl) ?_
      refine lv_goto (tgt := 26) hx hb dX0_lowest_22 (by decide) ?_
      refine lv_lload hx hb dX0_lowest_26 (lv_at hl 0 rfl) ?_
      refine lv_ldiv hx hb dX0_lowest_28 (c_3) ?_
      exact hQ (p0 / (sdF 100 p0 q0)) () _ _ _ _ (by simp [cLow, c_3, c_4]) hP hD hS dX0_lowest_29
  · skip
    have c_3 := (lg_cmp_eq _ _).mp c_3
    refine lv_lconst (v := 0) hx hb dX0_lowest_14 (by decide) ?_
    exact hQ 0 () _ _ _ _ (by simp [cLow, c_3]) hP hD hS dX0_lowest_15

set_option maxHeartbeats 4000000 in
set_option maxRecDepth 100000 in
theorem kX0_part (l : Launch) (D : va_G) (cI cB : ClassId) (tE tN : Nat) (aF : Nat) (t1 : Int64) (t2 : Int64) (t3 : Int64) (t4 : Int64) (w : Nat) (sz : Nat) (hw : w ≤ 3) : zL l yX0_part wsX0_part ({ frames := 2, cells := 0, slots := 0, locals := 52 }) D cI cB tE tN [.ref aF, .int (nI w)] [(aF, .inr (0, [.long t1, .long t2, .long t3, .long t4]))] sz (fun u : Unit => [(aF, .inr (0, [.long t1, .long t2, .long t3, .long t4]))]) (fun (r : Int64) (u : Unit) => r = cPt t1 t2 t3 t4 w) 0 0 := by
  refine zL_mk (cc := cX0_part) (maxL := 2) (by decide) rfl (Nat.le_of_ble_eq_true rfl) ?_
  intro p e s m below meth c A Q ls S0 hname hA hK hP hD hT hS hQ hl
  obtain ⟨hx, hb, hml, hown, hts⟩ := id S0
  have hl : lv_has ls 2 [(0, .ref aF), (1, .int (nI w))] := hl
  have L19 : (Cond.fieldLink RX0 19 "PastAndClear$Approach" "nearAbove" "J").before ([.ref aF, .int (nI w)] : List Value).toArray s = true := hts (.fieldLink RX0 19 "PastAndClear$Approach" "nearAbove" "J") (by decide +kernel)
  have N0 : ∀ w ∈ u_ws RX0 TX0 4, w ∈ wsX0_part := by decide +kernel
  have L13 : (Cond.fieldLink RX0 13 "PastAndClear$Approach" "nearBelow" "J").before ([.ref aF, .int (nI w)] : List Value).toArray s = true := hts (.fieldLink RX0 13 "PastAndClear$Approach" "nearBelow" "J") (by decide +kernel)
  have L16 : (Cond.fieldLink RX0 16 "PastAndClear$Approach" "timeAbove" "J").before ([.ref aF, .int (nI w)] : List Value).toArray s = true := hts (.fieldLink RX0 16 "PastAndClear$Approach" "timeAbove" "J") (by decide +kernel)
  have L7 : (Cond.fieldLink RX0 7 "PastAndClear$Approach" "timeBelow" "J").before ([.ref aF, .int (nI w)] : List Value).toArray s = true := hts (.fieldLink RX0 7 "PastAndClear$Approach" "timeBelow" "J") (by decide +kernel)
  refine lv_iload_n hx hb dX0_part_0 rfl (lv_at hl 1 rfl) ?_
  refine lv_iconst (v := 2) hx hb dX0_part_1 (by decide) ?_
  refine lv_icmp_ge (tgt := 26) hx hb dX0_part_2 (by decide) (fun c_1 => ?_) (fun c_1 => ?_)
  · skip
    have c_1 := (z_le (a := 2) (b := w) rfl rfl (by omega) (by omega)).mp c_1
    have c_1 : ¬ w < 2 := by omega
    refine lv_aload_n hx hb dX0_part_26 rfl (lv_at hl 0 rfl) ?_
    refine va_get (D := D) (ci := 0) (v := .long t3) (C := RX0) (T := TX0) (N := 4) hx hb hts N0 hown hK hP 0 rfl rfl 2 (by decide) L19 (fun _ h9 => h9) rfl dX0_part_27 ?_
    refine lv_aload_n hx hb dX0_part_30 rfl (lv_at hl 0 rfl) ?_
    refine va_get (D := D) (ci := 0) (v := .long t4) (C := RX0) (T := TX0) (N := 4) hx hb hts N0 hown hK hP 0 rfl rfl 3 (by decide) L13 (fun _ h9 => h9) rfl dX0_part_31 ?_
    refine lv_iload_n hx hb dX0_part_34 rfl (lv_at hl 1 rfl) ?_
    refine lv_iconst (v := 2) hx hb dX0_part_35 (by decide) ?_
    refine lv_icmp_ne (tgt := 43) hx hb dX0_part_36 (by decide) (fun c_2 => ?_) (fun c_2 => ?_)
    · skip
      have c_2 := (z_eqn (a := w) (b := 2) rfl rfl (by omega) (by omega)).mp c_2
      refine lv_iconst (v := 0) hx hb dX0_part_43 (by decide) ?_
      refine z_SL (n := 3) (wn := (fun u : Unit => [(aF, .inr (0, [.long t1, .long t2, .long t3, .long t4]))])) (wr := [(aF, .inr (0, [.long t1, .long t2, .long t3, .long t4]))]) (As := [.long t3, .long t4, .int 0]) (rest := []) ⟨hx, hb, hml, hown, hts⟩ hK hP hD hS hA hT (kX0_lowest l D cI cB tE tN t3 t4 false _ ) gX0_part_X0_lowest rfl rfl rfl (by decide +kernel) ⟨Nat.le_of_ble_eq_true rfl, Nat.le_of_ble_eq_true rfl⟩ [] [0] [0] (by decide) rfl rfl (by decide) (by decide) (by decide) (fun u => rfl) rfl hl.1 rfl (Nat.le_of_ble_eq_true rfl) dX0_part_44 ⟨Nat.le_of_ble_eq_true rfl, Nat.le_of_ble_eq_true rfl⟩ (fun r_3 u H locs hw_4 hP hD hS => ?_)
      try dsimp only at hw_4
      have hP : va_P D vwCl [(aF, .inr (0, [.long t1, .long t2, .long t3, .long t4]))] H := hP
      have hD : va_D A [(aF, .inr (0, [.long t1, .long t2, .long t3, .long t4]))] := hD
      subst r_3
      exact hQ (cLow t3 t4 false) () _ _ _ _ (by simp [cPt, c_1, c_2]) hP hD hS dX0_part_47
    · skip
      have c_2 := (z_eq (a := w) (b := 2) rfl rfl (by omega) (by omega)).mp c_2
      refine lv_iconst (v := 1) hx hb dX0_part_39 (by decide) ?_
      refine lv_goto (tgt := 44) hx hb dX0_part_40 (by decide) ?_
      refine z_SL (n := 3) (wn := (fun u : Unit => [(aF, .inr (0, [.long t1, .long t2, .long t3, .long t4]))])) (wr := [(aF, .inr (0, [.long t1, .long t2, .long t3, .long t4]))]) (As := [.long t3, .long t4, .int 1]) (rest := []) ⟨hx, hb, hml, hown, hts⟩ hK hP hD hS hA hT (kX0_lowest l D cI cB tE tN t3 t4 true _ ) gX0_part_X0_lowest rfl rfl rfl (by decide +kernel) ⟨Nat.le_of_ble_eq_true rfl, Nat.le_of_ble_eq_true rfl⟩ [] [0] [0] (by decide) rfl rfl (by decide) (by decide) (by decide) (fun u => rfl) rfl hl.1 rfl (Nat.le_of_ble_eq_true rfl) dX0_part_44 ⟨Nat.le_of_ble_eq_true rfl, Nat.le_of_ble_eq_true rfl⟩ (fun r_5 u H locs hw_6 hP hD hS => ?_)
      try dsimp only at hw_6
      have hP : va_P D vwCl [(aF, .inr (0, [.long t1, .long t2, .long t3, .long t4]))] H := hP
      have hD : va_D A [(aF, .inr (0, [.long t1, .long t2, .long t3, .long t4]))] := hD
      subst r_5
      exact hQ (cLow t3 t4 true) () _ _ _ _ (by simp [cPt, c_1, c_2]) hP hD hS dX0_part_47
  · skip
    have c_1 := (z_len (a := 2) (b := w) rfl rfl (by omega) (by omega)).mp c_1
    refine lv_aload_n hx hb dX0_part_5 rfl (lv_at hl 0 rfl) ?_
    refine va_get (D := D) (ci := 0) (v := .long t1) (C := RX0) (T := TX0) (N := 4) hx hb hts N0 hown hK hP 0 rfl rfl 0 (by decide) L16 (fun _ h9 => h9) rfl dX0_part_6 ?_
    refine lv_aload_n hx hb dX0_part_9 rfl (lv_at hl 0 rfl) ?_
    refine va_get (D := D) (ci := 0) (v := .long t2) (C := RX0) (T := TX0) (N := 4) hx hb hts N0 hown hK hP 0 rfl rfl 1 (by decide) L7 (fun _ h9 => h9) rfl dX0_part_10 ?_
    refine lv_iload_n hx hb dX0_part_13 rfl (lv_at hl 1 rfl) ?_
    refine lv_if_ne (tgt := 21) hx hb dX0_part_14 (by decide) (fun c_7 => ?_) (fun c_7 => ?_)
    · skip
      have c_7 := (z_eqn (a := w) (b := 0) rfl rfl (by omega) (by omega)).mp c_7
      refine lv_iconst (v := 0) hx hb dX0_part_21 (by decide) ?_
      refine z_SL (n := 3) (wn := (fun u : Unit => [(aF, .inr (0, [.long t1, .long t2, .long t3, .long t4]))])) (wr := [(aF, .inr (0, [.long t1, .long t2, .long t3, .long t4]))]) (As := [.long t1, .long t2, .int 0]) (rest := []) ⟨hx, hb, hml, hown, hts⟩ hK hP hD hS hA hT (kX0_lowest l D cI cB tE tN t1 t2 false _ ) gX0_part_X0_lowest rfl rfl rfl (by decide +kernel) ⟨Nat.le_of_ble_eq_true rfl, Nat.le_of_ble_eq_true rfl⟩ [] [0] [0] (by decide) rfl rfl (by decide) (by decide) (by decide) (fun u => rfl) rfl hl.1 rfl (Nat.le_of_ble_eq_true rfl) dX0_part_22 ⟨Nat.le_of_ble_eq_true rfl, Nat.le_of_ble_eq_true rfl⟩ (fun r_8 u H locs hw_9 hP hD hS => ?_)
      try dsimp only at hw_9
      have hP : va_P D vwCl [(aF, .inr (0, [.long t1, .long t2, .long t3, .long t4]))] H := hP
      have hD : va_D A [(aF, .inr (0, [.long t1, .long t2, .long t3, .long t4]))] := hD
      subst r_8
      exact hQ (cLow t1 t2 false) () _ _ _ _ (by simp [cPt, c_1, c_7]) hP hD hS dX0_part_25
    · skip
      have c_7 := (z_eq (a := w) (b := 0) rfl rfl (by omega) (by omega)).mp c_7
      refine lv_iconst (v := 1) hx hb dX0_part_17 (by decide) ?_
      refine lv_goto (tgt := 22) hx hb dX0_part_18 (by decide) ?_
      refine z_SL (n := 3) (wn := (fun u : Unit => [(aF, .inr (0, [.long t1, .long t2, .long t3, .long t4]))])) (wr := [(aF, .inr (0, [.long t1, .long t2, .long t3, .long t4]))]) (As := [.long t1, .long t2, .int 1]) (rest := []) ⟨hx, hb, hml, hown, hts⟩ hK hP hD hS hA hT (kX0_lowest l D cI cB tE tN t1 t2 true _ ) gX0_part_X0_lowest rfl rfl rfl (by decide +kernel) ⟨Nat.le_of_ble_eq_true rfl, Nat.le_of_ble_eq_true rfl⟩ [] [0] [0] (by decide) rfl rfl (by decide) (by decide) (by decide) (fun u => rfl) rfl hl.1 rfl (Nat.le_of_ble_eq_true rfl) dX0_part_22 ⟨Nat.le_of_ble_eq_true rfl, Nat.le_of_ble_eq_true rfl⟩ (fun r_10 u H locs hw_11 hP hD hS => ?_)
      try dsimp only at hw_11
      have hP : va_P D vwCl [(aF, .inr (0, [.long t1, .long t2, .long t3, .long t4]))] H := hP
      have hD : va_D A [(aF, .inr (0, [.long t1, .long t2, .long t3, .long t4]))] := hD
      subst r_10
      exact hQ (cLow t1 t2 true) () _ _ _ _ (by simp [cPt, c_1, c_7]) hP hD hS dX0_part_25
