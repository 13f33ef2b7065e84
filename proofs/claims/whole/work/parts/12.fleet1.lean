theorem z_sub {a b : Nat} (h : b ≤ a) : nI a - nI b = nI (a - b) := by
  have e : nI a = nI (a - b) + nI b := by rw [nI_add]; congr 1; omega
  rw [e, Int32.add_sub_cancel]
theorem cShip_n {f : Nat → Int32} {N : Nat} {i : Int32} (hN : f 35 = nI N) (hN6 : N ≤ 6) (h : cShip f i = true) : ∃ n : Nat, i = nI n ∧ n ≤ N := by
  have h := of_decide_eq_true h
  exact z_nat (Int32.not_lt.mp h.1) (by rw [← hN]; exact Int32.not_lt.mp h.2) (by omega)
theorem cOther_n {f : Nat → Int32} {N : Nat} {i : Int32} (hN : f 35 = nI N) (hN6 : N ≤ 6) (h : cOther f i = true) : ∃ n : Nat, i = nI n ∧ 1 ≤ n ∧ n ≤ N := by
  have h := of_decide_eq_true h
  have h1 := Int32.not_le.mp h.1
  obtain ⟨n, e, q⟩ := z_nat (b := N) (Int32.le_of_lt h1) (by rw [← hN]; exact Int32.not_lt.mp h.2) (by omega)
  refine ⟨n, e, ?_, q⟩
  rw [e] at h1
  exact (z_lt (a := 0) rfl rfl (by omega) (by omega)).mp h1
set_option maxHeartbeats 4000000 in
set_option maxRecDepth 100000 in
theorem kX1_isPlace (l : Launch) (D : va_G) (cI cB : ClassId) (tE tN : Nat) (v : Int32) (sz : Nat)  : zI l yX1_isPlace wsX1_isPlace ({ frames := 0, cells := 0, slots := 0, locals := 0 }) D cI cB tE tN [.int v] [] sz (fun u : Unit => []) (fun (r : Int32) (u : Unit) => r = b2i (cPlace v)) 0 0 := by
  refine zI_mk (cc := cX1_isPlace) (maxL := 1) (rt := .boolean) (by decide) rfl (Nat.le_of_ble_eq_true rfl) ?_
  intro p e s m below meth c A Q ls S0 hname hA hK hP hD hT hS hQ hl
  obtain ⟨hx, hb, hml, hown, hts⟩ := id S0
  have hl : lv_has ls 1 [(0, .int v)] := hl
  refine lv_iload_n hx hb dX1_isPlace_0 rfl (lv_at hl 0 rfl) ?_
  refine lv_sipush (v := (-9999)) hx hb dX1_isPlace_1 (by decide) ?_
  refine lv_icmp_lt (tgt := 18) hx hb dX1_isPlace_4 (by decide) (fun c_1 => ?_) (fun c_1 => ?_)
  · skip
    refine lv_iconst (v := 0) hx hb dX1_isPlace_18 (by decide) ?_
    exact hQ 0 () _ _ _ _ (rfl) (by simp [b2i, cPlace, c_1]) hP hD hS dX1_isPlace_19
  · skip
    refine lv_iload_n hx hb dX1_isPlace_7 rfl (lv_at hl 0 rfl) ?_
    refine lv_sipush (v := 9999) hx hb dX1_isPlace_8 (by decide) ?_
    refine lv_icmp_gt (tgt := 18) hx hb dX1_isPlace_11 (by decide) (fun c_2 => ?_) (fun c_2 => ?_)
    · skip
      refine lv_iconst (v := 0) hx hb dX1_isPlace_18 (by decide) ?_
      exact hQ 0 () _ _ _ _ (rfl) (by simp [b2i, cPlace, c_1, c_2]) hP hD hS dX1_isPlace_19
    · skip
      refine lv_iconst (v := 1) hx hb dX1_isPlace_14 (by decide) ?_
      refine lv_goto (tgt := 19) hx hb dX1_isPlace_15 (by decide) ?_
      exact hQ 1 () _ _ _ _ (rfl) (by simp [b2i, cPlace, c_1, c_2]) hP hD hS dX1_isPlace_19

set_option maxHeartbeats 4000000 in
set_option maxRecDepth 100000 in
theorem kX4_isCourse (l : Launch) (D : va_G) (cI cB : ClassId) (tE tN : Nat) (ph : Int32) (ps : Int32) (sz : Nat)  : zI l yX4_isCourse wsX4_isCourse ({ frames := 0, cells := 0, slots := 0, locals := 0 }) D cI cB tE tN [.int ph, .int ps] [] sz (fun u : Unit => []) (fun (r : Int32) (u : Unit) => r = b2i (cCourse ph ps)) 0 0 := by
  refine zI_mk (cc := cX4_isCourse) (maxL := 2) (rt := .boolean) (by decide) rfl (Nat.le_of_ble_eq_true rfl) ?_
  intro p e s m below meth c A Q ls S0 hname hA hK hP hD hT hS hQ hl
  obtain ⟨hx, hb, hml, hown, hts⟩ := id S0
  have hl : lv_has ls 2 [(0, .int ph), (1, .int ps)] := hl
  refine lv_iload_n hx hb dX4_isCourse_0 rfl (lv_at hl 0 rfl) ?_
  refine lv_if_lt (tgt := 24) hx hb dX4_isCourse_1 (by decide) (fun c_1 => ?_) (fun c_1 => ?_)
  · skip
    refine lv_iconst (v := 0) hx hb dX4_isCourse_24 (by decide) ?_
    exact hQ 0 () _ _ _ _ (rfl) (by simp [b2i, cCourse, c_1]) hP hD hS dX4_isCourse_25
  · skip
    refine lv_iload_n hx hb dX4_isCourse_4 rfl (lv_at hl 0 rfl) ?_
    refine lv_bipush (v := 16) hx hb dX4_isCourse_5 (by decide) ?_
    refine lv_icmp_ge (tgt := 24) hx hb dX4_isCourse_7 (by decide) (fun c_2 => ?_) (fun c_2 => ?_)
    · skip
      refine lv_iconst (v := 0) hx hb dX4_isCourse_24 (by decide) ?_
      exact hQ 0 () _ _ _ _ (rfl) (by simp [b2i, cCourse, c_1, c_2]) hP hD hS dX4_isCourse_25
    · skip
      refine lv_iload_n hx hb dX4_isCourse_10 rfl (lv_at hl 1 rfl) ?_
      refine lv_if_lt (tgt := 24) hx hb dX4_isCourse_11 (by decide) (fun c_3 => ?_) (fun c_3 => ?_)
      · skip
        refine lv_iconst (v := 0) hx hb dX4_isCourse_24 (by decide) ?_
        exact hQ 0 () _ _ _ _ (rfl) (by simp [b2i, cCourse, c_1, c_2, c_3]) hP hD hS dX4_isCourse_25
      · skip
        refine lv_iload_n hx hb dX4_isCourse_14 rfl (lv_at hl 1 rfl) ?_
        refine lv_bipush (v := 9) hx hb dX4_isCourse_15 (by decide) ?_
        refine lv_icmp_gt (tgt := 24) hx hb dX4_isCourse_17 (by decide) (fun c_4 => ?_) (fun c_4 => ?_)
        · skip
          refine lv_iconst (v := 0) hx hb dX4_isCourse_24 (by decide) ?_
          exact hQ 0 () _ _ _ _ (rfl) (by simp [b2i, cCourse, c_1, c_2, c_3, c_4]) hP hD hS dX4_isCourse_25
        · skip
          refine lv_iconst (v := 1) hx hb dX4_isCourse_20 (by decide) ?_
          refine lv_goto (tgt := 25) hx hb dX4_isCourse_21 (by decide) ?_
          exact hQ 1 () _ _ _ _ (rfl) (by simp [b2i, cCourse, c_1, c_2, c_3, c_4]) hP hD hS dX4_isCourse_25

set_option maxHeartbeats 4000000 in
set_option maxRecDepth 100000 in
theorem kX1_others (l : Launch) (D : va_G) (cI cB : ClassId) (tE tN : Nat) (hF : Nat) (cF : Nat) (aF : Nat) (wF : Nat) (f : Nat → Int32) (sz : Nat)  : zI l yX1_others wsX1_others ({ frames := 0, cells := 0, slots := 0, locals := 0 }) D cI cB tE tN [.ref hF] [(hF, .inr (1, [.ref cF, .ref aF, .ref wF])), (cF, .inl (cI, 39, .inl f))] sz (fun u : Unit => [(hF, .inr (1, [.ref cF, .ref aF, .ref wF])), (cF, .inl (cI, 39, .inl f))]) (fun (r : Int32) (u : Unit) => r = f 35) 0 0 := by
  refine zI_mk (cc := cX1_others) (maxL := 1) (rt := .int) (by decide) rfl (Nat.le_of_ble_eq_true rfl) ?_
  intro p e s m below meth c A Q ls S0 hname hA hK hP hD hT hS hQ hl
  obtain ⟨hx, hb, hml, hown, hts⟩ := id S0
  have hl : lv_has ls 1 [(0, .ref hF)] := hl
  have L11 : (Cond.fieldLink RX1 11 "PastAndClear$Fleet" "cells" "[I").before ([.ref hF] : List Value).toArray s = true := hts (.fieldLink RX1 11 "PastAndClear$Fleet" "cells" "[I") (by decide +kernel)
  have N1 : ∀ w ∈ u_ws RX1 TX1 3, w ∈ wsX1_others := by decide +kernel
  refine lv_aload_n hx hb dX1_others_0 rfl (lv_at hl 0 rfl) ?_
  refine va_get (D := D) (ci := 1) (v := .ref cF) (C := RX1) (T := TX1) (N := 3) hx hb hts N1 hown hK hP 0 rfl rfl 0 (by decide) L11 (fun _ h9 => h9) rfl dX1_others_1 ?_
  refine lv_bipush (v := 35) hx hb dX1_others_4 (by decide) ?_
  refine z_ild (v := f 35) (j := 35) hx hb hK hP 1 rfl rfl (by omega) (by decide) (rfl) dX1_others_6 ?_
  exact hQ (f 35) () _ _ _ _ (rfl) (rfl) hP hD hS dX1_others_7

set_option maxHeartbeats 4000000 in
set_option maxRecDepth 100000 in
theorem kX1_isShip (l : Launch) (D : va_G) (cI cB : ClassId) (tE tN : Nat) (hF : Nat) (cF : Nat) (aF : Nat) (wF : Nat) (f : Nat → Int32) (i : Int32) (sz : Nat)  : zI l yX1_isShip wsX1_isShip ({ frames := 0, cells := 0, slots := 0, locals := 0 }) D cI cB tE tN [.ref hF, .int i] [(hF, .inr (1, [.ref cF, .ref aF, .ref wF])), (cF, .inl (cI, 39, .inl f))] sz (fun u : Unit => [(hF, .inr (1, [.ref cF, .ref aF, .ref wF])), (cF, .inl (cI, 39, .inl f))]) (fun (r : Int32) (u : Unit) => r = b2i (cShip f i)) 0 0 := by
  refine zI_mk (cc := cX1_isShip) (maxL := 2) (rt := .boolean) (by decide) rfl (Nat.le_of_ble_eq_true rfl) ?_
  intro p e s m below meth c A Q ls S0 hname hA hK hP hD hT hS hQ hl
  obtain ⟨hx, hb, hml, hown, hts⟩ := id S0
  have hl : lv_has ls 2 [(0, .ref hF), (1, .int i)] := hl
  have L11 : (Cond.fieldLink RX1 11 "PastAndClear$Fleet" "cells" "[I").before ([.ref hF, .int i] : List Value).toArray s = true := hts (.fieldLink RX1 11 "PastAndClear$Fleet" "cells" "[I") (by decide +kernel)
  have N1 : ∀ w ∈ u_ws RX1 TX1 3, w ∈ wsX1_isShip := by decide +kernel
  refine lv_iload_n hx hb dX1_isShip_0 rfl (lv_at hl 1 rfl) ?_
  refine lv_if_lt (tgt := 19) hx hb dX1_isShip_1 (by decide) (fun c_1 => ?_) (fun c_1 => ?_)
  · skip
    refine lv_iconst (v := 0) hx hb dX1_isShip_19 (by decide) ?_
    exact hQ 0 () _ _ _ _ (rfl) (by simp [b2i, cShip, c_1]) hP hD hS dX1_isShip_20
  · skip
    refine lv_iload_n hx hb dX1_isShip_4 rfl (lv_at hl 1 rfl) ?_
    refine lv_aload_n hx hb dX1_isShip_5 rfl (lv_at hl 0 rfl) ?_
    refine va_get (D := D) (ci := 1) (v := .ref cF) (C := RX1) (T := TX1) (N := 3) hx hb hts N1 hown hK hP 0 rfl rfl 0 (by decide) L11 (fun _ h9 => h9) rfl dX1_isShip_6 ?_
    refine lv_bipush (v := 35) hx hb dX1_isShip_9 (by decide) ?_
    refine z_ild (v := f 35) (j := 35) hx hb hK hP 1 rfl rfl (by omega) (by decide) (rfl) dX1_isShip_11 ?_
    refine lv_icmp_gt (tgt := 19) hx hb dX1_isShip_12 (by decide) (fun c_2 => ?_) (fun c_2 => ?_)
    · skip
      refine lv_iconst (v := 0) hx hb dX1_isShip_19 (by decide) ?_
      exact hQ 0 () _ _ _ _ (rfl) (by simp [b2i, cShip, c_1, c_2]) hP hD hS dX1_isShip_20
    · skip
      refine lv_iconst (v := 1) hx hb dX1_isShip_15 (by decide) ?_
      refine lv_goto (tgt := 20) hx hb dX1_isShip_16 (by decide) ?_
      exact hQ 1 () _ _ _ _ (rfl) (by simp [b2i, cShip, c_1, c_2]) hP hD hS dX1_isShip_20

set_option maxHeartbeats 4000000 in
set_option maxRecDepth 100000 in
theorem kX1_isOther (l : Launch) (D : va_G) (cI cB : ClassId) (tE tN : Nat) (hF : Nat) (cF : Nat) (aF : Nat) (wF : Nat) (f : Nat → Int32) (i : Int32) (sz : Nat)  : zI l yX1_isOther wsX1_isOther ({ frames := 0, cells := 0, slots := 0, locals := 0 }) D cI cB tE tN [.ref hF, .int i] [(hF, .inr (1, [.ref cF, .ref aF, .ref wF])), (cF, .inl (cI, 39, .inl f))] sz (fun u : Unit => [(hF, .inr (1, [.ref cF, .ref aF, .ref wF])), (cF, .inl (cI, 39, .inl f))]) (fun (r : Int32) (u : Unit) => r = b2i (cOther f i)) 0 0 := by
  refine zI_mk (cc := cX1_isOther) (maxL := 2) (rt := .boolean) (by decide) rfl (Nat.le_of_ble_eq_true rfl) ?_
  intro p e s m below meth c A Q ls S0 hname hA hK hP hD hT hS hQ hl
  obtain ⟨hx, hb, hml, hown, hts⟩ := id S0
  have hl : lv_has ls 2 [(0, .ref hF), (1, .int i)] := hl
  have L11 : (Cond.fieldLink RX1 11 "PastAndClear$Fleet" "cells" "[I").before ([.ref hF, .int i] : List Value).toArray s = true := hts (.fieldLink RX1 11 "PastAndClear$Fleet" "cells" "[I") (by decide +kernel)
  have N1 : ∀ w ∈ u_ws RX1 TX1 3, w ∈ wsX1_isOther := by decide +kernel
  refine lv_iload_n hx hb dX1_isOther_0 rfl (lv_at hl 1 rfl) ?_
  refine lv_if_le (tgt := 19) hx hb dX1_isOther_1 (by decide) (fun c_1 => ?_) (fun c_1 => ?_)
  · skip
    refine lv_iconst (v := 0) hx hb dX1_isOther_19 (by decide) ?_
    exact hQ 0 () _ _ _ _ (rfl) (by simp [b2i, cOther, c_1]) hP hD hS dX1_isOther_20
  · skip
    refine lv_iload_n hx hb dX1_isOther_4 rfl (lv_at hl 1 rfl) ?_
    refine lv_aload_n hx hb dX1_isOther_5 rfl (lv_at hl 0 rfl) ?_
    refine va_get (D := D) (ci := 1) (v := .ref cF) (C := RX1) (T := TX1) (N := 3) hx hb hts N1 hown hK hP 0 rfl rfl 0 (by decide) L11 (fun _ h9 => h9) rfl dX1_isOther_6 ?_
    refine lv_bipush (v := 35) hx hb dX1_isOther_9 (by decide) ?_
    refine z_ild (v := f 35) (j := 35) hx hb hK hP 1 rfl rfl (by omega) (by decide) (rfl) dX1_isOther_11 ?_
    refine lv_icmp_gt (tgt := 19) hx hb dX1_isOther_12 (by decide) (fun c_2 => ?_) (fun c_2 => ?_)
    · skip
      refine lv_iconst (v := 0) hx hb dX1_isOther_19 (by decide) ?_
      exact hQ 0 () _ _ _ _ (rfl) (by simp [b2i, cOther, c_1, c_2]) hP hD hS dX1_isOther_20
    · skip
      refine lv_iconst (v := 1) hx hb dX1_isOther_15 (by decide) ?_
      refine lv_goto (tgt := 20) hx hb dX1_isOther_16 (by decide) ?_
      exact hQ 1 () _ _ _ _ (rfl) (by simp [b2i, cOther, c_1, c_2]) hP hD hS dX1_isOther_20

set_option maxHeartbeats 4000000 in
set_option maxRecDepth 100000 in
theorem kX1_isPair (l : Launch) (D : va_G) (cI cB : ClassId) (tE tN : Nat) (hF : Nat) (cF : Nat) (aF : Nat) (wF : Nat) (f : Nat → Int32) (i : Int32) (j : Int32) (sz : Nat)  : zI l yX1_isPair wsX1_isPair ({ frames := 1, cells := 0, slots := 0, locals := 21 }) D cI cB tE tN [.ref hF, .int i, .int j] [(hF, .inr (1, [.ref cF, .ref aF, .ref wF])), (cF, .inl (cI, 39, .inl f))] sz (fun u : Unit => [(hF, .inr (1, [.ref cF, .ref aF, .ref wF])), (cF, .inl (cI, 39, .inl f))]) (fun (r : Int32) (u : Unit) => r = b2i (cPair f i j)) 0 0 := by
  refine zI_mk (cc := cX1_isPair) (maxL := 3) (rt := .boolean) (by decide) rfl (Nat.le_of_ble_eq_true rfl) ?_
  intro p e s m below meth c A Q ls S0 hname hA hK hP hD hT hS hQ hl
  obtain ⟨hx, hb, hml, hown, hts⟩ := id S0
  have hl : lv_has ls 3 [(0, .ref hF), (1, .int i), (2, .int j)] := hl
  refine lv_aload_n hx hb dX1_isPair_0 rfl (lv_at hl 0 rfl) ?_
  refine lv_iload_n hx hb dX1_isPair_1 rfl (lv_at hl 1 rfl) ?_
  refine z_VI (n := 1) (wn := (fun u : Unit => [(hF, .inr (1, [.ref cF, .ref aF, .ref wF])), (cF, .inl (cI, 39, .inl f))])) (wr := []) (As := [.int i]) (rest := []) ⟨hx, hb, hml, hown, hts⟩ hK hP hD hS hA hT (kX1_isShip l D cI cB tE tN hF cF aF wF f i _ ) gX1_isPair_X1_isShip rfl rfl rfl (by decide +kernel) ⟨Nat.le_of_ble_eq_true rfl, Nat.le_of_ble_eq_true rfl⟩ [0, 1] [] [0, 1] (by decide) rfl rfl (by decide) (by decide) (by decide) (fun u => rfl) 0 1 rfl rfl rfl rfl hl.1 rfl (Nat.le_of_ble_eq_true rfl) dX1_isPair_2 ⟨Nat.le_of_ble_eq_true rfl, Nat.le_of_ble_eq_true rfl⟩ (fun r_1 u H locs hw_2 hP hD hS => ?_)
  try dsimp only at hw_2
  have hP : va_P D vwCl [(hF, .inr (1, [.ref cF, .ref aF, .ref wF])), (cF, .inl (cI, 39, .inl f))] H := hP
  have hD : va_D A [(hF, .inr (1, [.ref cF, .ref aF, .ref wF])), (cF, .inl (cI, 39, .inl f))] := hD
  subst r_1
  refine lv_if_eq (tgt := 25) hx hb dX1_isPair_5 (by decide) (fun c_3 => ?_) (fun c_3 => ?_)
  · skip
    have c_3 := z_b0 c_3
    refine lv_iconst (v := 0) hx hb dX1_isPair_25 (by decide) ?_
    exact hQ 0 () _ _ _ _ (rfl) (by simp [b2i, cPair, c_3]) hP hD hS dX1_isPair_26
  · skip
    have c_3 := z_b1 c_3
    refine lv_aload_n hx hb dX1_isPair_8 rfl (lv_at hl 0 rfl) ?_
    refine lv_iload_n hx hb dX1_isPair_9 rfl (lv_at hl 2 rfl) ?_
    refine z_VI (n := 1) (wn := (fun u : Unit => [(hF, .inr (1, [.ref cF, .ref aF, .ref wF])), (cF, .inl (cI, 39, .inl f))])) (wr := []) (As := [.int j]) (rest := []) ⟨hx, hb, hml, hown, hts⟩ hK hP hD hS hA hT (kX1_isShip l D cI cB tE tN hF cF aF wF f j _ ) gX1_isPair_X1_isShip rfl rfl rfl (by decide +kernel) ⟨Nat.le_of_ble_eq_true rfl, Nat.le_of_ble_eq_true rfl⟩ [0, 1] [] [0, 1] (by decide) rfl rfl (by decide) (by decide) (by decide) (fun u => rfl) 0 1 rfl rfl rfl rfl hl.1 rfl (Nat.le_of_ble_eq_true rfl) dX1_isPair_10 ⟨Nat.le_of_ble_eq_true rfl, Nat.le_of_ble_eq_true rfl⟩ (fun r_4 u H locs hw_5 hP hD hS => ?_)
    try dsimp only at hw_5
    have hP : va_P D vwCl [(hF, .inr (1, [.ref cF, .ref aF, .ref wF])), (cF, .inl (cI, 39, .inl f))] H := hP
    have hD : va_D A [(hF, .inr (1, [.ref cF, .ref aF, .ref wF])), (cF, .inl (cI, 39, .inl f))] := hD
    subst r_4
    refine lv_if_eq (tgt := 25) hx hb dX1_isPair_13 (by decide) (fun c_6 => ?_) (fun c_6 => ?_)
    · skip
      have c_6 := z_b0 c_6
      refine lv_iconst (v := 0) hx hb dX1_isPair_25 (by decide) ?_
      exact hQ 0 () _ _ _ _ (rfl) (by simp [b2i, cPair, c_3, c_6]) hP hD hS dX1_isPair_26
    · skip
      have c_6 := z_b1 c_6
      refine lv_iload_n hx hb dX1_isPair_16 rfl (lv_at hl 1 rfl) ?_
      refine lv_iload_n hx hb dX1_isPair_17 rfl (lv_at hl 2 rfl) ?_
      refine lv_icmp_eq (tgt := 25) hx hb dX1_isPair_18 (by decide) (fun c_7 => ?_) (fun c_7 => ?_)
      · skip
        refine lv_iconst (v := 0) hx hb dX1_isPair_25 (by decide) ?_
        exact hQ 0 () _ _ _ _ (rfl) (by simp [b2i, cPair, c_3, c_6, c_7]) hP hD hS dX1_isPair_26
      · skip
        refine lv_iconst (v := 1) hx hb dX1_isPair_21 (by decide) ?_
        refine lv_goto (tgt := 26) hx hb dX1_isPair_22 (by decide) ?_
        exact hQ 1 () _ _ _ _ (rfl) (by simp [b2i, cPair, c_3, c_6, c_7]) hP hD hS dX1_isPair_26

set_option maxHeartbeats 4000000 in
set_option maxRecDepth 100000 in
theorem kX1_dutyTo (l : Launch) (D : va_G) (cI cB : ClassId) (tE tN : Nat) (hF : Nat) (cF : Nat) (aF : Nat) (wF : Nat) (f : Nat → Int32) (n : Nat) (sz : Nat) (hn : n ≤ 6) : zI l yX1_dutyTo wsX1_dutyTo ({ frames := 0, cells := 0, slots := 0, locals := 0 }) D cI cB tE tN [.ref hF, .int (nI n)] [(hF, .inr (1, [.ref cF, .ref aF, .ref wF])), (cF, .inl (cI, 39, .inl f))] sz (fun u : Unit => [(hF, .inr (1, [.ref cF, .ref aF, .ref wF])), (cF, .inl (cI, 39, .inl f))]) (fun (r : Int32) (u : Unit) => r = f (5 * n + 4)) 0 0 := by
  refine zI_mk (cc := cX1_dutyTo) (maxL := 2) (rt := .int) (by decide) rfl (Nat.le_of_ble_eq_true rfl) ?_
  intro p e s m below meth c A Q ls S0 hname hA hK hP hD hT hS hQ hl
  obtain ⟨hx, hb, hml, hown, hts⟩ := id S0
  have hl : lv_has ls 2 [(0, .ref hF), (1, .int (nI n))] := hl
  have L11 : (Cond.fieldLink RX1 11 "PastAndClear$Fleet" "cells" "[I").before ([.ref hF, .int (nI n)] : List Value).toArray s = true := hts (.fieldLink RX1 11 "PastAndClear$Fleet" "cells" "[I") (by decide +kernel)
  have N1 : ∀ w ∈ u_ws RX1 TX1 3, w ∈ wsX1_dutyTo := by decide +kernel
  refine lv_aload_n hx hb dX1_dutyTo_0 rfl (lv_at hl 0 rfl) ?_
  refine va_get (D := D) (ci := 1) (v := .ref cF) (C := RX1) (T := TX1) (N := 3) hx hb hts N1 hown hK hP 0 rfl rfl 0 (by decide) L11 (fun _ h9 => h9) rfl dX1_dutyTo_1 ?_
  refine lv_iconst (v := 5) hx hb dX1_dutyTo_4 (by decide) ?_
  refine lv_iload_n hx hb dX1_dutyTo_5 rfl (lv_at hl 1 rfl) ?_
  refine lv_imul hx hb dX1_dutyTo_6 ?_
  refine lv_iconst (v := 4) hx hb dX1_dutyTo_7 (by decide) ?_
  refine lv_iadd hx hb dX1_dutyTo_8 ?_
  refine z_ild (v := f ((5 * n) + 4)) (j := (5 * n) + 4) hx hb hK hP 1 rfl (z_add (z_mul rfl rfl) rfl) (by omega) (by decide) (rfl) dX1_dutyTo_9 ?_
  exact hQ (f ((5 * n) + 4)) () _ _ _ _ (rfl) (rfl) hP hD hS dX1_dutyTo_10

set_option maxHeartbeats 4000000 in
set_option maxRecDepth 100000 in
theorem kX1_countOf (l : Launch) (D : va_G) (cI cB : ClassId) (tE tN : Nat) (hF : Nat) (cF : Nat) (aF : Nat) (wF : Nat) (f : Nat → Int32) (w : Nat) (sz : Nat) (hw : w ≤ 3) : zI l yX1_countOf wsX1_countOf ({ frames := 0, cells := 0, slots := 0, locals := 0 }) D cI cB tE tN [.ref hF, .int (nI w)] [(hF, .inr (1, [.ref cF, .ref aF, .ref wF])), (cF, .inl (cI, 39, .inl f))] sz (fun u : Unit => [(hF, .inr (1, [.ref cF, .ref aF, .ref wF])), (cF, .inl (cI, 39, .inl f))]) (fun (r : Int32) (u : Unit) => r = f (35 + w)) 0 0 := by
  refine zI_mk (cc := cX1_countOf) (maxL := 2) (rt := .int) (by decide) rfl (Nat.le_of_ble_eq_true rfl) ?_
  intro p e s m below meth c A Q ls S0 hname hA hK hP hD hT hS hQ hl
  obtain ⟨hx, hb, hml, hown, hts⟩ := id S0
  have hl : lv_has ls 2 [(0, .ref hF), (1, .int (nI w))] := hl
  have L11 : (Cond.fieldLink RX1 11 "PastAndClear$Fleet" "cells" "[I").before ([.ref hF, .int (nI w)] : List Value).toArray s = true := hts (.fieldLink RX1 11 "PastAndClear$Fleet" "cells" "[I") (by decide +kernel)
  have N1 : ∀ w ∈ u_ws RX1 TX1 3, w ∈ wsX1_countOf := by decide +kernel
  refine lv_aload_n hx hb dX1_countOf_0 rfl (lv_at hl 0 rfl) ?_
  refine va_get (D := D) (ci := 1) (v := .ref cF) (C := RX1) (T := TX1) (N := 3) hx hb hts N1 hown hK hP 0 rfl rfl 0 (by decide) L11 (fun _ h9 => h9) rfl dX1_countOf_1 ?_
  refine lv_bipush (v := 35) hx hb dX1_countOf_4 (by decide) ?_
  refine lv_iload_n hx hb dX1_countOf_6 rfl (lv_at hl 1 rfl) ?_
  refine lv_iadd hx hb dX1_countOf_7 ?_
  refine z_ild (v := f (35 + w)) (j := 35 + w) hx hb hK hP 1 rfl (z_add rfl rfl) (by omega) (by decide) (rfl) dX1_countOf_8 ?_
  exact hQ (f (35 + w)) () _ _ _ _ (rfl) (rfl) hP hD hS dX1_countOf_9

set_option maxHeartbeats 4000000 in
set_option maxRecDepth 100000 in
theorem kX1_eastward (l : Launch) (D : va_G) (cI cB : ClassId) (tE tN : Nat) (hF : Nat) (cF : Nat) (aF : Nat) (wF : Nat) (f : Nat → Int32) (n : Nat) (sz : Nat) (hn : n ≤ 6) : zI l yX1_eastward wsX1_eastward ({ frames := 0, cells := 0, slots := 0, locals := 0 }) D cI cB tE tN [.ref hF, .int (nI n)] [(hF, .inr (1, [.ref cF, .ref aF, .ref wF])), (cF, .inl (cI, 39, .inl f))] sz (fun u : Unit => [(hF, .inr (1, [.ref cF, .ref aF, .ref wF])), (cF, .inl (cI, 39, .inl f))]) (fun (r : Int32) (u : Unit) => r = cEast f n) 0 0 := by
  refine zI_mk (cc := cX1_eastward) (maxL := 2) (rt := .int) (by decide) rfl (Nat.le_of_ble_eq_true rfl) ?_
  intro p e s m below meth c A Q ls S0 hname hA hK hP hD hT hS hQ hl
  obtain ⟨hx, hb, hml, hown, hts⟩ := id S0
  have hl : lv_has ls 2 [(0, .ref hF), (1, .int (nI n))] := hl
  have L11 : (Cond.fieldLink RX1 11 "PastAndClear$Fleet" "cells" "[I").before ([.ref hF, .int (nI n)] : List Value).toArray s = true := hts (.fieldLink RX1 11 "PastAndClear$Fleet" "cells" "[I") (by decide +kernel)
  have N1 : ∀ w ∈ u_ws RX1 TX1 3, w ∈ wsX1_eastward := by decide +kernel
  have L36 : (Cond.fieldLink RX1 36 "PastAndClear$Fleet" "EAST" "[I").before ([.ref hF, .int (nI n)] : List Value).toArray s = true := hts (.fieldLink RX1 36 "PastAndClear$Fleet" "EAST" "[I") (by decide +kernel)
  refine lv_aload_n hx hb dX1_eastward_0 rfl (lv_at hl 0 rfl) ?_
  refine va_get (D := D) (ci := 1) (v := .ref cF) (C := RX1) (T := TX1) (N := 3) hx hb hts N1 hown hK hP 0 rfl rfl 0 (by decide) L11 (fun _ h9 => h9) rfl dX1_eastward_1 ?_
  refine lv_iconst (v := 5) hx hb dX1_eastward_4 (by decide) ?_
  refine lv_iload_n hx hb dX1_eastward_5 rfl (lv_at hl 1 rfl) ?_
  refine lv_imul hx hb dX1_eastward_6 ?_
  refine lv_iconst (v := 3) hx hb dX1_eastward_7 (by decide) ?_
  refine lv_iadd hx hb dX1_eastward_8 ?_
  refine z_ild (v := f ((5 * n) + 3)) (j := (5 * n) + 3) hx hb hK hP 1 rfl (z_add (z_mul rfl rfl) rfl) (by omega) (by decide) (rfl) dX1_eastward_9 ?_
  refine va_gets hx hb hT.1.1 hS hown L36 (fun _ h9 => h9) dX1_eastward_10 ?_
  refine lv_aload_n hx hb dX1_eastward_13 rfl (lv_at hl 0 rfl) ?_
  refine va_get (D := D) (ci := 1) (v := .ref cF) (C := RX1) (T := TX1) (N := 3) hx hb hts N1 hown hK hP 0 rfl rfl 0 (by decide) L11 (fun _ h9 => h9) rfl dX1_eastward_14 ?_
  refine lv_iconst (v := 5) hx hb dX1_eastward_17 (by decide) ?_
  refine lv_iload_n hx hb dX1_eastward_18 rfl (lv_at hl 1 rfl) ?_
  refine lv_imul hx hb dX1_eastward_19 ?_
  refine lv_iconst (v := 2) hx hb dX1_eastward_20 (by decide) ?_
  refine lv_iadd hx hb dX1_eastward_21 ?_
  refine z_ild (v := f ((5 * n) + 2)) (j := (5 * n) + 2) hx hb hK hP 1 rfl (z_add (z_mul rfl rfl) rfl) (by omega) (by decide) (rfl) dX1_eastward_22 ?_
  refine lv_bipush (v := 15) hx hb dX1_eastward_23 (by decide) ?_
  refine lv_iand hx hb dX1_eastward_25 ?_
  refine va_ti (v := .int (eE ((f ((5 * n) + 2)) &&& 15).toNatClampNeg)) hx hb hT.1.2 hS (z_and15 _) rfl dX1_eastward_26 ?_
  refine lv_imul hx hb dX1_eastward_27 ?_
  exact hQ ((f ((5 * n) + 3)) * (eE ((f ((5 * n) + 2)) &&& 15).toNatClampNeg)) () _ _ _ _ (rfl) (rfl) hP hD hS dX1_eastward_28

set_option maxHeartbeats 4000000 in
set_option maxRecDepth 100000 in
theorem kX1_northward (l : Launch) (D : va_G) (cI cB : ClassId) (tE tN : Nat) (hF : Nat) (cF : Nat) (aF : Nat) (wF : Nat) (f : Nat → Int32) (n : Nat) (sz : Nat) (hn : n ≤ 6) : zI l yX1_northward wsX1_northward ({ frames := 0, cells := 0, slots := 0, locals := 0 }) D cI cB tE tN [.ref hF, .int (nI n)] [(hF, .inr (1, [.ref cF, .ref aF, .ref wF])), (cF, .inl (cI, 39, .inl f))] sz (fun u : Unit => [(hF, .inr (1, [.ref cF, .ref aF, .ref wF])), (cF, .inl (cI, 39, .inl f))]) (fun (r : Int32) (u : Unit) => r = cNorth f n) 0 0 := by
  refine zI_mk (cc := cX1_northward) (maxL := 2) (rt := .int) (by decide) rfl (Nat.le_of_ble_eq_true rfl) ?_
  intro p e s m below meth c A Q ls S0 hname hA hK hP hD hT hS hQ hl
  obtain ⟨hx, hb, hml, hown, hts⟩ := id S0
  have hl : lv_has ls 2 [(0, .ref hF), (1, .int (nI n))] := hl
  have L11 : (Cond.fieldLink RX1 11 "PastAndClear$Fleet" "cells" "[I").before ([.ref hF, .int (nI n)] : List Value).toArray s = true := hts (.fieldLink RX1 11 "PastAndClear$Fleet" "cells" "[I") (by decide +kernel)
  have N1 : ∀ w ∈ u_ws RX1 TX1 3, w ∈ wsX1_northward := by decide +kernel
  have L39 : (Cond.fieldLink RX1 39 "PastAndClear$Fleet" "NORTH" "[I").before ([.ref hF, .int (nI n)] : List Value).toArray s = true := hts (.fieldLink RX1 39 "PastAndClear$Fleet" "NORTH" "[I") (by decide +kernel)
  refine lv_aload_n hx hb dX1_northward_0 rfl (lv_at hl 0 rfl) ?_
  refine va_get (D := D) (ci := 1) (v := .ref cF) (C := RX1) (T := TX1) (N := 3) hx hb hts N1 hown hK hP 0 rfl rfl 0 (by decide) L11 (fun _ h9 => h9) rfl dX1_northward_1 ?_
  refine lv_iconst (v := 5) hx hb dX1_northward_4 (by decide) ?_
  refine lv_iload_n hx hb dX1_northward_5 rfl (lv_at hl 1 rfl) ?_
  refine lv_imul hx hb dX1_northward_6 ?_
  refine lv_iconst (v := 3) hx hb dX1_northward_7 (by decide) ?_
  refine lv_iadd hx hb dX1_northward_8 ?_
  refine z_ild (v := f ((5 * n) + 3)) (j := (5 * n) + 3) hx hb hK hP 1 rfl (z_add (z_mul rfl rfl) rfl) (by omega) (by decide) (rfl) dX1_northward_9 ?_
  refine va_gets hx hb hT.2.1.1 hS hown L39 (fun _ h9 => h9) dX1_northward_10 ?_
  refine lv_aload_n hx hb dX1_northward_13 rfl (lv_at hl 0 rfl) ?_
  refine va_get (D := D) (ci := 1) (v := .ref cF) (C := RX1) (T := TX1) (N := 3) hx hb hts N1 hown hK hP 0 rfl rfl 0 (by decide) L11 (fun _ h9 => h9) rfl dX1_northward_14 ?_
  refine lv_iconst (v := 5) hx hb dX1_northward_17 (by decide) ?_
  refine lv_iload_n hx hb dX1_northward_18 rfl (lv_at hl 1 rfl) ?_
  refine lv_imul hx hb dX1_northward_19 ?_
  refine lv_iconst (v := 2) hx hb dX1_northward_20 (by decide) ?_
  refine lv_iadd hx hb dX1_northward_21 ?_
  refine z_ild (v := f ((5 * n) + 2)) (j := (5 * n) + 2) hx hb hK hP 1 rfl (z_add (z_mul rfl rfl) rfl) (by omega) (by decide) (rfl) dX1_northward_22 ?_
  refine lv_bipush (v := 15) hx hb dX1_northward_23 (by decide) ?_
  refine lv_iand hx hb dX1_northward_25 ?_
  refine va_ti (v := .int (eN ((f ((5 * n) + 2)) &&& 15).toNatClampNeg)) hx hb hT.2.1.2 hS (z_and15 _) rfl dX1_northward_26 ?_
  refine lv_imul hx hb dX1_northward_27 ?_
  exact hQ ((f ((5 * n) + 3)) * (eN ((f ((5 * n) + 2)) &&& 15).toNatClampNeg)) () _ _ _ _ (rfl) (rfl) hP hD hS dX1_northward_28

set_option maxHeartbeats 4000000 in
set_option maxRecDepth 100000 in
theorem kX1_partOf (l : Launch) (D : va_G) (cI cB : ClassId) (tE tN : Nat) (hF : Nat) (cF : Nat) (aF : Nat) (wF : Nat) (f : Nat → Int32) (n : Nat) (w : Nat) (sz : Nat) (hn : n ≤ 6) (hw : w ≤ 5) : zI l yX1_partOf wsX1_partOf ({ frames := 1, cells := 0, slots := 0, locals := 21 }) D cI cB tE tN [.ref hF, .int (nI n), .int (nI w)] [(hF, .inr (1, [.ref cF, .ref aF, .ref wF])), (cF, .inl (cI, 39, .inl f))] sz (fun u : Unit => [(hF, .inr (1, [.ref cF, .ref aF, .ref wF])), (cF, .inl (cI, 39, .inl f))]) (fun (r : Int32) (u : Unit) => r = cPart f n w) 0 0 := by
  refine zI_mk (cc := cX1_partOf) (maxL := 3) (rt := .int) (by decide) rfl (Nat.le_of_ble_eq_true rfl) ?_
  intro p e s m below meth c A Q ls S0 hname hA hK hP hD hT hS hQ hl
  obtain ⟨hx, hb, hml, hown, hts⟩ := id S0
  have hl : lv_has ls 3 [(0, .ref hF), (1, .int (nI n)), (2, .int (nI w))] := hl
  have L11 : (Cond.fieldLink RX1 11 "PastAndClear$Fleet" "cells" "[I").before ([.ref hF, .int (nI n), .int (nI w)] : List Value).toArray s = true := hts (.fieldLink RX1 11 "PastAndClear$Fleet" "cells" "[I") (by decide +kernel)
  have N1 : ∀ w ∈ u_ws RX1 TX1 3, w ∈ wsX1_partOf := by decide +kernel
  refine lv_iload_n hx hb dX1_partOf_0 rfl (lv_at hl 2 rfl) ?_
  refine lv_iconst (v := 4) hx hb dX1_partOf_1 (by decide) ?_
  refine lv_icmp_ne (tgt := 11) hx hb dX1_partOf_2 (by decide) (fun c_1 => ?_) (fun c_1 => ?_)
  · skip
    have c_1 := (z_eqn (a := w) (b := 4) rfl rfl (by omega) (by omega)).mp c_1
    refine lv_iload_n hx hb dX1_partOf_11 rfl (lv_at hl 2 rfl) ?_
    refine lv_iconst (v := 5) hx hb dX1_partOf_12 (by decide) ?_
    refine lv_icmp_ne (tgt := 22) hx hb dX1_partOf_13 (by decide) (fun c_2 => ?_) (fun c_2 => ?_)
    · skip
      have c_2 := (z_eqn (a := w) (b := 5) rfl rfl (by omega) (by omega)).mp c_2
      refine lv_aload_n hx hb dX1_partOf_22 rfl (lv_at hl 0 rfl) ?_
      refine va_get (D := D) (ci := 1) (v := .ref cF) (C := RX1) (T := TX1) (N := 3) hx hb hts N1 hown hK hP 0 rfl rfl 0 (by decide) L11 (fun _ h9 => h9) rfl dX1_partOf_23 ?_
      refine lv_iconst (v := 5) hx hb dX1_partOf_26 (by decide) ?_
      refine lv_iload_n hx hb dX1_partOf_27 rfl (lv_at hl 1 rfl) ?_
      refine lv_imul hx hb dX1_partOf_28 ?_
      refine lv_iload_n hx hb dX1_partOf_29 rfl (lv_at hl 2 rfl) ?_
      refine lv_iadd hx hb dX1_partOf_30 ?_
      refine z_ild (v := f ((5 * n) + w)) (j := (5 * n) + w) hx hb hK hP 1 rfl (z_add (z_mul rfl rfl) rfl) (by omega) (by decide) (rfl) dX1_partOf_31 ?_
      exact hQ (f ((5 * n) + w)) () _ _ _ _ (rfl) (by simp [cPart, c_1, c_2]) hP hD hS dX1_partOf_32
    · skip
      have c_2 := (z_eq (a := w) (b := 5) rfl rfl (by omega) (by omega)).mp c_2
      refine lv_aload_n hx hb dX1_partOf_16 rfl (lv_at hl 0 rfl) ?_
      refine lv_iload_n hx hb dX1_partOf_17 rfl (lv_at hl 1 rfl) ?_
      refine z_VI (n := 1) (wn := (fun u : Unit => [(hF, .inr (1, [.ref cF, .ref aF, .ref wF])), (cF, .inl (cI, 39, .inl f))])) (wr := []) (As := [.int (nI n)]) (rest := []) ⟨hx, hb, hml, hown, hts⟩ hK hP hD hS hA hT (kX1_northward l D cI cB tE tN hF cF aF wF f n _ (by omega)) gX1_partOf_X1_northward rfl rfl rfl (by decide +kernel) ⟨Nat.le_of_ble_eq_true rfl, Nat.le_of_ble_eq_true rfl⟩ [0, 1] [] [0, 1] (by decide) rfl rfl (by decide) (by decide) (by decide) (fun u => rfl) 0 1 rfl rfl rfl rfl hl.1 rfl (Nat.le_of_ble_eq_true rfl) dX1_partOf_18 ⟨Nat.le_of_ble_eq_true rfl, Nat.le_of_ble_eq_true rfl⟩ (fun r_3 u H locs hw_4 hP hD hS => ?_)
      try dsimp only at hw_4
      have hP : va_P D vwCl [(hF, .inr (1, [.ref cF, .ref aF, .ref wF])), (cF, .inl (cI, 39, .inl f))] H := hP
      have hD : va_D A [(hF, .inr (1, [.ref cF, .ref aF, .ref wF])), (cF, .inl (cI, 39, .inl f))] := hD
      subst r_3
      exact hQ (cNorth f n) () _ _ _ _ (rfl) (by simp [cPart, c_1, c_2]) hP hD hS dX1_partOf_21
  · skip
    have c_1 := (z_eq (a := w) (b := 4) rfl rfl (by omega) (by omega)).mp c_1
    refine lv_aload_n hx hb dX1_partOf_5 rfl (lv_at hl 0 rfl) ?_
    refine lv_iload_n hx hb dX1_partOf_6 rfl (lv_at hl 1 rfl) ?_
    refine z_VI (n := 1) (wn := (fun u : Unit => [(hF, .inr (1, [.ref cF, .ref aF, .ref wF])), (cF, .inl (cI, 39, .inl f))])) (wr := []) (As := [.int (nI n)]) (rest := []) ⟨hx, hb, hml, hown, hts⟩ hK hP hD hS hA hT (kX1_eastward l D cI cB tE tN hF cF aF wF f n _ (by omega)) gX1_partOf_X1_eastward rfl rfl rfl (by decide +kernel) ⟨Nat.le_of_ble_eq_true rfl, Nat.le_of_ble_eq_true rfl⟩ [0, 1] [] [0, 1] (by decide) rfl rfl (by decide) (by decide) (by decide) (fun u => rfl) 0 1 rfl rfl rfl rfl hl.1 rfl (Nat.le_of_ble_eq_true rfl) dX1_partOf_7 ⟨Nat.le_of_ble_eq_true rfl, Nat.le_of_ble_eq_true rfl⟩ (fun r_5 u H locs hw_6 hP hD hS => ?_)
    try dsimp only at hw_6
    have hP : va_P D vwCl [(hF, .inr (1, [.ref cF, .ref aF, .ref wF])), (cF, .inl (cI, 39, .inl f))] H := hP
    have hD : va_D A [(hF, .inr (1, [.ref cF, .ref aF, .ref wF])), (cF, .inl (cI, 39, .inl f))] := hD
    subst r_5
    exact hQ (cEast f n) () _ _ _ _ (rfl) (by simp [cPart, c_1]) hP hD hS dX1_partOf_10

set_option maxHeartbeats 4000000 in
set_option maxRecDepth 100000 in
theorem kX1_put (l : Launch) (D : va_G) (cI cB : ClassId) (tE tN : Nat) (hF : Nat) (cF : Nat) (aF : Nat) (wF : Nat) (f : Nat → Int32) (n : Nat) (px : Int32) (py : Int32) (ph : Int32) (ps : Int32) (sz : Nat) (hn : n ≤ 6) : zV l yX1_put wsX1_put ({ frames := 0, cells := 0, slots := 0, locals := 0 }) D cI cB tE tN [.ref hF, .int (nI n), .int px, .int py, .int ph, .int ps] [(hF, .inr (1, [.ref cF, .ref aF, .ref wF])), (cF, .inl (cI, 39, .inl f))] sz (fun u : Unit => [(hF, .inr (1, [.ref cF, .ref aF, .ref wF])), (cF, .inl (cI, 39, .inl (putF f n px py ph ps)))]) (fun (u : Unit) => True) 0 0 := by
  refine zV_mk (cc := cX1_put) (maxL := 7) (by decide) rfl (Nat.le_of_ble_eq_true rfl) ?_
  intro p e s m below meth c A Q ls S0 hname hA hK hP hD hT hS hQ hl
  obtain ⟨hx, hb, hml, hown, hts⟩ := id S0
  have hl : lv_has ls 7 [(0, .ref hF), (1, .int (nI n)), (2, .int px), (3, .int py), (4, .int ph), (5, .int ps)] := hl
  have L11 : (Cond.fieldLink RX1 11 "PastAndClear$Fleet" "cells" "[I").before ([.ref hF, .int (nI n), .int px, .int py, .int ph, .int ps] : List Value).toArray s = true := hts (.fieldLink RX1 11 "PastAndClear$Fleet" "cells" "[I") (by decide +kernel)
  have N1 : ∀ w ∈ u_ws RX1 TX1 3, w ∈ wsX1_put := by decide +kernel
  refine lv_iconst (v := 5) hx hb dX1_put_0 (by decide) ?_
  refine lv_iload_n hx hb dX1_put_1 rfl (lv_at hl 1 rfl) ?_
  refine lv_imul hx hb dX1_put_2 ?_
  refine z_topi (x := 5 * (nI n)) (y := nI (5 * n)) (z_mul rfl rfl) ?_
  refine lv_istore (lv' := [(6, .int (nI (5 * n))), (0, .ref hF), (1, .int (nI n)), (2, .int px), (3, .int py), (4, .int ph), (5, .int ps)]) hx hb dX1_put_3 hl (by decide) rfl (fun ls hl => ?_)
  refine lv_aload_n hx hb dX1_put_5 rfl (lv_at hl 1 rfl) ?_
  refine va_get (D := D) (ci := 1) (v := .ref cF) (C := RX1) (T := TX1) (N := 3) hx hb hts N1 hown hK hP 0 rfl rfl 0 (by decide) L11 (fun _ h9 => h9) rfl dX1_put_6 ?_
  refine lv_iload hx hb dX1_put_9 (lv_at hl 0 rfl) ?_
  refine lv_iconst (v := 0) hx hb dX1_put_11 (by decide) ?_
  refine lv_iadd hx hb dX1_put_12 ?_
  refine lv_iload_n hx hb dX1_put_13 rfl (lv_at hl 3 rfl) ?_
  refine z_ist (j := (5 * n) + 0) hx hb hK hP hD hS 1 rfl (z_add rfl rfl) (by omega) (by decide) dX1_put_14 (fun H locs hP hD hS => ?_)
  have hP : va_P D vwCl [(hF, .inr (1, [.ref cF, .ref aF, .ref wF])), (cF, .inl (cI, 39, .inl (upd f ((5 * n) + 0) px)))] H := hP
  have hD : va_D A [(hF, .inr (1, [.ref cF, .ref aF, .ref wF])), (cF, .inl (cI, 39, .inl (upd f ((5 * n) + 0) px)))] := hD
  refine lv_aload_n hx hb dX1_put_15 rfl (lv_at hl 1 rfl) ?_
  refine va_get (D := D) (ci := 1) (v := .ref cF) (C := RX1) (T := TX1) (N := 3) hx hb hts N1 hown hK hP 0 rfl rfl 0 (by decide) L11 (fun _ h9 => h9) rfl dX1_put_16 ?_
  refine lv_iload hx hb dX1_put_19 (lv_at hl 0 rfl) ?_
  refine lv_iconst (v := 1) hx hb dX1_put_21 (by decide) ?_
  refine lv_iadd hx hb dX1_put_22 ?_
  refine lv_iload_n hx hb dX1_put_23 rfl (lv_at hl 4 rfl) ?_
  refine z_ist (j := (5 * n) + 1) hx hb hK hP hD hS 1 rfl (z_add rfl rfl) (by omega) (by decide) dX1_put_24 (fun H locs hP hD hS => ?_)
  have hP : va_P D vwCl [(hF, .inr (1, [.ref cF, .ref aF, .ref wF])), (cF, .inl (cI, 39, .inl (upd (upd f ((5 * n) + 0) px) ((5 * n) + 1) py)))] H := hP
  have hD : va_D A [(hF, .inr (1, [.ref cF, .ref aF, .ref wF])), (cF, .inl (cI, 39, .inl (upd (upd f ((5 * n) + 0) px) ((5 * n) + 1) py)))] := hD
  refine lv_aload_n hx hb dX1_put_25 rfl (lv_at hl 1 rfl) ?_
  refine va_get (D := D) (ci := 1) (v := .ref cF) (C := RX1) (T := TX1) (N := 3) hx hb hts N1 hown hK hP 0 rfl rfl 0 (by decide) L11 (fun _ h9 => h9) rfl dX1_put_26 ?_
  refine lv_iload hx hb dX1_put_29 (lv_at hl 0 rfl) ?_
  refine lv_iconst (v := 2) hx hb dX1_put_31 (by decide) ?_
  refine lv_iadd hx hb dX1_put_32 ?_
  refine lv_iload hx hb dX1_put_33 (lv_at hl 5 rfl) ?_
  refine z_ist (j := (5 * n) + 2) hx hb hK hP hD hS 1 rfl (z_add rfl rfl) (by omega) (by decide) dX1_put_35 (fun H locs hP hD hS => ?_)
  have hP : va_P D vwCl [(hF, .inr (1, [.ref cF, .ref aF, .ref wF])), (cF, .inl (cI, 39, .inl (upd (upd (upd f ((5 * n) + 0) px) ((5 * n) + 1) py) ((5 * n) + 2) ph)))] H := hP
  have hD : va_D A [(hF, .inr (1, [.ref cF, .ref aF, .ref wF])), (cF, .inl (cI, 39, .inl (upd (upd (upd f ((5 * n) + 0) px) ((5 * n) + 1) py) ((5 * n) + 2) ph)))] := hD
  refine lv_aload_n hx hb dX1_put_36 rfl (lv_at hl 1 rfl) ?_
  refine va_get (D := D) (ci := 1) (v := .ref cF) (C := RX1) (T := TX1) (N := 3) hx hb hts N1 hown hK hP 0 rfl rfl 0 (by decide) L11 (fun _ h9 => h9) rfl dX1_put_37 ?_
  refine lv_iload hx hb dX1_put_40 (lv_at hl 0 rfl) ?_
  refine lv_iconst (v := 3) hx hb dX1_put_42 (by decide) ?_
  refine lv_iadd hx hb dX1_put_43 ?_
  refine lv_iload hx hb dX1_put_44 (lv_at hl 6 rfl) ?_
  refine z_ist (j := (5 * n) + 3) hx hb hK hP hD hS 1 rfl (z_add rfl rfl) (by omega) (by decide) dX1_put_46 (fun H locs hP hD hS => ?_)
  have hP : va_P D vwCl [(hF, .inr (1, [.ref cF, .ref aF, .ref wF])), (cF, .inl (cI, 39, .inl (upd (upd (upd (upd f ((5 * n) + 0) px) ((5 * n) + 1) py) ((5 * n) + 2) ph) ((5 * n) + 3) ps)))] H := hP
  have hD : va_D A [(hF, .inr (1, [.ref cF, .ref aF, .ref wF])), (cF, .inl (cI, 39, .inl (upd (upd (upd (upd f ((5 * n) + 0) px) ((5 * n) + 1) py) ((5 * n) + 2) ph) ((5 * n) + 3) ps)))] := hD
  refine lv_aload_n hx hb dX1_put_47 rfl (lv_at hl 1 rfl) ?_
  refine va_get (D := D) (ci := 1) (v := .ref cF) (C := RX1) (T := TX1) (N := 3) hx hb hts N1 hown hK hP 0 rfl rfl 0 (by decide) L11 (fun _ h9 => h9) rfl dX1_put_48 ?_
  refine lv_iload hx hb dX1_put_51 (lv_at hl 0 rfl) ?_
  refine lv_iconst (v := 4) hx hb dX1_put_53 (by decide) ?_
  refine lv_iadd hx hb dX1_put_54 ?_
  refine lv_iconst (v := 0) hx hb dX1_put_55 (by decide) ?_
  refine z_ist (j := (5 * n) + 4) hx hb hK hP hD hS 1 rfl (z_add rfl rfl) (by omega) (by decide) dX1_put_56 (fun H locs hP hD hS => ?_)
  have hP : va_P D vwCl [(hF, .inr (1, [.ref cF, .ref aF, .ref wF])), (cF, .inl (cI, 39, .inl (upd (upd (upd (upd (upd f ((5 * n) + 0) px) ((5 * n) + 1) py) ((5 * n) + 2) ph) ((5 * n) + 3) ps) ((5 * n) + 4) 0)))] H := hP
  have hD : va_D A [(hF, .inr (1, [.ref cF, .ref aF, .ref wF])), (cF, .inl (cI, 39, .inl (upd (upd (upd (upd (upd f ((5 * n) + 0) px) ((5 * n) + 1) py) ((5 * n) + 2) ph) ((5 * n) + 3) ps) ((5 * n) + 4) 0)))] := hD
  exact hQ () _ _ _ _ (trivial) hP hD hS dX1_put_57

set_option maxHeartbeats 4000000 in
set_option maxRecDepth 100000 in
theorem kX1_join (l : Launch) (D : va_G) (cI cB : ClassId) (tE tN : Nat) (hF : Nat) (cF : Nat) (aF : Nat) (wF : Nat) (f : Nat → Int32) (px : Int32) (py : Int32) (ph : Int32) (ps : Int32) (N : Nat) (sz : Nat) (hN : f 35 = nI N) (hN6 : N ≤ 6) : zI l yX1_join wsX1_join ({ frames := 1, cells := 0, slots := 0, locals := 26 }) D cI cB tE tN [.ref hF, .int px, .int py, .int ph, .int ps] [(hF, .inr (1, [.ref cF, .ref aF, .ref wF])), (cF, .inl (cI, 39, .inl f))] sz (fun u : (Nat → Int32) => [(hF, .inr (1, [.ref cF, .ref aF, .ref wF])), (cF, .inl (cI, 39, .inl u))]) (fun (r : Int32) (u : (Nat → Int32)) => (r, u) = cJoin f N px py ph ps) 0 0 := by
  refine zI_mk (cc := cX1_join) (maxL := 5) (rt := .int) (by decide) rfl (Nat.le_of_ble_eq_true rfl) ?_
  intro p e s m below meth c A Q ls S0 hname hA hK hP hD hT hS hQ hl
  obtain ⟨hx, hb, hml, hown, hts⟩ := id S0
  have hl : lv_has ls 5 [(0, .ref hF), (1, .int px), (2, .int py), (3, .int ph), (4, .int ps)] := hl
  have L11 : (Cond.fieldLink RX1 11 "PastAndClear$Fleet" "cells" "[I").before ([.ref hF, .int px, .int py, .int ph, .int ps] : List Value).toArray s = true := hts (.fieldLink RX1 11 "PastAndClear$Fleet" "cells" "[I") (by decide +kernel)
  have N1 : ∀ w ∈ u_ws RX1 TX1 3, w ∈ wsX1_join := by decide +kernel
  refine lv_iload_n hx hb dX1_join_0 rfl (lv_at hl 1 rfl) ?_
  refine z_SI (n := 1) (wn := (fun u : Unit => [(hF, .inr (1, [.ref cF, .ref aF, .ref wF])), (cF, .inl (cI, 39, .inl f))])) (wr := [(hF, .inr (1, [.ref cF, .ref aF, .ref wF])), (cF, .inl (cI, 39, .inl f))]) (As := [.int px]) (rest := []) ⟨hx, hb, hml, hown, hts⟩ hK hP hD hS hA hT (kX1_isPlace l D cI cB tE tN px _ ) gX1_join_X1_isPlace rfl rfl rfl (by decide +kernel) ⟨Nat.le_of_ble_eq_true rfl, Nat.le_of_ble_eq_true rfl⟩ [] [0, 1] [0, 1] (by decide) rfl rfl (by decide) (by decide) (by decide) (fun u => rfl) rfl hl.1 rfl (Nat.le_of_ble_eq_true rfl) dX1_join_1 ⟨Nat.le_of_ble_eq_true rfl, Nat.le_of_ble_eq_true rfl⟩ (fun r_1 u H locs hw_2 hP hD hS => ?_)
  try dsimp only at hw_2
  have hP : va_P D vwCl [(hF, .inr (1, [.ref cF, .ref aF, .ref wF])), (cF, .inl (cI, 39, .inl f))] H := hP
  have hD : va_D A [(hF, .inr (1, [.ref cF, .ref aF, .ref wF])), (cF, .inl (cI, 39, .inl f))] := hD
  subst r_1
  refine lv_if_eq (tgt := 23) hx hb dX1_join_4 (by decide) (fun c_3 => ?_) (fun c_3 => ?_)
  · skip
    have c_3 := z_b0 c_3
    refine lv_sipush (v := (-10002)) hx hb dX1_join_23 (by decide) ?_
    exact hQ (-10002) f _ _ _ _ (rfl) (by simp [cJoin, c_3]) hP hD hS dX1_join_26
  · skip
    have c_3 := z_b1 c_3
    refine lv_iload_n hx hb dX1_join_7 rfl (lv_at hl 2 rfl) ?_
    refine z_SI (n := 1) (wn := (fun u : Unit => [(hF, .inr (1, [.ref cF, .ref aF, .ref wF])), (cF, .inl (cI, 39, .inl f))])) (wr := [(hF, .inr (1, [.ref cF, .ref aF, .ref wF])), (cF, .inl (cI, 39, .inl f))]) (As := [.int py]) (rest := []) ⟨hx, hb, hml, hown, hts⟩ hK hP hD hS hA hT (kX1_isPlace l D cI cB tE tN py _ ) gX1_join_X1_isPlace rfl rfl rfl (by decide +kernel) ⟨Nat.le_of_ble_eq_true rfl, Nat.le_of_ble_eq_true rfl⟩ [] [0, 1] [0, 1] (by decide) rfl rfl (by decide) (by decide) (by decide) (fun u => rfl) rfl hl.1 rfl (Nat.le_of_ble_eq_true rfl) dX1_join_8 ⟨Nat.le_of_ble_eq_true rfl, Nat.le_of_ble_eq_true rfl⟩ (fun r_4 u H locs hw_5 hP hD hS => ?_)
    try dsimp only at hw_5
    have hP : va_P D vwCl [(hF, .inr (1, [.ref cF, .ref aF, .ref wF])), (cF, .inl (cI, 39, .inl f))] H := hP
    have hD : va_D A [(hF, .inr (1, [.ref cF, .ref aF, .ref wF])), (cF, .inl (cI, 39, .inl f))] := hD
    subst r_4
    refine lv_if_eq (tgt := 23) hx hb dX1_join_11 (by decide) (fun c_6 => ?_) (fun c_6 => ?_)
    · skip
      have c_6 := z_b0 c_6
      refine lv_sipush (v := (-10002)) hx hb dX1_join_23 (by decide) ?_
      exact hQ (-10002) f _ _ _ _ (rfl) (by simp [cJoin, c_3, c_6]) hP hD hS dX1_join_26
    · skip
      have c_6 := z_b1 c_6
      refine lv_iload_n hx hb dX1_join_14 rfl (lv_at hl 3 rfl) ?_
      refine lv_iload hx hb dX1_join_15 (lv_at hl 4 rfl) ?_
      refine z_NI (n := 2) (wn := (fun u : Unit => [(hF, .inr (1, [.ref cF, .ref aF, .ref wF])), (cF, .inl (cI, 39, .inl f))])) (wr := [(hF, .inr (1, [.ref cF, .ref aF, .ref wF])), (cF, .inl (cI, 39, .inl f))]) (As := [.int ph, .int ps]) (rest := []) ⟨hx, hb, hml, hown, hts⟩ hK hP hD hS hA hT (kX4_isCourse l D cI cB tE tN ph ps _ ) ggX1_join_X4_isCourse hT.2.2 (hts (.initialized RX4) (by decide +kernel)) (hts (.static yX4_isCourse) (by decide +kernel)) rfl rfl rfl (by decide +kernel) ⟨Nat.le_of_ble_eq_true rfl, Nat.le_of_ble_eq_true rfl⟩ [] [0, 1] [0, 1] (by decide) rfl rfl (by decide) (by decide) (by decide) (fun u => rfl) rfl hl.1 rfl (Nat.le_of_ble_eq_true rfl) dX1_join_17 ⟨Nat.le_of_ble_eq_true rfl, Nat.le_of_ble_eq_true rfl⟩ (fun r_7 u H locs hw_8 hP hD hS => ?_)
      try dsimp only at hw_8
      have hP : va_P D vwCl [(hF, .inr (1, [.ref cF, .ref aF, .ref wF])), (cF, .inl (cI, 39, .inl f))] H := hP
      have hD : va_D A [(hF, .inr (1, [.ref cF, .ref aF, .ref wF])), (cF, .inl (cI, 39, .inl f))] := hD
      subst r_7
      refine lv_if_ne (tgt := 27) hx hb dX1_join_20 (by decide) (fun c_9 => ?_) (fun c_9 => ?_)
      · skip
        have c_9 := z_b1 c_9
        refine lv_aload_n hx hb dX1_join_27 rfl (lv_at hl 0 rfl) ?_
        refine va_get (D := D) (ci := 1) (v := .ref cF) (C := RX1) (T := TX1) (N := 3) hx hb hts N1 hown hK hP 0 rfl rfl 0 (by decide) L11 (fun _ h9 => h9) rfl dX1_join_28 ?_
        refine lv_bipush (v := 35) hx hb dX1_join_31 (by decide) ?_
        refine z_ild (v := nI N) (j := 35) hx hb hK hP 1 rfl rfl (by omega) (by decide) (hN) dX1_join_33 ?_
        refine lv_iconst (v := 1) hx hb dX1_join_34 (by decide) ?_
        refine lv_iadd hx hb dX1_join_35 ?_
        refine lv_bipush (v := 7) hx hb dX1_join_36 (by decide) ?_
        refine lv_icmp_lt (tgt := 45) hx hb dX1_join_38 (by decide) (fun c_10 => ?_) (fun c_10 => ?_)
        · skip
          have c_10 := (z_lt (a := N + 1) (b := 7) (z_add rfl rfl) rfl (by omega) (by omega)).mp c_10
          have c_10 : N < 6 := by omega
          refine lv_aload_n hx hb dX1_join_45 rfl (lv_at hl 0 rfl) ?_
          refine va_get (D := D) (ci := 1) (v := .ref cF) (C := RX1) (T := TX1) (N := 3) hx hb hts N1 hown hK hP 0 rfl rfl 0 (by decide) L11 (fun _ h9 => h9) rfl dX1_join_46 ?_
          refine lv_bipush (v := 35) hx hb dX1_join_49 (by decide) ?_
          refine lv_dup2_11 hx hb dX1_join_51 rfl rfl ?_
          refine z_ild (v := nI N) (j := 35) hx hb hK hP 1 rfl rfl (by omega) (by decide) (hN) dX1_join_52 ?_
          refine lv_iconst (v := 1) hx hb dX1_join_53 (by decide) ?_
          refine lv_iadd hx hb dX1_join_54 ?_
          refine z_topi (x := (nI N) + 1) (y := nI (N + 1)) (nI_1 N) ?_
          refine z_ist (j := 35) hx hb hK hP hD hS 1 rfl rfl (by omega) (by decide) dX1_join_55 (fun H locs hP hD hS => ?_)
          have hP : va_P D vwCl [(hF, .inr (1, [.ref cF, .ref aF, .ref wF])), (cF, .inl (cI, 39, .inl (upd f 35 (nI (N + 1)))))] H := hP
          have hD : va_D A [(hF, .inr (1, [.ref cF, .ref aF, .ref wF])), (cF, .inl (cI, 39, .inl (upd f 35 (nI (N + 1)))))] := hD
          refine lv_aload_n hx hb dX1_join_56 rfl (lv_at hl 0 rfl) ?_
          refine lv_aload_n hx hb dX1_join_57 rfl (lv_at hl 0 rfl) ?_
          refine va_get (D := D) (ci := 1) (v := .ref cF) (C := RX1) (T := TX1) (N := 3) hx hb hts N1 hown hK hP 0 rfl rfl 0 (by decide) L11 (fun _ h9 => h9) rfl dX1_join_58 ?_
          refine lv_bipush (v := 35) hx hb dX1_join_61 (by decide) ?_
          refine z_ild (v := (nI (N + 1))) (j := 35) hx hb hK hP 1 rfl rfl (by omega) (by decide) (upd_eq) dX1_join_63 ?_
          refine lv_iload_n hx hb dX1_join_64 rfl (lv_at hl 1 rfl) ?_
          refine lv_iload_n hx hb dX1_join_65 rfl (lv_at hl 2 rfl) ?_
          refine lv_iload_n hx hb dX1_join_66 rfl (lv_at hl 3 rfl) ?_
          refine lv_iload hx hb dX1_join_67 (lv_at hl 4 rfl) ?_
          refine z_VV (n := 5) (wn := (fun u : Unit => [(hF, .inr (1, [.ref cF, .ref aF, .ref wF])), (cF, .inl (cI, 39, .inl (putF (upd f 35 (nI (N + 1))) (N + 1) px py ph ps)))])) (wr := []) (As := [.int (nI (N + 1)), .int px, .int py, .int ph, .int ps]) (rest := []) ⟨hx, hb, hml, hown, hts⟩ hK hP hD hS hA hT (kX1_put l D cI cB tE tN hF cF aF wF (upd f 35 (nI (N + 1))) (N + 1) px py ph ps _ (by omega)) gX1_join_X1_put rfl rfl rfl (by decide +kernel) ⟨Nat.le_of_ble_eq_true rfl, Nat.le_of_ble_eq_true rfl⟩ [0, 1] [] [0, 1] (by decide) rfl rfl (by decide) (by decide) (by decide) (fun u => rfl) 0 1 rfl rfl rfl rfl hl.1 rfl (Nat.le_of_ble_eq_true rfl) dX1_join_69 ⟨Nat.le_of_ble_eq_true rfl, Nat.le_of_ble_eq_true rfl⟩ (fun u H locs hw_12 hP hD hS => ?_)
          try dsimp only at hw_12
          have hP : va_P D vwCl [(hF, .inr (1, [.ref cF, .ref aF, .ref wF])), (cF, .inl (cI, 39, .inl (putF (upd f 35 (nI (N + 1))) (N + 1) px py ph ps)))] H := hP
          have hD : va_D A [(hF, .inr (1, [.ref cF, .ref aF, .ref wF])), (cF, .inl (cI, 39, .inl (putF (upd f 35 (nI (N + 1))) (N + 1) px py ph ps)))] := hD
          refine lv_aload_n hx hb dX1_join_72 rfl (lv_at hl 0 rfl) ?_
          refine va_get (D := D) (ci := 1) (v := .ref cF) (C := RX1) (T := TX1) (N := 3) hx hb hts N1 hown hK hP 0 rfl rfl 0 (by decide) L11 (fun _ h9 => h9) rfl dX1_join_73 ?_
          refine lv_bipush (v := 35) hx hb dX1_join_76 (by decide) ?_
          refine z_ild (v := nI (N + 1)) (j := 35) hx hb hK hP 1 rfl rfl (by omega) (by decide) (by rw [putF_ge (by omega), upd_eq]) dX1_join_78 ?_
          exact hQ (nI (N + 1)) (putF (upd f 35 (nI (N + 1))) (N + 1) px py ph ps) _ _ _ _ (rfl) (by simp [cJoin, c_3, c_6, c_9, c_10]) hP hD hS dX1_join_79
        · skip
          have c_10 := (z_ltn (a := N + 1) (b := 7) (z_add rfl rfl) rfl (by omega) (by omega)).mp c_10
          have c_10 : ¬ N < 6 := by omega
          refine lv_sipush (v := (-10004)) hx hb dX1_join_41 (by decide) ?_
          exact hQ (-10004) f _ _ _ _ (rfl) (by simp [cJoin, c_3, c_6, c_9, c_10]) hP hD hS dX1_join_44
      · skip
        have c_9 := z_b0 c_9
        refine lv_sipush (v := (-10002)) hx hb dX1_join_23 (by decide) ?_
        exact hQ (-10002) f _ _ _ _ (rfl) (by simp [cJoin, c_3, c_6, c_9]) hP hD hS dX1_join_26

set_option maxHeartbeats 4000000 in
set_option maxRecDepth 100000 in
theorem kX1_placeOwn (l : Launch) (D : va_G) (cI cB : ClassId) (tE tN : Nat) (hF : Nat) (cF : Nat) (aF : Nat) (wF : Nat) (f : Nat → Int32) (px : Int32) (py : Int32) (ph : Int32) (ps : Int32) (N : Nat) (sz : Nat) (hN : f 35 = nI N) (hN6 : N ≤ 6) : zI l yX1_placeOwn wsX1_placeOwn ({ frames := 1, cells := 0, slots := 0, locals := 26 }) D cI cB tE tN [.ref hF, .int px, .int py, .int ph, .int ps] [(hF, .inr (1, [.ref cF, .ref aF, .ref wF])), (cF, .inl (cI, 39, .inl f))] sz (fun u : (Nat → Int32) => [(hF, .inr (1, [.ref cF, .ref aF, .ref wF])), (cF, .inl (cI, 39, .inl u))]) (fun (r : Int32) (u : (Nat → Int32)) => (r, u) = cOwn f N px py ph ps) 0 0 := by
  refine zI_mk (cc := cX1_placeOwn) (maxL := 6) (rt := .int) (by decide) rfl (Nat.le_of_ble_eq_true rfl) ?_
  intro p e s m below meth c A Q ls S0 hname hA hK hP hD hT hS hQ hl
  obtain ⟨hx, hb, hml, hown, hts⟩ := id S0
  have hl : lv_has ls 6 [(0, .ref hF), (1, .int px), (2, .int py), (3, .int ph), (4, .int ps)] := hl
  have L11 : (Cond.fieldLink RX1 11 "PastAndClear$Fleet" "cells" "[I").before ([.ref hF, .int px, .int py, .int ph, .int ps] : List Value).toArray s = true := hts (.fieldLink RX1 11 "PastAndClear$Fleet" "cells" "[I") (by decide +kernel)
  have N1 : ∀ w ∈ u_ws RX1 TX1 3, w ∈ wsX1_placeOwn := by decide +kernel
  have lp40 : ∀ (k : Nat) (n : Nat) (H : Heap) (locs : List Loc) (ls : Array Slot), N - n = k → (n ≤ N) → (cPlace px = true) → (cPlace py = true) → (cCourse ph ps = true) → va_P D vwCl [(hF, .inr (1, [.ref cF, .ref aF, .ref wF])), (cF, .inl (cI, 39, .inl (nodF (putF f 0 px py ph ps) n)))] H → va_D A [(hF, .inr (1, [.ref cF, .ref aF, .ref wF])), (cF, .inl (cI, 39, .inl (nodF (putF f 0 px py ph ps) n)))] → va_S A s.heap H locs → lv_has ls 6 [(5, .int (nI (n + 1))), (0, .ref hF), (1, .int px), (2, .int py), (3, .int ph), (4, .int ps)] → W p l e ({ frames := 1, cells := 0, slots := 0, locals := 26 } : Room) s m ([.ref hF, .int px, .int py, .int ph, .int ps] : List Value).toArray below meth c H locs 0 0 Q (F0 m 40 ls []) := by
    intro k
    induction k using Nat.strongRecOn with
    | ind k ih =>
    intro n H locs ls hk hn c1 c2 c3 hP hD hS hl
    refine lv_iload hx hb dX1_placeOwn_40 (lv_at hl 0 rfl) ?_
    refine lv_aload_n hx hb dX1_placeOwn_42 rfl (lv_at hl 1 rfl) ?_
    refine va_get (D := D) (ci := 1) (v := .ref cF) (C := RX1) (T := TX1) (N := 3) hx hb hts N1 hown hK hP 0 rfl rfl 0 (by decide) L11 (fun _ h9 => h9) rfl dX1_placeOwn_43 ?_
    refine lv_bipush (v := 35) hx hb dX1_placeOwn_46 (by decide) ?_
    refine z_ild (v := nI N) (j := 35) hx hb hK hP 1 rfl rfl (by omega) (by decide) (by rw [nodF_ge (by omega), putF_ge (by omega), hN]) dX1_placeOwn_48 ?_
    refine lv_icmp_gt (tgt := 70) hx hb dX1_placeOwn_49 (by decide) (fun c_1 => ?_) (fun c_1 => ?_)
    · skip
      have c_1 := (z_lt (a := N) (b := n + 1) rfl rfl (by omega) (by omega)).mp c_1
      refine lv_aload_n hx hb dX1_placeOwn_70 rfl (lv_at hl 1 rfl) ?_
      refine va_get (D := D) (ci := 1) (v := .ref cF) (C := RX1) (T := TX1) (N := 3) hx hb hts N1 hown hK hP 0 rfl rfl 0 (by decide) L11 (fun _ h9 => h9) rfl dX1_placeOwn_71 ?_
      refine lv_bipush (v := 38) hx hb dX1_placeOwn_74 (by decide) ?_
      refine lv_iconst (v := 0) hx hb dX1_placeOwn_76 (by decide) ?_
      refine z_ist (j := 38) hx hb hK hP hD hS 1 rfl rfl (by omega) (by decide) dX1_placeOwn_77 (fun H locs hP hD hS => ?_)
      have hP : va_P D vwCl [(hF, .inr (1, [.ref cF, .ref aF, .ref wF])), (cF, .inl (cI, 39, .inl (upd (nodF (putF f 0 px py ph ps) n) 38 0)))] H := hP
      have hD : va_D A [(hF, .inr (1, [.ref cF, .ref aF, .ref wF])), (cF, .inl (cI, 39, .inl (upd (nodF (putF f 0 px py ph ps) n) 38 0)))] := hD
      refine lv_aload_n hx hb dX1_placeOwn_78 rfl (lv_at hl 1 rfl) ?_
      refine va_get (D := D) (ci := 1) (v := .ref cF) (C := RX1) (T := TX1) (N := 3) hx hb hts N1 hown hK hP 0 rfl rfl 0 (by decide) L11 (fun _ h9 => h9) rfl dX1_placeOwn_79 ?_
      refine lv_bipush (v := 35) hx hb dX1_placeOwn_82 (by decide) ?_
      refine z_ild (v := nI N) (j := 35) hx hb hK hP 1 rfl rfl (by omega) (by decide) (by rw [upd_ne (by omega), nodF_ge (by omega), putF_ge (by omega), hN]) dX1_placeOwn_84 ?_
      exact hQ (nI N) (upd (nodF (putF f 0 px py ph ps) n) 38 0) _ _ _ _ (rfl) (by rw [show n = N by omega]; simp [cOwn, c1, c2, c3]) hP hD hS dX1_placeOwn_85
    · skip
      have c_1 := (z_ltn (a := N) (b := n + 1) rfl rfl (by omega) (by omega)).mp c_1
      refine lv_aload_n hx hb dX1_placeOwn_52 rfl (lv_at hl 1 rfl) ?_
      refine va_get (D := D) (ci := 1) (v := .ref cF) (C := RX1) (T := TX1) (N := 3) hx hb hts N1 hown hK hP 0 rfl rfl 0 (by decide) L11 (fun _ h9 => h9) rfl dX1_placeOwn_53 ?_
      refine lv_iconst (v := 5) hx hb dX1_placeOwn_56 (by decide) ?_
      refine lv_iload hx hb dX1_placeOwn_57 (lv_at hl 0 rfl) ?_
      refine lv_imul hx hb dX1_placeOwn_59 ?_
      refine lv_iconst (v := 4) hx hb dX1_placeOwn_60 (by decide) ?_
      refine lv_iadd hx hb dX1_placeOwn_61 ?_
      refine lv_iconst (v := 0) hx hb dX1_placeOwn_62 (by decide) ?_
      refine z_ist (j := (5 * (n + 1)) + 4) hx hb hK hP hD hS 1 rfl (z_add (z_mul rfl rfl) rfl) (by omega) (by decide) dX1_placeOwn_63 (fun H locs hP hD hS => ?_)
      have hP : va_P D vwCl [(hF, .inr (1, [.ref cF, .ref aF, .ref wF])), (cF, .inl (cI, 39, .inl (upd (nodF (putF f 0 px py ph ps) n) ((5 * (n + 1)) + 4) 0)))] H := hP
      have hD : va_D A [(hF, .inr (1, [.ref cF, .ref aF, .ref wF])), (cF, .inl (cI, 39, .inl (upd (nodF (putF f 0 px py ph ps) n) ((5 * (n + 1)) + 4) 0)))] := hD
      refine lv_iinc (v := nI (n + 1 + 1)) (lv' := [(5, .int (nI (n + 1 + 1))), (0, .ref hF), (1, .int px), (2, .int py), (3, .int ph), (4, .int ps)]) hx hb dX1_placeOwn_64 hl (k := 0) rfl (z_add rfl rfl) (by decide) rfl (fun ls hl => ?_)
      refine lv_goto (tgt := 40) hx hb dX1_placeOwn_67 (by decide) ?_
      exact ih _ (by omega) (n + 1) _ _ _ rfl (by omega) c1 c2 c3 hP hD hS (lv_sub hl [0, 1, 2, 3, 4, 5] rfl)
  refine lv_iload_n hx hb dX1_placeOwn_0 rfl (lv_at hl 1 rfl) ?_
  refine z_SI (n := 1) (wn := (fun u : Unit => [(hF, .inr (1, [.ref cF, .ref aF, .ref wF])), (cF, .inl (cI, 39, .inl f))])) (wr := [(hF, .inr (1, [.ref cF, .ref aF, .ref wF])), (cF, .inl (cI, 39, .inl f))]) (As := [.int px]) (rest := []) ⟨hx, hb, hml, hown, hts⟩ hK hP hD hS hA hT (kX1_isPlace l D cI cB tE tN px _ ) gX1_placeOwn_X1_isPlace rfl rfl rfl (by decide +kernel) ⟨Nat.le_of_ble_eq_true rfl, Nat.le_of_ble_eq_true rfl⟩ [] [0, 1] [0, 1] (by decide) rfl rfl (by decide) (by decide) (by decide) (fun u => rfl) rfl hl.1 rfl (Nat.le_of_ble_eq_true rfl) dX1_placeOwn_1 ⟨Nat.le_of_ble_eq_true rfl, Nat.le_of_ble_eq_true rfl⟩ (fun r_2 u H locs hw_3 hP hD hS => ?_)
  try dsimp only at hw_3
  have hP : va_P D vwCl [(hF, .inr (1, [.ref cF, .ref aF, .ref wF])), (cF, .inl (cI, 39, .inl f))] H := hP
  have hD : va_D A [(hF, .inr (1, [.ref cF, .ref aF, .ref wF])), (cF, .inl (cI, 39, .inl f))] := hD
  subst r_2
  refine lv_if_eq (tgt := 23) hx hb dX1_placeOwn_4 (by decide) (fun c_4 => ?_) (fun c_4 => ?_)
  · skip
    have c_4 := z_b0 c_4
    refine lv_sipush (v := (-10002)) hx hb dX1_placeOwn_23 (by decide) ?_
    exact hQ (-10002) f _ _ _ _ (rfl) (by simp [cOwn, c_4]) hP hD hS dX1_placeOwn_26
  · skip
    have c_4 := z_b1 c_4
    refine lv_iload_n hx hb dX1_placeOwn_7 rfl (lv_at hl 2 rfl) ?_
    refine z_SI (n := 1) (wn := (fun u : Unit => [(hF, .inr (1, [.ref cF, .ref aF, .ref wF])), (cF, .inl (cI, 39, .inl f))])) (wr := [(hF, .inr (1, [.ref cF, .ref aF, .ref wF])), (cF, .inl (cI, 39, .inl f))]) (As := [.int py]) (rest := []) ⟨hx, hb, hml, hown, hts⟩ hK hP hD hS hA hT (kX1_isPlace l D cI cB tE tN py _ ) gX1_placeOwn_X1_isPlace rfl rfl rfl (by decide +kernel) ⟨Nat.le_of_ble_eq_true rfl, Nat.le_of_ble_eq_true rfl⟩ [] [0, 1] [0, 1] (by decide) rfl rfl (by decide) (by decide) (by decide) (fun u => rfl) rfl hl.1 rfl (Nat.le_of_ble_eq_true rfl) dX1_placeOwn_8 ⟨Nat.le_of_ble_eq_true rfl, Nat.le_of_ble_eq_true rfl⟩ (fun r_5 u H locs hw_6 hP hD hS => ?_)
    try dsimp only at hw_6
    have hP : va_P D vwCl [(hF, .inr (1, [.ref cF, .ref aF, .ref wF])), (cF, .inl (cI, 39, .inl f))] H := hP
    have hD : va_D A [(hF, .inr (1, [.ref cF, .ref aF, .ref wF])), (cF, .inl (cI, 39, .inl f))] := hD
    subst r_5
    refine lv_if_eq (tgt := 23) hx hb dX1_placeOwn_11 (by decide) (fun c_7 => ?_) (fun c_7 => ?_)
    · skip
      have c_7 := z_b0 c_7
      refine lv_sipush (v := (-10002)) hx hb dX1_placeOwn_23 (by decide) ?_
      exact hQ (-10002) f _ _ _ _ (rfl) (by simp [cOwn, c_4, c_7]) hP hD hS dX1_placeOwn_26
    · skip
      have c_7 := z_b1 c_7
      refine lv_iload_n hx hb dX1_placeOwn_14 rfl (lv_at hl 3 rfl) ?_
      refine lv_iload hx hb dX1_placeOwn_15 (lv_at hl 4 rfl) ?_
      refine z_NI (n := 2) (wn := (fun u : Unit => [(hF, .inr (1, [.ref cF, .ref aF, .ref wF])), (cF, .inl (cI, 39, .inl f))])) (wr := [(hF, .inr (1, [.ref cF, .ref aF, .ref wF])), (cF, .inl (cI, 39, .inl f))]) (As := [.int ph, .int ps]) (rest := []) ⟨hx, hb, hml, hown, hts⟩ hK hP hD hS hA hT (kX4_isCourse l D cI cB tE tN ph ps _ ) ggX1_placeOwn_X4_isCourse hT.2.2 (hts (.initialized RX4) (by decide +kernel)) (hts (.static yX4_isCourse) (by decide +kernel)) rfl rfl rfl (by decide +kernel) ⟨Nat.le_of_ble_eq_true rfl, Nat.le_of_ble_eq_true rfl⟩ [] [0, 1] [0, 1] (by decide) rfl rfl (by decide) (by decide) (by decide) (fun u => rfl) rfl hl.1 rfl (Nat.le_of_ble_eq_true rfl) dX1_placeOwn_17 ⟨Nat.le_of_ble_eq_true rfl, Nat.le_of_ble_eq_true rfl⟩ (fun r_8 u H locs hw_9 hP hD hS => ?_)
      try dsimp only at hw_9
      have hP : va_P D vwCl [(hF, .inr (1, [.ref cF, .ref aF, .ref wF])), (cF, .inl (cI, 39, .inl f))] H := hP
      have hD : va_D A [(hF, .inr (1, [.ref cF, .ref aF, .ref wF])), (cF, .inl (cI, 39, .inl f))] := hD
      subst r_8
      refine lv_if_ne (tgt := 27) hx hb dX1_placeOwn_20 (by decide) (fun c_10 => ?_) (fun c_10 => ?_)
      · skip
        have c_10 := z_b1 c_10
        refine lv_aload_n hx hb dX1_placeOwn_27 rfl (lv_at hl 0 rfl) ?_
        refine lv_iconst (v := 0) hx hb dX1_placeOwn_28 (by decide) ?_
        refine lv_iload_n hx hb dX1_placeOwn_29 rfl (lv_at hl 1 rfl) ?_
        refine lv_iload_n hx hb dX1_placeOwn_30 rfl (lv_at hl 2 rfl) ?_
        refine lv_iload_n hx hb dX1_placeOwn_31 rfl (lv_at hl 3 rfl) ?_
        refine lv_iload hx hb dX1_placeOwn_32 (lv_at hl 4 rfl) ?_
        refine z_VV (n := 5) (wn := (fun u : Unit => [(hF, .inr (1, [.ref cF, .ref aF, .ref wF])), (cF, .inl (cI, 39, .inl (putF f 0 px py ph ps)))])) (wr := []) (As := [.int 0, .int px, .int py, .int ph, .int ps]) (rest := []) ⟨hx, hb, hml, hown, hts⟩ hK hP hD hS hA hT (kX1_put l D cI cB tE tN hF cF aF wF f 0 px py ph ps _ (by omega)) gX1_placeOwn_X1_put rfl rfl rfl (by decide +kernel) ⟨Nat.le_of_ble_eq_true rfl, Nat.le_of_ble_eq_true rfl⟩ [0, 1] [] [0, 1] (by decide) rfl rfl (by decide) (by decide) (by decide) (fun u => rfl) 0 1 rfl rfl rfl rfl hl.1 rfl (Nat.le_of_ble_eq_true rfl) dX1_placeOwn_34 ⟨Nat.le_of_ble_eq_true rfl, Nat.le_of_ble_eq_true rfl⟩ (fun u H locs hw_12 hP hD hS => ?_)
        try dsimp only at hw_12
        have hP : va_P D vwCl [(hF, .inr (1, [.ref cF, .ref aF, .ref wF])), (cF, .inl (cI, 39, .inl (putF f 0 px py ph ps)))] H := hP
        have hD : va_D A [(hF, .inr (1, [.ref cF, .ref aF, .ref wF])), (cF, .inl (cI, 39, .inl (putF f 0 px py ph ps)))] := hD
        refine lv_iconst (v := 1) hx hb dX1_placeOwn_37 (by decide) ?_
        refine lv_istore (lv' := [(5, .int 1), (0, .ref hF), (1, .int px), (2, .int py), (3, .int ph), (4, .int ps)]) hx hb dX1_placeOwn_38 hl (by decide) rfl (fun ls hl => ?_)
        exact lp40 _ 0 _ _ _ rfl (by omega) c_4 c_7 c_10 hP hD hS (lv_sub hl [0, 1, 2, 3, 4, 5] rfl)
      · skip
        have c_10 := z_b0 c_10
        refine lv_sipush (v := (-10002)) hx hb dX1_placeOwn_23 (by decide) ?_
        exact hQ (-10002) f _ _ _ _ (rfl) (by simp [cOwn, c_4, c_7, c_10]) hP hD hS dX1_placeOwn_26

set_option maxHeartbeats 4000000 in
set_option maxRecDepth 100000 in
theorem kX1_leave (l : Launch) (D : va_G) (cI cB : ClassId) (tE tN : Nat) (hF : Nat) (cF : Nat) (aF : Nat) (wF : Nat) (f : Nat → Int32) (i : Int32) (N : Nat) (sz : Nat) (hN : f 35 = nI N) (hN6 : N ≤ 6) : zI l yX1_leave wsX1_leave ({ frames := 1, cells := 0, slots := 0, locals := 21 }) D cI cB tE tN [.ref hF, .int i] [(hF, .inr (1, [.ref cF, .ref aF, .ref wF])), (cF, .inl (cI, 39, .inl f))] sz (fun u : (Nat → Int32) => [(hF, .inr (1, [.ref cF, .ref aF, .ref wF])), (cF, .inl (cI, 39, .inl u))]) (fun (r : Int32) (u : (Nat → Int32)) => (r, u) = cLeave f N i) 0 0 := by
  refine zI_mk (cc := cX1_leave) (maxL := 3) (rt := .int) (by decide) rfl (Nat.le_of_ble_eq_true rfl) ?_
  intro p e s m below meth c A Q ls S0 hname hA hK hP hD hT hS hQ hl
  obtain ⟨hx, hb, hml, hown, hts⟩ := id S0
  have hl : lv_has ls 3 [(0, .ref hF), (1, .int i)] := hl
  have L11 : (Cond.fieldLink RX1 11 "PastAndClear$Fleet" "cells" "[I").before ([.ref hF, .int i] : List Value).toArray s = true := hts (.fieldLink RX1 11 "PastAndClear$Fleet" "cells" "[I") (by decide +kernel)
  have N1 : ∀ w ∈ u_ws RX1 TX1 3, w ∈ wsX1_leave := by decide +kernel
  refine lv_aload_n hx hb dX1_leave_0 rfl (lv_at hl 0 rfl) ?_
  refine lv_iload_n hx hb dX1_leave_1 rfl (lv_at hl 1 rfl) ?_
  refine z_VI (n := 1) (wn := (fun u : Unit => [(hF, .inr (1, [.ref cF, .ref aF, .ref wF])), (cF, .inl (cI, 39, .inl f))])) (wr := []) (As := [.int i]) (rest := []) ⟨hx, hb, hml, hown, hts⟩ hK hP hD hS hA hT (kX1_isOther l D cI cB tE tN hF cF aF wF f i _ ) gX1_leave_X1_isOther rfl rfl rfl (by decide +kernel) ⟨Nat.le_of_ble_eq_true rfl, Nat.le_of_ble_eq_true rfl⟩ [0, 1] [] [0, 1] (by decide) rfl rfl (by decide) (by decide) (by decide) (fun u => rfl) 0 1 rfl rfl rfl rfl hl.1 rfl (Nat.le_of_ble_eq_true rfl) dX1_leave_2 ⟨Nat.le_of_ble_eq_true rfl, Nat.le_of_ble_eq_true rfl⟩ (fun r_1 u H locs hw_2 hP hD hS => ?_)
  try dsimp only at hw_2
  have hP : va_P D vwCl [(hF, .inr (1, [.ref cF, .ref aF, .ref wF])), (cF, .inl (cI, 39, .inl f))] H := hP
  have hD : va_D A [(hF, .inr (1, [.ref cF, .ref aF, .ref wF])), (cF, .inl (cI, 39, .inl f))] := hD
  subst r_1
  refine lv_if_ne (tgt := 12) hx hb dX1_leave_5 (by decide) (fun c_3 => ?_) (fun c_3 => ?_)
  · skip
    have c_3 := z_b1 c_3
    obtain ⟨n, rfl, hn1, hn2⟩ := cOther_n hN hN6 c_3
    have hcl : (nI n).toNatClampNeg = n := nI_clamp (by omega)
    refine lv_aload_n hx hb dX1_leave_12 rfl (lv_at hl 0 rfl) ?_
    refine va_get (D := D) (ci := 1) (v := .ref cF) (C := RX1) (T := TX1) (N := 3) hx hb hts N1 hown hK hP 0 rfl rfl 0 (by decide) L11 (fun _ h9 => h9) rfl dX1_leave_13 ?_
    refine lv_bipush (v := 35) hx hb dX1_leave_16 (by decide) ?_
    refine z_ild (v := nI N) (j := 35) hx hb hK hP 1 rfl rfl (by omega) (by decide) (hN) dX1_leave_18 ?_
    refine lv_iload_n hx hb dX1_leave_19 rfl (lv_at hl 1 rfl) ?_
    refine lv_isub hx hb dX1_leave_20 ?_
    refine z_topi (x := (nI N) - (nI n)) (y := nI (N - n)) (z_sub (by omega)) ?_
    refine lv_istore_n (lv' := [(2, .int (nI (N - n))), (0, .ref hF), (1, .int (nI n))]) hx hb dX1_leave_21 rfl hl (by decide) rfl (fun ls hl => ?_)
    refine lv_aload_n hx hb dX1_leave_22 rfl (lv_at hl 1 rfl) ?_
    refine va_get (D := D) (ci := 1) (v := .ref cF) (C := RX1) (T := TX1) (N := 3) hx hb hts N1 hown hK hP 0 rfl rfl 0 (by decide) L11 (fun _ h9 => h9) rfl dX1_leave_23 ?_
    refine lv_iconst (v := 5) hx hb dX1_leave_26 (by decide) ?_
    refine lv_iload_n hx hb dX1_leave_27 rfl (lv_at hl 2 rfl) ?_
    refine lv_iconst (v := 1) hx hb dX1_leave_28 (by decide) ?_
    refine lv_iadd hx hb dX1_leave_29 ?_
    refine lv_imul hx hb dX1_leave_30 ?_
    refine lv_aload_n hx hb dX1_leave_31 rfl (lv_at hl 1 rfl) ?_
    refine va_get (D := D) (ci := 1) (v := .ref cF) (C := RX1) (T := TX1) (N := 3) hx hb hts N1 hown hK hP 0 rfl rfl 0 (by decide) L11 (fun _ h9 => h9) rfl dX1_leave_32 ?_
    refine lv_iconst (v := 5) hx hb dX1_leave_35 (by decide) ?_
    refine lv_iload_n hx hb dX1_leave_36 rfl (lv_at hl 2 rfl) ?_
    refine lv_imul hx hb dX1_leave_37 ?_
    refine lv_iconst (v := 5) hx hb dX1_leave_38 (by decide) ?_
    refine lv_iload_n hx hb dX1_leave_39 rfl (lv_at hl 0 rfl) ?_
    refine lv_imul hx hb dX1_leave_40 ?_
    refine z_copy (sp := 5 * ((nI n) + 1)) (dp := 5 * (nI n)) (n := 5 * (nI (N - n))) (js := 5 * (n + 1)) (jd := 5 * n) (jn := 5 * (N - n)) hx hb (hml.trans hl.1.symm) hown (hts (.methodLink RX1 56 arraycopyName) (by decide +kernel)) (hts (.native arraycopyName) (by decide +kernel)) (hts (.static arraycopyName) (by decide +kernel)) (hts (.initialized "java/lang/System") (by decide +kernel)) hK hP hD hS 1 1 rfl rfl (z_mul rfl (z_add rfl rfl)) (z_mul rfl rfl) (z_mul rfl rfl) (by omega) (by omega) (by decide) (by decide) (Nat.le_of_ble_eq_true rfl) (Nat.le_of_ble_eq_true rfl) dX1_leave_41 (fun H locs hP hD hS => ?_)
    have hP : va_P D vwCl [(hF, .inr (1, [.ref cF, .ref aF, .ref wF])), (cF, .inl (cI, 39, .inl (va_cpy f f (5 * (n + 1)) (5 * n) (5 * (N - n)))))] H := hP
    have hD : va_D A [(hF, .inr (1, [.ref cF, .ref aF, .ref wF])), (cF, .inl (cI, 39, .inl (va_cpy f f (5 * (n + 1)) (5 * n) (5 * (N - n)))))] := hD
    refine lv_aload_n hx hb dX1_leave_44 rfl (lv_at hl 1 rfl) ?_
    refine va_get (D := D) (ci := 1) (v := .ref cF) (C := RX1) (T := TX1) (N := 3) hx hb hts N1 hown hK hP 0 rfl rfl 0 (by decide) L11 (fun _ h9 => h9) rfl dX1_leave_45 ?_
    refine lv_bipush (v := 35) hx hb dX1_leave_48 (by decide) ?_
    refine lv_dup2_11 hx hb dX1_leave_50 rfl rfl ?_
    refine z_ild (v := nI N) (j := 35) hx hb hK hP 1 rfl rfl (by omega) (by decide) (by rw [pk_cpy_out (by omega), hN]) dX1_leave_51 ?_
    refine lv_iconst (v := 1) hx hb dX1_leave_52 (by decide) ?_
    refine lv_isub hx hb dX1_leave_53 ?_
    refine z_topi (x := (nI N) - 1) (y := nI (N - 1)) (z_sub (b := 1) (by omega)) ?_
    refine z_ist (j := 35) hx hb hK hP hD hS 1 rfl rfl (by omega) (by decide) dX1_leave_54 (fun H locs hP hD hS => ?_)
    have hP : va_P D vwCl [(hF, .inr (1, [.ref cF, .ref aF, .ref wF])), (cF, .inl (cI, 39, .inl (upd (va_cpy f f (5 * (n + 1)) (5 * n) (5 * (N - n))) 35 (nI (N - 1)))))] H := hP
    have hD : va_D A [(hF, .inr (1, [.ref cF, .ref aF, .ref wF])), (cF, .inl (cI, 39, .inl (upd (va_cpy f f (5 * (n + 1)) (5 * n) (5 * (N - n))) 35 (nI (N - 1)))))] := hD
    refine lv_aload_n hx hb dX1_leave_55 rfl (lv_at hl 1 rfl) ?_
    refine va_get (D := D) (ci := 1) (v := .ref cF) (C := RX1) (T := TX1) (N := 3) hx hb hts N1 hown hK hP 0 rfl rfl 0 (by decide) L11 (fun _ h9 => h9) rfl dX1_leave_56 ?_
    refine lv_bipush (v := 35) hx hb dX1_leave_59 (by decide) ?_
    refine z_ild (v := nI (N - 1)) (j := 35) hx hb hK hP 1 rfl rfl (by omega) (by decide) (upd_eq) dX1_leave_61 ?_
    exact hQ (nI (N - 1)) (upd (va_cpy f f (5 * (n + 1)) (5 * n) (5 * (N - n))) 35 (nI (N - 1))) _ _ _ _ (rfl) (by simp [cLeave, c_3, hcl]) hP hD hS dX1_leave_62
  · skip
    have c_3 := z_b0 c_3
    refine lv_sipush (v := (-10002)) hx hb dX1_leave_8 (by decide) ?_
    exact hQ (-10002) f _ _ _ _ (rfl) (by simp [cLeave, c_3]) hP hD hS dX1_leave_11

set_option maxHeartbeats 4000000 in
set_option maxRecDepth 100000 in
theorem kX1_steer (l : Launch) (D : va_G) (cI cB : ClassId) (tE tN : Nat) (hF : Nat) (cF : Nat) (aF : Nat) (wF : Nat) (f : Nat → Int32) (i : Int32) (ph : Int32) (ps : Int32) (N : Nat) (sz : Nat) (hN : f 35 = nI N) (hN6 : N ≤ 6) : zI l yX1_steer wsX1_steer ({ frames := 1, cells := 0, slots := 0, locals := 21 }) D cI cB tE tN [.ref hF, .int i, .int ph, .int ps] [(hF, .inr (1, [.ref cF, .ref aF, .ref wF])), (cF, .inl (cI, 39, .inl f))] sz (fun u : (Nat → Int32) => [(hF, .inr (1, [.ref cF, .ref aF, .ref wF])), (cF, .inl (cI, 39, .inl u))]) (fun (r : Int32) (u : (Nat → Int32)) => (r, u) = cSteer f i ph ps) 0 0 := by
  refine zI_mk (cc := cX1_steer) (maxL := 5) (rt := .int) (by decide) rfl (Nat.le_of_ble_eq_true rfl) ?_
  intro p e s m below meth c A Q ls S0 hname hA hK hP hD hT hS hQ hl
  obtain ⟨hx, hb, hml, hown, hts⟩ := id S0
  have hl : lv_has ls 5 [(0, .ref hF), (1, .int i), (2, .int ph), (3, .int ps)] := hl
  have L11 : (Cond.fieldLink RX1 11 "PastAndClear$Fleet" "cells" "[I").before ([.ref hF, .int i, .int ph, .int ps] : List Value).toArray s = true := hts (.fieldLink RX1 11 "PastAndClear$Fleet" "cells" "[I") (by decide +kernel)
  have N1 : ∀ w ∈ u_ws RX1 TX1 3, w ∈ wsX1_steer := by decide +kernel
  refine lv_aload_n hx hb dX1_steer_0 rfl (lv_at hl 0 rfl) ?_
  refine lv_iload_n hx hb dX1_steer_1 rfl (lv_at hl 1 rfl) ?_
  refine z_VI (n := 1) (wn := (fun u : Unit => [(hF, .inr (1, [.ref cF, .ref aF, .ref wF])), (cF, .inl (cI, 39, .inl f))])) (wr := []) (As := [.int i]) (rest := []) ⟨hx, hb, hml, hown, hts⟩ hK hP hD hS hA hT (kX1_isShip l D cI cB tE tN hF cF aF wF f i _ ) gX1_steer_X1_isShip rfl rfl rfl (by decide +kernel) ⟨Nat.le_of_ble_eq_true rfl, Nat.le_of_ble_eq_true rfl⟩ [0, 1] [] [0, 1] (by decide) rfl rfl (by decide) (by decide) (by decide) (fun u => rfl) 0 1 rfl rfl rfl rfl hl.1 rfl (Nat.le_of_ble_eq_true rfl) dX1_steer_2 ⟨Nat.le_of_ble_eq_true rfl, Nat.le_of_ble_eq_true rfl⟩ (fun r_1 u H locs hw_2 hP hD hS => ?_)
  try dsimp only at hw_2
  have hP : va_P D vwCl [(hF, .inr (1, [.ref cF, .ref aF, .ref wF])), (cF, .inl (cI, 39, .inl f))] H := hP
  have hD : va_D A [(hF, .inr (1, [.ref cF, .ref aF, .ref wF])), (cF, .inl (cI, 39, .inl f))] := hD
  subst r_1
  refine lv_if_eq (tgt := 16) hx hb dX1_steer_5 (by decide) (fun c_3 => ?_) (fun c_3 => ?_)
  · skip
    have c_3 := z_b0 c_3
    refine lv_sipush (v := (-10002)) hx hb dX1_steer_16 (by decide) ?_
    exact hQ (-10002) f _ _ _ _ (rfl) (by simp [cSteer, c_3]) hP hD hS dX1_steer_19
  · skip
    have c_3 := z_b1 c_3
    refine lv_iload_n hx hb dX1_steer_8 rfl (lv_at hl 2 rfl) ?_
    refine lv_iload_n hx hb dX1_steer_9 rfl (lv_at hl 3 rfl) ?_
    refine z_NI (n := 2) (wn := (fun u : Unit => [(hF, .inr (1, [.ref cF, .ref aF, .ref wF])), (cF, .inl (cI, 39, .inl f))])) (wr := [(hF, .inr (1, [.ref cF, .ref aF, .ref wF])), (cF, .inl (cI, 39, .inl f))]) (As := [.int ph, .int ps]) (rest := []) ⟨hx, hb, hml, hown, hts⟩ hK hP hD hS hA hT (kX4_isCourse l D cI cB tE tN ph ps _ ) ggX1_steer_X4_isCourse hT.2.2 (hts (.initialized RX4) (by decide +kernel)) (hts (.static yX4_isCourse) (by decide +kernel)) rfl rfl rfl (by decide +kernel) ⟨Nat.le_of_ble_eq_true rfl, Nat.le_of_ble_eq_true rfl⟩ [] [0, 1] [0, 1] (by decide) rfl rfl (by decide) (by decide) (by decide) (fun u => rfl) rfl hl.1 rfl (Nat.le_of_ble_eq_true rfl) dX1_steer_10 ⟨Nat.le_of_ble_eq_true rfl, Nat.le_of_ble_eq_true rfl⟩ (fun r_4 u H locs hw_5 hP hD hS => ?_)
    try dsimp only at hw_5
    have hP : va_P D vwCl [(hF, .inr (1, [.ref cF, .ref aF, .ref wF])), (cF, .inl (cI, 39, .inl f))] H := hP
    have hD : va_D A [(hF, .inr (1, [.ref cF, .ref aF, .ref wF])), (cF, .inl (cI, 39, .inl f))] := hD
    subst r_4
    refine lv_if_ne (tgt := 20) hx hb dX1_steer_13 (by decide) (fun c_6 => ?_) (fun c_6 => ?_)
    · skip
      have c_6 := z_b1 c_6
      obtain ⟨n, rfl, hn2⟩ := cShip_n hN hN6 c_3
      have hcl : (nI n).toNatClampNeg = n := nI_clamp (by omega)
      refine lv_bipush (v := 16) hx hb dX1_steer_20 (by decide) ?_
      refine lv_aload_n hx hb dX1_steer_22 rfl (lv_at hl 0 rfl) ?_
      refine va_get (D := D) (ci := 1) (v := .ref cF) (C := RX1) (T := TX1) (N := 3) hx hb hts N1 hown hK hP 0 rfl rfl 0 (by decide) L11 (fun _ h9 => h9) rfl dX1_steer_23 ?_
      refine lv_iconst (v := 5) hx hb dX1_steer_26 (by decide) ?_
      refine lv_iload_n hx hb dX1_steer_27 rfl (lv_at hl 1 rfl) ?_
      refine lv_imul hx hb dX1_steer_28 ?_
      refine lv_iconst (v := 3) hx hb dX1_steer_29 (by decide) ?_
      refine lv_iadd hx hb dX1_steer_30 ?_
      refine z_ild (v := f ((5 * n) + 3)) (j := (5 * n) + 3) hx hb hK hP 1 rfl (z_add (z_mul rfl rfl) rfl) (by omega) (by decide) (rfl) dX1_steer_31 ?_
      refine lv_imul hx hb dX1_steer_32 ?_
      refine lv_aload_n hx hb dX1_steer_33 rfl (lv_at hl 0 rfl) ?_
      refine va_get (D := D) (ci := 1) (v := .ref cF) (C := RX1) (T := TX1) (N := 3) hx hb hts N1 hown hK hP 0 rfl rfl 0 (by decide) L11 (fun _ h9 => h9) rfl dX1_steer_34 ?_
      refine lv_iconst (v := 5) hx hb dX1_steer_37 (by decide) ?_
      refine lv_iload_n hx hb dX1_steer_38 rfl (lv_at hl 1 rfl) ?_
      refine lv_imul hx hb dX1_steer_39 ?_
      refine lv_iconst (v := 2) hx hb dX1_steer_40 (by decide) ?_
      refine lv_iadd hx hb dX1_steer_41 ?_
      refine z_ild (v := f ((5 * n) + 2)) (j := (5 * n) + 2) hx hb hK hP 1 rfl (z_add (z_mul rfl rfl) rfl) (by omega) (by decide) (rfl) dX1_steer_42 ?_
      refine lv_iadd hx hb dX1_steer_43 ?_
      refine lv_istore (lv' := [(4, .int ((16 * (f ((5 * n) + 3))) + (f ((5 * n) + 2)))), (0, .ref hF), (1, .int (nI n)), (2, .int ph), (3, .int ps)]) hx hb dX1_steer_44 hl (by decide) rfl (fun ls hl => ?_)
      refine lv_aload_n hx hb dX1_steer_46 rfl (lv_at hl 1 rfl) ?_
      refine va_get (D := D) (ci := 1) (v := .ref cF) (C := RX1) (T := TX1) (N := 3) hx hb hts N1 hown hK hP 0 rfl rfl 0 (by decide) L11 (fun _ h9 => h9) rfl dX1_steer_47 ?_
      refine lv_iconst (v := 5) hx hb dX1_steer_50 (by decide) ?_
      refine lv_iload_n hx hb dX1_steer_51 rfl (lv_at hl 2 rfl) ?_
      refine lv_imul hx hb dX1_steer_52 ?_
      refine lv_iconst (v := 2) hx hb dX1_steer_53 (by decide) ?_
      refine lv_iadd hx hb dX1_steer_54 ?_
      refine lv_iload_n hx hb dX1_steer_55 rfl (lv_at hl 3 rfl) ?_
      refine z_ist (j := (5 * n) + 2) hx hb hK hP hD hS 1 rfl (z_add (z_mul rfl rfl) rfl) (by omega) (by decide) dX1_steer_56 (fun H locs hP hD hS => ?_)
      have hP : va_P D vwCl [(hF, .inr (1, [.ref cF, .ref aF, .ref wF])), (cF, .inl (cI, 39, .inl (upd f ((5 * n) + 2) ph)))] H := hP
      have hD : va_D A [(hF, .inr (1, [.ref cF, .ref aF, .ref wF])), (cF, .inl (cI, 39, .inl (upd f ((5 * n) + 2) ph)))] := hD
      refine lv_aload_n hx hb dX1_steer_57 rfl (lv_at hl 1 rfl) ?_
      refine va_get (D := D) (ci := 1) (v := .ref cF) (C := RX1) (T := TX1) (N := 3) hx hb hts N1 hown hK hP 0 rfl rfl 0 (by decide) L11 (fun _ h9 => h9) rfl dX1_steer_58 ?_
      refine lv_iconst (v := 5) hx hb dX1_steer_61 (by decide) ?_
      refine lv_iload_n hx hb dX1_steer_62 rfl (lv_at hl 2 rfl) ?_
      refine lv_imul hx hb dX1_steer_63 ?_
      refine lv_iconst (v := 3) hx hb dX1_steer_64 (by decide) ?_
      refine lv_iadd hx hb dX1_steer_65 ?_
      refine lv_iload_n hx hb dX1_steer_66 rfl (lv_at hl 4 rfl) ?_
      refine z_ist (j := (5 * n) + 3) hx hb hK hP hD hS 1 rfl (z_add (z_mul rfl rfl) rfl) (by omega) (by decide) dX1_steer_67 (fun H locs hP hD hS => ?_)
      have hP : va_P D vwCl [(hF, .inr (1, [.ref cF, .ref aF, .ref wF])), (cF, .inl (cI, 39, .inl (upd (upd f ((5 * n) + 2) ph) ((5 * n) + 3) ps)))] H := hP
      have hD : va_D A [(hF, .inr (1, [.ref cF, .ref aF, .ref wF])), (cF, .inl (cI, 39, .inl (upd (upd f ((5 * n) + 2) ph) ((5 * n) + 3) ps)))] := hD
      refine lv_iload hx hb dX1_steer_68 (lv_at hl 0 rfl) ?_
      exact hQ ((16 * (f ((5 * n) + 3))) + (f ((5 * n) + 2))) (upd (upd f ((5 * n) + 2) ph) ((5 * n) + 3) ps) _ _ _ _ (rfl) (by simp [cSteer, c_3, c_6, hcl]) hP hD hS dX1_steer_70
    · skip
      have c_6 := z_b0 c_6
      refine lv_sipush (v := (-10002)) hx hb dX1_steer_16 (by decide) ?_
      exact hQ (-10002) f _ _ _ _ (rfl) (by simp [cSteer, c_3, c_6]) hP hD hS dX1_steer_19

set_option maxHeartbeats 4000000 in
set_option maxRecDepth 100000 in
theorem kX1_setRule (l : Launch) (D : va_G) (cI cB : ClassId) (tE tN : Nat) (hF : Nat) (cF : Nat) (aF : Nat) (wF : Nat) (f : Nat → Int32) (i : Int32) (v : Int32) (sz : Nat)  : zI l yX1_setRule wsX1_setRule ({ frames := 0, cells := 0, slots := 0, locals := 0 }) D cI cB tE tN [.ref hF, .int i, .int v] [(hF, .inr (1, [.ref cF, .ref aF, .ref wF])), (cF, .inl (cI, 39, .inl f))] sz (fun u : (Nat → Int32) => [(hF, .inr (1, [.ref cF, .ref aF, .ref wF])), (cF, .inl (cI, 39, .inl u))]) (fun (r : Int32) (u : (Nat → Int32)) => (r, u) = cRule f i v) 0 0 := by
  refine zI_mk (cc := cX1_setRule) (maxL := 4) (rt := .int) (by decide) rfl (Nat.le_of_ble_eq_true rfl) ?_
  intro p e s m below meth c A Q ls S0 hname hA hK hP hD hT hS hQ hl
  obtain ⟨hx, hb, hml, hown, hts⟩ := id S0
  have hl : lv_has ls 4 [(0, .ref hF), (1, .int i), (2, .int v)] := hl
  have L11 : (Cond.fieldLink RX1 11 "PastAndClear$Fleet" "cells" "[I").before ([.ref hF, .int i, .int v] : List Value).toArray s = true := hts (.fieldLink RX1 11 "PastAndClear$Fleet" "cells" "[I") (by decide +kernel)
  have N1 : ∀ w ∈ u_ws RX1 TX1 3, w ∈ wsX1_setRule := by decide +kernel
  refine lv_iload_n hx hb dX1_setRule_0 rfl (lv_at hl 1 rfl) ?_
  refine lv_if_lt (tgt := 30) hx hb dX1_setRule_1 (by decide) (fun c_1 => ?_) (fun c_1 => ?_)
  · skip
    refine lv_sipush (v := (-10002)) hx hb dX1_setRule_30 (by decide) ?_
    exact hQ (-10002) f _ _ _ _ (rfl) (by simp [cRule, c_1]) hP hD hS dX1_setRule_33
  · skip
    refine lv_iload_n hx hb dX1_setRule_4 rfl (lv_at hl 1 rfl) ?_
    refine lv_iconst (v := 1) hx hb dX1_setRule_5 (by decide) ?_
    refine lv_icmp_gt (tgt := 30) hx hb dX1_setRule_6 (by decide) (fun c_2 => ?_) (fun c_2 => ?_)
    · skip
      refine lv_sipush (v := (-10002)) hx hb dX1_setRule_30 (by decide) ?_
      exact hQ (-10002) f _ _ _ _ (rfl) (by simp [cRule, c_1, c_2]) hP hD hS dX1_setRule_33
    · skip
      refine lv_iload_n hx hb dX1_setRule_9 rfl (lv_at hl 2 rfl) ?_
      refine lv_iconst (v := 1) hx hb dX1_setRule_10 (by decide) ?_
      refine lv_icmp_lt (tgt := 30) hx hb dX1_setRule_11 (by decide) (fun c_3 => ?_) (fun c_3 => ?_)
      · skip
        refine lv_sipush (v := (-10002)) hx hb dX1_setRule_30 (by decide) ?_
        exact hQ (-10002) f _ _ _ _ (rfl) (by simp [cRule, c_1, c_2, c_3]) hP hD hS dX1_setRule_33
      · skip
        refine lv_iload_n hx hb dX1_setRule_14 rfl (lv_at hl 2 rfl) ?_
        refine lv_iload_n hx hb dX1_setRule_15 rfl (lv_at hl 1 rfl) ?_
        refine lv_if_ne (tgt := 25) hx hb dX1_setRule_16 (by decide) (fun c_4 => ?_) (fun c_4 => ?_)
        · skip
          refine lv_bipush (v := 99) hx hb dX1_setRule_25 (by decide) ?_
          refine lv_icmp_le (tgt := 34) hx hb dX1_setRule_27 (by decide) (fun c_5 => ?_) (fun c_5 => ?_)
          · skip
            obtain ⟨n, rfl, hn2⟩ := z_nat (b := 1) (Int32.not_lt.mp c_1) (Int32.not_lt.mp c_2) (by decide)
            have hcl : (nI n).toNatClampNeg = n := nI_clamp (by omega)
            refine lv_aload_n hx hb dX1_setRule_34 rfl (lv_at hl 0 rfl) ?_
            refine va_get (D := D) (ci := 1) (v := .ref cF) (C := RX1) (T := TX1) (N := 3) hx hb hts N1 hown hK hP 0 rfl rfl 0 (by decide) L11 (fun _ h9 => h9) rfl dX1_setRule_35 ?_
            refine lv_bipush (v := 36) hx hb dX1_setRule_38 (by decide) ?_
            refine lv_iload_n hx hb dX1_setRule_40 rfl (lv_at hl 1 rfl) ?_
            refine lv_iadd hx hb dX1_setRule_41 ?_
            refine z_ild (v := f (36 + n)) (j := 36 + n) hx hb hK hP 1 rfl (z_add rfl rfl) (by omega) (by decide) (rfl) dX1_setRule_42 ?_
            refine lv_istore_n (lv' := [(3, .int (f (36 + n))), (0, .ref hF), (1, .int (nI n)), (2, .int v)]) hx hb dX1_setRule_43 rfl hl (by decide) rfl (fun ls hl => ?_)
            refine lv_aload_n hx hb dX1_setRule_44 rfl (lv_at hl 1 rfl) ?_
            refine va_get (D := D) (ci := 1) (v := .ref cF) (C := RX1) (T := TX1) (N := 3) hx hb hts N1 hown hK hP 0 rfl rfl 0 (by decide) L11 (fun _ h9 => h9) rfl dX1_setRule_45 ?_
            refine lv_bipush (v := 36) hx hb dX1_setRule_48 (by decide) ?_
            refine lv_iload_n hx hb dX1_setRule_50 rfl (lv_at hl 2 rfl) ?_
            refine lv_iadd hx hb dX1_setRule_51 ?_
            refine lv_iload_n hx hb dX1_setRule_52 rfl (lv_at hl 3 rfl) ?_
            refine z_ist (j := 36 + n) hx hb hK hP hD hS 1 rfl (z_add rfl rfl) (by omega) (by decide) dX1_setRule_53 (fun H locs hP hD hS => ?_)
            have hP : va_P D vwCl [(hF, .inr (1, [.ref cF, .ref aF, .ref wF])), (cF, .inl (cI, 39, .inl (upd f (36 + n) v)))] H := hP
            have hD : va_D A [(hF, .inr (1, [.ref cF, .ref aF, .ref wF])), (cF, .inl (cI, 39, .inl (upd f (36 + n) v)))] := hD
            refine lv_iload_n hx hb dX1_setRule_54 rfl (lv_at hl 0 rfl) ?_
            exact hQ (f (36 + n)) (upd f (36 + n) v) _ _ _ _ (rfl) (by rw [cRule, if_pos ⟨c_1, c_2, c_3, by first | (rw [if_pos c_4]; exact c_5) | (rw [if_neg c_4]; exact c_5)⟩, hcl]) hP hD hS dX1_setRule_55
          · skip
            refine lv_sipush (v := (-10002)) hx hb dX1_setRule_30 (by decide) ?_
            exact hQ (-10002) f _ _ _ _ (rfl) (by simp [cRule, c_1, c_2, c_3, c_4, c_5]) hP hD hS dX1_setRule_33
        · skip
          refine lv_sipush (v := 999) hx hb dX1_setRule_19 (by decide) ?_
          refine lv_goto (tgt := 27) hx hb dX1_setRule_22 (by decide) ?_
          refine lv_icmp_le (tgt := 34) hx hb dX1_setRule_27 (by decide) (fun c_6 => ?_) (fun c_6 => ?_)
          · skip
            obtain ⟨n, rfl, hn2⟩ := z_nat (b := 1) (Int32.not_lt.mp c_1) (Int32.not_lt.mp c_2) (by decide)
            have hcl : (nI n).toNatClampNeg = n := nI_clamp (by omega)
            refine lv_aload_n hx hb dX1_setRule_34 rfl (lv_at hl 0 rfl) ?_
            refine va_get (D := D) (ci := 1) (v := .ref cF) (C := RX1) (T := TX1) (N := 3) hx hb hts N1 hown hK hP 0 rfl rfl 0 (by decide) L11 (fun _ h9 => h9) rfl dX1_setRule_35 ?_
            refine lv_bipush (v := 36) hx hb dX1_setRule_38 (by decide) ?_
            refine lv_iload_n hx hb dX1_setRule_40 rfl (lv_at hl 1 rfl) ?_
            refine lv_iadd hx hb dX1_setRule_41 ?_
            refine z_ild (v := f (36 + n)) (j := 36 + n) hx hb hK hP 1 rfl (z_add rfl rfl) (by omega) (by decide) (rfl) dX1_setRule_42 ?_
            refine lv_istore_n (lv' := [(3, .int (f (36 + n))), (0, .ref hF), (1, .int (nI n)), (2, .int v)]) hx hb dX1_setRule_43 rfl hl (by decide) rfl (fun ls hl => ?_)
            refine lv_aload_n hx hb dX1_setRule_44 rfl (lv_at hl 1 rfl) ?_
            refine va_get (D := D) (ci := 1) (v := .ref cF) (C := RX1) (T := TX1) (N := 3) hx hb hts N1 hown hK hP 0 rfl rfl 0 (by decide) L11 (fun _ h9 => h9) rfl dX1_setRule_45 ?_
            refine lv_bipush (v := 36) hx hb dX1_setRule_48 (by decide) ?_
            refine lv_iload_n hx hb dX1_setRule_50 rfl (lv_at hl 2 rfl) ?_
            refine lv_iadd hx hb dX1_setRule_51 ?_
            refine lv_iload_n hx hb dX1_setRule_52 rfl (lv_at hl 3 rfl) ?_
            refine z_ist (j := 36 + n) hx hb hK hP hD hS 1 rfl (z_add rfl rfl) (by omega) (by decide) dX1_setRule_53 (fun H locs hP hD hS => ?_)
            have hP : va_P D vwCl [(hF, .inr (1, [.ref cF, .ref aF, .ref wF])), (cF, .inl (cI, 39, .inl (upd f (36 + n) v)))] H := hP
            have hD : va_D A [(hF, .inr (1, [.ref cF, .ref aF, .ref wF])), (cF, .inl (cI, 39, .inl (upd f (36 + n) v)))] := hD
            refine lv_iload_n hx hb dX1_setRule_54 rfl (lv_at hl 0 rfl) ?_
            exact hQ (f (36 + n)) (upd f (36 + n) v) _ _ _ _ (rfl) (by rw [cRule, if_pos ⟨c_1, c_2, c_3, by first | (rw [if_pos c_4]; exact c_6) | (rw [if_neg c_4]; exact c_6)⟩, hcl]) hP hD hS dX1_setRule_55
          · skip
            refine lv_sipush (v := (-10002)) hx hb dX1_setRule_30 (by decide) ?_
            exact hQ (-10002) f _ _ _ _ (rfl) (by simp [cRule, c_1, c_2, c_3, c_4, c_6]) hP hD hS dX1_setRule_33
