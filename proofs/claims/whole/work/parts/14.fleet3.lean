set_option maxHeartbeats 4000000 in
set_option maxRecDepth 100000 in
theorem kX1_staysInside (l : Launch) (D : va_G) (cI cB : ClassId) (tE tN : Nat) (hF : Nat) (cF : Nat) (aF : Nat) (wF : Nat) (f : Nat → Int32) (i : Int32) (N : Nat) (sz : Nat) (hN : f 35 = nI N) (hN6 : N ≤ 6) : zI l yX1_staysInside wsX1_staysInside ({ frames := 1, cells := 0, slots := 0, locals := 21 }) D cI cB tE tN [.ref hF, .int i] [(hF, .inr (1, [.ref cF, .ref aF, .ref wF])), (cF, .inl (cI, 39, .inl f))] sz (fun u : Unit => [(hF, .inr (1, [.ref cF, .ref aF, .ref wF])), (cF, .inl (cI, 39, .inl f))]) (fun (r : Int32) (u : Unit) => r = b2i (cStay f N i)) 0 0 := by
  refine zI_mk (cc := cX1_staysInside) (maxL := 3) (rt := .boolean) (by decide) rfl (Nat.le_of_ble_eq_true rfl) ?_
  intro p e s m below meth c A Q ls S0 hname hA hK hP hD hT hS hQ hl
  obtain ⟨hx, hb, hml, hown, hts⟩ := id S0
  have hl : lv_has ls 3 [(0, .ref hF), (1, .int i)] := hl
  have L11 : (Cond.fieldLink RX1 11 "PastAndClear$Fleet" "cells" "[I").before ([.ref hF, .int i] : List Value).toArray s = true := hts (.fieldLink RX1 11 "PastAndClear$Fleet" "cells" "[I") (by decide +kernel)
  have N1 : ∀ w ∈ u_ws RX1 TX1 3, w ∈ wsX1_staysInside := by decide +kernel
  have lp2 : ∀ (k : Nat) (n : Nat) (H : Heap) (locs : List Loc) (ls : Array Slot), N + 1 - n = k → (n ≤ N + 1) → (∀ j, j < n → cPlace (f (5 * j + 0) + i * cEast f j) = true ∧ cPlace (f (5 * j + 1) + i * cNorth f j) = true) → va_P D vwCl [(hF, .inr (1, [.ref cF, .ref aF, .ref wF])), (cF, .inl (cI, 39, .inl f))] H → va_D A [(hF, .inr (1, [.ref cF, .ref aF, .ref wF])), (cF, .inl (cI, 39, .inl f))] → va_S A s.heap H locs → lv_has ls 3 [(2, .int (nI n)), (0, .ref hF), (1, .int i)] → W p l e ({ frames := 1, cells := 0, slots := 0, locals := 21 } : Room) s m ([.ref hF, .int i] : List Value).toArray below meth c H locs 0 0 Q (F0 m 2 ls []) := by
    intro k
    induction k using Nat.strongRecOn with
    | ind k ih =>
    intro n H locs ls hk hn hi hP hD hS hl
    refine lv_iload_n hx hb dX1_staysInside_2 rfl (lv_at hl 0 rfl) ?_
    refine lv_aload_n hx hb dX1_staysInside_3 rfl (lv_at hl 1 rfl) ?_
    refine va_get (D := D) (ci := 1) (v := .ref cF) (C := RX1) (T := TX1) (N := 3) hx hb hts N1 hown hK hP 0 rfl rfl 0 (by decide) L11 (fun _ h9 => h9) rfl dX1_staysInside_4 ?_
    refine lv_bipush (v := 35) hx hb dX1_staysInside_7 (by decide) ?_
    refine z_ild (v := nI N) (j := 35) hx hb hK hP 1 rfl rfl (by omega) (by decide) (hN) dX1_staysInside_9 ?_
    refine lv_icmp_gt (tgt := 71) hx hb dX1_staysInside_10 (by decide) (fun c_1 => ?_) (fun c_1 => ?_)
    · skip
      have c_1 := (z_lt (a := N) (b := n) rfl rfl (by omega) (by omega)).mp c_1
      refine lv_iconst (v := 1) hx hb dX1_staysInside_71 (by decide) ?_
      exact hQ 1 () _ _ _ _ (rfl) (b2i_t (cStay_t (fun j h => hi j (by omega)))) hP hD hS dX1_staysInside_72
    · skip
      have c_1 := (z_ltn (a := N) (b := n) rfl rfl (by omega) (by omega)).mp c_1
      refine lv_aload_n hx hb dX1_staysInside_13 rfl (lv_at hl 1 rfl) ?_
      refine va_get (D := D) (ci := 1) (v := .ref cF) (C := RX1) (T := TX1) (N := 3) hx hb hts N1 hown hK hP 0 rfl rfl 0 (by decide) L11 (fun _ h9 => h9) rfl dX1_staysInside_14 ?_
      refine lv_iconst (v := 5) hx hb dX1_staysInside_17 (by decide) ?_
      refine lv_iload_n hx hb dX1_staysInside_18 rfl (lv_at hl 0 rfl) ?_
      refine lv_imul hx hb dX1_staysInside_19 ?_
      refine lv_iconst (v := 0) hx hb dX1_staysInside_20 (by decide) ?_
      refine lv_iadd hx hb dX1_staysInside_21 ?_
      refine z_ild (v := f ((5 * n) + 0)) (j := (5 * n) + 0) hx hb hK hP 1 rfl (z_add (z_mul rfl rfl) rfl) (by omega) (by decide) (rfl) dX1_staysInside_22 ?_
      refine lv_iload_n hx hb dX1_staysInside_23 rfl (lv_at hl 2 rfl) ?_
      refine lv_aload_n hx hb dX1_staysInside_24 rfl (lv_at hl 1 rfl) ?_
      refine lv_iload_n hx hb dX1_staysInside_25 rfl (lv_at hl 0 rfl) ?_
      refine z_VI (n := 1) (wn := (fun u : Unit => [(hF, .inr (1, [.ref cF, .ref aF, .ref wF])), (cF, .inl (cI, 39, .inl f))])) (wr := []) (As := [.int (nI n)]) (rest := [.int i, .int (f ((5 * n) + 0))]) ⟨hx, hb, hml, hown, hts⟩ hK hP hD hS hA hT (kX1_eastward l D cI cB tE tN hF cF aF wF f n _ (by omega)) gX1_staysInside_X1_eastward rfl rfl rfl (by decide +kernel) ⟨Nat.le_of_ble_eq_true rfl, Nat.le_of_ble_eq_true rfl⟩ [0, 1] [] [0, 1] (by decide) rfl rfl (by decide) (by decide) (by decide) (fun u => rfl) 0 1 rfl rfl rfl rfl hl.1 rfl (Nat.le_of_ble_eq_true rfl) dX1_staysInside_26 ⟨Nat.le_of_ble_eq_true rfl, Nat.le_of_ble_eq_true rfl⟩ (fun r_2 u H locs hw_3 hP hD hS => ?_)
      try dsimp only at hw_3
      have hP : va_P D vwCl [(hF, .inr (1, [.ref cF, .ref aF, .ref wF])), (cF, .inl (cI, 39, .inl f))] H := hP
      have hD : va_D A [(hF, .inr (1, [.ref cF, .ref aF, .ref wF])), (cF, .inl (cI, 39, .inl f))] := hD
      subst r_2
      refine lv_imul hx hb dX1_staysInside_29 ?_
      refine lv_iadd hx hb dX1_staysInside_30 ?_
      refine z_SI (n := 1) (wn := (fun u : Unit => [(hF, .inr (1, [.ref cF, .ref aF, .ref wF])), (cF, .inl (cI, 39, .inl f))])) (wr := [(hF, .inr (1, [.ref cF, .ref aF, .ref wF])), (cF, .inl (cI, 39, .inl f))]) (As := [.int ((f ((5 * n) + 0)) + (i * (cEast f n)))]) (rest := []) ⟨hx, hb, hml, hown, hts⟩ hK hP hD hS hA hT (kX1_isPlace l D cI cB tE tN ((f ((5 * n) + 0)) + (i * (cEast f n))) _ ) gX1_staysInside_X1_isPlace rfl rfl rfl (by decide +kernel) ⟨Nat.le_of_ble_eq_true rfl, Nat.le_of_ble_eq_true rfl⟩ [] [0, 1] [0, 1] (by decide) rfl rfl (by decide) (by decide) (by decide) (fun u => rfl) rfl hl.1 rfl (Nat.le_of_ble_eq_true rfl) dX1_staysInside_31 ⟨Nat.le_of_ble_eq_true rfl, Nat.le_of_ble_eq_true rfl⟩ (fun r_4 u H locs hw_5 hP hD hS => ?_)
      try dsimp only at hw_5
      have hP : va_P D vwCl [(hF, .inr (1, [.ref cF, .ref aF, .ref wF])), (cF, .inl (cI, 39, .inl f))] H := hP
      have hD : va_D A [(hF, .inr (1, [.ref cF, .ref aF, .ref wF])), (cF, .inl (cI, 39, .inl f))] := hD
      subst r_4
      refine lv_if_ne (tgt := 39) hx hb dX1_staysInside_34 (by decide) (fun c_6 => ?_) (fun c_6 => ?_)
      · skip
        have c_6 := z_b1 c_6
        refine lv_aload_n hx hb dX1_staysInside_39 rfl (lv_at hl 1 rfl) ?_
        refine va_get (D := D) (ci := 1) (v := .ref cF) (C := RX1) (T := TX1) (N := 3) hx hb hts N1 hown hK hP 0 rfl rfl 0 (by decide) L11 (fun _ h9 => h9) rfl dX1_staysInside_40 ?_
        refine lv_iconst (v := 5) hx hb dX1_staysInside_43 (by decide) ?_
        refine lv_iload_n hx hb dX1_staysInside_44 rfl (lv_at hl 0 rfl) ?_
        refine lv_imul hx hb dX1_staysInside_45 ?_
        refine lv_iconst (v := 1) hx hb dX1_staysInside_46 (by decide) ?_
        refine lv_iadd hx hb dX1_staysInside_47 ?_
        refine z_ild (v := f ((5 * n) + 1)) (j := (5 * n) + 1) hx hb hK hP 1 rfl (z_add (z_mul rfl rfl) rfl) (by omega) (by decide) (rfl) dX1_staysInside_48 ?_
        refine lv_iload_n hx hb dX1_staysInside_49 rfl (lv_at hl 2 rfl) ?_
        refine lv_aload_n hx hb dX1_staysInside_50 rfl (lv_at hl 1 rfl) ?_
        refine lv_iload_n hx hb dX1_staysInside_51 rfl (lv_at hl 0 rfl) ?_
        refine z_VI (n := 1) (wn := (fun u : Unit => [(hF, .inr (1, [.ref cF, .ref aF, .ref wF])), (cF, .inl (cI, 39, .inl f))])) (wr := []) (As := [.int (nI n)]) (rest := [.int i, .int (f ((5 * n) + 1))]) ⟨hx, hb, hml, hown, hts⟩ hK hP hD hS hA hT (kX1_northward l D cI cB tE tN hF cF aF wF f n _ (by omega)) gX1_staysInside_X1_northward rfl rfl rfl (by decide +kernel) ⟨Nat.le_of_ble_eq_true rfl, Nat.le_of_ble_eq_true rfl⟩ [0, 1] [] [0, 1] (by decide) rfl rfl (by decide) (by decide) (by decide) (fun u => rfl) 0 1 rfl rfl rfl rfl hl.1 rfl (Nat.le_of_ble_eq_true rfl) dX1_staysInside_52 ⟨Nat.le_of_ble_eq_true rfl, Nat.le_of_ble_eq_true rfl⟩ (fun r_7 u H locs hw_8 hP hD hS => ?_)
        try dsimp only at hw_8
        have hP : va_P D vwCl [(hF, .inr (1, [.ref cF, .ref aF, .ref wF])), (cF, .inl (cI, 39, .inl f))] H := hP
        have hD : va_D A [(hF, .inr (1, [.ref cF, .ref aF, .ref wF])), (cF, .inl (cI, 39, .inl f))] := hD
        subst r_7
        refine lv_imul hx hb dX1_staysInside_55 ?_
        refine lv_iadd hx hb dX1_staysInside_56 ?_
        refine z_SI (n := 1) (wn := (fun u : Unit => [(hF, .inr (1, [.ref cF, .ref aF, .ref wF])), (cF, .inl (cI, 39, .inl f))])) (wr := [(hF, .inr (1, [.ref cF, .ref aF, .ref wF])), (cF, .inl (cI, 39, .inl f))]) (As := [.int ((f ((5 * n) + 1)) + (i * (cNorth f n)))]) (rest := []) ⟨hx, hb, hml, hown, hts⟩ hK hP hD hS hA hT (kX1_isPlace l D cI cB tE tN ((f ((5 * n) + 1)) + (i * (cNorth f n))) _ ) gX1_staysInside_X1_isPlace rfl rfl rfl (by decide +kernel) ⟨Nat.le_of_ble_eq_true rfl, Nat.le_of_ble_eq_true rfl⟩ [] [0, 1] [0, 1] (by decide) rfl rfl (by decide) (by decide) (by decide) (fun u => rfl) rfl hl.1 rfl (Nat.le_of_ble_eq_true rfl) dX1_staysInside_57 ⟨Nat.le_of_ble_eq_true rfl, Nat.le_of_ble_eq_true rfl⟩ (fun r_9 u H locs hw_10 hP hD hS => ?_)
        try dsimp only at hw_10
        have hP : va_P D vwCl [(hF, .inr (1, [.ref cF, .ref aF, .ref wF])), (cF, .inl (cI, 39, .inl f))] H := hP
        have hD : va_D A [(hF, .inr (1, [.ref cF, .ref aF, .ref wF])), (cF, .inl (cI, 39, .inl f))] := hD
        subst r_9
        refine lv_if_ne (tgt := 65) hx hb dX1_staysInside_60 (by decide) (fun c_11 => ?_) (fun c_11 => ?_)
        · skip
          have c_11 := z_b1 c_11
          refine lv_iinc (v := nI (n + 1)) (lv' := [(2, .int (nI (n + 1))), (0, .ref hF), (1, .int i)]) hx hb dX1_staysInside_65 hl (k := 0) rfl (z_add rfl rfl) (by decide) rfl (fun ls hl => ?_)
          refine lv_goto (tgt := 2) hx hb dX1_staysInside_68 (by decide) ?_
          exact ih _ (by omega) (n + 1) _ _ _ rfl (by omega) (z_all hi ⟨c_6, c_11⟩) hP hD hS (lv_sub hl [0, 1, 2] rfl)
        · skip
          have c_11 := z_b0 c_11
          refine lv_iconst (v := 0) hx hb dX1_staysInside_63 (by decide) ?_
          exact hQ 0 () _ _ _ _ (rfl) (b2i_f (cStay_f (i := n) (by omega) (Or.inr c_11))) hP hD hS dX1_staysInside_64
      · skip
        have c_6 := z_b0 c_6
        refine lv_iconst (v := 0) hx hb dX1_staysInside_37 (by decide) ?_
        exact hQ 0 () _ _ _ _ (rfl) (b2i_f (cStay_f (i := n) (by omega) (Or.inl c_6))) hP hD hS dX1_staysInside_38
  refine lv_iconst (v := 0) hx hb dX1_staysInside_0 (by decide) ?_
  refine lv_istore_n (lv' := [(2, .int 0), (0, .ref hF), (1, .int i)]) hx hb dX1_staysInside_1 rfl hl (by decide) rfl (fun ls hl => ?_)
  exact lp2 _ 0 _ _ _ rfl (by omega) (fun j h => absurd h (Nat.not_lt_zero j)) hP hD hS (lv_sub hl [0, 1, 2] rfl)

set_option maxHeartbeats 4000000 in
set_option maxRecDepth 100000 in
theorem kX1_moveAll (l : Launch) (D : va_G) (cI cB : ClassId) (tE tN : Nat) (hF : Nat) (cF : Nat) (aF : Nat) (wF : Nat) (f : Nat → Int32) (N : Nat) (sz : Nat) (hN : f 35 = nI N) (hN6 : N ≤ 6) : zV l yX1_moveAll wsX1_moveAll ({ frames := 1, cells := 0, slots := 0, locals := 21 }) D cI cB tE tN [.ref hF] [(hF, .inr (1, [.ref cF, .ref aF, .ref wF])), (cF, .inl (cI, 39, .inl f))] sz (fun u : Unit => [(hF, .inr (1, [.ref cF, .ref aF, .ref wF])), (cF, .inl (cI, 39, .inl (mvF f (N + 1))))]) (fun (u : Unit) => True) 0 0 := by
  refine zV_mk (cc := cX1_moveAll) (maxL := 2) (by decide) rfl (Nat.le_of_ble_eq_true rfl) ?_
  intro p e s m below meth c A Q ls S0 hname hA hK hP hD hT hS hQ hl
  obtain ⟨hx, hb, hml, hown, hts⟩ := id S0
  have hl : lv_has ls 2 [(0, .ref hF)] := hl
  have L11 : (Cond.fieldLink RX1 11 "PastAndClear$Fleet" "cells" "[I").before ([.ref hF] : List Value).toArray s = true := hts (.fieldLink RX1 11 "PastAndClear$Fleet" "cells" "[I") (by decide +kernel)
  have N1 : ∀ w ∈ u_ws RX1 TX1 3, w ∈ wsX1_moveAll := by decide +kernel
  have lp2 : ∀ (k : Nat) (n : Nat) (H : Heap) (locs : List Loc) (ls : Array Slot), N + 1 - n = k → (n ≤ N + 1) → va_P D vwCl [(hF, .inr (1, [.ref cF, .ref aF, .ref wF])), (cF, .inl (cI, 39, .inl (mvF f n)))] H → va_D A [(hF, .inr (1, [.ref cF, .ref aF, .ref wF])), (cF, .inl (cI, 39, .inl (mvF f n)))] → va_S A s.heap H locs → lv_has ls 2 [(1, .int (nI n)), (0, .ref hF)] → W p l e ({ frames := 1, cells := 0, slots := 0, locals := 21 } : Room) s m ([.ref hF] : List Value).toArray below meth c H locs 0 0 Q (F0 m 2 ls []) := by
    intro k
    induction k using Nat.strongRecOn with
    | ind k ih =>
    intro n H locs ls hk hn hP hD hS hl
    refine lv_iload_n hx hb dX1_moveAll_2 rfl (lv_at hl 0 rfl) ?_
    refine lv_aload_n hx hb dX1_moveAll_3 rfl (lv_at hl 1 rfl) ?_
    refine va_get (D := D) (ci := 1) (v := .ref cF) (C := RX1) (T := TX1) (N := 3) hx hb hts N1 hown hK hP 0 rfl rfl 0 (by decide) L11 (fun _ h9 => h9) rfl dX1_moveAll_4 ?_
    refine lv_bipush (v := 35) hx hb dX1_moveAll_7 (by decide) ?_
    refine z_ild (v := nI N) (j := 35) hx hb hK hP 1 rfl rfl (by omega) (by decide) (by rw [mvF_ge (by omega), hN]) dX1_moveAll_9 ?_
    refine lv_icmp_gt (tgt := 55) hx hb dX1_moveAll_10 (by decide) (fun c_1 => ?_) (fun c_1 => ?_)
    · skip
      have c_1 := (z_lt (a := N) (b := n) rfl rfl (by omega) (by omega)).mp c_1
      have hnn : n = N + 1 := by omega
      subst hnn
      exact hQ () _ _ _ _ (trivial) hP hD hS dX1_moveAll_55
    · skip
      have c_1 := (z_ltn (a := N) (b := n) rfl rfl (by omega) (by omega)).mp c_1
      refine lv_aload_n hx hb dX1_moveAll_13 rfl (lv_at hl 1 rfl) ?_
      refine va_get (D := D) (ci := 1) (v := .ref cF) (C := RX1) (T := TX1) (N := 3) hx hb hts N1 hown hK hP 0 rfl rfl 0 (by decide) L11 (fun _ h9 => h9) rfl dX1_moveAll_14 ?_
      refine lv_iconst (v := 5) hx hb dX1_moveAll_17 (by decide) ?_
      refine lv_iload_n hx hb dX1_moveAll_18 rfl (lv_at hl 0 rfl) ?_
      refine lv_imul hx hb dX1_moveAll_19 ?_
      refine lv_iconst (v := 0) hx hb dX1_moveAll_20 (by decide) ?_
      refine lv_iadd hx hb dX1_moveAll_21 ?_
      refine lv_dup2_11 hx hb dX1_moveAll_22 rfl rfl ?_
      refine z_ild (v := (mvF f n) ((5 * n) + 0)) (j := (5 * n) + 0) hx hb hK hP 1 rfl (z_add (z_mul rfl rfl) rfl) (by omega) (by decide) (rfl) dX1_moveAll_23 ?_
      refine lv_aload_n hx hb dX1_moveAll_24 rfl (lv_at hl 1 rfl) ?_
      refine lv_iload_n hx hb dX1_moveAll_25 rfl (lv_at hl 0 rfl) ?_
      refine z_VI (n := 1) (wn := (fun u : Unit => [(hF, .inr (1, [.ref cF, .ref aF, .ref wF])), (cF, .inl (cI, 39, .inl (mvF f n)))])) (wr := []) (As := [.int (nI n)]) (rest := [.int ((mvF f n) ((5 * n) + 0)), .int ((5 * (nI n)) + 0), .ref cF]) ⟨hx, hb, hml, hown, hts⟩ hK hP hD hS hA hT (kX1_eastward l D cI cB tE tN hF cF aF wF (mvF f n) n _ (by omega)) gX1_moveAll_X1_eastward rfl rfl rfl (by decide +kernel) ⟨Nat.le_of_ble_eq_true rfl, Nat.le_of_ble_eq_true rfl⟩ [0, 1] [] [0, 1] (by decide) rfl rfl (by decide) (by decide) (by decide) (fun u => rfl) 0 1 rfl rfl rfl rfl hl.1 rfl (Nat.le_of_ble_eq_true rfl) dX1_moveAll_26 ⟨Nat.le_of_ble_eq_true rfl, Nat.le_of_ble_eq_true rfl⟩ (fun r_2 u H locs hw_3 hP hD hS => ?_)
      try dsimp only at hw_3
      have hP : va_P D vwCl [(hF, .inr (1, [.ref cF, .ref aF, .ref wF])), (cF, .inl (cI, 39, .inl (mvF f n)))] H := hP
      have hD : va_D A [(hF, .inr (1, [.ref cF, .ref aF, .ref wF])), (cF, .inl (cI, 39, .inl (mvF f n)))] := hD
      subst r_2
      refine lv_iadd hx hb dX1_moveAll_29 ?_
      refine z_ist (j := (5 * n) + 0) hx hb hK hP hD hS 1 rfl (z_add (z_mul rfl rfl) rfl) (by omega) (by decide) dX1_moveAll_30 (fun H locs hP hD hS => ?_)
      have hP : va_P D vwCl [(hF, .inr (1, [.ref cF, .ref aF, .ref wF])), (cF, .inl (cI, 39, .inl (upd (mvF f n) ((5 * n) + 0) (((mvF f n) ((5 * n) + 0)) + (cEast (mvF f n) n)))))] H := hP
      have hD : va_D A [(hF, .inr (1, [.ref cF, .ref aF, .ref wF])), (cF, .inl (cI, 39, .inl (upd (mvF f n) ((5 * n) + 0) (((mvF f n) ((5 * n) + 0)) + (cEast (mvF f n) n)))))] := hD
      refine lv_aload_n hx hb dX1_moveAll_31 rfl (lv_at hl 1 rfl) ?_
      refine va_get (D := D) (ci := 1) (v := .ref cF) (C := RX1) (T := TX1) (N := 3) hx hb hts N1 hown hK hP 0 rfl rfl 0 (by decide) L11 (fun _ h9 => h9) rfl dX1_moveAll_32 ?_
      refine lv_iconst (v := 5) hx hb dX1_moveAll_35 (by decide) ?_
      refine lv_iload_n hx hb dX1_moveAll_36 rfl (lv_at hl 0 rfl) ?_
      refine lv_imul hx hb dX1_moveAll_37 ?_
      refine lv_iconst (v := 1) hx hb dX1_moveAll_38 (by decide) ?_
      refine lv_iadd hx hb dX1_moveAll_39 ?_
      refine lv_dup2_11 hx hb dX1_moveAll_40 rfl rfl ?_
      refine z_ild (v := (upd (mvF f n) ((5 * n) + 0) (((mvF f n) ((5 * n) + 0)) + (cEast (mvF f n) n))) ((5 * n) + 1)) (j := (5 * n) + 1) hx hb hK hP 1 rfl (z_add (z_mul rfl rfl) rfl) (by omega) (by decide) (rfl) dX1_moveAll_41 ?_
      refine lv_aload_n hx hb dX1_moveAll_42 rfl (lv_at hl 1 rfl) ?_
      refine lv_iload_n hx hb dX1_moveAll_43 rfl (lv_at hl 0 rfl) ?_
      refine z_VI (n := 1) (wn := (fun u : Unit => [(hF, .inr (1, [.ref cF, .ref aF, .ref wF])), (cF, .inl (cI, 39, .inl (upd (mvF f n) ((5 * n) + 0) (((mvF f n) ((5 * n) + 0)) + (cEast (mvF f n) n)))))])) (wr := []) (As := [.int (nI n)]) (rest := [.int ((upd (mvF f n) ((5 * n) + 0) (((mvF f n) ((5 * n) + 0)) + (cEast (mvF f n) n))) ((5 * n) + 1)), .int ((5 * (nI n)) + 1), .ref cF]) ⟨hx, hb, hml, hown, hts⟩ hK hP hD hS hA hT (kX1_northward l D cI cB tE tN hF cF aF wF (upd (mvF f n) ((5 * n) + 0) (((mvF f n) ((5 * n) + 0)) + (cEast (mvF f n) n))) n _ (by omega)) gX1_moveAll_X1_northward rfl rfl rfl (by decide +kernel) ⟨Nat.le_of_ble_eq_true rfl, Nat.le_of_ble_eq_true rfl⟩ [0, 1] [] [0, 1] (by decide) rfl rfl (by decide) (by decide) (by decide) (fun u => rfl) 0 1 rfl rfl rfl rfl hl.1 rfl (Nat.le_of_ble_eq_true rfl) dX1_moveAll_44 ⟨Nat.le_of_ble_eq_true rfl, Nat.le_of_ble_eq_true rfl⟩ (fun r_4 u H locs hw_5 hP hD hS => ?_)
      try dsimp only at hw_5
      have hP : va_P D vwCl [(hF, .inr (1, [.ref cF, .ref aF, .ref wF])), (cF, .inl (cI, 39, .inl (upd (mvF f n) ((5 * n) + 0) (((mvF f n) ((5 * n) + 0)) + (cEast (mvF f n) n)))))] H := hP
      have hD : va_D A [(hF, .inr (1, [.ref cF, .ref aF, .ref wF])), (cF, .inl (cI, 39, .inl (upd (mvF f n) ((5 * n) + 0) (((mvF f n) ((5 * n) + 0)) + (cEast (mvF f n) n)))))] := hD
      subst r_4
      refine lv_iadd hx hb dX1_moveAll_47 ?_
      refine z_ist (j := (5 * n) + 1) hx hb hK hP hD hS 1 rfl (z_add (z_mul rfl rfl) rfl) (by omega) (by decide) dX1_moveAll_48 (fun H locs hP hD hS => ?_)
      have hP : va_P D vwCl [(hF, .inr (1, [.ref cF, .ref aF, .ref wF])), (cF, .inl (cI, 39, .inl (upd (upd (mvF f n) ((5 * n) + 0) (((mvF f n) ((5 * n) + 0)) + (cEast (mvF f n) n))) ((5 * n) + 1) (((upd (mvF f n) ((5 * n) + 0) (((mvF f n) ((5 * n) + 0)) + (cEast (mvF f n) n))) ((5 * n) + 1)) + (cNorth (upd (mvF f n) ((5 * n) + 0) (((mvF f n) ((5 * n) + 0)) + (cEast (mvF f n) n))) n)))))] H := hP
      have hD : va_D A [(hF, .inr (1, [.ref cF, .ref aF, .ref wF])), (cF, .inl (cI, 39, .inl (upd (upd (mvF f n) ((5 * n) + 0) (((mvF f n) ((5 * n) + 0)) + (cEast (mvF f n) n))) ((5 * n) + 1) (((upd (mvF f n) ((5 * n) + 0) (((mvF f n) ((5 * n) + 0)) + (cEast (mvF f n) n))) ((5 * n) + 1)) + (cNorth (upd (mvF f n) ((5 * n) + 0) (((mvF f n) ((5 * n) + 0)) + (cEast (mvF f n) n))) n)))))] := hD
      refine lv_iinc (v := nI (n + 1)) (lv' := [(1, .int (nI (n + 1))), (0, .ref hF)]) hx hb dX1_moveAll_49 hl (k := 0) rfl (z_add rfl rfl) (by decide) rfl (fun ls hl => ?_)
      refine lv_goto (tgt := 2) hx hb dX1_moveAll_52 (by decide) ?_
      have ee_6 : upd (upd (mvF f n) ((5 * n) + 0) (((mvF f n) ((5 * n) + 0)) + (cEast (mvF f n) n))) ((5 * n) + 1) (((upd (mvF f n) ((5 * n) + 0) (((mvF f n) ((5 * n) + 0)) + (cEast (mvF f n) n))) ((5 * n) + 1)) + (cNorth (upd (mvF f n) ((5 * n) + 0) (((mvF f n) ((5 * n) + 0)) + (cEast (mvF f n) n))) n)) = mvF f (n + 1) := rfl
      rw [ee_6] at hP hD
      exact ih _ (by omega) (n + 1) _ _ _ rfl (by omega) hP hD hS (lv_sub hl [0, 1] rfl)
  refine lv_iconst (v := 0) hx hb dX1_moveAll_0 (by decide) ?_
  refine lv_istore_n (lv' := [(1, .int 0), (0, .ref hF)]) hx hb dX1_moveAll_1 rfl hl (by decide) rfl (fun ls hl => ?_)
  exact lp2 _ 0 _ _ _ rfl (by omega) hP hD hS (lv_sub hl [0, 1] rfl)

set_option maxHeartbeats 4000000 in
set_option maxRecDepth 100000 in
theorem kX1_look (l : Launch) (D : va_G) (cI cB : ClassId) (tE tN : Nat) (hF : Nat) (cF : Nat) (aF : Nat) (wF : Nat) (f : Nat → Int32) (t1 : Int64) (t2 : Int64) (t3 : Int64) (t4 : Int64) (N : Nat) (sz : Nat) (hN : f 35 = nI N) (hN6 : N ≤ 6) : zV l yX1_look wsX1_look ({ frames := 3, cells := 0, slots := 0, locals := 84 }) D cI cB tE tN [.ref hF] [(hF, .inr (1, [.ref cF, .ref aF, .ref wF])), (cF, .inl (cI, 39, .inl f)), (aF, .inr (0, [.long t1, .long t2, .long t3, .long t4]))] sz (fun u : Int64 × Int64 × Int64 × Int64 => [(hF, .inr (1, [.ref cF, .ref aF, .ref wF])), (cF, .inl (cI, 39, .inl (lkF f N))), (aF, .inr (0, [.long u.1, .long u.2.1, .long u.2.2.1, .long u.2.2.2]))]) (fun (u : Int64 × Int64 × Int64 × Int64) => True) 0 0 := by
  refine zV_mk (cc := cX1_look) (maxL := 2) (by decide) rfl (Nat.le_of_ble_eq_true rfl) ?_
  intro p e s m below meth c A Q ls S0 hname hA hK hP hD hT hS hQ hl
  obtain ⟨hx, hb, hml, hown, hts⟩ := id S0
  have hl : lv_has ls 2 [(0, .ref hF)] := hl
  have L11 : (Cond.fieldLink RX1 11 "PastAndClear$Fleet" "cells" "[I").before ([.ref hF] : List Value).toArray s = true := hts (.fieldLink RX1 11 "PastAndClear$Fleet" "cells" "[I") (by decide +kernel)
  have N1 : ∀ w ∈ u_ws RX1 TX1 3, w ∈ wsX1_look := by decide +kernel
  have lp2 : ∀ (k : Nat) (n : Nat) (b1 : Int64) (b2 : Int64) (b3 : Int64) (b4 : Int64) (H : Heap) (locs : List Loc) (ls : Array Slot), N - n = k → (n ≤ N) → va_P D vwCl [(hF, .inr (1, [.ref cF, .ref aF, .ref wF])), (cF, .inl (cI, 39, .inl (lkF f n))), (aF, .inr (0, [.long b1, .long b2, .long b3, .long b4]))] H → va_D A [(hF, .inr (1, [.ref cF, .ref aF, .ref wF])), (cF, .inl (cI, 39, .inl (lkF f n))), (aF, .inr (0, [.long b1, .long b2, .long b3, .long b4]))] → va_S A s.heap H locs → lv_has ls 2 [(1, .int (nI (n + 1))), (0, .ref hF)] → W p l e ({ frames := 3, cells := 0, slots := 0, locals := 84 } : Room) s m ([.ref hF] : List Value).toArray below meth c H locs 0 0 Q (F0 m 2 ls []) := by
    intro k
    induction k using Nat.strongRecOn with
    | ind k ih =>
    intro n b1 b2 b3 b4 H locs ls hk hn hP hD hS hl
    refine lv_iload_n hx hb dX1_look_2 rfl (lv_at hl 0 rfl) ?_
    refine lv_aload_n hx hb dX1_look_3 rfl (lv_at hl 1 rfl) ?_
    refine va_get (D := D) (ci := 1) (v := .ref cF) (C := RX1) (T := TX1) (N := 3) hx hb hts N1 hown hK hP 0 rfl rfl 0 (by decide) L11 (fun _ h9 => h9) rfl dX1_look_4 ?_
    refine lv_bipush (v := 35) hx hb dX1_look_7 (by decide) ?_
    refine z_ild (v := nI N) (j := 35) hx hb hK hP 1 rfl rfl (by omega) (by decide) (by rw [lkF_ge (by omega), hN]) dX1_look_9 ?_
    refine lv_icmp_gt (tgt := 82) hx hb dX1_look_10 (by decide) (fun c_1 => ?_) (fun c_1 => ?_)
    · skip
      have c_1 := (z_lt (a := N) (b := n + 1) rfl rfl (by omega) (by omega)).mp c_1
      have hnn : n = N := by omega
      subst hnn
      exact hQ (b1, b2, b3, b4) _ _ _ _ (trivial) hP hD hS dX1_look_82
    · skip
      have c_1 := (z_ltn (a := N) (b := n + 1) rfl rfl (by omega) (by omega)).mp c_1
      refine lv_aload_n hx hb dX1_look_13 rfl (lv_at hl 1 rfl) ?_
      refine va_get (D := D) (ci := 1) (v := .ref cF) (C := RX1) (T := TX1) (N := 3) hx hb hts N1 hown hK hP 0 rfl rfl 0 (by decide) L11 (fun _ h9 => h9) rfl dX1_look_14 ?_
      refine lv_iconst (v := 5) hx hb dX1_look_17 (by decide) ?_
      refine lv_iload_n hx hb dX1_look_18 rfl (lv_at hl 0 rfl) ?_
      refine lv_imul hx hb dX1_look_19 ?_
      refine lv_iconst (v := 4) hx hb dX1_look_20 (by decide) ?_
      refine lv_iadd hx hb dX1_look_21 ?_
      refine z_ild (v := (lkF f n) ((5 * (n + 1)) + 4)) (j := (5 * (n + 1)) + 4) hx hb hK hP 1 rfl (z_add (z_mul rfl rfl) rfl) (by omega) (by decide) (rfl) dX1_look_22 ?_
      refine lv_if_ne (tgt := 45) hx hb dX1_look_23 (by decide) (fun c_2 => ?_) (fun c_2 => ?_)
      · skip
        refine lv_aload_n hx hb dX1_look_45 rfl (lv_at hl 1 rfl) ?_
        refine lv_iconst (v := 0) hx hb dX1_look_46 (by decide) ?_
        refine lv_iload_n hx hb dX1_look_47 rfl (lv_at hl 0 rfl) ?_
        refine z_VR (n := 2) (wn := (fun u : Int64 × Int64 × Int64 × Int64 => [(hF, .inr (1, [.ref cF, .ref aF, .ref wF])), (cF, .inl (cI, 39, .inl (lkF f n))), (aF, .inr (0, [.long u.1, .long u.2.1, .long u.2.2.1, .long u.2.2.2]))])) (wr := []) (As := [.int 0, .int (nI (n + 1))]) (rest := []) ⟨hx, hb, hml, hown, hts⟩ hK hP hD hS hA hT (kX1_approachOf l D cI cB tE tN hF cF aF wF (lkF f n) b1 b2 b3 b4 0 (n + 1) _ (by omega) (by omega)) gX1_look_X1_approachOf rfl rfl rfl (by decide +kernel) ⟨Nat.le_of_ble_eq_true rfl, Nat.le_of_ble_eq_true rfl⟩ [0, 1, 2] [] [0, 1, 2] (by decide) rfl rfl (by decide) (by decide) (by decide) (fun u => rfl) 0 1 rfl rfl rfl rfl hl.1 rfl (Nat.le_of_ble_eq_true rfl) dX1_look_48 ⟨Nat.le_of_ble_eq_true rfl, Nat.le_of_ble_eq_true rfl⟩ (fun r_7 u H locs hw_8 hP hD hS => ?_)
        obtain ⟨b1_3, b2_4, b3_5, b4_6⟩ := u
        try dsimp only at hw_8
        have hP : va_P D vwCl [(hF, .inr (1, [.ref cF, .ref aF, .ref wF])), (cF, .inl (cI, 39, .inl (lkF f n))), (aF, .inr (0, [.long b1_3, .long b2_4, .long b3_5, .long b4_6]))] H := hP
        have hD : va_D A [(hF, .inr (1, [.ref cF, .ref aF, .ref wF])), (cF, .inl (cI, 39, .inl (lkF f n))), (aF, .inr (0, [.long b1_3, .long b2_4, .long b3_5, .long b4_6]))] := hD
        obtain ⟨hw_8, hq_9⟩ := hw_8
        subst r_7
        have hm := hq_9
        refine lv_aload_n hx hb dX1_look_51 rfl (lv_at hl 1 rfl) ?_
        refine va_get (D := D) (ci := 1) (v := .ref cF) (C := RX1) (T := TX1) (N := 3) hx hb hts N1 hown hK hP 0 rfl rfl 0 (by decide) L11 (fun _ h9 => h9) rfl dX1_look_52 ?_
        refine lv_bipush (v := 36) hx hb dX1_look_55 (by decide) ?_
        refine z_ild (v := (lkF f n) 36) (j := 36) hx hb hK hP 1 rfl rfl (by omega) (by decide) (rfl) dX1_look_57 ?_
        refine lv_i2l (v := ((lkF f n) 36).toInt64) hx hb dX1_look_58 rfl ?_
        refine z_VI (n := 1) (wn := (fun u : Unit => [(hF, .inr (1, [.ref cF, .ref aF, .ref wF])), (cF, .inl (cI, 39, .inl (lkF f n))), (aF, .inr (0, [.long b1_3, .long b2_4, .long b3_5, .long b4_6]))])) (wr := [(hF, .inr (1, [.ref cF, .ref aF, .ref wF])), (cF, .inl (cI, 39, .inl (lkF f n)))]) (As := [.long (((lkF f n) 36).toInt64)]) (rest := []) ⟨hx, hb, hml, hown, hts⟩ hK hP hD hS hA hT (kX0_isPastAndClear l D cI cB tE tN aF b1_3 b2_4 b3_5 b4_6 (((lkF f n) 36).toInt64) _ ) gX1_look_X0_isPastAndClear rfl rfl rfl (by decide +kernel) ⟨Nat.le_of_ble_eq_true rfl, Nat.le_of_ble_eq_true rfl⟩ [2] [0, 1] [0, 1, 2] (by decide) rfl rfl (by decide) (by decide) (by decide) (fun u => rfl) 0 0 rfl rfl rfl rfl hl.1 rfl (Nat.le_of_ble_eq_true rfl) dX1_look_59 ⟨Nat.le_of_ble_eq_true rfl, Nat.le_of_ble_eq_true rfl⟩ (fun r_10 u H locs hw_11 hP hD hS => ?_)
        try dsimp only at hw_11
        have hP : va_P D vwCl [(hF, .inr (1, [.ref cF, .ref aF, .ref wF])), (cF, .inl (cI, 39, .inl (lkF f n))), (aF, .inr (0, [.long b1_3, .long b2_4, .long b3_5, .long b4_6]))] H := hP
        have hD : va_D A [(hF, .inr (1, [.ref cF, .ref aF, .ref wF])), (cF, .inl (cI, 39, .inl (lkF f n))), (aF, .inr (0, [.long b1_3, .long b2_4, .long b3_5, .long b4_6]))] := hD
        subst r_10
        refine lv_if_eq (tgt := 76) hx hb dX1_look_62 (by decide) (fun c_12 => ?_) (fun c_12 => ?_)
        · skip
          have c_12 := z_b0 c_12
          refine lv_iinc (v := nI (n + 1 + 1)) (lv' := [(1, .int (nI (n + 1 + 1))), (0, .ref hF)]) hx hb dX1_look_76 hl (k := 0) rfl (z_add rfl rfl) (by decide) rfl (fun ls hl => ?_)
          refine lv_goto (tgt := 2) hx hb dX1_look_79 (by decide) ?_
          have ee_13 : (lkF f n) = lkF f (n + 1) := lk_keep c_2 (by rw [cPC, ← hm]; exact c_12)
          rw [ee_13] at hP hD
          exact ih _ (by omega) (n + 1) b1_3 b2_4 b3_5 b4_6 _ _ _ rfl (by omega) hP hD hS (lv_sub hl [0, 1] rfl)
        · skip
          have c_12 := z_b1 c_12
          refine lv_aload_n hx hb dX1_look_65 rfl (lv_at hl 1 rfl) ?_
          refine va_get (D := D) (ci := 1) (v := .ref cF) (C := RX1) (T := TX1) (N := 3) hx hb hts N1 hown hK hP 0 rfl rfl 0 (by decide) L11 (fun _ h9 => h9) rfl dX1_look_66 ?_
          refine lv_iconst (v := 5) hx hb dX1_look_69 (by decide) ?_
          refine lv_iload_n hx hb dX1_look_70 rfl (lv_at hl 0 rfl) ?_
          refine lv_imul hx hb dX1_look_71 ?_
          refine lv_iconst (v := 4) hx hb dX1_look_72 (by decide) ?_
          refine lv_iadd hx hb dX1_look_73 ?_
          refine lv_iconst (v := 0) hx hb dX1_look_74 (by decide) ?_
          refine z_ist (j := (5 * (n + 1)) + 4) hx hb hK hP hD hS 1 rfl (z_add (z_mul rfl rfl) rfl) (by omega) (by decide) dX1_look_75 (fun H locs hP hD hS => ?_)
          have hP : va_P D vwCl [(hF, .inr (1, [.ref cF, .ref aF, .ref wF])), (cF, .inl (cI, 39, .inl (upd (lkF f n) ((5 * (n + 1)) + 4) 0))), (aF, .inr (0, [.long b1_3, .long b2_4, .long b3_5, .long b4_6]))] H := hP
          have hD : va_D A [(hF, .inr (1, [.ref cF, .ref aF, .ref wF])), (cF, .inl (cI, 39, .inl (upd (lkF f n) ((5 * (n + 1)) + 4) 0))), (aF, .inr (0, [.long b1_3, .long b2_4, .long b3_5, .long b4_6]))] := hD
          refine lv_iinc (v := nI (n + 1 + 1)) (lv' := [(1, .int (nI (n + 1 + 1))), (0, .ref hF)]) hx hb dX1_look_76 hl (k := 0) rfl (z_add rfl rfl) (by decide) rfl (fun ls hl => ?_)
          refine lv_goto (tgt := 2) hx hb dX1_look_79 (by decide) ?_
          have ee_14 : upd (lkF f n) ((5 * (n + 1)) + 4) 0 = lkF f (n + 1) := lk_clr c_2 (by rw [cPC, ← hm]; exact c_12)
          rw [ee_14] at hP hD
          exact ih _ (by omega) (n + 1) b1_3 b2_4 b3_5 b4_6 _ _ _ rfl (by omega) hP hD hS (lv_sub hl [0, 1] rfl)
      · skip
        refine lv_aload_n hx hb dX1_look_26 rfl (lv_at hl 1 rfl) ?_
        refine va_get (D := D) (ci := 1) (v := .ref cF) (C := RX1) (T := TX1) (N := 3) hx hb hts N1 hown hK hP 0 rfl rfl 0 (by decide) L11 (fun _ h9 => h9) rfl dX1_look_27 ?_
        refine lv_iconst (v := 5) hx hb dX1_look_30 (by decide) ?_
        refine lv_iload_n hx hb dX1_look_31 rfl (lv_at hl 0 rfl) ?_
        refine lv_imul hx hb dX1_look_32 ?_
        refine lv_iconst (v := 4) hx hb dX1_look_33 (by decide) ?_
        refine lv_iadd hx hb dX1_look_34 ?_
        refine lv_aload_n hx hb dX1_look_35 rfl (lv_at hl 1 rfl) ?_
        refine lv_iconst (v := 0) hx hb dX1_look_36 (by decide) ?_
        refine lv_iload_n hx hb dX1_look_37 rfl (lv_at hl 0 rfl) ?_
        refine z_VI (n := 2) (wn := (fun u : Int64 × Int64 × Int64 × Int64 => [(hF, .inr (1, [.ref cF, .ref aF, .ref wF])), (cF, .inl (cI, 39, .inl (lkF f n))), (aF, .inr (0, [.long u.1, .long u.2.1, .long u.2.2.1, .long u.2.2.2]))])) (wr := []) (As := [.int 0, .int (nI (n + 1))]) (rest := [.int ((5 * (nI (n + 1))) + 4), .ref cF]) ⟨hx, hb, hml, hown, hts⟩ hK hP hD hS hA hT (kX1_tableOf l D cI cB tE tN hF cF aF wF (lkF f n) b1 b2 b3 b4 0 (n + 1) _ (by omega) (by omega)) gX1_look_X1_tableOf rfl rfl rfl (by decide +kernel) ⟨Nat.le_of_ble_eq_true rfl, Nat.le_of_ble_eq_true rfl⟩ [0, 1, 2] [] [0, 1, 2] (by decide) rfl rfl (by decide) (by decide) (by decide) (fun u => rfl) 0 1 rfl rfl rfl rfl hl.1 rfl (Nat.le_of_ble_eq_true rfl) dX1_look_38 ⟨Nat.le_of_ble_eq_true rfl, Nat.le_of_ble_eq_true rfl⟩ (fun r_19 u H locs hw_20 hP hD hS => ?_)
        obtain ⟨b1_15, b2_16, b3_17, b4_18⟩ := u
        try dsimp only at hw_20
        have hP : va_P D vwCl [(hF, .inr (1, [.ref cF, .ref aF, .ref wF])), (cF, .inl (cI, 39, .inl (lkF f n))), (aF, .inr (0, [.long b1_15, .long b2_16, .long b3_17, .long b4_18]))] H := hP
        have hD : va_D A [(hF, .inr (1, [.ref cF, .ref aF, .ref wF])), (cF, .inl (cI, 39, .inl (lkF f n))), (aF, .inr (0, [.long b1_15, .long b2_16, .long b3_17, .long b4_18]))] := hD
        subst r_19
        refine z_ist (j := (5 * (n + 1)) + 4) hx hb hK hP hD hS 1 rfl (z_add (z_mul rfl rfl) rfl) (by omega) (by decide) dX1_look_41 (fun H locs hP hD hS => ?_)
        have hP : va_P D vwCl [(hF, .inr (1, [.ref cF, .ref aF, .ref wF])), (cF, .inl (cI, 39, .inl (upd (lkF f n) ((5 * (n + 1)) + 4) (cTab (lkF f n) 0 (n + 1))))), (aF, .inr (0, [.long b1_15, .long b2_16, .long b3_17, .long b4_18]))] H := hP
        have hD : va_D A [(hF, .inr (1, [.ref cF, .ref aF, .ref wF])), (cF, .inl (cI, 39, .inl (upd (lkF f n) ((5 * (n + 1)) + 4) (cTab (lkF f n) 0 (n + 1))))), (aF, .inr (0, [.long b1_15, .long b2_16, .long b3_17, .long b4_18]))] := hD
        refine lv_goto (tgt := 76) hx hb dX1_look_42 (by decide) ?_
        refine lv_iinc (v := nI (n + 1 + 1)) (lv' := [(1, .int (nI (n + 1 + 1))), (0, .ref hF)]) hx hb dX1_look_76 hl (k := 0) rfl (z_add rfl rfl) (by decide) rfl (fun ls hl => ?_)
        refine lv_goto (tgt := 2) hx hb dX1_look_79 (by decide) ?_
        have ee_21 : upd (lkF f n) ((5 * (n + 1)) + 4) (cTab (lkF f n) 0 (n + 1)) = lkF f (n + 1) := lk_tab c_2
        rw [ee_21] at hP hD
        exact ih _ (by omega) (n + 1) b1_15 b2_16 b3_17 b4_18 _ _ _ rfl (by omega) hP hD hS (lv_sub hl [0, 1] rfl)
  refine lv_iconst (v := 1) hx hb dX1_look_0 (by decide) ?_
  refine lv_istore_n (lv' := [(1, .int 1), (0, .ref hF)]) hx hb dX1_look_1 rfl hl (by decide) rfl (fun ls hl => ?_)
  exact lp2 _ 0 t1 t2 t3 t4 _ _ _ rfl (by omega) hP hD hS (lv_sub hl [0, 1] rfl)

set_option maxHeartbeats 4000000 in
set_option maxRecDepth 100000 in
theorem kX1_givenWay (l : Launch) (D : va_G) (cI cB : ClassId) (tE tN : Nat) (hF : Nat) (cF : Nat) (aF : Nat) (wF : Nat) (f : Nat → Int32) (N : Nat) (sz : Nat) (hN : f 35 = nI N) (hN6 : N ≤ 6) : zI l yX1_givenWay wsX1_givenWay ({ frames := 0, cells := 0, slots := 0, locals := 0 }) D cI cB tE tN [.ref hF] [(hF, .inr (1, [.ref cF, .ref aF, .ref wF])), (cF, .inl (cI, 39, .inl f))] sz (fun u : Unit => [(hF, .inr (1, [.ref cF, .ref aF, .ref wF])), (cF, .inl (cI, 39, .inl f))]) (fun (r : Int32) (u : Unit) => r = gwF f N) 0 0 := by
  refine zI_mk (cc := cX1_givenWay) (maxL := 3) (rt := .int) (by decide) rfl (Nat.le_of_ble_eq_true rfl) ?_
  intro p e s m below meth c A Q ls S0 hname hA hK hP hD hT hS hQ hl
  obtain ⟨hx, hb, hml, hown, hts⟩ := id S0
  have hl : lv_has ls 3 [(0, .ref hF)] := hl
  have L11 : (Cond.fieldLink RX1 11 "PastAndClear$Fleet" "cells" "[I").before ([.ref hF] : List Value).toArray s = true := hts (.fieldLink RX1 11 "PastAndClear$Fleet" "cells" "[I") (by decide +kernel)
  have N1 : ∀ w ∈ u_ws RX1 TX1 3, w ∈ wsX1_givenWay := by decide +kernel
  have lp4 : ∀ (k : Nat) (n : Nat) (x : Int32) (H : Heap) (locs : List Loc) (ls : Array Slot), N - n = k → (n ≤ N) → (x = gwF f n) → va_P D vwCl [(hF, .inr (1, [.ref cF, .ref aF, .ref wF])), (cF, .inl (cI, 39, .inl f))] H → va_D A [(hF, .inr (1, [.ref cF, .ref aF, .ref wF])), (cF, .inl (cI, 39, .inl f))] → va_S A s.heap H locs → lv_has ls 3 [(2, .int (nI (n + 1))), (1, .int x), (0, .ref hF)] → W p l e ({ frames := 0, cells := 0, slots := 0, locals := 0 } : Room) s m ([.ref hF] : List Value).toArray below meth c H locs 0 0 Q (F0 m 4 ls []) := by
    intro k
    induction k using Nat.strongRecOn with
    | ind k ih =>
    intro n x H locs ls hk hn hxx hP hD hS hl
    refine lv_iload_n hx hb dX1_givenWay_4 rfl (lv_at hl 0 rfl) ?_
    refine lv_aload_n hx hb dX1_givenWay_5 rfl (lv_at hl 2 rfl) ?_
    refine va_get (D := D) (ci := 1) (v := .ref cF) (C := RX1) (T := TX1) (N := 3) hx hb hts N1 hown hK hP 0 rfl rfl 0 (by decide) L11 (fun _ h9 => h9) rfl dX1_givenWay_6 ?_
    refine lv_bipush (v := 35) hx hb dX1_givenWay_9 (by decide) ?_
    refine z_ild (v := nI N) (j := 35) hx hb hK hP 1 rfl rfl (by omega) (by decide) (hN) dX1_givenWay_11 ?_
    refine lv_icmp_gt (tgt := 41) hx hb dX1_givenWay_12 (by decide) (fun c_1 => ?_) (fun c_1 => ?_)
    · skip
      have c_1 := (z_lt (a := N) (b := n + 1) rfl rfl (by omega) (by omega)).mp c_1
      refine lv_iload_n hx hb dX1_givenWay_41 rfl (lv_at hl 1 rfl) ?_
      exact hQ x () _ _ _ _ (rfl) (by rw [hxx, show n = N by omega]) hP hD hS dX1_givenWay_42
    · skip
      have c_1 := (z_ltn (a := N) (b := n + 1) rfl rfl (by omega) (by omega)).mp c_1
      refine lv_aload_n hx hb dX1_givenWay_15 rfl (lv_at hl 2 rfl) ?_
      refine va_get (D := D) (ci := 1) (v := .ref cF) (C := RX1) (T := TX1) (N := 3) hx hb hts N1 hown hK hP 0 rfl rfl 0 (by decide) L11 (fun _ h9 => h9) rfl dX1_givenWay_16 ?_
      refine lv_iconst (v := 5) hx hb dX1_givenWay_19 (by decide) ?_
      refine lv_iload_n hx hb dX1_givenWay_20 rfl (lv_at hl 0 rfl) ?_
      refine lv_imul hx hb dX1_givenWay_21 ?_
      refine lv_iconst (v := 4) hx hb dX1_givenWay_22 (by decide) ?_
      refine lv_iadd hx hb dX1_givenWay_23 ?_
      refine z_ild (v := f ((5 * (n + 1)) + 4)) (j := (5 * (n + 1)) + 4) hx hb hK hP 1 rfl (z_add (z_mul rfl rfl) rfl) (by omega) (by decide) (rfl) dX1_givenWay_24 ?_
      refine lv_iconst (v := 1) hx hb dX1_givenWay_25 (by decide) ?_
      refine lv_icmp_ne (tgt := 35) hx hb dX1_givenWay_26 (by decide) (fun c_2 => ?_) (fun c_2 => ?_)
      · skip
        refine lv_iinc (v := nI (n + 1 + 1)) (lv' := [(2, .int (nI (n + 1 + 1))), (1, .int x), (0, .ref hF)]) hx hb dX1_givenWay_35 hl (k := 0) rfl (z_add rfl rfl) (by decide) rfl (fun ls hl => ?_)
        refine lv_goto (tgt := 4) hx hb dX1_givenWay_38 (by decide) ?_
        exact ih _ (by omega) (n + 1) x _ _ _ rfl (by omega) (by rw [hxx]; simp [gwF, c_2]) hP hD hS (lv_sub hl [0, 1, 2] rfl)
      · skip
        refine lv_iload_n hx hb dX1_givenWay_29 rfl (lv_at hl 1 rfl) ?_
        refine lv_iconst (v := 1) hx hb dX1_givenWay_30 (by decide) ?_
        refine lv_iload_n hx hb dX1_givenWay_31 rfl (lv_at hl 0 rfl) ?_
        refine lv_ishl hx hb dX1_givenWay_32 ?_
        refine lv_ior hx hb dX1_givenWay_33 ?_
        refine lv_istore_n (lv' := [(1, .int (x ||| (1 <<< ((nI (n + 1)) &&& 31)))), (2, .int (nI (n + 1))), (0, .ref hF)]) hx hb dX1_givenWay_34 rfl hl (by decide) rfl (fun ls hl => ?_)
        refine lv_iinc (v := nI (n + 1 + 1)) (lv' := [(2, .int (nI (n + 1 + 1))), (1, .int (x ||| (1 <<< ((nI (n + 1)) &&& 31)))), (0, .ref hF)]) hx hb dX1_givenWay_35 hl (k := 1) rfl (z_add rfl rfl) (by decide) rfl (fun ls hl => ?_)
        refine lv_goto (tgt := 4) hx hb dX1_givenWay_38 (by decide) ?_
        exact ih _ (by omega) (n + 1) (x ||| (1 <<< ((nI (n + 1)) &&& 31))) _ _ _ rfl (by omega) (by rw [hxx]; simp [gwF, c_2]) hP hD hS (lv_sub hl [0, 1, 2] rfl)
  refine lv_iconst (v := 0) hx hb dX1_givenWay_0 (by decide) ?_
  refine lv_istore_n (lv' := [(1, .int 0), (0, .ref hF)]) hx hb dX1_givenWay_1 rfl hl (by decide) rfl (fun ls hl => ?_)
  refine lv_iconst (v := 1) hx hb dX1_givenWay_2 (by decide) ?_
  refine lv_istore_n (lv' := [(2, .int 1), (1, .int 0), (0, .ref hF)]) hx hb dX1_givenWay_3 rfl hl (by decide) rfl (fun ls hl => ?_)
  exact lp4 _ 0 0 _ _ _ rfl (by omega) rfl hP hD hS (lv_sub hl [0, 1, 2] rfl)

set_option maxHeartbeats 4000000 in
set_option maxRecDepth 100000 in
theorem kX1_follow (l : Launch) (D : va_G) (cI cB : ClassId) (tE tN : Nat) (hF : Nat) (cF : Nat) (aF : Nat) (wF : Nat) (f : Nat → Int32) (v : Int32) (sz : Nat)  : zI l yX1_follow wsX1_follow ({ frames := 0, cells := 0, slots := 0, locals := 0 }) D cI cB tE tN [.ref hF, .int v] [(hF, .inr (1, [.ref cF, .ref aF, .ref wF])), (cF, .inl (cI, 39, .inl f))] sz (fun u : (Nat → Int32) => [(hF, .inr (1, [.ref cF, .ref aF, .ref wF])), (cF, .inl (cI, 39, .inl u))]) (fun (r : Int32) (u : (Nat → Int32)) => r = v ∧ (u = cFol f v)) 0 0 := by
  refine zI_mk (cc := cX1_follow) (maxL := 2) (rt := .int) (by decide) rfl (Nat.le_of_ble_eq_true rfl) ?_
  intro p e s m below meth c A Q ls S0 hname hA hK hP hD hT hS hQ hl
  obtain ⟨hx, hb, hml, hown, hts⟩ := id S0
  have hl : lv_has ls 2 [(0, .ref hF), (1, .int v)] := hl
  have L11 : (Cond.fieldLink RX1 11 "PastAndClear$Fleet" "cells" "[I").before ([.ref hF, .int v] : List Value).toArray s = true := hts (.fieldLink RX1 11 "PastAndClear$Fleet" "cells" "[I") (by decide +kernel)
  have N1 : ∀ w ∈ u_ws RX1 TX1 3, w ∈ wsX1_follow := by decide +kernel
  refine lv_iload_n hx hb dX1_follow_0 rfl (lv_at hl 1 rfl) ?_
  refine lv_bipush (v := 16) hx hb dX1_follow_1 (by decide) ?_
  refine lv_icmp_ge (tgt := 13) hx hb dX1_follow_3 (by decide) (fun c_1 => ?_) (fun c_1 => ?_)
  · skip
    refine lv_iload_n hx hb dX1_follow_13 rfl (lv_at hl 1 rfl) ?_
    refine lv_bipush (v := 16) hx hb dX1_follow_14 (by decide) ?_
    refine lv_icmp_ne (tgt := 26) hx hb dX1_follow_16 (by decide) (fun c_2 => ?_) (fun c_2 => ?_)
    · skip
      refine lv_iload_n hx hb dX1_follow_26 rfl (lv_at hl 1 rfl) ?_
      exact hQ v f _ _ _ _ (rfl) (⟨rfl, by unfold cFol; (first | rw [if_pos c_2] | rw [if_neg c_2]); (first | rw [if_pos c_1] | rw [if_neg c_1])⟩) hP hD hS dX1_follow_27
    · skip
      refine lv_aload_n hx hb dX1_follow_19 rfl (lv_at hl 0 rfl) ?_
      refine va_get (D := D) (ci := 1) (v := .ref cF) (C := RX1) (T := TX1) (N := 3) hx hb hts N1 hown hK hP 0 rfl rfl 0 (by decide) L11 (fun _ h9 => h9) rfl dX1_follow_20 ?_
      refine lv_iconst (v := 3) hx hb dX1_follow_23 (by decide) ?_
      refine lv_iconst (v := 0) hx hb dX1_follow_24 (by decide) ?_
      refine z_ist (j := 3) hx hb hK hP hD hS 1 rfl rfl (by omega) (by decide) dX1_follow_25 (fun H locs hP hD hS => ?_)
      have hP : va_P D vwCl [(hF, .inr (1, [.ref cF, .ref aF, .ref wF])), (cF, .inl (cI, 39, .inl (upd f 3 0)))] H := hP
      have hD : va_D A [(hF, .inr (1, [.ref cF, .ref aF, .ref wF])), (cF, .inl (cI, 39, .inl (upd f 3 0)))] := hD
      refine lv_iload_n hx hb dX1_follow_26 rfl (lv_at hl 1 rfl) ?_
      exact hQ v (upd f 3 0) _ _ _ _ (rfl) (⟨rfl, by unfold cFol; (first | rw [if_pos c_2] | rw [if_neg c_2]); (first | rw [if_pos c_1] | rw [if_neg c_1])⟩) hP hD hS dX1_follow_27
  · skip
    refine lv_aload_n hx hb dX1_follow_6 rfl (lv_at hl 0 rfl) ?_
    refine va_get (D := D) (ci := 1) (v := .ref cF) (C := RX1) (T := TX1) (N := 3) hx hb hts N1 hown hK hP 0 rfl rfl 0 (by decide) L11 (fun _ h9 => h9) rfl dX1_follow_7 ?_
    refine lv_iconst (v := 2) hx hb dX1_follow_10 (by decide) ?_
    refine lv_iload_n hx hb dX1_follow_11 rfl (lv_at hl 1 rfl) ?_
    refine z_ist (j := 2) hx hb hK hP hD hS 1 rfl rfl (by omega) (by decide) dX1_follow_12 (fun H locs hP hD hS => ?_)
    have hP : va_P D vwCl [(hF, .inr (1, [.ref cF, .ref aF, .ref wF])), (cF, .inl (cI, 39, .inl (upd f 2 v)))] H := hP
    have hD : va_D A [(hF, .inr (1, [.ref cF, .ref aF, .ref wF])), (cF, .inl (cI, 39, .inl (upd f 2 v)))] := hD
    refine lv_iload_n hx hb dX1_follow_13 rfl (lv_at hl 1 rfl) ?_
    refine lv_bipush (v := 16) hx hb dX1_follow_14 (by decide) ?_
    refine lv_icmp_ne (tgt := 26) hx hb dX1_follow_16 (by decide) (fun c_3 => ?_) (fun c_3 => ?_)
    · skip
      refine lv_iload_n hx hb dX1_follow_26 rfl (lv_at hl 1 rfl) ?_
      exact hQ v (upd f 2 v) _ _ _ _ (rfl) (⟨rfl, by unfold cFol; (first | rw [if_pos c_3] | rw [if_neg c_3]); (first | rw [if_pos c_1] | rw [if_neg c_1])⟩) hP hD hS dX1_follow_27
    · skip
      refine lv_aload_n hx hb dX1_follow_19 rfl (lv_at hl 0 rfl) ?_
      refine va_get (D := D) (ci := 1) (v := .ref cF) (C := RX1) (T := TX1) (N := 3) hx hb hts N1 hown hK hP 0 rfl rfl 0 (by decide) L11 (fun _ h9 => h9) rfl dX1_follow_20 ?_
      refine lv_iconst (v := 3) hx hb dX1_follow_23 (by decide) ?_
      refine lv_iconst (v := 0) hx hb dX1_follow_24 (by decide) ?_
      refine z_ist (j := 3) hx hb hK hP hD hS 1 rfl rfl (by omega) (by decide) dX1_follow_25 (fun H locs hP hD hS => ?_)
      have hP : va_P D vwCl [(hF, .inr (1, [.ref cF, .ref aF, .ref wF])), (cF, .inl (cI, 39, .inl (upd (upd f 2 v) 3 0)))] H := hP
      have hD : va_D A [(hF, .inr (1, [.ref cF, .ref aF, .ref wF])), (cF, .inl (cI, 39, .inl (upd (upd f 2 v) 3 0)))] := hD
      refine lv_iload_n hx hb dX1_follow_26 rfl (lv_at hl 1 rfl) ?_
      exact hQ v (upd (upd f 2 v) 3 0) _ _ _ _ (rfl) (⟨rfl, by unfold cFol; (first | rw [if_pos c_3] | rw [if_neg c_3]); (first | rw [if_pos c_1] | rw [if_neg c_1])⟩) hP hD hS dX1_follow_27
