set_option maxHeartbeats 4000000 in
set_option maxRecDepth 100000 in
theorem kX1_worstOther (l : Launch) (D : va_G) (cI cB : ClassId) (tE tN : Nat) (hF : Nat) (cF : Nat) (aF : Nat) (wF : Nat) (f : Nat → Int32) (t1 : Int64) (t2 : Int64) (t3 : Int64) (t4 : Int64) (w1 : Int64) (w2 : Int64) (w3 : Int64) (w4 : Int64) (N : Nat) (sz : Nat) (hN : f 35 = nI N) (hN6 : N ≤ 6) : zI l yX1_worstOther wsX1_worstOther ({ frames := 2, cells := 0, slots := 0, locals := 60 }) D cI cB tE tN [.ref hF] [(hF, .inr (1, [.ref cF, .ref aF, .ref wF])), (cF, .inl (cI, 39, .inl f)), (aF, .inr (0, [.long t1, .long t2, .long t3, .long t4])), (wF, .inr (0, [.long w1, .long w2, .long w3, .long w4]))] sz (fun u : Int64 × Int64 × Int64 × Int64 × Int64 × Int64 × Int64 × Int64 => [(hF, .inr (1, [.ref cF, .ref aF, .ref wF])), (cF, .inl (cI, 39, .inl f)), (aF, .inr (0, [.long u.1, .long u.2.1, .long u.2.2.1, .long u.2.2.2.1])), (wF, .inr (0, [.long u.2.2.2.2.1, .long u.2.2.2.2.2.1, .long u.2.2.2.2.2.2.1, .long u.2.2.2.2.2.2.2]))]) (fun (r : Int32) (u : Int64 × Int64 × Int64 × Int64 × Int64 × Int64 × Int64 × Int64) => r = (wsF f (w1, w2, w3, w4) N).1) 0 0 := by
  refine zI_mk (cc := cX1_worstOther) (maxL := 3) (rt := .int) (by decide) rfl (Nat.le_of_ble_eq_true rfl) ?_
  intro p e s m below meth c A Q ls S0 hname hA hK hP hD hT hS hQ hl
  obtain ⟨hx, hb, hml, hown, hts⟩ := id S0
  have hl : lv_has ls 3 [(0, .ref hF)] := hl
  have L11 : (Cond.fieldLink RX1 11 "PastAndClear$Fleet" "cells" "[I").before ([.ref hF] : List Value).toArray s = true := hts (.fieldLink RX1 11 "PastAndClear$Fleet" "cells" "[I") (by decide +kernel)
  have N1 : ∀ w ∈ u_ws RX1 TX1 3, w ∈ wsX1_worstOther := by decide +kernel
  have L22 : (Cond.fieldLink RX1 22 "PastAndClear$Fleet" "worstYet" "LPastAndClear$Approach;").before ([.ref hF] : List Value).toArray s = true := hts (.fieldLink RX1 22 "PastAndClear$Fleet" "worstYet" "LPastAndClear$Approach;") (by decide +kernel)
  have L18 : (Cond.fieldLink RX1 18 "PastAndClear$Fleet" "approach" "LPastAndClear$Approach;").before ([.ref hF] : List Value).toArray s = true := hts (.fieldLink RX1 18 "PastAndClear$Fleet" "approach" "LPastAndClear$Approach;") (by decide +kernel)
  have lp6 : ∀ (k : Nat) (n : Nat) (x : Int32) (b1 : Int64) (b2 : Int64) (b3 : Int64) (b4 : Int64) (v1 : Int64) (v2 : Int64) (v3 : Int64) (v4 : Int64) (H : Heap) (locs : List Loc) (ls : Array Slot), N - n = k → (n ≤ N) → ((x, v1, v2, v3, v4) = wsF f (w1, w2, w3, w4) n) → va_P D vwCl [(hF, .inr (1, [.ref cF, .ref aF, .ref wF])), (cF, .inl (cI, 39, .inl f)), (aF, .inr (0, [.long b1, .long b2, .long b3, .long b4])), (wF, .inr (0, [.long v1, .long v2, .long v3, .long v4]))] H → va_D A [(hF, .inr (1, [.ref cF, .ref aF, .ref wF])), (cF, .inl (cI, 39, .inl f)), (aF, .inr (0, [.long b1, .long b2, .long b3, .long b4])), (wF, .inr (0, [.long v1, .long v2, .long v3, .long v4]))] → va_S A s.heap H locs → lv_has ls 3 [(2, .int (nI (n + 1))), (1, .int x), (0, .ref hF)] → W p l e ({ frames := 2, cells := 0, slots := 0, locals := 60 } : Room) s m ([.ref hF] : List Value).toArray below meth c H locs 0 0 Q (F0 m 6 ls []) := by
    intro k
    induction k using Nat.strongRecOn with
    | ind k ih =>
    intro n x b1 b2 b3 b4 v1 v2 v3 v4 H locs ls hk hn hinv hP hD hS hl
    refine lv_iload_n hx hb dX1_worstOther_6 rfl (lv_at hl 0 rfl) ?_
    refine lv_aload_n hx hb dX1_worstOther_7 rfl (lv_at hl 2 rfl) ?_
    refine va_get (D := D) (ci := 1) (v := .ref cF) (C := RX1) (T := TX1) (N := 3) hx hb hts N1 hown hK hP 0 rfl rfl 0 (by decide) L11 (fun _ h9 => h9) rfl dX1_worstOther_8 ?_
    refine lv_bipush (v := 35) hx hb dX1_worstOther_11 (by decide) ?_
    refine z_ild (v := nI N) (j := 35) hx hb hK hP 1 rfl rfl (by omega) (by decide) (hN) dX1_worstOther_13 ?_
    refine lv_icmp_gt (tgt := 66) hx hb dX1_worstOther_14 (by decide) (fun c_1 => ?_) (fun c_1 => ?_)
    · skip
      have c_1 := (z_lt (a := N) (b := n + 1) rfl rfl (by omega) (by omega)).mp c_1
      refine lv_iload_n hx hb dX1_worstOther_66 rfl (lv_at hl 1 rfl) ?_
      exact hQ x (b1, b2, b3, b4, v1, v2, v3, v4) _ _ _ _ (rfl) (by rw [show N = n by omega, ← hinv]) hP hD hS dX1_worstOther_67
    · skip
      have c_1 := (z_ltn (a := N) (b := n + 1) rfl rfl (by omega) (by omega)).mp c_1
      refine lv_aload_n hx hb dX1_worstOther_17 rfl (lv_at hl 2 rfl) ?_
      refine lv_iconst (v := 0) hx hb dX1_worstOther_18 (by decide) ?_
      refine lv_iload_n hx hb dX1_worstOther_19 rfl (lv_at hl 0 rfl) ?_
      refine z_VI (n := 2) (wn := (fun u : Int64 × Int64 × Int64 × Int64 => [(hF, .inr (1, [.ref cF, .ref aF, .ref wF])), (cF, .inl (cI, 39, .inl f)), (aF, .inr (0, [.long u.1, .long u.2.1, .long u.2.2.1, .long u.2.2.2])), (wF, .inr (0, [.long v1, .long v2, .long v3, .long v4]))])) (wr := [(wF, .inr (0, [.long v1, .long v2, .long v3, .long v4]))]) (As := [.int 0, .int (nI (n + 1))]) (rest := []) ⟨hx, hb, hml, hown, hts⟩ hK hP hD hS hA hT (kX1_haveRisk l D cI cB tE tN hF cF aF wF f b1 b2 b3 b4 0 (n + 1) _ (by omega) (by omega)) gX1_worstOther_X1_haveRisk rfl rfl rfl (by decide +kernel) ⟨Nat.le_of_ble_eq_true rfl, Nat.le_of_ble_eq_true rfl⟩ [0, 1, 2] [3] [1, 2, 3, 0] (by decide) rfl rfl (by decide) (by decide) (by decide) (fun u => rfl) 0 1 rfl rfl rfl rfl hl.1 rfl (Nat.le_of_ble_eq_true rfl) dX1_worstOther_20 ⟨Nat.le_of_ble_eq_true rfl, Nat.le_of_ble_eq_true rfl⟩ (fun r_6 u H locs hw_7 hP hD hS => ?_)
      obtain ⟨b1_2, b2_3, b3_4, b4_5⟩ := u
      try dsimp only at hw_7
      have hP : va_P D vwCl [(hF, .inr (1, [.ref cF, .ref aF, .ref wF])), (cF, .inl (cI, 39, .inl f)), (aF, .inr (0, [.long b1_2, .long b2_3, .long b3_4, .long b4_5])), (wF, .inr (0, [.long v1, .long v2, .long v3, .long v4]))] H := hP
      have hD : va_D A [(hF, .inr (1, [.ref cF, .ref aF, .ref wF])), (cF, .inl (cI, 39, .inl f)), (aF, .inr (0, [.long b1_2, .long b2_3, .long b3_4, .long b4_5])), (wF, .inr (0, [.long v1, .long v2, .long v3, .long v4]))] := hD
      obtain ⟨hw_7, hq_8⟩ := hw_7
      subst r_6
      have hm := hq_8
      refine lv_if_eq (tgt := 60) hx hb dX1_worstOther_23 (by decide) (fun c_9 => ?_) (fun c_9 => ?_)
      · skip
        have c_9 := z_b0 c_9
        refine lv_iinc (v := nI (n + 1 + 1)) (lv' := [(2, .int (nI (n + 1 + 1))), (1, .int x), (0, .ref hF)]) hx hb dX1_worstOther_60 hl (k := 0) rfl (z_add rfl rfl) (by decide) rfl (fun ls hl => ?_)
        refine lv_goto (tgt := 6) hx hb dX1_worstOther_63 (by decide) ?_
        exact ih _ (by omega) (n + 1) x b1_2 b2_3 b3_4 b4_5 v1 v2 v3 v4 _ _ _ rfl (by omega) (by rw [wsF, if_neg (by simp [c_9]), hinv]) hP hD hS (lv_sub hl [0, 1, 2] rfl)
      · skip
        have c_9 := z_b1 c_9
        refine lv_iload_n hx hb dX1_worstOther_26 rfl (lv_at hl 1 rfl) ?_
        refine lv_sipush (v := (-10001)) hx hb dX1_worstOther_27 (by decide) ?_
        refine lv_icmp_eq (tgt := 47) hx hb dX1_worstOther_30 (by decide) (fun c_10 => ?_) (fun c_10 => ?_)
        · skip
          refine lv_iload_n hx hb dX1_worstOther_47 rfl (lv_at hl 0 rfl) ?_
          refine lv_istore_n (lv' := [(1, .int (nI (n + 1))), (2, .int (nI (n + 1))), (0, .ref hF)]) hx hb dX1_worstOther_48 rfl hl (by decide) rfl (fun ls hl => ?_)
          refine lv_aload_n hx hb dX1_worstOther_49 rfl (lv_at hl 2 rfl) ?_
          refine va_get (D := D) (ci := 1) (v := .ref wF) (C := RX1) (T := TX1) (N := 3) hx hb hts N1 hown hK hP 0 rfl rfl 2 (by decide) L22 (fun _ h9 => h9) rfl dX1_worstOther_50 ?_
          refine lv_aload_n hx hb dX1_worstOther_53 rfl (lv_at hl 2 rfl) ?_
          refine va_get (D := D) (ci := 1) (v := .ref aF) (C := RX1) (T := TX1) (N := 3) hx hb hts N1 hown hK hP 0 rfl rfl 1 (by decide) L18 (fun _ h9 => h9) rfl dX1_worstOther_54 ?_
          refine z_VV (n := 1) (wn := (fun u : Unit => [(hF, .inr (1, [.ref cF, .ref aF, .ref wF])), (cF, .inl (cI, 39, .inl f)), (aF, .inr (0, [.long b1_2, .long b2_3, .long b3_4, .long b4_5])), (wF, .inr (0, [.long b1_2, .long b2_3, .long b3_4, .long b4_5]))])) (wr := [(hF, .inr (1, [.ref cF, .ref aF, .ref wF])), (cF, .inl (cI, 39, .inl f))]) (As := [.ref aF]) (rest := []) ⟨hx, hb, hml, hown, hts⟩ hK hP hD hS hA hT (kX0_take l D cI cB tE tN wF aF v1 v2 v3 v4 b1_2 b2_3 b3_4 b4_5 _ ) gX1_worstOther_X0_take rfl rfl rfl (by decide +kernel) ⟨Nat.le_of_ble_eq_true rfl, Nat.le_of_ble_eq_true rfl⟩ [3, 2] [0, 1] [0, 1, 3, 2] (by decide) rfl rfl (by decide) (by decide) (by decide) (fun u => rfl) 0 0 rfl rfl rfl rfl hl.1 rfl (Nat.le_of_ble_eq_true rfl) dX1_worstOther_57 ⟨Nat.le_of_ble_eq_true rfl, Nat.le_of_ble_eq_true rfl⟩ (fun u H locs hw_12 hP hD hS => ?_)
          try dsimp only at hw_12
          have hP : va_P D vwCl [(hF, .inr (1, [.ref cF, .ref aF, .ref wF])), (cF, .inl (cI, 39, .inl f)), (aF, .inr (0, [.long b1_2, .long b2_3, .long b3_4, .long b4_5])), (wF, .inr (0, [.long b1_2, .long b2_3, .long b3_4, .long b4_5]))] H := hP
          have hD : va_D A [(hF, .inr (1, [.ref cF, .ref aF, .ref wF])), (cF, .inl (cI, 39, .inl f)), (aF, .inr (0, [.long b1_2, .long b2_3, .long b3_4, .long b4_5])), (wF, .inr (0, [.long b1_2, .long b2_3, .long b3_4, .long b4_5]))] := hD
          refine lv_iinc (v := nI (n + 1 + 1)) (lv' := [(2, .int (nI (n + 1 + 1))), (1, .int (nI (n + 1))), (0, .ref hF)]) hx hb dX1_worstOther_60 hl (k := 1) rfl (z_add rfl rfl) (by decide) rfl (fun ls hl => ?_)
          refine lv_goto (tgt := 6) hx hb dX1_worstOther_63 (by decide) ?_
          exact ih _ (by omega) (n + 1) (nI (n + 1)) b1_2 b2_3 b3_4 b4_5 b1_2 b2_3 b3_4 b4_5 _ _ _ rfl (by omega) (by rw [wsF, if_pos ⟨c_9, Or.inl (by rw [← hinv]; exact c_10)⟩, ← hm]) hP hD hS (lv_sub hl [0, 1, 2] rfl)
        · skip
          refine lv_aload_n hx hb dX1_worstOther_33 rfl (lv_at hl 2 rfl) ?_
          refine va_get (D := D) (ci := 1) (v := .ref aF) (C := RX1) (T := TX1) (N := 3) hx hb hts N1 hown hK hP 0 rfl rfl 1 (by decide) L18 (fun _ h9 => h9) rfl dX1_worstOther_34 ?_
          refine lv_aload_n hx hb dX1_worstOther_37 rfl (lv_at hl 2 rfl) ?_
          refine va_get (D := D) (ci := 1) (v := .ref wF) (C := RX1) (T := TX1) (N := 3) hx hb hts N1 hown hK hP 0 rfl rfl 2 (by decide) L22 (fun _ h9 => h9) rfl dX1_worstOther_38 ?_
          refine z_VI (n := 1) (wn := (fun u : Unit => [(hF, .inr (1, [.ref cF, .ref aF, .ref wF])), (cF, .inl (cI, 39, .inl f)), (aF, .inr (0, [.long b1_2, .long b2_3, .long b3_4, .long b4_5])), (wF, .inr (0, [.long v1, .long v2, .long v3, .long v4]))])) (wr := [(hF, .inr (1, [.ref cF, .ref aF, .ref wF])), (cF, .inl (cI, 39, .inl f))]) (As := [.ref wF]) (rest := []) ⟨hx, hb, hml, hown, hts⟩ hK hP hD hS hA hT (kX0_isWorse l D cI cB tE tN aF wF b1_2 b2_3 b3_4 b4_5 v1 v2 v3 v4 _ ) gX1_worstOther_X0_isWorse rfl rfl rfl (by decide +kernel) ⟨Nat.le_of_ble_eq_true rfl, Nat.le_of_ble_eq_true rfl⟩ [2, 3] [0, 1] [0, 1, 2, 3] (by decide) rfl rfl (by decide) (by decide) (by decide) (fun u => rfl) 0 0 rfl rfl rfl rfl hl.1 rfl (Nat.le_of_ble_eq_true rfl) dX1_worstOther_41 ⟨Nat.le_of_ble_eq_true rfl, Nat.le_of_ble_eq_true rfl⟩ (fun r_13 u H locs hw_14 hP hD hS => ?_)
          try dsimp only at hw_14
          have hP : va_P D vwCl [(hF, .inr (1, [.ref cF, .ref aF, .ref wF])), (cF, .inl (cI, 39, .inl f)), (aF, .inr (0, [.long b1_2, .long b2_3, .long b3_4, .long b4_5])), (wF, .inr (0, [.long v1, .long v2, .long v3, .long v4]))] H := hP
          have hD : va_D A [(hF, .inr (1, [.ref cF, .ref aF, .ref wF])), (cF, .inl (cI, 39, .inl f)), (aF, .inr (0, [.long b1_2, .long b2_3, .long b3_4, .long b4_5])), (wF, .inr (0, [.long v1, .long v2, .long v3, .long v4]))] := hD
          subst r_13
          refine lv_if_eq (tgt := 60) hx hb dX1_worstOther_44 (by decide) (fun c_15 => ?_) (fun c_15 => ?_)
          · skip
            have c_15 := z_b0 c_15
            refine lv_iinc (v := nI (n + 1 + 1)) (lv' := [(2, .int (nI (n + 1 + 1))), (1, .int x), (0, .ref hF)]) hx hb dX1_worstOther_60 hl (k := 0) rfl (z_add rfl rfl) (by decide) rfl (fun ls hl => ?_)
            refine lv_goto (tgt := 6) hx hb dX1_worstOther_63 (by decide) ?_
            exact ih _ (by omega) (n + 1) x b1_2 b2_3 b3_4 b4_5 v1 v2 v3 v4 _ _ _ rfl (by omega) (by rw [wsF, if_neg (by rw [← hinv, ← hm]; rintro ⟨-, h | h⟩; exact c_10 h; rw [c_15] at h; cases h), hinv]) hP hD hS (lv_sub hl [0, 1, 2] rfl)
          · skip
            have c_15 := z_b1 c_15
            refine lv_iload_n hx hb dX1_worstOther_47 rfl (lv_at hl 0 rfl) ?_
            refine lv_istore_n (lv' := [(1, .int (nI (n + 1))), (2, .int (nI (n + 1))), (0, .ref hF)]) hx hb dX1_worstOther_48 rfl hl (by decide) rfl (fun ls hl => ?_)
            refine lv_aload_n hx hb dX1_worstOther_49 rfl (lv_at hl 2 rfl) ?_
            refine va_get (D := D) (ci := 1) (v := .ref wF) (C := RX1) (T := TX1) (N := 3) hx hb hts N1 hown hK hP 0 rfl rfl 2 (by decide) L22 (fun _ h9 => h9) rfl dX1_worstOther_50 ?_
            refine lv_aload_n hx hb dX1_worstOther_53 rfl (lv_at hl 2 rfl) ?_
            refine va_get (D := D) (ci := 1) (v := .ref aF) (C := RX1) (T := TX1) (N := 3) hx hb hts N1 hown hK hP 0 rfl rfl 1 (by decide) L18 (fun _ h9 => h9) rfl dX1_worstOther_54 ?_
            refine z_VV (n := 1) (wn := (fun u : Unit => [(hF, .inr (1, [.ref cF, .ref aF, .ref wF])), (cF, .inl (cI, 39, .inl f)), (aF, .inr (0, [.long b1_2, .long b2_3, .long b3_4, .long b4_5])), (wF, .inr (0, [.long b1_2, .long b2_3, .long b3_4, .long b4_5]))])) (wr := [(hF, .inr (1, [.ref cF, .ref aF, .ref wF])), (cF, .inl (cI, 39, .inl f))]) (As := [.ref aF]) (rest := []) ⟨hx, hb, hml, hown, hts⟩ hK hP hD hS hA hT (kX0_take l D cI cB tE tN wF aF v1 v2 v3 v4 b1_2 b2_3 b3_4 b4_5 _ ) gX1_worstOther_X0_take rfl rfl rfl (by decide +kernel) ⟨Nat.le_of_ble_eq_true rfl, Nat.le_of_ble_eq_true rfl⟩ [3, 2] [0, 1] [0, 1, 3, 2] (by decide) rfl rfl (by decide) (by decide) (by decide) (fun u => rfl) 0 0 rfl rfl rfl rfl hl.1 rfl (Nat.le_of_ble_eq_true rfl) dX1_worstOther_57 ⟨Nat.le_of_ble_eq_true rfl, Nat.le_of_ble_eq_true rfl⟩ (fun u H locs hw_17 hP hD hS => ?_)
            try dsimp only at hw_17
            have hP : va_P D vwCl [(hF, .inr (1, [.ref cF, .ref aF, .ref wF])), (cF, .inl (cI, 39, .inl f)), (aF, .inr (0, [.long b1_2, .long b2_3, .long b3_4, .long b4_5])), (wF, .inr (0, [.long b1_2, .long b2_3, .long b3_4, .long b4_5]))] H := hP
            have hD : va_D A [(hF, .inr (1, [.ref cF, .ref aF, .ref wF])), (cF, .inl (cI, 39, .inl f)), (aF, .inr (0, [.long b1_2, .long b2_3, .long b3_4, .long b4_5])), (wF, .inr (0, [.long b1_2, .long b2_3, .long b3_4, .long b4_5]))] := hD
            refine lv_iinc (v := nI (n + 1 + 1)) (lv' := [(2, .int (nI (n + 1 + 1))), (1, .int (nI (n + 1))), (0, .ref hF)]) hx hb dX1_worstOther_60 hl (k := 1) rfl (z_add rfl rfl) (by decide) rfl (fun ls hl => ?_)
            refine lv_goto (tgt := 6) hx hb dX1_worstOther_63 (by decide) ?_
            exact ih _ (by omega) (n + 1) (nI (n + 1)) b1_2 b2_3 b3_4 b4_5 b1_2 b2_3 b3_4 b4_5 _ _ _ rfl (by omega) (by rw [wsF, if_pos ⟨c_9, Or.inr (by rw [← hinv, ← hm]; exact c_15)⟩, ← hm]) hP hD hS (lv_sub hl [0, 1, 2] rfl)
  refine lv_sipush (v := (-10001)) hx hb dX1_worstOther_0 (by decide) ?_
  refine lv_istore_n (lv' := [(1, .int (-10001)), (0, .ref hF)]) hx hb dX1_worstOther_3 rfl hl (by decide) rfl (fun ls hl => ?_)
  refine lv_iconst (v := 1) hx hb dX1_worstOther_4 (by decide) ?_
  refine lv_istore_n (lv' := [(2, .int 1), (1, .int (-10001)), (0, .ref hF)]) hx hb dX1_worstOther_5 rfl hl (by decide) rfl (fun ls hl => ?_)
  exact lp6 _ 0 (-10001) t1 t2 t3 t4 w1 w2 w3 w4 _ _ _ rfl (by omega) rfl hP hD hS (lv_sub hl [0, 1, 2] rfl)

set_option maxHeartbeats 4000000 in
set_option maxRecDepth 100000 in
theorem kX1_isClear (l : Launch) (D : va_G) (cI cB : ClassId) (tE tN : Nat) (hF : Nat) (cF : Nat) (aF : Nat) (wF : Nat) (f : Nat → Int32) (t1 : Int64) (t2 : Int64) (t3 : Int64) (t4 : Int64) (ia : Nat) (ph : Int32) (ps : Int32) (N : Nat) (sz : Nat) (hN : f 35 = nI N) (hN6 : N ≤ 6) (ha : ia ≤ 6) : zI l yX1_isClear wsX1_isClear ({ frames := 2, cells := 0, slots := 0, locals := 62 }) D cI cB tE tN [.ref hF, .int (nI ia), .int ph, .int ps] [(hF, .inr (1, [.ref cF, .ref aF, .ref wF])), (cF, .inl (cI, 39, .inl f)), (aF, .inr (0, [.long t1, .long t2, .long t3, .long t4]))] sz (fun u : Int64 × Int64 × Int64 × Int64 => [(hF, .inr (1, [.ref cF, .ref aF, .ref wF])), (cF, .inl (cI, 39, .inl f)), (aF, .inr (0, [.long u.1, .long u.2.1, .long u.2.2.1, .long u.2.2.2]))]) (fun (r : Int32) (u : Int64 × Int64 × Int64 × Int64) => r = b2i (cClr f N ia ph ps)) 0 0 := by
  refine zI_mk (cc := cX1_isClear) (maxL := 5) (rt := .boolean) (by decide) rfl (Nat.le_of_ble_eq_true rfl) ?_
  intro p e s m below meth c A Q ls S0 hname hA hK hP hD hT hS hQ hl
  obtain ⟨hx, hb, hml, hown, hts⟩ := id S0
  have hl : lv_has ls 5 [(0, .ref hF), (1, .int (nI ia)), (2, .int ph), (3, .int ps)] := hl
  have L11 : (Cond.fieldLink RX1 11 "PastAndClear$Fleet" "cells" "[I").before ([.ref hF, .int (nI ia), .int ph, .int ps] : List Value).toArray s = true := hts (.fieldLink RX1 11 "PastAndClear$Fleet" "cells" "[I") (by decide +kernel)
  have N1 : ∀ w ∈ u_ws RX1 TX1 3, w ∈ wsX1_isClear := by decide +kernel
  have lp3 : ∀ (k : Nat) (n : Nat) (b1 : Int64) (b2 : Int64) (b3 : Int64) (b4 : Int64) (H : Heap) (locs : List Loc) (ls : Array Slot), N + 1 - n = k → (n ≤ N + 1) → (∀ j, j < n → j ≠ ia → cWR f ia ph ps j = false) → va_P D vwCl [(hF, .inr (1, [.ref cF, .ref aF, .ref wF])), (cF, .inl (cI, 39, .inl f)), (aF, .inr (0, [.long b1, .long b2, .long b3, .long b4]))] H → va_D A [(hF, .inr (1, [.ref cF, .ref aF, .ref wF])), (cF, .inl (cI, 39, .inl f)), (aF, .inr (0, [.long b1, .long b2, .long b3, .long b4]))] → va_S A s.heap H locs → lv_has ls 5 [(4, .int (nI n)), (0, .ref hF), (1, .int (nI ia)), (2, .int ph), (3, .int ps)] → W p l e ({ frames := 2, cells := 0, slots := 0, locals := 62 } : Room) s m ([.ref hF, .int (nI ia), .int ph, .int ps] : List Value).toArray below meth c H locs 0 0 Q (F0 m 3 ls []) := by
    intro k
    induction k using Nat.strongRecOn with
    | ind k ih =>
    intro n b1 b2 b3 b4 H locs ls hk hn hi hP hD hS hl
    refine lv_iload hx hb dX1_isClear_3 (lv_at hl 0 rfl) ?_
    refine lv_aload_n hx hb dX1_isClear_5 rfl (lv_at hl 1 rfl) ?_
    refine va_get (D := D) (ci := 1) (v := .ref cF) (C := RX1) (T := TX1) (N := 3) hx hb hts N1 hown hK hP 0 rfl rfl 0 (by decide) L11 (fun _ h9 => h9) rfl dX1_isClear_6 ?_
    refine lv_bipush (v := 35) hx hb dX1_isClear_9 (by decide) ?_
    refine z_ild (v := nI N) (j := 35) hx hb hK hP 1 rfl rfl (by omega) (by decide) (hN) dX1_isClear_11 ?_
    refine lv_icmp_gt (tgt := 41) hx hb dX1_isClear_12 (by decide) (fun c_1 => ?_) (fun c_1 => ?_)
    · skip
      have c_1 := (z_lt (a := N) (b := n) rfl rfl (by omega) (by omega)).mp c_1
      refine lv_iconst (v := 1) hx hb dX1_isClear_41 (by decide) ?_
      exact hQ 1 (b1, b2, b3, b4) _ _ _ _ (rfl) (b2i_t (cClr_t (fun j h => hi j (by omega)))) hP hD hS dX1_isClear_42
    · skip
      have c_1 := (z_ltn (a := N) (b := n) rfl rfl (by omega) (by omega)).mp c_1
      refine lv_iload hx hb dX1_isClear_15 (lv_at hl 0 rfl) ?_
      refine lv_iload_n hx hb dX1_isClear_17 rfl (lv_at hl 2 rfl) ?_
      refine lv_icmp_eq (tgt := 35) hx hb dX1_isClear_18 (by decide) (fun c_2 => ?_) (fun c_2 => ?_)
      · skip
        have c_2 := (z_eq (a := n) (b := ia) rfl rfl (by omega) (by omega)).mp c_2
        refine lv_iinc (v := nI (n + 1)) (lv' := [(4, .int (nI (n + 1))), (0, .ref hF), (1, .int (nI ia)), (2, .int ph), (3, .int ps)]) hx hb dX1_isClear_35 hl (k := 0) rfl (z_add rfl rfl) (by decide) rfl (fun ls hl => ?_)
        refine lv_goto (tgt := 3) hx hb dX1_isClear_38 (by decide) ?_
        exact ih _ (by omega) (n + 1) b1 b2 b3 b4 _ _ _ rfl (by omega) (z_all hi (fun e => absurd c_2 e)) hP hD hS (lv_sub hl [0, 1, 2, 3, 4] rfl)
      · skip
        have c_2 := (z_eqn (a := n) (b := ia) rfl rfl (by omega) (by omega)).mp c_2
        refine lv_aload_n hx hb dX1_isClear_21 rfl (lv_at hl 1 rfl) ?_
        refine lv_iload_n hx hb dX1_isClear_22 rfl (lv_at hl 2 rfl) ?_
        refine lv_iload_n hx hb dX1_isClear_23 rfl (lv_at hl 3 rfl) ?_
        refine lv_iload_n hx hb dX1_isClear_24 rfl (lv_at hl 4 rfl) ?_
        refine lv_iload hx hb dX1_isClear_25 (lv_at hl 0 rfl) ?_
        refine z_VI (n := 4) (wn := (fun u : Int64 × Int64 × Int64 × Int64 => [(hF, .inr (1, [.ref cF, .ref aF, .ref wF])), (cF, .inl (cI, 39, .inl f)), (aF, .inr (0, [.long u.1, .long u.2.1, .long u.2.2.1, .long u.2.2.2]))])) (wr := []) (As := [.int (nI ia), .int ph, .int ps, .int (nI n)]) (rest := []) ⟨hx, hb, hml, hown, hts⟩ hK hP hD hS hA hT (kX1_wouldRisk l D cI cB tE tN hF cF aF wF f b1 b2 b3 b4 ia n ph ps _ (by omega) (by omega)) gX1_isClear_X1_wouldRisk rfl rfl rfl (by decide +kernel) ⟨Nat.le_of_ble_eq_true rfl, Nat.le_of_ble_eq_true rfl⟩ [0, 1, 2] [] [0, 1, 2] (by decide) rfl rfl (by decide) (by decide) (by decide) (fun u => rfl) 0 1 rfl rfl rfl rfl hl.1 rfl (Nat.le_of_ble_eq_true rfl) dX1_isClear_27 ⟨Nat.le_of_ble_eq_true rfl, Nat.le_of_ble_eq_true rfl⟩ (fun r_7 u H locs hw_8 hP hD hS => ?_)
        obtain ⟨b1_3, b2_4, b3_5, b4_6⟩ := u
        try dsimp only at hw_8
        have hP : va_P D vwCl [(hF, .inr (1, [.ref cF, .ref aF, .ref wF])), (cF, .inl (cI, 39, .inl f)), (aF, .inr (0, [.long b1_3, .long b2_4, .long b3_5, .long b4_6]))] H := hP
        have hD : va_D A [(hF, .inr (1, [.ref cF, .ref aF, .ref wF])), (cF, .inl (cI, 39, .inl f)), (aF, .inr (0, [.long b1_3, .long b2_4, .long b3_5, .long b4_6]))] := hD
        subst r_7
        refine lv_if_eq (tgt := 35) hx hb dX1_isClear_30 (by decide) (fun c_9 => ?_) (fun c_9 => ?_)
        · skip
          have c_9 := z_b0 c_9
          refine lv_iinc (v := nI (n + 1)) (lv' := [(4, .int (nI (n + 1))), (0, .ref hF), (1, .int (nI ia)), (2, .int ph), (3, .int ps)]) hx hb dX1_isClear_35 hl (k := 0) rfl (z_add rfl rfl) (by decide) rfl (fun ls hl => ?_)
          refine lv_goto (tgt := 3) hx hb dX1_isClear_38 (by decide) ?_
          exact ih _ (by omega) (n + 1) b1_3 b2_4 b3_5 b4_6 _ _ _ rfl (by omega) (z_all hi (fun e => c_9)) hP hD hS (lv_sub hl [0, 1, 2, 3, 4] rfl)
        · skip
          have c_9 := z_b1 c_9
          refine lv_iconst (v := 0) hx hb dX1_isClear_33 (by decide) ?_
          exact hQ 0 (b1_3, b2_4, b3_5, b4_6) _ _ _ _ (rfl) (b2i_f (cClr_f (b := n) (by omega) c_2 c_9)) hP hD hS dX1_isClear_34
  refine lv_iconst (v := 0) hx hb dX1_isClear_0 (by decide) ?_
  refine lv_istore (lv' := [(4, .int 0), (0, .ref hF), (1, .int (nI ia)), (2, .int ph), (3, .int ps)]) hx hb dX1_isClear_1 hl (by decide) rfl (fun ls hl => ?_)
  exact lp3 _ 0 t1 t2 t3 t4 _ _ _ rfl (by omega) (fun j h => absurd h (Nat.not_lt_zero j)) hP hD hS (lv_sub hl [0, 1, 2, 3, 4] rfl)

set_option maxHeartbeats 4000000 in
set_option maxRecDepth 100000 in
theorem kX1_blockedBy (l : Launch) (D : va_G) (cI cB : ClassId) (tE tN : Nat) (hF : Nat) (cF : Nat) (aF : Nat) (wF : Nat) (f : Nat → Int32) (t1 : Int64) (t2 : Int64) (t3 : Int64) (t4 : Int64) (ib : Nat) (sz : Nat) (hb6 : ib ≤ 6) : zI l yX1_blockedBy wsX1_blockedBy ({ frames := 2, cells := 0, slots := 0, locals := 62 }) D cI cB tE tN [.ref hF, .int (nI ib)] [(hF, .inr (1, [.ref cF, .ref aF, .ref wF])), (cF, .inl (cI, 39, .inl f)), (aF, .inr (0, [.long t1, .long t2, .long t3, .long t4]))] sz (fun u : Int64 × Int64 × Int64 × Int64 => [(hF, .inr (1, [.ref cF, .ref aF, .ref wF])), (cF, .inl (cI, 39, .inl f)), (aF, .inr (0, [.long u.1, .long u.2.1, .long u.2.2.1, .long u.2.2.2]))]) (fun (r : Int32) (u : Int64 × Int64 × Int64 × Int64) => r = blF f ib 16) 0 0 := by
  refine zI_mk (cc := cX1_blockedBy) (maxL := 4) (rt := .int) (by decide) rfl (Nat.le_of_ble_eq_true rfl) ?_
  intro p e s m below meth c A Q ls S0 hname hA hK hP hD hT hS hQ hl
  obtain ⟨hx, hb, hml, hown, hts⟩ := id S0
  have hl : lv_has ls 4 [(0, .ref hF), (1, .int (nI ib))] := hl
  have L11 : (Cond.fieldLink RX1 11 "PastAndClear$Fleet" "cells" "[I").before ([.ref hF, .int (nI ib)] : List Value).toArray s = true := hts (.fieldLink RX1 11 "PastAndClear$Fleet" "cells" "[I") (by decide +kernel)
  have N1 : ∀ w ∈ u_ws RX1 TX1 3, w ∈ wsX1_blockedBy := by decide +kernel
  have lp4 : ∀ (k : Nat) (n : Nat) (x : Int32) (b1 : Int64) (b2 : Int64) (b3 : Int64) (b4 : Int64) (H : Heap) (locs : List Loc) (ls : Array Slot), 16 - n = k → (n ≤ 16) → (x = blF f ib n) → va_P D vwCl [(hF, .inr (1, [.ref cF, .ref aF, .ref wF])), (cF, .inl (cI, 39, .inl f)), (aF, .inr (0, [.long b1, .long b2, .long b3, .long b4]))] H → va_D A [(hF, .inr (1, [.ref cF, .ref aF, .ref wF])), (cF, .inl (cI, 39, .inl f)), (aF, .inr (0, [.long b1, .long b2, .long b3, .long b4]))] → va_S A s.heap H locs → lv_has ls 4 [(3, .int (nI n)), (2, .int x), (0, .ref hF), (1, .int (nI ib))] → W p l e ({ frames := 2, cells := 0, slots := 0, locals := 62 } : Room) s m ([.ref hF, .int (nI ib)] : List Value).toArray below meth c H locs 0 0 Q (F0 m 4 ls []) := by
    intro k
    induction k using Nat.strongRecOn with
    | ind k ih =>
    intro n x b1 b2 b3 b4 H locs ls hk hn hxx hP hD hS hl
    refine lv_iload_n hx hb dX1_blockedBy_4 rfl (lv_at hl 0 rfl) ?_
    refine lv_bipush (v := 16) hx hb dX1_blockedBy_5 (by decide) ?_
    refine lv_icmp_ge (tgt := 38) hx hb dX1_blockedBy_7 (by decide) (fun c_1 => ?_) (fun c_1 => ?_)
    · skip
      have c_1 := (z_le (a := 16) (b := n) rfl rfl (by omega) (by omega)).mp c_1
      refine lv_iload_n hx hb dX1_blockedBy_38 rfl (lv_at hl 1 rfl) ?_
      exact hQ x (b1, b2, b3, b4) _ _ _ _ (rfl) (by rw [hxx, show n = 16 by omega]) hP hD hS dX1_blockedBy_39
    · skip
      have c_1 := (z_len (a := 16) (b := n) rfl rfl (by omega) (by omega)).mp c_1
      refine lv_aload_n hx hb dX1_blockedBy_10 rfl (lv_at hl 2 rfl) ?_
      refine lv_iconst (v := 0) hx hb dX1_blockedBy_11 (by decide) ?_
      refine lv_iload_n hx hb dX1_blockedBy_12 rfl (lv_at hl 0 rfl) ?_
      refine lv_aload_n hx hb dX1_blockedBy_13 rfl (lv_at hl 2 rfl) ?_
      refine va_get (D := D) (ci := 1) (v := .ref cF) (C := RX1) (T := TX1) (N := 3) hx hb hts N1 hown hK hP 0 rfl rfl 0 (by decide) L11 (fun _ h9 => h9) rfl dX1_blockedBy_14 ?_
      refine lv_iconst (v := 3) hx hb dX1_blockedBy_17 (by decide) ?_
      refine z_ild (v := f 3) (j := 3) hx hb hK hP 1 rfl rfl (by omega) (by decide) (rfl) dX1_blockedBy_18 ?_
      refine lv_iload_n hx hb dX1_blockedBy_19 rfl (lv_at hl 3 rfl) ?_
      refine z_VI (n := 4) (wn := (fun u : Int64 × Int64 × Int64 × Int64 => [(hF, .inr (1, [.ref cF, .ref aF, .ref wF])), (cF, .inl (cI, 39, .inl f)), (aF, .inr (0, [.long u.1, .long u.2.1, .long u.2.2.1, .long u.2.2.2]))])) (wr := []) (As := [.int 0, .int (nI n), .int (f 3), .int (nI ib)]) (rest := []) ⟨hx, hb, hml, hown, hts⟩ hK hP hD hS hA hT (kX1_wouldRisk l D cI cB tE tN hF cF aF wF f b1 b2 b3 b4 0 ib (nI n) (f 3) _ (by omega) (by omega)) gX1_blockedBy_X1_wouldRisk rfl rfl rfl (by decide +kernel) ⟨Nat.le_of_ble_eq_true rfl, Nat.le_of_ble_eq_true rfl⟩ [0, 1, 2] [] [0, 1, 2] (by decide) rfl rfl (by decide) (by decide) (by decide) (fun u => rfl) 0 1 rfl rfl rfl rfl hl.1 rfl (Nat.le_of_ble_eq_true rfl) dX1_blockedBy_20 ⟨Nat.le_of_ble_eq_true rfl, Nat.le_of_ble_eq_true rfl⟩ (fun r_6 u H locs hw_7 hP hD hS => ?_)
      obtain ⟨b1_2, b2_3, b3_4, b4_5⟩ := u
      try dsimp only at hw_7
      have hP : va_P D vwCl [(hF, .inr (1, [.ref cF, .ref aF, .ref wF])), (cF, .inl (cI, 39, .inl f)), (aF, .inr (0, [.long b1_2, .long b2_3, .long b3_4, .long b4_5]))] H := hP
      have hD : va_D A [(hF, .inr (1, [.ref cF, .ref aF, .ref wF])), (cF, .inl (cI, 39, .inl f)), (aF, .inr (0, [.long b1_2, .long b2_3, .long b3_4, .long b4_5]))] := hD
      subst r_6
      refine lv_if_eq (tgt := 32) hx hb dX1_blockedBy_23 (by decide) (fun c_8 => ?_) (fun c_8 => ?_)
      · skip
        have c_8 := z_b0 c_8
        refine lv_iinc (v := nI (n + 1)) (lv' := [(3, .int (nI (n + 1))), (2, .int x), (0, .ref hF), (1, .int (nI ib))]) hx hb dX1_blockedBy_32 hl (k := 0) rfl (z_add rfl rfl) (by decide) rfl (fun ls hl => ?_)
        refine lv_goto (tgt := 4) hx hb dX1_blockedBy_35 (by decide) ?_
        exact ih _ (by omega) (n + 1) x b1_2 b2_3 b3_4 b4_5 _ _ _ rfl (by omega) (by rw [hxx]; simp [blF, c_8]) hP hD hS (lv_sub hl [0, 1, 2, 3] rfl)
      · skip
        have c_8 := z_b1 c_8
        refine lv_iload_n hx hb dX1_blockedBy_26 rfl (lv_at hl 1 rfl) ?_
        refine lv_iconst (v := 1) hx hb dX1_blockedBy_27 (by decide) ?_
        refine lv_iload_n hx hb dX1_blockedBy_28 rfl (lv_at hl 0 rfl) ?_
        refine lv_ishl hx hb dX1_blockedBy_29 ?_
        refine lv_ior hx hb dX1_blockedBy_30 ?_
        refine lv_istore_n (lv' := [(2, .int (x ||| (1 <<< ((nI n) &&& 31)))), (3, .int (nI n)), (0, .ref hF), (1, .int (nI ib))]) hx hb dX1_blockedBy_31 rfl hl (by decide) rfl (fun ls hl => ?_)
        refine lv_iinc (v := nI (n + 1)) (lv' := [(3, .int (nI (n + 1))), (2, .int (x ||| (1 <<< ((nI n) &&& 31)))), (0, .ref hF), (1, .int (nI ib))]) hx hb dX1_blockedBy_32 hl (k := 1) rfl (z_add rfl rfl) (by decide) rfl (fun ls hl => ?_)
        refine lv_goto (tgt := 4) hx hb dX1_blockedBy_35 (by decide) ?_
        exact ih _ (by omega) (n + 1) (x ||| (1 <<< ((nI n) &&& 31))) b1_2 b2_3 b3_4 b4_5 _ _ _ rfl (by omega) (by rw [hxx]; simp [blF, c_8]) hP hD hS (lv_sub hl [0, 1, 2, 3] rfl)
  refine lv_iconst (v := 0) hx hb dX1_blockedBy_0 (by decide) ?_
  refine lv_istore_n (lv' := [(2, .int 0), (0, .ref hF), (1, .int (nI ib))]) hx hb dX1_blockedBy_1 rfl hl (by decide) rfl (fun ls hl => ?_)
  refine lv_iconst (v := 0) hx hb dX1_blockedBy_2 (by decide) ?_
  refine lv_istore_n (lv' := [(3, .int 0), (2, .int 0), (0, .ref hF), (1, .int (nI ib))]) hx hb dX1_blockedBy_3 rfl hl (by decide) rfl (fun ls hl => ?_)
  exact lp4 _ 0 0 t1 t2 t3 t4 _ _ _ rfl (by omega) rfl hP hD hS (lv_sub hl [0, 1, 2, 3] rfl)

set_option maxHeartbeats 4000000 in
set_option maxRecDepth 100000 in
theorem kX1_mustGiveWay (l : Launch) (D : va_G) (cI cB : ClassId) (tE tN : Nat) (hF : Nat) (cF : Nat) (aF : Nat) (wF : Nat) (f : Nat → Int32) (t1 : Int64) (t2 : Int64) (t3 : Int64) (t4 : Int64) (ia : Nat) (N : Nat) (sz : Nat) (hN : f 35 = nI N) (hN6 : N ≤ 6) (ha : ia ≤ 6) : zI l yX1_mustGiveWay wsX1_mustGiveWay ({ frames := 3, cells := 0, slots := 0, locals := 84 }) D cI cB tE tN [.ref hF, .int (nI ia)] [(hF, .inr (1, [.ref cF, .ref aF, .ref wF])), (cF, .inl (cI, 39, .inl f)), (aF, .inr (0, [.long t1, .long t2, .long t3, .long t4]))] sz (fun u : Int64 × Int64 × Int64 × Int64 => [(hF, .inr (1, [.ref cF, .ref aF, .ref wF])), (cF, .inl (cI, 39, .inl f)), (aF, .inr (0, [.long u.1, .long u.2.1, .long u.2.2.1, .long u.2.2.2]))]) (fun (r : Int32) (u : Int64 × Int64 × Int64 × Int64) => r = b2i (cMg f N ia)) 0 0 := by
  refine zI_mk (cc := cX1_mustGiveWay) (maxL := 3) (rt := .boolean) (by decide) rfl (Nat.le_of_ble_eq_true rfl) ?_
  intro p e s m below meth c A Q ls S0 hname hA hK hP hD hT hS hQ hl
  obtain ⟨hx, hb, hml, hown, hts⟩ := id S0
  have hl : lv_has ls 3 [(0, .ref hF), (1, .int (nI ia))] := hl
  have L11 : (Cond.fieldLink RX1 11 "PastAndClear$Fleet" "cells" "[I").before ([.ref hF, .int (nI ia)] : List Value).toArray s = true := hts (.fieldLink RX1 11 "PastAndClear$Fleet" "cells" "[I") (by decide +kernel)
  have N1 : ∀ w ∈ u_ws RX1 TX1 3, w ∈ wsX1_mustGiveWay := by decide +kernel
  have lp19 : ∀ (k : Nat) (n : Nat) (b1 : Int64) (b2 : Int64) (b3 : Int64) (b4 : Int64) (H : Heap) (locs : List Loc) (ls : Array Slot), N + 1 - n = k → (n ≤ N + 1) → (¬ ia = 0) → (∀ j, j < n → j ≠ ia → ¬ cTab f ia j = 1) → va_P D vwCl [(hF, .inr (1, [.ref cF, .ref aF, .ref wF])), (cF, .inl (cI, 39, .inl f)), (aF, .inr (0, [.long b1, .long b2, .long b3, .long b4]))] H → va_D A [(hF, .inr (1, [.ref cF, .ref aF, .ref wF])), (cF, .inl (cI, 39, .inl f)), (aF, .inr (0, [.long b1, .long b2, .long b3, .long b4]))] → va_S A s.heap H locs → lv_has ls 3 [(2, .int (nI n)), (0, .ref hF), (1, .int (nI ia))] → W p l e ({ frames := 3, cells := 0, slots := 0, locals := 84 } : Room) s m ([.ref hF, .int (nI ia)] : List Value).toArray below meth c H locs 0 0 Q (F0 m 19 ls []) := by
    intro k
    induction k using Nat.strongRecOn with
    | ind k ih =>
    intro n b1 b2 b3 b4 H locs ls hk hn hne hi hP hD hS hl
    refine lv_iload_n hx hb dX1_mustGiveWay_19 rfl (lv_at hl 0 rfl) ?_
    refine lv_aload_n hx hb dX1_mustGiveWay_20 rfl (lv_at hl 1 rfl) ?_
    refine va_get (D := D) (ci := 1) (v := .ref cF) (C := RX1) (T := TX1) (N := 3) hx hb hts N1 hown hK hP 0 rfl rfl 0 (by decide) L11 (fun _ h9 => h9) rfl dX1_mustGiveWay_21 ?_
    refine lv_bipush (v := 35) hx hb dX1_mustGiveWay_24 (by decide) ?_
    refine z_ild (v := nI N) (j := 35) hx hb hK hP 1 rfl rfl (by omega) (by decide) (hN) dX1_mustGiveWay_26 ?_
    refine lv_icmp_gt (tgt := 53) hx hb dX1_mustGiveWay_27 (by decide) (fun c_1 => ?_) (fun c_1 => ?_)
    · skip
      have c_1 := (z_lt (a := N) (b := n) rfl rfl (by omega) (by omega)).mp c_1
      refine lv_iconst (v := 0) hx hb dX1_mustGiveWay_53 (by decide) ?_
      exact hQ 0 (b1, b2, b3, b4) _ _ _ _ (rfl) (b2i_f (cMg_f hne (fun j h => hi j (by omega)))) hP hD hS dX1_mustGiveWay_54
    · skip
      have c_1 := (z_ltn (a := N) (b := n) rfl rfl (by omega) (by omega)).mp c_1
      refine lv_iload_n hx hb dX1_mustGiveWay_30 rfl (lv_at hl 0 rfl) ?_
      refine lv_iload_n hx hb dX1_mustGiveWay_31 rfl (lv_at hl 2 rfl) ?_
      refine lv_icmp_eq (tgt := 47) hx hb dX1_mustGiveWay_32 (by decide) (fun c_2 => ?_) (fun c_2 => ?_)
      · skip
        have c_2 := (z_eq (a := n) (b := ia) rfl rfl (by omega) (by omega)).mp c_2
        refine lv_iinc (v := nI (n + 1)) (lv' := [(2, .int (nI (n + 1))), (0, .ref hF), (1, .int (nI ia))]) hx hb dX1_mustGiveWay_47 hl (k := 0) rfl (z_add rfl rfl) (by decide) rfl (fun ls hl => ?_)
        refine lv_goto (tgt := 19) hx hb dX1_mustGiveWay_50 (by decide) ?_
        exact ih _ (by omega) (n + 1) b1 b2 b3 b4 _ _ _ rfl (by omega) hne (z_all hi (fun e => absurd c_2 e)) hP hD hS (lv_sub hl [0, 1, 2] rfl)
      · skip
        have c_2 := (z_eqn (a := n) (b := ia) rfl rfl (by omega) (by omega)).mp c_2
        refine lv_aload_n hx hb dX1_mustGiveWay_35 rfl (lv_at hl 1 rfl) ?_
        refine lv_iload_n hx hb dX1_mustGiveWay_36 rfl (lv_at hl 2 rfl) ?_
        refine lv_iload_n hx hb dX1_mustGiveWay_37 rfl (lv_at hl 0 rfl) ?_
        refine z_VI (n := 2) (wn := (fun u : Int64 × Int64 × Int64 × Int64 => [(hF, .inr (1, [.ref cF, .ref aF, .ref wF])), (cF, .inl (cI, 39, .inl f)), (aF, .inr (0, [.long u.1, .long u.2.1, .long u.2.2.1, .long u.2.2.2]))])) (wr := []) (As := [.int (nI ia), .int (nI n)]) (rest := []) ⟨hx, hb, hml, hown, hts⟩ hK hP hD hS hA hT (kX1_tableOf l D cI cB tE tN hF cF aF wF f b1 b2 b3 b4 ia n _ (by omega) (by omega)) gX1_mustGiveWay_X1_tableOf rfl rfl rfl (by decide +kernel) ⟨Nat.le_of_ble_eq_true rfl, Nat.le_of_ble_eq_true rfl⟩ [0, 1, 2] [] [0, 1, 2] (by decide) rfl rfl (by decide) (by decide) (by decide) (fun u => rfl) 0 1 rfl rfl rfl rfl hl.1 rfl (Nat.le_of_ble_eq_true rfl) dX1_mustGiveWay_38 ⟨Nat.le_of_ble_eq_true rfl, Nat.le_of_ble_eq_true rfl⟩ (fun r_7 u H locs hw_8 hP hD hS => ?_)
        obtain ⟨b1_3, b2_4, b3_5, b4_6⟩ := u
        try dsimp only at hw_8
        have hP : va_P D vwCl [(hF, .inr (1, [.ref cF, .ref aF, .ref wF])), (cF, .inl (cI, 39, .inl f)), (aF, .inr (0, [.long b1_3, .long b2_4, .long b3_5, .long b4_6]))] H := hP
        have hD : va_D A [(hF, .inr (1, [.ref cF, .ref aF, .ref wF])), (cF, .inl (cI, 39, .inl f)), (aF, .inr (0, [.long b1_3, .long b2_4, .long b3_5, .long b4_6]))] := hD
        subst r_7
        refine lv_iconst (v := 1) hx hb dX1_mustGiveWay_41 (by decide) ?_
        refine lv_icmp_ne (tgt := 47) hx hb dX1_mustGiveWay_42 (by decide) (fun c_9 => ?_) (fun c_9 => ?_)
        · skip
          refine lv_iinc (v := nI (n + 1)) (lv' := [(2, .int (nI (n + 1))), (0, .ref hF), (1, .int (nI ia))]) hx hb dX1_mustGiveWay_47 hl (k := 0) rfl (z_add rfl rfl) (by decide) rfl (fun ls hl => ?_)
          refine lv_goto (tgt := 19) hx hb dX1_mustGiveWay_50 (by decide) ?_
          exact ih _ (by omega) (n + 1) b1_3 b2_4 b3_5 b4_6 _ _ _ rfl (by omega) hne (z_all hi (fun e => c_9)) hP hD hS (lv_sub hl [0, 1, 2] rfl)
        · skip
          refine lv_iconst (v := 1) hx hb dX1_mustGiveWay_45 (by decide) ?_
          exact hQ 1 (b1_3, b2_4, b3_5, b4_6) _ _ _ _ (rfl) (b2i_t (cMg_t hne (b := n) (by omega) c_2 c_9)) hP hD hS dX1_mustGiveWay_46
  refine lv_iload_n hx hb dX1_mustGiveWay_0 rfl (lv_at hl 1 rfl) ?_
  refine lv_if_ne (tgt := 17) hx hb dX1_mustGiveWay_1 (by decide) (fun c_10 => ?_) (fun c_10 => ?_)
  · skip
    have c_10 := (z_eqn (a := ia) (b := 0) rfl rfl (by omega) (by omega)).mp c_10
    refine lv_iconst (v := 0) hx hb dX1_mustGiveWay_17 (by decide) ?_
    refine lv_istore_n (lv' := [(2, .int 0), (0, .ref hF), (1, .int (nI ia))]) hx hb dX1_mustGiveWay_18 rfl hl (by decide) rfl (fun ls hl => ?_)
    exact lp19 _ 0 t1 t2 t3 t4 _ _ _ rfl (by omega) c_10 (fun j h => absurd h (Nat.not_lt_zero j)) hP hD hS (lv_sub hl [0, 1, 2] rfl)
  · skip
    have c_10 := (z_eq (a := ia) (b := 0) rfl rfl (by omega) (by omega)).mp c_10
    refine lv_aload_n hx hb dX1_mustGiveWay_4 rfl (lv_at hl 0 rfl) ?_
    refine z_VI (n := 0) (wn := (fun u : Unit => [(hF, .inr (1, [.ref cF, .ref aF, .ref wF])), (cF, .inl (cI, 39, .inl f)), (aF, .inr (0, [.long t1, .long t2, .long t3, .long t4]))])) (wr := [(aF, .inr (0, [.long t1, .long t2, .long t3, .long t4]))]) (As := []) (rest := []) ⟨hx, hb, hml, hown, hts⟩ hK hP hD hS hA hT (kX1_givenWay l D cI cB tE tN hF cF aF wF f N _ (by omega) (by omega)) gX1_mustGiveWay_X1_givenWay rfl rfl rfl (by decide +kernel) ⟨Nat.le_of_ble_eq_true rfl, Nat.le_of_ble_eq_true rfl⟩ [0, 1] [2] [1, 2, 0] (by decide) rfl rfl (by decide) (by decide) (by decide) (fun u => rfl) 0 1 rfl rfl rfl rfl hl.1 rfl (Nat.le_of_ble_eq_true rfl) dX1_mustGiveWay_5 ⟨Nat.le_of_ble_eq_true rfl, Nat.le_of_ble_eq_true rfl⟩ (fun r_11 u H locs hw_12 hP hD hS => ?_)
    try dsimp only at hw_12
    have hP : va_P D vwCl [(hF, .inr (1, [.ref cF, .ref aF, .ref wF])), (cF, .inl (cI, 39, .inl f)), (aF, .inr (0, [.long t1, .long t2, .long t3, .long t4]))] H := hP
    have hD : va_D A [(hF, .inr (1, [.ref cF, .ref aF, .ref wF])), (cF, .inl (cI, 39, .inl f)), (aF, .inr (0, [.long t1, .long t2, .long t3, .long t4]))] := hD
    subst r_11
    refine lv_if_eq (tgt := 15) hx hb dX1_mustGiveWay_8 (by decide) (fun c_13 => ?_) (fun c_13 => ?_)
    · skip
      refine lv_iconst (v := 0) hx hb dX1_mustGiveWay_15 (by decide) ?_
      exact hQ 0 (t1, t2, t3, t4) _ _ _ _ (rfl) (b2i_f (by rw [cMg, if_pos c_10]; simp [c_13])) hP hD hS dX1_mustGiveWay_16
    · skip
      refine lv_iconst (v := 1) hx hb dX1_mustGiveWay_11 (by decide) ?_
      refine lv_goto (tgt := 16) hx hb dX1_mustGiveWay_12 (by decide) ?_
      exact hQ 1 (t1, t2, t3, t4) _ _ _ _ (rfl) (b2i_t (by rw [cMg, if_pos c_10]; simp [c_13])) hP hD hS dX1_mustGiveWay_16

set_option maxHeartbeats 4000000 in
set_option maxRecDepth 100000 in
theorem kX1_turnFor (l : Launch) (D : va_G) (cI cB : ClassId) (tE tN : Nat) (hF : Nat) (cF : Nat) (aF : Nat) (wF : Nat) (f : Nat → Int32) (t1 : Int64) (t2 : Int64) (t3 : Int64) (t4 : Int64) (ia : Nat) (N : Nat) (sz : Nat) (hN : f 35 = nI N) (hN6 : N ≤ 6) (ha : ia ≤ 6) : zI l yX1_turnFor wsX1_turnFor ({ frames := 3, cells := 0, slots := 0, locals := 86 }) D cI cB tE tN [.ref hF, .int (nI ia)] [(hF, .inr (1, [.ref cF, .ref aF, .ref wF])), (cF, .inl (cI, 39, .inl f)), (aF, .inr (0, [.long t1, .long t2, .long t3, .long t4]))] sz (fun u : Int64 × Int64 × Int64 × Int64 => [(hF, .inr (1, [.ref cF, .ref aF, .ref wF])), (cF, .inl (cI, 39, .inl f)), (aF, .inr (0, [.long u.1, .long u.2.1, .long u.2.2.1, .long u.2.2.2]))]) (fun (r : Int32) (u : Int64 × Int64 × Int64 × Int64) => r = cTurn f N ia) 0 0 := by
  refine zI_mk (cc := cX1_turnFor) (maxL := 6) (rt := .int) (by decide) rfl (Nat.le_of_ble_eq_true rfl) ?_
  intro p e s m below meth c A Q ls S0 hname hA hK hP hD hT hS hQ hl
  obtain ⟨hx, hb, hml, hown, hts⟩ := id S0
  have hl : lv_has ls 6 [(0, .ref hF), (1, .int (nI ia))] := hl
  have L11 : (Cond.fieldLink RX1 11 "PastAndClear$Fleet" "cells" "[I").before ([.ref hF, .int (nI ia)] : List Value).toArray s = true := hts (.fieldLink RX1 11 "PastAndClear$Fleet" "cells" "[I") (by decide +kernel)
  have N1 : ∀ w ∈ u_ws RX1 TX1 3, w ∈ wsX1_turnFor := by decide +kernel
  have lp64 : ∀ (k : Nat) (n : Nat) (b1 : Int64) (b2 : Int64) (b3 : Int64) (b4 : Int64) (H : Heap) (locs : List Loc) (ls : Array Slot), 7 - n = k → (n ≤ 7) → (∀ j, j < 8 + n → cClr f N ia (cTh f ia j) (f (5 * ia + 3)) = false) → va_P D vwCl [(hF, .inr (1, [.ref cF, .ref aF, .ref wF])), (cF, .inl (cI, 39, .inl f)), (aF, .inr (0, [.long b1, .long b2, .long b3, .long b4]))] H → va_D A [(hF, .inr (1, [.ref cF, .ref aF, .ref wF])), (cF, .inl (cI, 39, .inl f)), (aF, .inr (0, [.long b1, .long b2, .long b3, .long b4]))] → va_S A s.heap H locs → lv_has ls 6 [(4, .int (nI (n + 1))), (0, .ref hF), (1, .int (nI ia)), (2, .int (f (5 * ia + 2))), (3, .int (f (5 * ia + 3)))] → W p l e ({ frames := 3, cells := 0, slots := 0, locals := 86 } : Room) s m ([.ref hF, .int (nI ia)] : List Value).toArray below meth c H locs 0 0 Q (F0 m 64 ls []) := by
    intro k
    induction k using Nat.strongRecOn with
    | ind k ih =>
    intro n b1 b2 b3 b4 H locs ls hk hn hi hP hD hS hl
    refine lv_iload hx hb dX1_turnFor_64 (lv_at hl 0 rfl) ?_
    refine lv_bipush (v := 7) hx hb dX1_turnFor_66 (by decide) ?_
    refine lv_icmp_gt (tgt := 100) hx hb dX1_turnFor_68 (by decide) (fun c_1 => ?_) (fun c_1 => ?_)
    · skip
      have c_1 := (z_lt (a := 7) (b := n + 1) rfl rfl (by omega) (by omega)).mp c_1
      refine lv_aload_n hx hb dX1_turnFor_100 rfl (lv_at hl 1 rfl) ?_
      refine lv_iload_n hx hb dX1_turnFor_101 rfl (lv_at hl 2 rfl) ?_
      refine lv_iload_n hx hb dX1_turnFor_102 rfl (lv_at hl 3 rfl) ?_
      refine lv_iconst (v := 0) hx hb dX1_turnFor_103 (by decide) ?_
      refine z_VI (n := 3) (wn := (fun u : Int64 × Int64 × Int64 × Int64 => [(hF, .inr (1, [.ref cF, .ref aF, .ref wF])), (cF, .inl (cI, 39, .inl f)), (aF, .inr (0, [.long u.1, .long u.2.1, .long u.2.2.1, .long u.2.2.2]))])) (wr := []) (As := [.int (nI ia), .int (f (5 * ia + 2)), .int 0]) (rest := []) ⟨hx, hb, hml, hown, hts⟩ hK hP hD hS hA hT (kX1_isClear l D cI cB tE tN hF cF aF wF f b1 b2 b3 b4 ia (f (5 * ia + 2)) 0 N _ (by omega) (by omega) (by omega)) gX1_turnFor_X1_isClear rfl rfl rfl (by decide +kernel) ⟨Nat.le_of_ble_eq_true rfl, Nat.le_of_ble_eq_true rfl⟩ [0, 1, 2] [] [0, 1, 2] (by decide) rfl rfl (by decide) (by decide) (by decide) (fun u => rfl) 0 1 rfl rfl rfl rfl hl.1 rfl (Nat.le_of_ble_eq_true rfl) dX1_turnFor_104 ⟨Nat.le_of_ble_eq_true rfl, Nat.le_of_ble_eq_true rfl⟩ (fun r_6 u H locs hw_7 hP hD hS => ?_)
      obtain ⟨b1_2, b2_3, b3_4, b4_5⟩ := u
      try dsimp only at hw_7
      have hP : va_P D vwCl [(hF, .inr (1, [.ref cF, .ref aF, .ref wF])), (cF, .inl (cI, 39, .inl f)), (aF, .inr (0, [.long b1_2, .long b2_3, .long b3_4, .long b4_5]))] H := hP
      have hD : va_D A [(hF, .inr (1, [.ref cF, .ref aF, .ref wF])), (cF, .inl (cI, 39, .inl f)), (aF, .inr (0, [.long b1_2, .long b2_3, .long b3_4, .long b4_5]))] := hD
      subst r_6
      refine lv_if_eq (tgt := 115) hx hb dX1_turnFor_107 (by decide) (fun c_8 => ?_) (fun c_8 => ?_)
      · skip
        have c_8 := z_b0 c_8
        refine lv_bipush (v := 17) hx hb dX1_turnFor_115 (by decide) ?_
        exact hQ 17 (b1_2, b2_3, b3_4, b4_5) _ _ _ _ (rfl) (by rw [cTurn_miss (fun j h => hi j (by omega))]; simp [c_8]) hP hD hS dX1_turnFor_117
      · skip
        have c_8 := z_b1 c_8
        refine lv_bipush (v := 16) hx hb dX1_turnFor_110 (by decide) ?_
        refine lv_goto (tgt := 117) hx hb dX1_turnFor_112 (by decide) ?_
        exact hQ 16 (b1_2, b2_3, b3_4, b4_5) _ _ _ _ (rfl) (by rw [cTurn_miss (fun j h => hi j (by omega))]; simp [c_8]) hP hD hS dX1_turnFor_117
    · skip
      have c_1 := (z_ltn (a := 7) (b := n + 1) rfl rfl (by omega) (by omega)).mp c_1
      refine lv_iload_n hx hb dX1_turnFor_71 rfl (lv_at hl 3 rfl) ?_
      refine lv_iload hx hb dX1_turnFor_72 (lv_at hl 0 rfl) ?_
      refine lv_isub hx hb dX1_turnFor_74 ?_
      refine lv_bipush (v := 15) hx hb dX1_turnFor_75 (by decide) ?_
      refine lv_iand hx hb dX1_turnFor_77 ?_
      refine z_topi (x := ((f (5 * ia + 2)) - (nI (n + 1))) &&& 15) (y := cTh f ia (8 + n)) (cTh_hi) ?_
      refine lv_istore (lv' := [(5, .int (cTh f ia (8 + n))), (4, .int (nI (n + 1))), (0, .ref hF), (1, .int (nI ia)), (2, .int (f (5 * ia + 2))), (3, .int (f (5 * ia + 3)))]) hx hb dX1_turnFor_78 hl (by decide) rfl (fun ls hl => ?_)
      refine lv_aload_n hx hb dX1_turnFor_80 rfl (lv_at hl 2 rfl) ?_
      refine lv_iload_n hx hb dX1_turnFor_81 rfl (lv_at hl 3 rfl) ?_
      refine lv_iload hx hb dX1_turnFor_82 (lv_at hl 0 rfl) ?_
      refine lv_iload_n hx hb dX1_turnFor_84 rfl (lv_at hl 5 rfl) ?_
      refine z_VI (n := 3) (wn := (fun u : Int64 × Int64 × Int64 × Int64 => [(hF, .inr (1, [.ref cF, .ref aF, .ref wF])), (cF, .inl (cI, 39, .inl f)), (aF, .inr (0, [.long u.1, .long u.2.1, .long u.2.2.1, .long u.2.2.2]))])) (wr := []) (As := [.int (nI ia), .int (cTh f ia (8 + n)), .int (f (5 * ia + 3))]) (rest := []) ⟨hx, hb, hml, hown, hts⟩ hK hP hD hS hA hT (kX1_isClear l D cI cB tE tN hF cF aF wF f b1 b2 b3 b4 ia (cTh f ia (8 + n)) (f (5 * ia + 3)) N _ (by omega) (by omega) (by omega)) gX1_turnFor_X1_isClear rfl rfl rfl (by decide +kernel) ⟨Nat.le_of_ble_eq_true rfl, Nat.le_of_ble_eq_true rfl⟩ [0, 1, 2] [] [0, 1, 2] (by decide) rfl rfl (by decide) (by decide) (by decide) (fun u => rfl) 0 1 rfl rfl rfl rfl hl.1 rfl (Nat.le_of_ble_eq_true rfl) dX1_turnFor_85 ⟨Nat.le_of_ble_eq_true rfl, Nat.le_of_ble_eq_true rfl⟩ (fun r_13 u H locs hw_14 hP hD hS => ?_)
      obtain ⟨b1_9, b2_10, b3_11, b4_12⟩ := u
      try dsimp only at hw_14
      have hP : va_P D vwCl [(hF, .inr (1, [.ref cF, .ref aF, .ref wF])), (cF, .inl (cI, 39, .inl f)), (aF, .inr (0, [.long b1_9, .long b2_10, .long b3_11, .long b4_12]))] H := hP
      have hD : va_D A [(hF, .inr (1, [.ref cF, .ref aF, .ref wF])), (cF, .inl (cI, 39, .inl f)), (aF, .inr (0, [.long b1_9, .long b2_10, .long b3_11, .long b4_12]))] := hD
      subst r_13
      refine lv_if_eq (tgt := 94) hx hb dX1_turnFor_88 (by decide) (fun c_15 => ?_) (fun c_15 => ?_)
      · skip
        have c_15 := z_b0 c_15
        refine lv_iinc (v := nI (n + 1 + 1)) (lv' := [(4, .int (nI (n + 1 + 1))), (5, .int (cTh f ia (8 + n))), (0, .ref hF), (1, .int (nI ia)), (2, .int (f (5 * ia + 2))), (3, .int (f (5 * ia + 3)))]) hx hb dX1_turnFor_94 hl (k := 1) rfl (z_add rfl rfl) (by decide) rfl (fun ls hl => ?_)
        refine lv_goto (tgt := 64) hx hb dX1_turnFor_97 (by decide) ?_
        exact ih _ (by omega) (n + 1) b1_9 b2_10 b3_11 b4_12 _ _ _ rfl (by omega) (z_all (n := 8 + n) hi c_15) hP hD hS (lv_sub hl [0, 2, 3, 4, 5] rfl)
      · skip
        have c_15 := z_b1 c_15
        refine lv_iload hx hb dX1_turnFor_91 (lv_at hl 0 rfl) ?_
        exact hQ (cTh f ia (8 + n)) (b1_9, b2_10, b3_11, b4_12) _ _ _ _ (rfl) (by rw [cTurn_hit (t := 8 + n) (by omega) hi c_15]) hP hD hS dX1_turnFor_93
  have lp25 : ∀ (k : Nat) (n : Nat) (b1 : Int64) (b2 : Int64) (b3 : Int64) (b4 : Int64) (H : Heap) (locs : List Loc) (ls : Array Slot), 8 - n = k → (n ≤ 8) → (∀ j, j < n → cClr f N ia (cTh f ia j) (f (5 * ia + 3)) = false) → va_P D vwCl [(hF, .inr (1, [.ref cF, .ref aF, .ref wF])), (cF, .inl (cI, 39, .inl f)), (aF, .inr (0, [.long b1, .long b2, .long b3, .long b4]))] H → va_D A [(hF, .inr (1, [.ref cF, .ref aF, .ref wF])), (cF, .inl (cI, 39, .inl f)), (aF, .inr (0, [.long b1, .long b2, .long b3, .long b4]))] → va_S A s.heap H locs → lv_has ls 6 [(4, .int (nI (n + 1))), (0, .ref hF), (1, .int (nI ia)), (2, .int (f (5 * ia + 2))), (3, .int (f (5 * ia + 3)))] → W p l e ({ frames := 3, cells := 0, slots := 0, locals := 86 } : Room) s m ([.ref hF, .int (nI ia)] : List Value).toArray below meth c H locs 0 0 Q (F0 m 25 ls []) := by
    intro k
    induction k using Nat.strongRecOn with
    | ind k ih =>
    intro n b1 b2 b3 b4 H locs ls hk hn hi hP hD hS hl
    refine lv_iload hx hb dX1_turnFor_25 (lv_at hl 0 rfl) ?_
    refine lv_bipush (v := 8) hx hb dX1_turnFor_27 (by decide) ?_
    refine lv_icmp_gt (tgt := 61) hx hb dX1_turnFor_29 (by decide) (fun c_16 => ?_) (fun c_16 => ?_)
    · skip
      have c_16 := (z_lt (a := 8) (b := n + 1) rfl rfl (by omega) (by omega)).mp c_16
      refine lv_iconst (v := 1) hx hb dX1_turnFor_61 (by decide) ?_
      refine lv_istore (lv' := [(4, .int 1), (0, .ref hF), (1, .int (nI ia)), (2, .int (f (5 * ia + 2))), (3, .int (f (5 * ia + 3)))]) hx hb dX1_turnFor_62 hl (by decide) rfl (fun ls hl => ?_)
      exact lp64 _ 0 b1 b2 b3 b4 _ _ _ rfl (by omega) (fun j h => hi j (by omega)) hP hD hS (lv_sub hl [0, 1, 2, 3, 4] rfl)
    · skip
      have c_16 := (z_ltn (a := 8) (b := n + 1) rfl rfl (by omega) (by omega)).mp c_16
      refine lv_iload_n hx hb dX1_turnFor_32 rfl (lv_at hl 3 rfl) ?_
      refine lv_iload hx hb dX1_turnFor_33 (lv_at hl 0 rfl) ?_
      refine lv_iadd hx hb dX1_turnFor_35 ?_
      refine lv_bipush (v := 15) hx hb dX1_turnFor_36 (by decide) ?_
      refine lv_iand hx hb dX1_turnFor_38 ?_
      refine z_topi (x := ((f (5 * ia + 2)) + (nI (n + 1))) &&& 15) (y := cTh f ia n) (cTh_lo (by omega)) ?_
      refine lv_istore (lv' := [(5, .int (cTh f ia n)), (4, .int (nI (n + 1))), (0, .ref hF), (1, .int (nI ia)), (2, .int (f (5 * ia + 2))), (3, .int (f (5 * ia + 3)))]) hx hb dX1_turnFor_39 hl (by decide) rfl (fun ls hl => ?_)
      refine lv_aload_n hx hb dX1_turnFor_41 rfl (lv_at hl 2 rfl) ?_
      refine lv_iload_n hx hb dX1_turnFor_42 rfl (lv_at hl 3 rfl) ?_
      refine lv_iload hx hb dX1_turnFor_43 (lv_at hl 0 rfl) ?_
      refine lv_iload_n hx hb dX1_turnFor_45 rfl (lv_at hl 5 rfl) ?_
      refine z_VI (n := 3) (wn := (fun u : Int64 × Int64 × Int64 × Int64 => [(hF, .inr (1, [.ref cF, .ref aF, .ref wF])), (cF, .inl (cI, 39, .inl f)), (aF, .inr (0, [.long u.1, .long u.2.1, .long u.2.2.1, .long u.2.2.2]))])) (wr := []) (As := [.int (nI ia), .int (cTh f ia n), .int (f (5 * ia + 3))]) (rest := []) ⟨hx, hb, hml, hown, hts⟩ hK hP hD hS hA hT (kX1_isClear l D cI cB tE tN hF cF aF wF f b1 b2 b3 b4 ia (cTh f ia n) (f (5 * ia + 3)) N _ (by omega) (by omega) (by omega)) gX1_turnFor_X1_isClear rfl rfl rfl (by decide +kernel) ⟨Nat.le_of_ble_eq_true rfl, Nat.le_of_ble_eq_true rfl⟩ [0, 1, 2] [] [0, 1, 2] (by decide) rfl rfl (by decide) (by decide) (by decide) (fun u => rfl) 0 1 rfl rfl rfl rfl hl.1 rfl (Nat.le_of_ble_eq_true rfl) dX1_turnFor_46 ⟨Nat.le_of_ble_eq_true rfl, Nat.le_of_ble_eq_true rfl⟩ (fun r_21 u H locs hw_22 hP hD hS => ?_)
      obtain ⟨b1_17, b2_18, b3_19, b4_20⟩ := u
      try dsimp only at hw_22
      have hP : va_P D vwCl [(hF, .inr (1, [.ref cF, .ref aF, .ref wF])), (cF, .inl (cI, 39, .inl f)), (aF, .inr (0, [.long b1_17, .long b2_18, .long b3_19, .long b4_20]))] H := hP
      have hD : va_D A [(hF, .inr (1, [.ref cF, .ref aF, .ref wF])), (cF, .inl (cI, 39, .inl f)), (aF, .inr (0, [.long b1_17, .long b2_18, .long b3_19, .long b4_20]))] := hD
      subst r_21
      refine lv_if_eq (tgt := 55) hx hb dX1_turnFor_49 (by decide) (fun c_23 => ?_) (fun c_23 => ?_)
      · skip
        have c_23 := z_b0 c_23
        refine lv_iinc (v := nI (n + 1 + 1)) (lv' := [(4, .int (nI (n + 1 + 1))), (5, .int (cTh f ia n)), (0, .ref hF), (1, .int (nI ia)), (2, .int (f (5 * ia + 2))), (3, .int (f (5 * ia + 3)))]) hx hb dX1_turnFor_55 hl (k := 1) rfl (z_add rfl rfl) (by decide) rfl (fun ls hl => ?_)
        refine lv_goto (tgt := 25) hx hb dX1_turnFor_58 (by decide) ?_
        exact ih _ (by omega) (n + 1) b1_17 b2_18 b3_19 b4_20 _ _ _ rfl (by omega) (z_all hi c_23) hP hD hS (lv_sub hl [0, 2, 3, 4, 5] rfl)
      · skip
        have c_23 := z_b1 c_23
        refine lv_iload hx hb dX1_turnFor_52 (lv_at hl 0 rfl) ?_
        exact hQ (cTh f ia n) (b1_17, b2_18, b3_19, b4_20) _ _ _ _ (rfl) (by rw [cTurn_hit (t := n) (by omega) hi c_23]) hP hD hS dX1_turnFor_54
  refine lv_aload_n hx hb dX1_turnFor_0 rfl (lv_at hl 0 rfl) ?_
  refine va_get (D := D) (ci := 1) (v := .ref cF) (C := RX1) (T := TX1) (N := 3) hx hb hts N1 hown hK hP 0 rfl rfl 0 (by decide) L11 (fun _ h9 => h9) rfl dX1_turnFor_1 ?_
  refine lv_iconst (v := 5) hx hb dX1_turnFor_4 (by decide) ?_
  refine lv_iload_n hx hb dX1_turnFor_5 rfl (lv_at hl 1 rfl) ?_
  refine lv_imul hx hb dX1_turnFor_6 ?_
  refine lv_iconst (v := 2) hx hb dX1_turnFor_7 (by decide) ?_
  refine lv_iadd hx hb dX1_turnFor_8 ?_
  refine z_ild (v := f ((5 * ia) + 2)) (j := (5 * ia) + 2) hx hb hK hP 1 rfl (z_add (z_mul rfl rfl) rfl) (by omega) (by decide) (rfl) dX1_turnFor_9 ?_
  refine lv_istore_n (lv' := [(2, .int (f ((5 * ia) + 2))), (0, .ref hF), (1, .int (nI ia))]) hx hb dX1_turnFor_10 rfl hl (by decide) rfl (fun ls hl => ?_)
  refine lv_aload_n hx hb dX1_turnFor_11 rfl (lv_at hl 1 rfl) ?_
  refine va_get (D := D) (ci := 1) (v := .ref cF) (C := RX1) (T := TX1) (N := 3) hx hb hts N1 hown hK hP 0 rfl rfl 0 (by decide) L11 (fun _ h9 => h9) rfl dX1_turnFor_12 ?_
  refine lv_iconst (v := 5) hx hb dX1_turnFor_15 (by decide) ?_
  refine lv_iload_n hx hb dX1_turnFor_16 rfl (lv_at hl 2 rfl) ?_
  refine lv_imul hx hb dX1_turnFor_17 ?_
  refine lv_iconst (v := 3) hx hb dX1_turnFor_18 (by decide) ?_
  refine lv_iadd hx hb dX1_turnFor_19 ?_
  refine z_ild (v := f ((5 * ia) + 3)) (j := (5 * ia) + 3) hx hb hK hP 1 rfl (z_add (z_mul rfl rfl) rfl) (by omega) (by decide) (rfl) dX1_turnFor_20 ?_
  refine lv_istore_n (lv' := [(3, .int (f ((5 * ia) + 3))), (2, .int (f ((5 * ia) + 2))), (0, .ref hF), (1, .int (nI ia))]) hx hb dX1_turnFor_21 rfl hl (by decide) rfl (fun ls hl => ?_)
  refine lv_iconst (v := 1) hx hb dX1_turnFor_22 (by decide) ?_
  refine lv_istore (lv' := [(4, .int 1), (3, .int (f ((5 * ia) + 3))), (2, .int (f ((5 * ia) + 2))), (0, .ref hF), (1, .int (nI ia))]) hx hb dX1_turnFor_23 hl (by decide) rfl (fun ls hl => ?_)
  exact lp25 _ 0 t1 t2 t3 t4 _ _ _ rfl (by omega) (fun j h => absurd h (Nat.not_lt_zero j)) hP hD hS (lv_sub hl [0, 3, 4, 2, 1] rfl)

set_option maxHeartbeats 4000000 in
set_option maxRecDepth 100000 in
theorem kX1_adviceFor (l : Launch) (D : va_G) (cI cB : ClassId) (tE tN : Nat) (hF : Nat) (cF : Nat) (aF : Nat) (wF : Nat) (f : Nat → Int32) (t1 : Int64) (t2 : Int64) (t3 : Int64) (t4 : Int64) (ia : Nat) (N : Nat) (sz : Nat) (hN : f 35 = nI N) (hN6 : N ≤ 6) (ha : ia ≤ 6) : zI l yX1_adviceFor wsX1_adviceFor ({ frames := 4, cells := 0, slots := 0, locals := 111 }) D cI cB tE tN [.ref hF, .int (nI ia)] [(hF, .inr (1, [.ref cF, .ref aF, .ref wF])), (cF, .inl (cI, 39, .inl f)), (aF, .inr (0, [.long t1, .long t2, .long t3, .long t4]))] sz (fun u : Int64 × Int64 × Int64 × Int64 => [(hF, .inr (1, [.ref cF, .ref aF, .ref wF])), (cF, .inl (cI, 39, .inl f)), (aF, .inr (0, [.long u.1, .long u.2.1, .long u.2.2.1, .long u.2.2.2]))]) (fun (r : Int32) (u : Int64 × Int64 × Int64 × Int64) => r = cAdv f N ia) 0 0 := by
  refine zI_mk (cc := cX1_adviceFor) (maxL := 2) (rt := .int) (by decide) rfl (Nat.le_of_ble_eq_true rfl) ?_
  intro p e s m below meth c A Q ls S0 hname hA hK hP hD hT hS hQ hl
  obtain ⟨hx, hb, hml, hown, hts⟩ := id S0
  have hl : lv_has ls 2 [(0, .ref hF), (1, .int (nI ia))] := hl
  have L11 : (Cond.fieldLink RX1 11 "PastAndClear$Fleet" "cells" "[I").before ([.ref hF, .int (nI ia)] : List Value).toArray s = true := hts (.fieldLink RX1 11 "PastAndClear$Fleet" "cells" "[I") (by decide +kernel)
  have N1 : ∀ w ∈ u_ws RX1 TX1 3, w ∈ wsX1_adviceFor := by decide +kernel
  refine lv_aload_n hx hb dX1_adviceFor_0 rfl (lv_at hl 0 rfl) ?_
  refine lv_iload_n hx hb dX1_adviceFor_1 rfl (lv_at hl 1 rfl) ?_
  refine z_VI (n := 1) (wn := (fun u : Int64 × Int64 × Int64 × Int64 => [(hF, .inr (1, [.ref cF, .ref aF, .ref wF])), (cF, .inl (cI, 39, .inl f)), (aF, .inr (0, [.long u.1, .long u.2.1, .long u.2.2.1, .long u.2.2.2]))])) (wr := []) (As := [.int (nI ia)]) (rest := []) ⟨hx, hb, hml, hown, hts⟩ hK hP hD hS hA hT (kX1_mustGiveWay l D cI cB tE tN hF cF aF wF f t1 t2 t3 t4 ia N _ (by omega) (by omega) (by omega)) gX1_adviceFor_X1_mustGiveWay rfl rfl rfl (by decide +kernel) ⟨Nat.le_of_ble_eq_true rfl, Nat.le_of_ble_eq_true rfl⟩ [0, 1, 2] [] [0, 1, 2] (by decide) rfl rfl (by decide) (by decide) (by decide) (fun u => rfl) 0 1 rfl rfl rfl rfl hl.1 rfl (Nat.le_of_ble_eq_true rfl) dX1_adviceFor_2 ⟨Nat.le_of_ble_eq_true rfl, Nat.le_of_ble_eq_true rfl⟩ (fun r_5 u H locs hw_6 hP hD hS => ?_)
  obtain ⟨b1_1, b2_2, b3_3, b4_4⟩ := u
  try dsimp only at hw_6
  have hP : va_P D vwCl [(hF, .inr (1, [.ref cF, .ref aF, .ref wF])), (cF, .inl (cI, 39, .inl f)), (aF, .inr (0, [.long b1_1, .long b2_2, .long b3_3, .long b4_4]))] H := hP
  have hD : va_D A [(hF, .inr (1, [.ref cF, .ref aF, .ref wF])), (cF, .inl (cI, 39, .inl f)), (aF, .inr (0, [.long b1_1, .long b2_2, .long b3_3, .long b4_4]))] := hD
  subst r_5
  refine lv_if_eq (tgt := 16) hx hb dX1_adviceFor_5 (by decide) (fun c_7 => ?_) (fun c_7 => ?_)
  · skip
    have c_7 := z_b0 c_7
    refine lv_aload_n hx hb dX1_adviceFor_16 rfl (lv_at hl 0 rfl) ?_
    refine va_get (D := D) (ci := 1) (v := .ref cF) (C := RX1) (T := TX1) (N := 3) hx hb hts N1 hown hK hP 0 rfl rfl 0 (by decide) L11 (fun _ h9 => h9) rfl dX1_adviceFor_17 ?_
    refine lv_iconst (v := 5) hx hb dX1_adviceFor_20 (by decide) ?_
    refine lv_iload_n hx hb dX1_adviceFor_21 rfl (lv_at hl 1 rfl) ?_
    refine lv_imul hx hb dX1_adviceFor_22 ?_
    refine lv_iconst (v := 2) hx hb dX1_adviceFor_23 (by decide) ?_
    refine lv_iadd hx hb dX1_adviceFor_24 ?_
    refine z_ild (v := f ((5 * ia) + 2)) (j := (5 * ia) + 2) hx hb hK hP 1 rfl (z_add (z_mul rfl rfl) rfl) (by omega) (by decide) (rfl) dX1_adviceFor_25 ?_
    exact hQ (f ((5 * ia) + 2)) (b1_1, b2_2, b3_3, b4_4) _ _ _ _ (rfl) (by simp [cAdv, c_7]) hP hD hS dX1_adviceFor_26
  · skip
    have c_7 := z_b1 c_7
    refine lv_aload_n hx hb dX1_adviceFor_8 rfl (lv_at hl 0 rfl) ?_
    refine lv_iload_n hx hb dX1_adviceFor_9 rfl (lv_at hl 1 rfl) ?_
    refine z_VI (n := 1) (wn := (fun u : Int64 × Int64 × Int64 × Int64 => [(hF, .inr (1, [.ref cF, .ref aF, .ref wF])), (cF, .inl (cI, 39, .inl f)), (aF, .inr (0, [.long u.1, .long u.2.1, .long u.2.2.1, .long u.2.2.2]))])) (wr := []) (As := [.int (nI ia)]) (rest := []) ⟨hx, hb, hml, hown, hts⟩ hK hP hD hS hA hT (kX1_turnFor l D cI cB tE tN hF cF aF wF f b1_1 b2_2 b3_3 b4_4 ia N _ (by omega) (by omega) (by omega)) gX1_adviceFor_X1_turnFor rfl rfl rfl (by decide +kernel) ⟨Nat.le_of_ble_eq_true rfl, Nat.le_of_ble_eq_true rfl⟩ [0, 1, 2] [] [0, 1, 2] (by decide) rfl rfl (by decide) (by decide) (by decide) (fun u => rfl) 0 1 rfl rfl rfl rfl hl.1 rfl (Nat.le_of_ble_eq_true rfl) dX1_adviceFor_10 ⟨Nat.le_of_ble_eq_true rfl, Nat.le_of_ble_eq_true rfl⟩ (fun r_12 u H locs hw_13 hP hD hS => ?_)
    obtain ⟨b1_8, b2_9, b3_10, b4_11⟩ := u
    try dsimp only at hw_13
    have hP : va_P D vwCl [(hF, .inr (1, [.ref cF, .ref aF, .ref wF])), (cF, .inl (cI, 39, .inl f)), (aF, .inr (0, [.long b1_8, .long b2_9, .long b3_10, .long b4_11]))] H := hP
    have hD : va_D A [(hF, .inr (1, [.ref cF, .ref aF, .ref wF])), (cF, .inl (cI, 39, .inl f)), (aF, .inr (0, [.long b1_8, .long b2_9, .long b3_10, .long b4_11]))] := hD
    subst r_12
    refine lv_goto (tgt := 26) hx hb dX1_adviceFor_13 (by decide) ?_
    exact hQ (cTurn f N ia) (b1_8, b2_9, b3_10, b4_11) _ _ _ _ (rfl) (by simp [cAdv, c_7]) hP hD hS dX1_adviceFor_26
