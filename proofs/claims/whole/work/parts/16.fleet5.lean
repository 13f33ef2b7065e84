theorem z_ge0 {x : Int32} (h : ¬ x < 1) : 0 ≤ x := by
  have h := Int32.not_lt.mp h
  rw [Int32.le_iff_toInt_le] at h ⊢
  have e1 : (1 : Int32).toInt = 1 := rfl
  have e0 : (0 : Int32).toInt = 0 := rfl
  omega
theorem z_ge1 {x : Int32} {k b : Nat} (hk : x = nI k) (hb : k ≤ b) (h : ¬ x < 1) (hb2 : b < 2147483648 := by decide) : 1 ≤ k := by
  exact (z_ltn (b := 1) hk rfl (by omega) (by omega)).mp h
set_option maxHeartbeats 4000000 in
set_option maxRecDepth 100000 in
theorem kX1_goOn (l : Launch) (D : va_G) (cI cB : ClassId) (tE tN : Nat) (hF : Nat) (cF : Nat) (aF : Nat) (wF : Nat) (f : Nat → Int32) (t1 : Int64) (t2 : Int64) (t3 : Int64) (t4 : Int64) (i : Int32) (N : Nat) (sz : Nat) (hN : f 35 = nI N) (hN6 : N ≤ 6) : zI l yX1_goOn wsX1_goOn ({ frames := 4, cells := 0, slots := 0, locals := 105 }) D cI cB tE tN [.ref hF, .int i] [(hF, .inr (1, [.ref cF, .ref aF, .ref wF])), (cF, .inl (cI, 39, .inl f)), (aF, .inr (0, [.long t1, .long t2, .long t3, .long t4]))] sz (fun u : (Nat → Int32) × Int64 × Int64 × Int64 × Int64 => [(hF, .inr (1, [.ref cF, .ref aF, .ref wF])), (cF, .inl (cI, 39, .inl u.1)), (aF, .inr (0, [.long u.2.1, .long u.2.2.1, .long u.2.2.2.1, .long u.2.2.2.2]))]) (fun (r : Int32) (u : (Nat → Int32) × Int64 × Int64 × Int64 × Int64) => (r, u.1) = cGo f N i) 0 0 := by
  refine zI_mk (cc := cX1_goOn) (maxL := 3) (rt := .int) (by decide) rfl (Nat.le_of_ble_eq_true rfl) ?_
  intro p e s m below meth c A Q ls S0 hname hA hK hP hD hT hS hQ hl
  obtain ⟨hx, hb, hml, hown, hts⟩ := id S0
  have hl : lv_has ls 3 [(0, .ref hF), (1, .int i)] := hl
  have L11 : (Cond.fieldLink RX1 11 "PastAndClear$Fleet" "cells" "[I").before ([.ref hF, .int i] : List Value).toArray s = true := hts (.fieldLink RX1 11 "PastAndClear$Fleet" "cells" "[I") (by decide +kernel)
  have N1 : ∀ w ∈ u_ws RX1 TX1 3, w ∈ wsX1_goOn := by decide +kernel
  have lp29 : ∀ (k : Nat) (n : Nat) (kn : Nat) (b1 : Int64) (b2 : Int64) (b3 : Int64) (b4 : Int64) (H : Heap) (locs : List Loc) (ls : Array Slot), kn - n = k → (n ≤ kn) → (i = nI kn) → (kn ≤ 60) → (¬ i < 1) → (i ≤ 60) → (cStay f N i = true) → va_P D vwCl [(hF, .inr (1, [.ref cF, .ref aF, .ref wF])), (cF, .inl (cI, 39, .inl (goF f N n))), (aF, .inr (0, [.long b1, .long b2, .long b3, .long b4]))] H → va_D A [(hF, .inr (1, [.ref cF, .ref aF, .ref wF])), (cF, .inl (cI, 39, .inl (goF f N n))), (aF, .inr (0, [.long b1, .long b2, .long b3, .long b4]))] → va_S A s.heap H locs → lv_has ls 3 [(2, .int (nI n)), (0, .ref hF), (1, .int i)] → W p l e ({ frames := 4, cells := 0, slots := 0, locals := 105 } : Room) s m ([.ref hF, .int i] : List Value).toArray below meth c H locs 0 0 Q (F0 m 29 ls []) := by
    intro k
    induction k using Nat.strongRecOn with
    | ind k ih =>
    intro n kn b1 b2 b3 b4 H locs ls hk hn hki hk60 hi1 hi2 hst hP hD hS hl
    refine lv_iload_n hx hb dX1_goOn_29 rfl (lv_at hl 0 rfl) ?_
    refine lv_iload_n hx hb dX1_goOn_30 rfl (lv_at hl 2 rfl) ?_
    refine lv_icmp_ge (tgt := 48) hx hb dX1_goOn_31 (by decide) (fun c_1 => ?_) (fun c_1 => ?_)
    · skip
      have c_1 := (z_le (a := kn) (b := n) hki rfl (by omega) (by omega)).mp c_1
      refine lv_aload_n hx hb dX1_goOn_48 rfl (lv_at hl 1 rfl) ?_
      refine va_get (D := D) (ci := 1) (v := .ref cF) (C := RX1) (T := TX1) (N := 3) hx hb hts N1 hown hK hP 0 rfl rfl 0 (by decide) L11 (fun _ h9 => h9) rfl dX1_goOn_49 ?_
      refine lv_bipush (v := 38) hx hb dX1_goOn_52 (by decide) ?_
      refine lv_dup2_11 hx hb dX1_goOn_54 rfl rfl ?_
      refine z_ild (v := (goF f N n) 38) (j := 38) hx hb hK hP 1 rfl rfl (by omega) (by decide) (rfl) dX1_goOn_55 ?_
      refine lv_iload_n hx hb dX1_goOn_56 rfl (lv_at hl 2 rfl) ?_
      refine lv_iadd hx hb dX1_goOn_57 ?_
      refine z_ist (j := 38) hx hb hK hP hD hS 1 rfl rfl (by omega) (by decide) dX1_goOn_58 (fun H locs hP hD hS => ?_)
      have hP : va_P D vwCl [(hF, .inr (1, [.ref cF, .ref aF, .ref wF])), (cF, .inl (cI, 39, .inl (upd (goF f N n) 38 (((goF f N n) 38) + i)))), (aF, .inr (0, [.long b1, .long b2, .long b3, .long b4]))] H := hP
      have hD : va_D A [(hF, .inr (1, [.ref cF, .ref aF, .ref wF])), (cF, .inl (cI, 39, .inl (upd (goF f N n) 38 (((goF f N n) 38) + i)))), (aF, .inr (0, [.long b1, .long b2, .long b3, .long b4]))] := hD
      refine lv_aload_n hx hb dX1_goOn_59 rfl (lv_at hl 1 rfl) ?_
      refine z_VI (n := 0) (wn := (fun u : Unit => [(hF, .inr (1, [.ref cF, .ref aF, .ref wF])), (cF, .inl (cI, 39, .inl (upd (goF f N n) 38 (((goF f N n) 38) + i)))), (aF, .inr (0, [.long b1, .long b2, .long b3, .long b4]))])) (wr := [(aF, .inr (0, [.long b1, .long b2, .long b3, .long b4]))]) (As := []) (rest := []) ⟨hx, hb, hml, hown, hts⟩ hK hP hD hS hA hT (kX1_givenWay l D cI cB tE tN hF cF aF wF (upd (goF f N n) 38 (((goF f N n) 38) + i)) N _ (by rw [upd_ne (by decide), goF_ge (by omega), hN]) (by omega)) gX1_goOn_X1_givenWay rfl rfl rfl (by decide +kernel) ⟨Nat.le_of_ble_eq_true rfl, Nat.le_of_ble_eq_true rfl⟩ [0, 1] [2] [1, 2, 0] (by decide) rfl rfl (by decide) (by decide) (by decide) (fun u => rfl) 0 1 rfl rfl rfl rfl hl.1 rfl (Nat.le_of_ble_eq_true rfl) dX1_goOn_60 ⟨Nat.le_of_ble_eq_true rfl, Nat.le_of_ble_eq_true rfl⟩ (fun r_2 u H locs hw_3 hP hD hS => ?_)
      try dsimp only at hw_3
      have hP : va_P D vwCl [(hF, .inr (1, [.ref cF, .ref aF, .ref wF])), (cF, .inl (cI, 39, .inl (upd (goF f N n) 38 (((goF f N n) 38) + i)))), (aF, .inr (0, [.long b1, .long b2, .long b3, .long b4]))] H := hP
      have hD : va_D A [(hF, .inr (1, [.ref cF, .ref aF, .ref wF])), (cF, .inl (cI, 39, .inl (upd (goF f N n) 38 (((goF f N n) 38) + i)))), (aF, .inr (0, [.long b1, .long b2, .long b3, .long b4]))] := hD
      subst r_2
      exact hQ (gwF (upd (goF f N n) 38 (((goF f N n) 38) + i)) N) ((upd (goF f N n) 38 (((goF f N n) 38) + i)), b1, b2, b3, b4) _ _ _ _ (rfl) (by rw [cGo, if_pos ⟨hi1, hi2⟩, if_pos hst, hki, nI_clamp (by omega), show n = kn by omega]) hP hD hS dX1_goOn_63
    · skip
      have c_1 := (z_len (a := kn) (b := n) hki rfl (by omega) (by omega)).mp c_1
      refine lv_aload_n hx hb dX1_goOn_34 rfl (lv_at hl 1 rfl) ?_
      refine z_VV (n := 0) (wn := (fun u : Unit => [(hF, .inr (1, [.ref cF, .ref aF, .ref wF])), (cF, .inl (cI, 39, .inl (mvF (goF f N n) (N + 1)))), (aF, .inr (0, [.long b1, .long b2, .long b3, .long b4]))])) (wr := [(aF, .inr (0, [.long b1, .long b2, .long b3, .long b4]))]) (As := []) (rest := []) ⟨hx, hb, hml, hown, hts⟩ hK hP hD hS hA hT (kX1_moveAll l D cI cB tE tN hF cF aF wF (goF f N n) N _ (by rw [goF_ge (by omega), hN]) (by omega)) gX1_goOn_X1_moveAll rfl rfl rfl (by decide +kernel) ⟨Nat.le_of_ble_eq_true rfl, Nat.le_of_ble_eq_true rfl⟩ [0, 1] [2] [1, 2, 0] (by decide) rfl rfl (by decide) (by decide) (by decide) (fun u => rfl) 0 1 rfl rfl rfl rfl hl.1 rfl (Nat.le_of_ble_eq_true rfl) dX1_goOn_35 ⟨Nat.le_of_ble_eq_true rfl, Nat.le_of_ble_eq_true rfl⟩ (fun u H locs hw_5 hP hD hS => ?_)
      try dsimp only at hw_5
      have hP : va_P D vwCl [(hF, .inr (1, [.ref cF, .ref aF, .ref wF])), (cF, .inl (cI, 39, .inl (mvF (goF f N n) (N + 1)))), (aF, .inr (0, [.long b1, .long b2, .long b3, .long b4]))] H := hP
      have hD : va_D A [(hF, .inr (1, [.ref cF, .ref aF, .ref wF])), (cF, .inl (cI, 39, .inl (mvF (goF f N n) (N + 1)))), (aF, .inr (0, [.long b1, .long b2, .long b3, .long b4]))] := hD
      refine lv_aload_n hx hb dX1_goOn_38 rfl (lv_at hl 1 rfl) ?_
      refine z_VV (n := 0) (wn := (fun u : Int64 × Int64 × Int64 × Int64 => [(hF, .inr (1, [.ref cF, .ref aF, .ref wF])), (cF, .inl (cI, 39, .inl (lkF (mvF (goF f N n) (N + 1)) N))), (aF, .inr (0, [.long u.1, .long u.2.1, .long u.2.2.1, .long u.2.2.2]))])) (wr := []) (As := []) (rest := []) ⟨hx, hb, hml, hown, hts⟩ hK hP hD hS hA hT (kX1_look l D cI cB tE tN hF cF aF wF (mvF (goF f N n) (N + 1)) b1 b2 b3 b4 N _ (by rw [mvF_ge (by omega), goF_ge (by omega), hN]) (by omega)) gX1_goOn_X1_look rfl rfl rfl (by decide +kernel) ⟨Nat.le_of_ble_eq_true rfl, Nat.le_of_ble_eq_true rfl⟩ [0, 1, 2] [] [0, 1, 2] (by decide) rfl rfl (by decide) (by decide) (by decide) (fun u => rfl) 0 1 rfl rfl rfl rfl hl.1 rfl (Nat.le_of_ble_eq_true rfl) dX1_goOn_39 ⟨Nat.le_of_ble_eq_true rfl, Nat.le_of_ble_eq_true rfl⟩ (fun u H locs hw_11 hP hD hS => ?_)
      obtain ⟨b1_6, b2_7, b3_8, b4_9⟩ := u
      try dsimp only at hw_11
      have hP : va_P D vwCl [(hF, .inr (1, [.ref cF, .ref aF, .ref wF])), (cF, .inl (cI, 39, .inl (lkF (mvF (goF f N n) (N + 1)) N))), (aF, .inr (0, [.long b1_6, .long b2_7, .long b3_8, .long b4_9]))] H := hP
      have hD : va_D A [(hF, .inr (1, [.ref cF, .ref aF, .ref wF])), (cF, .inl (cI, 39, .inl (lkF (mvF (goF f N n) (N + 1)) N))), (aF, .inr (0, [.long b1_6, .long b2_7, .long b3_8, .long b4_9]))] := hD
      refine lv_iinc (v := nI (n + 1)) (lv' := [(2, .int (nI (n + 1))), (0, .ref hF), (1, .int i)]) hx hb dX1_goOn_42 hl (k := 0) rfl (z_add rfl rfl) (by decide) rfl (fun ls hl => ?_)
      refine lv_goto (tgt := 29) hx hb dX1_goOn_45 (by decide) ?_
      have ee_12 : lkF (mvF (goF f N n) (N + 1)) N = goF f N (n + 1) := rfl
      rw [ee_12] at hP hD
      exact ih _ (by omega) (n + 1) kn b1_6 b2_7 b3_8 b4_9 _ _ _ rfl (by omega) hki hk60 hi1 hi2 hst hP hD hS (lv_sub hl [0, 1, 2] rfl)
  refine lv_iload_n hx hb dX1_goOn_0 rfl (lv_at hl 1 rfl) ?_
  refine lv_iconst (v := 1) hx hb dX1_goOn_1 (by decide) ?_
  refine lv_icmp_lt (tgt := 11) hx hb dX1_goOn_2 (by decide) (fun c_13 => ?_) (fun c_13 => ?_)
  · skip
    refine lv_sipush (v := (-10002)) hx hb dX1_goOn_11 (by decide) ?_
    exact hQ (-10002) (f, t1, t2, t3, t4) _ _ _ _ (rfl) (by simp [cGo, c_13]) hP hD hS dX1_goOn_14
  · skip
    refine lv_iload_n hx hb dX1_goOn_5 rfl (lv_at hl 1 rfl) ?_
    refine lv_bipush (v := 60) hx hb dX1_goOn_6 (by decide) ?_
    refine lv_icmp_le (tgt := 15) hx hb dX1_goOn_8 (by decide) (fun c_14 => ?_) (fun c_14 => ?_)
    · skip
      obtain ⟨kn, hki, hk60⟩ := z_nat (b := 60) (z_ge0 c_13) c_14 (by decide)
      have hk1 : 1 ≤ kn := z_ge1 hki hk60 c_13
      refine lv_aload_n hx hb dX1_goOn_15 rfl (lv_at hl 0 rfl) ?_
      refine lv_iload_n hx hb dX1_goOn_16 rfl (lv_at hl 1 rfl) ?_
      refine z_VI (n := 1) (wn := (fun u : Unit => [(hF, .inr (1, [.ref cF, .ref aF, .ref wF])), (cF, .inl (cI, 39, .inl f)), (aF, .inr (0, [.long t1, .long t2, .long t3, .long t4]))])) (wr := [(aF, .inr (0, [.long t1, .long t2, .long t3, .long t4]))]) (As := [.int i]) (rest := []) ⟨hx, hb, hml, hown, hts⟩ hK hP hD hS hA hT (kX1_staysInside l D cI cB tE tN hF cF aF wF f i N _ (by omega) (by omega)) gX1_goOn_X1_staysInside rfl rfl rfl (by decide +kernel) ⟨Nat.le_of_ble_eq_true rfl, Nat.le_of_ble_eq_true rfl⟩ [0, 1] [2] [1, 2, 0] (by decide) rfl rfl (by decide) (by decide) (by decide) (fun u => rfl) 0 1 rfl rfl rfl rfl hl.1 rfl (Nat.le_of_ble_eq_true rfl) dX1_goOn_17 ⟨Nat.le_of_ble_eq_true rfl, Nat.le_of_ble_eq_true rfl⟩ (fun r_15 u H locs hw_16 hP hD hS => ?_)
      try dsimp only at hw_16
      have hP : va_P D vwCl [(hF, .inr (1, [.ref cF, .ref aF, .ref wF])), (cF, .inl (cI, 39, .inl f)), (aF, .inr (0, [.long t1, .long t2, .long t3, .long t4]))] H := hP
      have hD : va_D A [(hF, .inr (1, [.ref cF, .ref aF, .ref wF])), (cF, .inl (cI, 39, .inl f)), (aF, .inr (0, [.long t1, .long t2, .long t3, .long t4]))] := hD
      subst r_15
      refine lv_if_ne (tgt := 27) hx hb dX1_goOn_20 (by decide) (fun c_17 => ?_) (fun c_17 => ?_)
      · skip
        have c_17 := z_b1 c_17
        refine lv_iconst (v := 0) hx hb dX1_goOn_27 (by decide) ?_
        refine lv_istore_n (lv' := [(2, .int 0), (0, .ref hF), (1, .int i)]) hx hb dX1_goOn_28 rfl hl (by decide) rfl (fun ls hl => ?_)
        exact lp29 _ 0 kn t1 t2 t3 t4 _ _ _ rfl (by omega) hki hk60 c_13 c_14 c_17 hP hD hS (lv_sub hl [0, 1, 2] rfl)
      · skip
        have c_17 := z_b0 c_17
        refine lv_sipush (v := (-10003)) hx hb dX1_goOn_23 (by decide) ?_
        exact hQ (-10003) (f, t1, t2, t3, t4) _ _ _ _ (rfl) (by simp [cGo, c_13, c_14, c_17]) hP hD hS dX1_goOn_26
    · skip
      refine lv_sipush (v := (-10002)) hx hb dX1_goOn_11 (by decide) ?_
      exact hQ (-10002) (f, t1, t2, t3, t4) _ _ _ _ (rfl) (by simp [cGo, c_13, c_14]) hP hD hS dX1_goOn_14

set_option maxHeartbeats 4000000 in
set_option maxRecDepth 100000 in
theorem kX1_foldShip (l : Launch) (D : va_G) (cI cB : ClassId) (tE tN : Nat) (hF : Nat) (cF : Nat) (aF : Nat) (wF : Nat) (f : Nat → Int32) (t1 : Int64) (t2 : Int64) (t3 : Int64) (t4 : Int64) (h0 : Int64) (ia : Nat) (N : Nat) (sz : Nat) (hN : f 35 = nI N) (hN6 : N ≤ 6) (ha : ia ≤ 6) : zL l yX1_foldShip wsX1_foldShip ({ frames := 5, cells := 0, slots := 0, locals := 132 }) D cI cB tE tN [.ref hF, .long h0, .int (nI ia)] [(hF, .inr (1, [.ref cF, .ref aF, .ref wF])), (cF, .inl (cI, 39, .inl f)), (aF, .inr (0, [.long t1, .long t2, .long t3, .long t4]))] sz (fun u : Int64 × Int64 × Int64 × Int64 => [(hF, .inr (1, [.ref cF, .ref aF, .ref wF])), (cF, .inl (cI, 39, .inl f)), (aF, .inr (0, [.long u.1, .long u.2.1, .long u.2.2.1, .long u.2.2.2]))]) (fun (r : Int64) (u : Int64 × Int64 × Int64 × Int64) => r = cFs f N ia h0) 0 0 := by
  refine zL_mk (cc := cX1_foldShip) (maxL := 5) (by decide) rfl (Nat.le_of_ble_eq_true rfl) ?_
  intro p e s m below meth c A Q ls S0 hname hA hK hP hD hT hS hQ hl
  obtain ⟨hx, hb, hml, hown, hts⟩ := id S0
  have hl : lv_has ls 5 [(0, .ref hF), (1, .long h0), (3, .int (nI ia))] := hl
  have lp3 : ∀ (k : Nat) (n : Nat) (x : Int64) (H : Heap) (locs : List Loc) (ls : Array Slot), 4 - n = k → (n ≤ 4) → (x = fsF f ia h0 n) → va_P D vwCl [(hF, .inr (1, [.ref cF, .ref aF, .ref wF])), (cF, .inl (cI, 39, .inl f)), (aF, .inr (0, [.long t1, .long t2, .long t3, .long t4]))] H → va_D A [(hF, .inr (1, [.ref cF, .ref aF, .ref wF])), (cF, .inl (cI, 39, .inl f)), (aF, .inr (0, [.long t1, .long t2, .long t3, .long t4]))] → va_S A s.heap H locs → lv_has ls 5 [(4, .int (nI n)), (1, .long x), (0, .ref hF), (3, .int (nI ia))] → W p l e ({ frames := 5, cells := 0, slots := 0, locals := 132 } : Room) s m ([.ref hF, .long h0, .int (nI ia)] : List Value).toArray below meth c H locs 0 0 Q (F0 m 3 ls []) := by
    intro k
    induction k using Nat.strongRecOn with
    | ind k ih =>
    intro n x H locs ls hk hn hxx hP hD hS hl
    refine lv_iload hx hb dX1_foldShip_3 (lv_at hl 0 rfl) ?_
    refine lv_iconst (v := 3) hx hb dX1_foldShip_5 (by decide) ?_
    refine lv_icmp_gt (tgt := 30) hx hb dX1_foldShip_6 (by decide) (fun c_1 => ?_) (fun c_1 => ?_)
    · skip
      have c_1 := (z_lt (a := 3) (b := n) rfl rfl (by omega) (by omega)).mp c_1
      refine lv_ldc2 (v := 31) hx hb hown (hts (.constantLong RX1 141 31) (by decide +kernel)) dX1_foldShip_30 ?_
      refine lv_lload_n hx hb dX1_foldShip_33 rfl (lv_at hl 1 rfl) ?_
      refine lv_lmul hx hb dX1_foldShip_34 ?_
      refine lv_aload_n hx hb dX1_foldShip_35 rfl (lv_at hl 2 rfl) ?_
      refine lv_iload_n hx hb dX1_foldShip_36 rfl (lv_at hl 3 rfl) ?_
      refine z_VI (n := 1) (wn := (fun u : Int64 × Int64 × Int64 × Int64 => [(hF, .inr (1, [.ref cF, .ref aF, .ref wF])), (cF, .inl (cI, 39, .inl f)), (aF, .inr (0, [.long u.1, .long u.2.1, .long u.2.2.1, .long u.2.2.2]))])) (wr := []) (As := [.int (nI ia)]) (rest := [.long (31 * x)]) ⟨hx, hb, hml, hown, hts⟩ hK hP hD hS hA hT (kX1_adviceFor l D cI cB tE tN hF cF aF wF f t1 t2 t3 t4 ia N _ (by omega) (by omega) (by omega)) gX1_foldShip_X1_adviceFor rfl rfl rfl (by decide +kernel) ⟨Nat.le_of_ble_eq_true rfl, Nat.le_of_ble_eq_true rfl⟩ [0, 1, 2] [] [0, 1, 2] (by decide) rfl rfl (by decide) (by decide) (by decide) (fun u => rfl) 0 1 rfl rfl rfl rfl hl.1 rfl (Nat.le_of_ble_eq_true rfl) dX1_foldShip_37 ⟨Nat.le_of_ble_eq_true rfl, Nat.le_of_ble_eq_true rfl⟩ (fun r_6 u H locs hw_7 hP hD hS => ?_)
      obtain ⟨b1_2, b2_3, b3_4, b4_5⟩ := u
      try dsimp only at hw_7
      have hP : va_P D vwCl [(hF, .inr (1, [.ref cF, .ref aF, .ref wF])), (cF, .inl (cI, 39, .inl f)), (aF, .inr (0, [.long b1_2, .long b2_3, .long b3_4, .long b4_5]))] H := hP
      have hD : va_D A [(hF, .inr (1, [.ref cF, .ref aF, .ref wF])), (cF, .inl (cI, 39, .inl f)), (aF, .inr (0, [.long b1_2, .long b2_3, .long b3_4, .long b4_5]))] := hD
      subst r_6
      refine lv_i2l (v := (cAdv f N ia).toInt64) hx hb dX1_foldShip_40 rfl ?_
      refine lv_ladd hx hb dX1_foldShip_41 ?_
      exact hQ ((31 * x) + ((cAdv f N ia).toInt64)) (b1_2, b2_3, b3_4, b4_5) _ _ _ _ (by rw [hxx, show n = 4 by omega]; rfl) hP hD hS dX1_foldShip_42
    · skip
      have c_1 := (z_ltn (a := 3) (b := n) rfl rfl (by omega) (by omega)).mp c_1
      refine lv_ldc2 (v := 31) hx hb hown (hts (.constantLong RX1 141 31) (by decide +kernel)) dX1_foldShip_9 ?_
      refine lv_lload_n hx hb dX1_foldShip_12 rfl (lv_at hl 1 rfl) ?_
      refine lv_lmul hx hb dX1_foldShip_13 ?_
      refine lv_aload_n hx hb dX1_foldShip_14 rfl (lv_at hl 2 rfl) ?_
      refine lv_iload_n hx hb dX1_foldShip_15 rfl (lv_at hl 3 rfl) ?_
      refine lv_iload hx hb dX1_foldShip_16 (lv_at hl 0 rfl) ?_
      refine z_VI (n := 2) (wn := (fun u : Unit => [(hF, .inr (1, [.ref cF, .ref aF, .ref wF])), (cF, .inl (cI, 39, .inl f)), (aF, .inr (0, [.long t1, .long t2, .long t3, .long t4]))])) (wr := [(aF, .inr (0, [.long t1, .long t2, .long t3, .long t4]))]) (As := [.int (nI ia), .int (nI n)]) (rest := [.long (31 * x)]) ⟨hx, hb, hml, hown, hts⟩ hK hP hD hS hA hT (kX1_partOf l D cI cB tE tN hF cF aF wF f ia n _ (by omega) (by omega)) gX1_foldShip_X1_partOf rfl rfl rfl (by decide +kernel) ⟨Nat.le_of_ble_eq_true rfl, Nat.le_of_ble_eq_true rfl⟩ [0, 1] [2] [1, 2, 0] (by decide) rfl rfl (by decide) (by decide) (by decide) (fun u => rfl) 0 1 rfl rfl rfl rfl hl.1 rfl (Nat.le_of_ble_eq_true rfl) dX1_foldShip_18 ⟨Nat.le_of_ble_eq_true rfl, Nat.le_of_ble_eq_true rfl⟩ (fun r_8 u H locs hw_9 hP hD hS => ?_)
      try dsimp only at hw_9
      have hP : va_P D vwCl [(hF, .inr (1, [.ref cF, .ref aF, .ref wF])), (cF, .inl (cI, 39, .inl f)), (aF, .inr (0, [.long t1, .long t2, .long t3, .long t4]))] H := hP
      have hD : va_D A [(hF, .inr (1, [.ref cF, .ref aF, .ref wF])), (cF, .inl (cI, 39, .inl f)), (aF, .inr (0, [.long t1, .long t2, .long t3, .long t4]))] := hD
      subst r_8
      refine lv_i2l (v := (cPart f ia n).toInt64) hx hb dX1_foldShip_21 rfl ?_
      refine lv_ladd hx hb dX1_foldShip_22 ?_
      refine lv_lstore_n (lv' := [(1, .long ((31 * x) + ((cPart f ia n).toInt64))), (4, .int (nI n)), (0, .ref hF), (3, .int (nI ia))]) hx hb dX1_foldShip_23 rfl hl (by decide) rfl (fun ls hl => ?_)
      refine lv_iinc (v := nI (n + 1)) (lv' := [(4, .int (nI (n + 1))), (1, .long ((31 * x) + ((cPart f ia n).toInt64))), (0, .ref hF), (3, .int (nI ia))]) hx hb dX1_foldShip_24 hl (k := 1) rfl (z_add rfl rfl) (by decide) rfl (fun ls hl => ?_)
      refine lv_goto (tgt := 3) hx hb dX1_foldShip_27 (by decide) ?_
      exact ih _ (by omega) (n + 1) ((31 * x) + ((cPart f ia n).toInt64)) _ _ _ rfl (by omega) (by rw [hxx]; rfl) hP hD hS (lv_sub hl [0, 1, 2, 3] rfl)
  refine lv_iconst (v := 0) hx hb dX1_foldShip_0 (by decide) ?_
  refine lv_istore (lv' := [(4, .int 0), (0, .ref hF), (1, .long h0), (3, .int (nI ia))]) hx hb dX1_foldShip_1 hl (by decide) rfl (fun ls hl => ?_)
  exact lp3 _ 0 h0 _ _ _ rfl (by omega) rfl hP hD hS (lv_sub hl [0, 2, 1, 3] rfl)

set_option maxHeartbeats 4000000 in
set_option maxRecDepth 100000 in
theorem kX1_foldOther (l : Launch) (D : va_G) (cI cB : ClassId) (tE tN : Nat) (hF : Nat) (cF : Nat) (aF : Nat) (wF : Nat) (f : Nat → Int32) (t1 : Int64) (t2 : Int64) (t3 : Int64) (t4 : Int64) (h0 : Int64) (ib : Nat) (sz : Nat) (hb6 : ib ≤ 6) : zL l yX1_foldOther wsX1_foldOther ({ frames := 3, cells := 0, slots := 0, locals := 85 }) D cI cB tE tN [.ref hF, .long h0, .int (nI ib)] [(hF, .inr (1, [.ref cF, .ref aF, .ref wF])), (cF, .inl (cI, 39, .inl f)), (aF, .inr (0, [.long t1, .long t2, .long t3, .long t4]))] sz (fun u : Int64 × Int64 × Int64 × Int64 => [(hF, .inr (1, [.ref cF, .ref aF, .ref wF])), (cF, .inl (cI, 39, .inl f)), (aF, .inr (0, [.long u.1, .long u.2.1, .long u.2.2.1, .long u.2.2.2]))]) (fun (r : Int64) (u : Int64 × Int64 × Int64 × Int64) => r = cFo f ib h0) 0 0 := by
  refine zL_mk (cc := cX1_foldOther) (maxL := 6) (by decide) rfl (Nat.le_of_ble_eq_true rfl) ?_
  intro p e s m below meth c A Q ls S0 hname hA hK hP hD hT hS hQ hl
  obtain ⟨hx, hb, hml, hown, hts⟩ := id S0
  have hl : lv_has ls 6 [(0, .ref hF), (1, .long h0), (3, .int (nI ib))] := hl
  have lp24 : ∀ (k : Nat) (n : Nat) (x : Int64) (b1 : Int64) (b2 : Int64) (b3 : Int64) (b4 : Int64) (H : Heap) (locs : List Loc) (ls : Array Slot), 4 - n = k → (n ≤ 4) → ((b1, b2, b3, b4) = cMh f 0 ib) → (x = fpF (b1, b2, b3, b4) (31 * h0 + (f (5 * ib + 4)).toInt64) n) → va_P D vwCl [(hF, .inr (1, [.ref cF, .ref aF, .ref wF])), (cF, .inl (cI, 39, .inl f)), (aF, .inr (0, [.long b1, .long b2, .long b3, .long b4]))] H → va_D A [(hF, .inr (1, [.ref cF, .ref aF, .ref wF])), (cF, .inl (cI, 39, .inl f)), (aF, .inr (0, [.long b1, .long b2, .long b3, .long b4]))] → va_S A s.heap H locs → lv_has ls 6 [(5, .int (nI n)), (4, .ref aF), (1, .long x), (0, .ref hF), (3, .int (nI ib))] → W p l e ({ frames := 3, cells := 0, slots := 0, locals := 85 } : Room) s m ([.ref hF, .long h0, .int (nI ib)] : List Value).toArray below meth c H locs 0 0 Q (F0 m 24 ls []) := by
    intro k
    induction k using Nat.strongRecOn with
    | ind k ih =>
    intro n x b1 b2 b3 b4 H locs ls hk hn hm hxx hP hD hS hl
    refine lv_iload hx hb dX1_foldOther_24 (lv_at hl 0 rfl) ?_
    refine lv_iconst (v := 3) hx hb dX1_foldOther_26 (by decide) ?_
    refine lv_icmp_gt (tgt := 50) hx hb dX1_foldOther_27 (by decide) (fun c_1 => ?_) (fun c_1 => ?_)
    · skip
      have c_1 := (z_lt (a := 3) (b := n) rfl rfl (by omega) (by omega)).mp c_1
      refine lv_ldc2 (v := 31) hx hb hown (hts (.constantLong RX1 141 31) (by decide +kernel)) dX1_foldOther_50 ?_
      refine lv_lload_n hx hb dX1_foldOther_53 rfl (lv_at hl 2 rfl) ?_
      refine lv_lmul hx hb dX1_foldOther_54 ?_
      refine lv_aload_n hx hb dX1_foldOther_55 rfl (lv_at hl 3 rfl) ?_
      refine lv_iconst (v := 0) hx hb dX1_foldOther_56 (by decide) ?_
      refine lv_iload_n hx hb dX1_foldOther_57 rfl (lv_at hl 4 rfl) ?_
      refine z_VI (n := 2) (wn := (fun u : Unit => [(hF, .inr (1, [.ref cF, .ref aF, .ref wF])), (cF, .inl (cI, 39, .inl f)), (aF, .inr (0, [.long b1, .long b2, .long b3, .long b4]))])) (wr := [(aF, .inr (0, [.long b1, .long b2, .long b3, .long b4]))]) (As := [.int 0, .int (nI ib)]) (rest := [.long (31 * x)]) ⟨hx, hb, hml, hown, hts⟩ hK hP hD hS hA hT (kX1_sectorOf l D cI cB tE tN hF cF aF wF f 0 ib _ (by omega) (by omega)) gX1_foldOther_X1_sectorOf rfl rfl rfl (by decide +kernel) ⟨Nat.le_of_ble_eq_true rfl, Nat.le_of_ble_eq_true rfl⟩ [0, 1] [2] [1, 2, 0] (by decide) rfl rfl (by decide) (by decide) (by decide) (fun u => rfl) 0 1 rfl rfl rfl rfl hl.1 rfl (Nat.le_of_ble_eq_true rfl) dX1_foldOther_58 ⟨Nat.le_of_ble_eq_true rfl, Nat.le_of_ble_eq_true rfl⟩ (fun r_2 u H locs hw_3 hP hD hS => ?_)
      try dsimp only at hw_3
      have hP : va_P D vwCl [(hF, .inr (1, [.ref cF, .ref aF, .ref wF])), (cF, .inl (cI, 39, .inl f)), (aF, .inr (0, [.long b1, .long b2, .long b3, .long b4]))] H := hP
      have hD : va_D A [(hF, .inr (1, [.ref cF, .ref aF, .ref wF])), (cF, .inl (cI, 39, .inl f)), (aF, .inr (0, [.long b1, .long b2, .long b3, .long b4]))] := hD
      subst r_2
      refine lv_i2l (v := (cSec f 0 ib).toInt64) hx hb dX1_foldOther_61 rfl ?_
      refine lv_ladd hx hb dX1_foldOther_62 ?_
      refine lv_lstore_n (lv' := [(1, .long ((31 * x) + ((cSec f 0 ib).toInt64))), (5, .int (nI n)), (4, .ref aF), (0, .ref hF), (3, .int (nI ib))]) hx hb dX1_foldOther_63 rfl hl (by decide) rfl (fun ls hl => ?_)
      refine lv_ldc2 (v := 31) hx hb hown (hts (.constantLong RX1 141 31) (by decide +kernel)) dX1_foldOther_64 ?_
      refine lv_lload_n hx hb dX1_foldOther_67 rfl (lv_at hl 0 rfl) ?_
      refine lv_lmul hx hb dX1_foldOther_68 ?_
      refine lv_aload_n hx hb dX1_foldOther_69 rfl (lv_at hl 3 rfl) ?_
      refine lv_iload_n hx hb dX1_foldOther_70 rfl (lv_at hl 4 rfl) ?_
      refine lv_iconst (v := 0) hx hb dX1_foldOther_71 (by decide) ?_
      refine z_VI (n := 2) (wn := (fun u : Unit => [(hF, .inr (1, [.ref cF, .ref aF, .ref wF])), (cF, .inl (cI, 39, .inl f)), (aF, .inr (0, [.long b1, .long b2, .long b3, .long b4]))])) (wr := [(aF, .inr (0, [.long b1, .long b2, .long b3, .long b4]))]) (As := [.int (nI ib), .int 0]) (rest := [.long (31 * ((31 * x) + ((cSec f 0 ib).toInt64)))]) ⟨hx, hb, hml, hown, hts⟩ hK hP hD hS hA hT (kX1_sectorOf l D cI cB tE tN hF cF aF wF f ib 0 _ (by omega) (by omega)) gX1_foldOther_X1_sectorOf rfl rfl rfl (by decide +kernel) ⟨Nat.le_of_ble_eq_true rfl, Nat.le_of_ble_eq_true rfl⟩ [0, 1] [2] [1, 2, 0] (by decide) rfl rfl (by decide) (by decide) (by decide) (fun u => rfl) 0 1 rfl rfl rfl rfl hl.1 rfl (Nat.le_of_ble_eq_true rfl) dX1_foldOther_72 ⟨Nat.le_of_ble_eq_true rfl, Nat.le_of_ble_eq_true rfl⟩ (fun r_4 u H locs hw_5 hP hD hS => ?_)
      try dsimp only at hw_5
      have hP : va_P D vwCl [(hF, .inr (1, [.ref cF, .ref aF, .ref wF])), (cF, .inl (cI, 39, .inl f)), (aF, .inr (0, [.long b1, .long b2, .long b3, .long b4]))] H := hP
      have hD : va_D A [(hF, .inr (1, [.ref cF, .ref aF, .ref wF])), (cF, .inl (cI, 39, .inl f)), (aF, .inr (0, [.long b1, .long b2, .long b3, .long b4]))] := hD
      subst r_4
      refine lv_i2l (v := (cSec f ib 0).toInt64) hx hb dX1_foldOther_75 rfl ?_
      refine lv_ladd hx hb dX1_foldOther_76 ?_
      refine lv_lstore_n (lv' := [(1, .long ((31 * ((31 * x) + ((cSec f 0 ib).toInt64))) + ((cSec f ib 0).toInt64))), (5, .int (nI n)), (4, .ref aF), (0, .ref hF), (3, .int (nI ib))]) hx hb dX1_foldOther_77 rfl hl (by decide) rfl (fun ls hl => ?_)
      refine lv_ldc2 (v := 31) hx hb hown (hts (.constantLong RX1 141 31) (by decide +kernel)) dX1_foldOther_78 ?_
      refine lv_lload_n hx hb dX1_foldOther_81 rfl (lv_at hl 0 rfl) ?_
      refine lv_lmul hx hb dX1_foldOther_82 ?_
      refine lv_aload_n hx hb dX1_foldOther_83 rfl (lv_at hl 3 rfl) ?_
      refine lv_iload_n hx hb dX1_foldOther_84 rfl (lv_at hl 4 rfl) ?_
      refine z_VI (n := 1) (wn := (fun u : Int64 × Int64 × Int64 × Int64 => [(hF, .inr (1, [.ref cF, .ref aF, .ref wF])), (cF, .inl (cI, 39, .inl f)), (aF, .inr (0, [.long u.1, .long u.2.1, .long u.2.2.1, .long u.2.2.2]))])) (wr := []) (As := [.int (nI ib)]) (rest := [.long (31 * ((31 * ((31 * x) + ((cSec f 0 ib).toInt64))) + ((cSec f ib 0).toInt64)))]) ⟨hx, hb, hml, hown, hts⟩ hK hP hD hS hA hT (kX1_blockedBy l D cI cB tE tN hF cF aF wF f b1 b2 b3 b4 ib _ (by omega)) gX1_foldOther_X1_blockedBy rfl rfl rfl (by decide +kernel) ⟨Nat.le_of_ble_eq_true rfl, Nat.le_of_ble_eq_true rfl⟩ [0, 1, 2] [] [0, 1, 2] (by decide) rfl rfl (by decide) (by decide) (by decide) (fun u => rfl) 0 1 rfl rfl rfl rfl hl.1 rfl (Nat.le_of_ble_eq_true rfl) dX1_foldOther_85 ⟨Nat.le_of_ble_eq_true rfl, Nat.le_of_ble_eq_true rfl⟩ (fun r_10 u H locs hw_11 hP hD hS => ?_)
      obtain ⟨b1_6, b2_7, b3_8, b4_9⟩ := u
      try dsimp only at hw_11
      have hP : va_P D vwCl [(hF, .inr (1, [.ref cF, .ref aF, .ref wF])), (cF, .inl (cI, 39, .inl f)), (aF, .inr (0, [.long b1_6, .long b2_7, .long b3_8, .long b4_9]))] H := hP
      have hD : va_D A [(hF, .inr (1, [.ref cF, .ref aF, .ref wF])), (cF, .inl (cI, 39, .inl f)), (aF, .inr (0, [.long b1_6, .long b2_7, .long b3_8, .long b4_9]))] := hD
      subst r_10
      refine lv_i2l (v := (blF f ib 16).toInt64) hx hb dX1_foldOther_88 rfl ?_
      refine lv_ladd hx hb dX1_foldOther_89 ?_
      exact hQ ((31 * ((31 * ((31 * x) + ((cSec f 0 ib).toInt64))) + ((cSec f ib 0).toInt64))) + ((blF f ib 16).toInt64)) (b1_6, b2_7, b3_8, b4_9) _ _ _ _ (by rw [hxx, show n = 4 by omega, hm]; rfl) hP hD hS dX1_foldOther_90
    · skip
      have c_1 := (z_ltn (a := 3) (b := n) rfl rfl (by omega) (by omega)).mp c_1
      refine lv_ldc2 (v := 31) hx hb hown (hts (.constantLong RX1 141 31) (by decide +kernel)) dX1_foldOther_30 ?_
      refine lv_lload_n hx hb dX1_foldOther_33 rfl (lv_at hl 2 rfl) ?_
      refine lv_lmul hx hb dX1_foldOther_34 ?_
      refine lv_aload hx hb dX1_foldOther_35 (lv_at hl 1 rfl) ?_
      refine lv_iload hx hb dX1_foldOther_37 (lv_at hl 0 rfl) ?_
      refine z_VL (n := 1) (wn := (fun u : Unit => [(hF, .inr (1, [.ref cF, .ref aF, .ref wF])), (cF, .inl (cI, 39, .inl f)), (aF, .inr (0, [.long b1, .long b2, .long b3, .long b4]))])) (wr := [(hF, .inr (1, [.ref cF, .ref aF, .ref wF])), (cF, .inl (cI, 39, .inl f))]) (As := [.int (nI n)]) (rest := [.long (31 * x)]) ⟨hx, hb, hml, hown, hts⟩ hK hP hD hS hA hT (kX0_part l D cI cB tE tN aF b1 b2 b3 b4 n _ (by omega)) gX1_foldOther_X0_part rfl rfl rfl (by decide +kernel) ⟨Nat.le_of_ble_eq_true rfl, Nat.le_of_ble_eq_true rfl⟩ [2] [0, 1] [0, 1, 2] (by decide) rfl rfl (by decide) (by decide) (by decide) (fun u => rfl) 0 0 rfl rfl rfl rfl hl.1 rfl (Nat.le_of_ble_eq_true rfl) dX1_foldOther_39 ⟨Nat.le_of_ble_eq_true rfl, Nat.le_of_ble_eq_true rfl⟩ (fun r_12 u H locs hw_13 hP hD hS => ?_)
      try dsimp only at hw_13
      have hP : va_P D vwCl [(hF, .inr (1, [.ref cF, .ref aF, .ref wF])), (cF, .inl (cI, 39, .inl f)), (aF, .inr (0, [.long b1, .long b2, .long b3, .long b4]))] H := hP
      have hD : va_D A [(hF, .inr (1, [.ref cF, .ref aF, .ref wF])), (cF, .inl (cI, 39, .inl f)), (aF, .inr (0, [.long b1, .long b2, .long b3, .long b4]))] := hD
      subst r_12
      refine lv_ladd hx hb dX1_foldOther_42 ?_
      refine lv_lstore_n (lv' := [(1, .long ((31 * x) + (cPt b1 b2 b3 b4 n))), (5, .int (nI n)), (4, .ref aF), (0, .ref hF), (3, .int (nI ib))]) hx hb dX1_foldOther_43 rfl hl (by decide) rfl (fun ls hl => ?_)
      refine lv_iinc (v := nI (n + 1)) (lv' := [(5, .int (nI (n + 1))), (1, .long ((31 * x) + (cPt b1 b2 b3 b4 n))), (4, .ref aF), (0, .ref hF), (3, .int (nI ib))]) hx hb dX1_foldOther_44 hl (k := 1) rfl (z_add rfl rfl) (by decide) rfl (fun ls hl => ?_)
      refine lv_goto (tgt := 24) hx hb dX1_foldOther_47 (by decide) ?_
      exact ih _ (by omega) (n + 1) ((31 * x) + (cPt b1 b2 b3 b4 n)) b1 b2 b3 b4 _ _ _ rfl (by omega) hm (by rw [hxx]; rfl) hP hD hS (lv_sub hl [0, 2, 1, 3, 4] rfl)
  refine lv_ldc2 (v := 31) hx hb hown (hts (.constantLong RX1 141 31) (by decide +kernel)) dX1_foldOther_0 ?_
  refine lv_lload_n hx hb dX1_foldOther_3 rfl (lv_at hl 1 rfl) ?_
  refine lv_lmul hx hb dX1_foldOther_4 ?_
  refine lv_aload_n hx hb dX1_foldOther_5 rfl (lv_at hl 0 rfl) ?_
  refine lv_iload_n hx hb dX1_foldOther_6 rfl (lv_at hl 2 rfl) ?_
  refine z_VI (n := 1) (wn := (fun u : Unit => [(hF, .inr (1, [.ref cF, .ref aF, .ref wF])), (cF, .inl (cI, 39, .inl f)), (aF, .inr (0, [.long t1, .long t2, .long t3, .long t4]))])) (wr := [(aF, .inr (0, [.long t1, .long t2, .long t3, .long t4]))]) (As := [.int (nI ib)]) (rest := [.long (31 * h0)]) ⟨hx, hb, hml, hown, hts⟩ hK hP hD hS hA hT (kX1_dutyTo l D cI cB tE tN hF cF aF wF f ib _ (by omega)) gX1_foldOther_X1_dutyTo rfl rfl rfl (by decide +kernel) ⟨Nat.le_of_ble_eq_true rfl, Nat.le_of_ble_eq_true rfl⟩ [0, 1] [2] [1, 2, 0] (by decide) rfl rfl (by decide) (by decide) (by decide) (fun u => rfl) 0 1 rfl rfl rfl rfl hl.1 rfl (Nat.le_of_ble_eq_true rfl) dX1_foldOther_7 ⟨Nat.le_of_ble_eq_true rfl, Nat.le_of_ble_eq_true rfl⟩ (fun r_14 u H locs hw_15 hP hD hS => ?_)
  try dsimp only at hw_15
  have hP : va_P D vwCl [(hF, .inr (1, [.ref cF, .ref aF, .ref wF])), (cF, .inl (cI, 39, .inl f)), (aF, .inr (0, [.long t1, .long t2, .long t3, .long t4]))] H := hP
  have hD : va_D A [(hF, .inr (1, [.ref cF, .ref aF, .ref wF])), (cF, .inl (cI, 39, .inl f)), (aF, .inr (0, [.long t1, .long t2, .long t3, .long t4]))] := hD
  subst r_14
  refine lv_i2l (v := (f (5 * ib + 4)).toInt64) hx hb dX1_foldOther_10 rfl ?_
  refine lv_ladd hx hb dX1_foldOther_11 ?_
  refine lv_lstore_n (lv' := [(1, .long ((31 * h0) + ((f (5 * ib + 4)).toInt64))), (0, .ref hF), (3, .int (nI ib))]) hx hb dX1_foldOther_12 rfl hl (by decide) rfl (fun ls hl => ?_)
  refine lv_aload_n hx hb dX1_foldOther_13 rfl (lv_at hl 1 rfl) ?_
  refine lv_iconst (v := 0) hx hb dX1_foldOther_14 (by decide) ?_
  refine lv_iload_n hx hb dX1_foldOther_15 rfl (lv_at hl 2 rfl) ?_
  refine z_VR (n := 2) (wn := (fun u : Int64 × Int64 × Int64 × Int64 => [(hF, .inr (1, [.ref cF, .ref aF, .ref wF])), (cF, .inl (cI, 39, .inl f)), (aF, .inr (0, [.long u.1, .long u.2.1, .long u.2.2.1, .long u.2.2.2]))])) (wr := []) (As := [.int 0, .int (nI ib)]) (rest := []) ⟨hx, hb, hml, hown, hts⟩ hK hP hD hS hA hT (kX1_approachOf l D cI cB tE tN hF cF aF wF f t1 t2 t3 t4 0 ib _ (by omega) (by omega)) gX1_foldOther_X1_approachOf rfl rfl rfl (by decide +kernel) ⟨Nat.le_of_ble_eq_true rfl, Nat.le_of_ble_eq_true rfl⟩ [0, 1, 2] [] [0, 1, 2] (by decide) rfl rfl (by decide) (by decide) (by decide) (fun u => rfl) 0 1 rfl rfl rfl rfl hl.1 rfl (Nat.le_of_ble_eq_true rfl) dX1_foldOther_16 ⟨Nat.le_of_ble_eq_true rfl, Nat.le_of_ble_eq_true rfl⟩ (fun r_20 u H locs hw_21 hP hD hS => ?_)
  obtain ⟨b1_16, b2_17, b3_18, b4_19⟩ := u
  try dsimp only at hw_21
  have hP : va_P D vwCl [(hF, .inr (1, [.ref cF, .ref aF, .ref wF])), (cF, .inl (cI, 39, .inl f)), (aF, .inr (0, [.long b1_16, .long b2_17, .long b3_18, .long b4_19]))] H := hP
  have hD : va_D A [(hF, .inr (1, [.ref cF, .ref aF, .ref wF])), (cF, .inl (cI, 39, .inl f)), (aF, .inr (0, [.long b1_16, .long b2_17, .long b3_18, .long b4_19]))] := hD
  obtain ⟨hw_21, hq_22⟩ := hw_21
  subst r_20
  have hm := hq_22
  refine lv_astore (lv' := [(4, .ref aF), (1, .long ((31 * h0) + ((f (5 * ib + 4)).toInt64))), (0, .ref hF), (3, .int (nI ib))]) hx hb dX1_foldOther_19 hl (by decide) rfl (fun ls hl => ?_)
  refine lv_iconst (v := 0) hx hb dX1_foldOther_21 (by decide) ?_
  refine lv_istore (lv' := [(5, .int 0), (4, .ref aF), (1, .long ((31 * h0) + ((f (5 * ib + 4)).toInt64))), (0, .ref hF), (3, .int (nI ib))]) hx hb dX1_foldOther_22 hl (by decide) rfl (fun ls hl => ?_)
  exact lp24 _ 0 ((31 * h0) + ((f (5 * ib + 4)).toInt64)) b1_16 b2_17 b3_18 b4_19 _ _ _ rfl (by omega) hm rfl hP hD hS (lv_sub hl [0, 1, 2, 3, 4] rfl)
