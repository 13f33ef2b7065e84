theorem ex_up {P : Nat → Prop} {n a : Nat} (h : ∃ j, j < n ∧ j ≠ a ∧ P j) : ∃ j, j < n + 1 ∧ j ≠ a ∧ P j := by
  obtain ⟨j, h1, h2⟩ := h
  exact ⟨j, by omega, h2⟩
set_option maxHeartbeats 4000000 in
set_option maxRecDepth 100000 in
theorem kX5_isClear (l : Launch) (D : va_G) (cI cB : ClassId) (tE tN : Nat) (oM : Nat) (mN : Nat) (mA : Nat) (mP : Nat) (mR : Nat) (mT : Nat) (mL : Nat) (mB : Nat) (ks : Nat) (ln : Nat) (x1 : Int64) (x2 : Int64) (x3 : Int64) (x4 : Int64) (y1 : Int64) (y2 : Int64) (y3 : Int64) (y4 : Int64) (od : Int32) (spt : Int32) (wa : Int32) (hs : Int64) (qn : Nat → Int32) (f : Nat → Int32) (N : Nat) (ia : Nat) (ph : Int32) (ps : Int32) (kh : Nat) (sz : Nat) (hR : Rg N f qn) (hI : Iv f) (hNN : nN f = N) (ha : ia ≤ N) (hkh : ph = nI kh) (hkh15 : kh ≤ 15) (hps : inr ps 0 9) : zI l yX5_isClear wsX5_isClear ({ frames := 3, cells := 0, slots := 0, locals := 77 }) D cI cB tE tN [.ref oM, .int (nI ia), .int ph, .int ps] [(oM, .inr (5, [.ref mN, .ref mA, .ref mP, .int (nI ks), .ref mR, .ref mT, .int (nI ln), .long x1, .long x2, .long x3, .long x4, .long y1, .long y2, .long y3, .long y4, .ref mL, .ref mB, .int od, .int spt, .int wa, .long hs])), (mN, .inl (cI, 39, .inl qn))] sz (fun u : Int64 × Int64 × Int64 × Int64 × Int64 × Int64 × Int64 × Int64 => [(oM, .inr (5, [.ref mN, .ref mA, .ref mP, .int (nI ks), .ref mR, .ref mT, .int (nI ln), .long u.1, .long u.2.1, .long u.2.2.1, .long u.2.2.2.1, .long u.2.2.2.2.1, .long u.2.2.2.2.2.1, .long u.2.2.2.2.2.2.1, .long u.2.2.2.2.2.2.2, .ref mL, .ref mB, .int od, .int spt, .int wa, .long hs])), (mN, .inl (cI, 39, .inl qn))]) (fun (r : Int32) (u : Int64 × Int64 × Int64 × Int64 × Int64 × Int64 × Int64 × Int64) => r = b2i (cClr f N ia ph ps)) 0 0 := by
  refine zI_mk (cc := cX5_isClear) (maxL := 6) (rt := .boolean) (by decide) rfl (Nat.le_of_ble_eq_true rfl) ?_
  intro p e s m below meth c A Q ls S0 hname hA hK hP hD hT hS hQ hl
  obtain ⟨hx, hb, hml, hown, hts⟩ := id S0
  have hl : lv_has ls 6 [(0, .ref oM), (1, .int (nI ia)), (2, .int ph), (3, .int ps)] := hl
  have L7 : (Cond.fieldLink RX5 7 "PastAndClearModel" "now" "[I").before ([.ref oM, .int (nI ia), .int ph, .int ps] : List Value).toArray s = true := hts (.fieldLink RX5 7 "PastAndClearModel" "now" "[I") (by decide +kernel)
  have N5 : ∀ w ∈ u_ws RX5 TX5 21, w ∈ wsX5_isClear := by decide +kernel
  have hN6 : N ≤ 6 := by rw [← hNN]; exact hI.1
  have lp6 : ∀ (k : Nat) (n : Nat) (bz : Bool) (p1 : Int64) (p2 : Int64) (p3 : Int64) (p4 : Int64) (q1 : Int64) (q2 : Int64) (q3 : Int64) (q4 : Int64) (H : Heap) (locs : List Loc) (ls : Array Slot), N + 1 - n = k → (n ≤ N + 1) → (bz = true → ∀ j, j < n → j ≠ ia → cWR f ia ph ps j = false) → (bz = false → ∃ j, j < n ∧ j ≠ ia ∧ cWR f ia ph ps j = true) → va_P D vwCl [(oM, .inr (5, [.ref mN, .ref mA, .ref mP, .int (nI ks), .ref mR, .ref mT, .int (nI ln), .long p1, .long p2, .long p3, .long p4, .long q1, .long q2, .long q3, .long q4, .ref mL, .ref mB, .int od, .int spt, .int wa, .long hs])), (mN, .inl (cI, 39, .inl qn))] H → va_D A [(oM, .inr (5, [.ref mN, .ref mA, .ref mP, .int (nI ks), .ref mR, .ref mT, .int (nI ln), .long p1, .long p2, .long p3, .long p4, .long q1, .long q2, .long q3, .long q4, .ref mL, .ref mB, .int od, .int spt, .int wa, .long hs])), (mN, .inl (cI, 39, .inl qn))] → va_S A s.heap H locs → lv_has ls 6 [(5, .int (nI n)), (4, .int (b2i bz)), (0, .ref oM), (1, .int (nI ia)), (2, .int ph), (3, .int ps)] → W p l e ({ frames := 3, cells := 0, slots := 0, locals := 77 } : Room) s m ([.ref oM, .int (nI ia), .int ph, .int ps] : List Value).toArray below meth c H locs 0 0 Q (F0 m 6 ls []) := by
    intro k
    induction k using Nat.strongRecOn with
    | ind k ih =>
    intro n bz p1 p2 p3 p4 q1 q2 q3 q4 H locs ls hk hn h1 h2 hP hD hS hl
    refine lv_iload hx hb dX5_isClear_6 (lv_at hl 0 rfl) ?_
    refine lv_aload_n hx hb dX5_isClear_8 rfl (lv_at hl 2 rfl) ?_
    refine va_get (D := D) (ci := 5) (v := .ref mN) (C := RX5) (T := TX5) (N := 21) hx hb hts N5 hown hK hP 0 rfl rfl 0 (by decide) L7 (fun _ h9 => h9) rfl dX5_isClear_9 ?_
    refine lv_iconst (v := 0) hx hb dX5_isClear_12 (by decide) ?_
    refine z_ild (v := nI (N + 1)) (j := 0) hx hb hK hP 1 rfl rfl (by omega) (by decide) (hR.1) dX5_isClear_13 ?_
    refine lv_icmp_ge (tgt := 57) hx hb dX5_isClear_14 (by decide) (fun c_1 => ?_) (fun c_1 => ?_)
    · skip
      have c_1 := (z_le (a := N + 1) (b := n) rfl rfl (by omega) (by omega)).mp c_1
      refine lv_iload hx hb dX5_isClear_57 (lv_at hl 1 rfl) ?_
      exact hQ (b2i bz) (p1, p2, p3, p4, q1, q2, q3, q4) _ _ _ _ (z_nb _) (by rw [← cl_end (bz := bz) (by rw [show N + 1 = n by omega]; exact h1) (by rw [show N + 1 = n by omega]; exact h2)]) hP hD hS dX5_isClear_59
    · skip
      have c_1 := (z_len (a := N + 1) (b := n) rfl rfl (by omega) (by omega)).mp c_1
      refine lv_iload hx hb dX5_isClear_17 (lv_at hl 0 rfl) ?_
      refine lv_iload_n hx hb dX5_isClear_19 rfl (lv_at hl 3 rfl) ?_
      refine lv_icmp_eq (tgt := 51) hx hb dX5_isClear_20 (by decide) (fun c_2 => ?_) (fun c_2 => ?_)
      · skip
        have c_2 := (z_eq (a := n) (b := ia) rfl rfl (by omega) (by omega)).mp c_2
        refine lv_iinc (v := nI (n + 1)) (lv' := [(5, .int (nI (n + 1))), (4, .int (b2i bz)), (0, .ref oM), (1, .int (nI ia)), (2, .int ph), (3, .int ps)]) hx hb dX5_isClear_51 hl (k := 0) rfl (z_add rfl rfl) (by decide) rfl (fun ls hl => ?_)
        refine lv_goto (tgt := 6) hx hb dX5_isClear_54 (by decide) ?_
        exact ih _ (by omega) (n + 1) bz p1 p2 p3 p4 q1 q2 q3 q4 _ _ _ rfl (by omega) (fun h => z_all (h1 h) (fun e => absurd c_2 e)) (fun h => ex_up (h2 h)) hP hD hS (lv_sub hl [0, 1, 2, 3, 4, 5] rfl)
      · skip
        have c_2 := (z_eqn (a := n) (b := ia) rfl rfl (by omega) (by omega)).mp c_2
        refine lv_aload_n hx hb dX5_isClear_23 rfl (lv_at hl 2 rfl) ?_
        refine lv_iload_n hx hb dX5_isClear_24 rfl (lv_at hl 3 rfl) ?_
        refine lv_iload hx hb dX5_isClear_25 (lv_at hl 0 rfl) ?_
        refine lv_iload_n hx hb dX5_isClear_27 rfl (lv_at hl 4 rfl) ?_
        refine lv_iload_n hx hb dX5_isClear_28 rfl (lv_at hl 5 rfl) ?_
        refine z_VV (n := 4) (wn := (fun u : Unit => [(oM, .inr (5, [.ref mN, .ref mA, .ref mP, .int (nI ks), .ref mR, .ref mT, .int (nI ln), .long (cRx f ia n), .long (cRy f ia n), .long (cVx f ph ps n), .long (cVy f ph ps n), .long q1, .long q2, .long q3, .long q4, .ref mL, .ref mB, .int od, .int spt, .int wa, .long hs])), (mN, .inl (cI, 39, .inl qn))])) (wr := []) (As := [.int (nI ia), .int (nI n), .int ph, .int ps]) (rest := []) ⟨hx, hb, hml, hown, hts⟩ hK hP hD hS hA hT (kX5_lays l D cI cB tE tN oM mN mA mP mR mT mL mB ks ln p1 p2 p3 p4 q1 q2 q3 q4 od spt wa hs qn f N ia n ph ps kh _ (hR) (hI) (hNN) (by omega) (by omega) (hkh) (hkh15)) gX5_isClear_X5_lays rfl rfl rfl (by decide +kernel) ⟨Nat.le_of_ble_eq_true rfl, Nat.le_of_ble_eq_true rfl⟩ [0, 1] [] [0, 1] (by decide) rfl rfl (by decide) (by decide) (by decide) (fun u => rfl) 0 5 rfl rfl rfl rfl hl.1 rfl (Nat.le_of_ble_eq_true rfl) dX5_isClear_29 ⟨Nat.le_of_ble_eq_true rfl, Nat.le_of_ble_eq_true rfl⟩ (fun u H locs hw_4 hP hD hS => ?_)
        try dsimp only at hw_4
        have hP : va_P D vwCl [(oM, .inr (5, [.ref mN, .ref mA, .ref mP, .int (nI ks), .ref mR, .ref mT, .int (nI ln), .long (cRx f ia n), .long (cRy f ia n), .long (cVx f ph ps n), .long (cVy f ph ps n), .long q1, .long q2, .long q3, .long q4, .ref mL, .ref mB, .int od, .int spt, .int wa, .long hs])), (mN, .inl (cI, 39, .inl qn))] H := hP
        have hD : va_D A [(oM, .inr (5, [.ref mN, .ref mA, .ref mP, .int (nI ks), .ref mR, .ref mT, .int (nI ln), .long (cRx f ia n), .long (cRy f ia n), .long (cVx f ph ps n), .long (cVy f ph ps n), .long q1, .long q2, .long q3, .long q4, .ref mL, .ref mB, .int od, .int spt, .int wa, .long hs])), (mN, .inl (cI, 39, .inl qn))] := hD
        refine lv_aload_n hx hb dX5_isClear_32 rfl (lv_at hl 2 rfl) ?_
        refine z_VI (n := 0) (wn := (fun u : Int64 × Int64 × Int64 × Int64 => [(oM, .inr (5, [.ref mN, .ref mA, .ref mP, .int (nI ks), .ref mR, .ref mT, .int (nI ln), .long (cRx f ia n), .long (cRy f ia n), .long (cVx f ph ps n), .long (cVy f ph ps n), .long u.1, .long u.2.1, .long u.2.2.1, .long u.2.2.2, .ref mL, .ref mB, .int od, .int spt, .int wa, .long hs])), (mN, .inl (cI, 39, .inl qn))])) (wr := []) (As := []) (rest := []) ⟨hx, hb, hml, hown, hts⟩ hK hP hD hS hA hT (kX5_isRisk l D cI cB tE tN oM mN mA mP mR mT mL mB ks ln (cRx f ia n) (cRy f ia n) (cVx f ph ps n) (cVy f ph ps n) q1 q2 q3 q4 od spt wa hs qn f N _ (hR) (hI) (hNN) (Bd_of hI (by omega) (by omega) hps)) gX5_isClear_X5_isRisk rfl rfl rfl (by decide +kernel) ⟨Nat.le_of_ble_eq_true rfl, Nat.le_of_ble_eq_true rfl⟩ [0, 1] [] [0, 1] (by decide) rfl rfl (by decide) (by decide) (by decide) (fun u => rfl) 0 5 rfl rfl rfl rfl hl.1 rfl (Nat.le_of_ble_eq_true rfl) dX5_isClear_33 ⟨Nat.le_of_ble_eq_true rfl, Nat.le_of_ble_eq_true rfl⟩ (fun r_9 u H locs hw_10 hP hD hS => ?_)
        obtain ⟨q1_5, q2_6, q3_7, q4_8⟩ := u
        try dsimp only at hw_10
        have hP : va_P D vwCl [(oM, .inr (5, [.ref mN, .ref mA, .ref mP, .int (nI ks), .ref mR, .ref mT, .int (nI ln), .long (cRx f ia n), .long (cRy f ia n), .long (cVx f ph ps n), .long (cVy f ph ps n), .long q1_5, .long q2_6, .long q3_7, .long q4_8, .ref mL, .ref mB, .int od, .int spt, .int wa, .long hs])), (mN, .inl (cI, 39, .inl qn))] H := hP
        have hD : va_D A [(oM, .inr (5, [.ref mN, .ref mA, .ref mP, .int (nI ks), .ref mR, .ref mT, .int (nI ln), .long (cRx f ia n), .long (cRy f ia n), .long (cVx f ph ps n), .long (cVy f ph ps n), .long q1_5, .long q2_6, .long q3_7, .long q4_8, .ref mL, .ref mB, .int od, .int spt, .int wa, .long hs])), (mN, .inl (cI, 39, .inl qn))] := hD
        obtain ⟨hw_10, hq_11⟩ := hw_10
        subst r_9
        refine z_topi (x := b2i (cRk (mS (cRx f ia n) (cRy f ia n) (cVx f ph ps n) (cVy f ph ps n)).1 (mS (cRx f ia n) (cRy f ia n) (cVx f ph ps n) (cVy f ph ps n)).2.1 (mS (cRx f ia n) (cRy f ia n) (cVx f ph ps n) (cVy f ph ps n)).2.2.1 (mS (cRx f ia n) (cRy f ia n) (cVx f ph ps n) (cVy f ph ps n)).2.2.2 (f 36).toInt64 (f 37).toInt64)) (y := b2i (cWR f ia ph ps n)) (by rw [cWR, cMs_mS]) ?_
        refine lv_if_ne (tgt := 48) hx hb dX5_isClear_36 (by decide) (fun c_12 => ?_) (fun c_12 => ?_)
        · skip
          have c_12 := z_b1 c_12
          refine lv_iconst (v := 0) hx hb dX5_isClear_48 (by decide) ?_
          refine lv_istore (lv' := [(4, .int 0), (5, .int (nI n)), (0, .ref oM), (1, .int (nI ia)), (2, .int ph), (3, .int ps)]) hx hb dX5_isClear_49 hl (by decide) rfl (fun ls hl => ?_)
          refine lv_iinc (v := nI (n + 1)) (lv' := [(5, .int (nI (n + 1))), (4, .int 0), (0, .ref oM), (1, .int (nI ia)), (2, .int ph), (3, .int ps)]) hx hb dX5_isClear_51 hl (k := 1) rfl (z_add rfl rfl) (by decide) rfl (fun ls hl => ?_)
          refine lv_goto (tgt := 6) hx hb dX5_isClear_54 (by decide) ?_
          exact ih _ (by omega) (n + 1) false (cRx f ia n) (cRy f ia n) (cVx f ph ps n) (cVy f ph ps n) q1_5 q2_6 q3_7 q4_8 _ _ _ rfl (by omega) (fun h => Bool.noConfusion h) (fun _ => ⟨n, by omega, c_2, c_12⟩) hP hD hS (lv_sub hl [0, 1, 2, 3, 4, 5] rfl)
        · skip
          have c_12 := z_b0 c_12
          refine lv_iload hx hb dX5_isClear_39 (lv_at hl 1 rfl) ?_
          refine lv_if_eq (tgt := 48) hx hb dX5_isClear_41 (by decide) (fun c_13 => ?_) (fun c_13 => ?_)
          · skip
            have c_13 := z_b0 c_13
            refine lv_iconst (v := 0) hx hb dX5_isClear_48 (by decide) ?_
            refine lv_istore (lv' := [(4, .int 0), (5, .int (nI n)), (0, .ref oM), (1, .int (nI ia)), (2, .int ph), (3, .int ps)]) hx hb dX5_isClear_49 hl (by decide) rfl (fun ls hl => ?_)
            refine lv_iinc (v := nI (n + 1)) (lv' := [(5, .int (nI (n + 1))), (4, .int 0), (0, .ref oM), (1, .int (nI ia)), (2, .int ph), (3, .int ps)]) hx hb dX5_isClear_51 hl (k := 1) rfl (z_add rfl rfl) (by decide) rfl (fun ls hl => ?_)
            refine lv_goto (tgt := 6) hx hb dX5_isClear_54 (by decide) ?_
            exact ih _ (by omega) (n + 1) false (cRx f ia n) (cRy f ia n) (cVx f ph ps n) (cVy f ph ps n) q1_5 q2_6 q3_7 q4_8 _ _ _ rfl (by omega) (fun h => Bool.noConfusion h) (fun _ => ex_up (h2 c_13)) hP hD hS (lv_sub hl [0, 1, 2, 3, 4, 5] rfl)
          · skip
            have c_13 := z_b1 c_13
            refine lv_iconst (v := 1) hx hb dX5_isClear_44 (by decide) ?_
            refine lv_goto (tgt := 49) hx hb dX5_isClear_45 (by decide) ?_
            refine lv_istore (lv' := [(4, .int 1), (5, .int (nI n)), (0, .ref oM), (1, .int (nI ia)), (2, .int ph), (3, .int ps)]) hx hb dX5_isClear_49 hl (by decide) rfl (fun ls hl => ?_)
            refine lv_iinc (v := nI (n + 1)) (lv' := [(5, .int (nI (n + 1))), (4, .int 1), (0, .ref oM), (1, .int (nI ia)), (2, .int ph), (3, .int ps)]) hx hb dX5_isClear_51 hl (k := 1) rfl (z_add rfl rfl) (by decide) rfl (fun ls hl => ?_)
            refine lv_goto (tgt := 6) hx hb dX5_isClear_54 (by decide) ?_
            exact ih _ (by omega) (n + 1) true (cRx f ia n) (cRy f ia n) (cVx f ph ps n) (cVy f ph ps n) q1_5 q2_6 q3_7 q4_8 _ _ _ rfl (by omega) (fun _ => z_all (h1 c_13) (fun _ => c_12)) (fun h => Bool.noConfusion h) hP hD hS (lv_sub hl [0, 1, 2, 3, 4, 5] rfl)
  refine lv_iconst (v := 1) hx hb dX5_isClear_0 (by decide) ?_
  refine lv_istore (lv' := [(4, .int 1), (0, .ref oM), (1, .int (nI ia)), (2, .int ph), (3, .int ps)]) hx hb dX5_isClear_1 hl (by decide) rfl (fun ls hl => ?_)
  refine lv_iconst (v := 0) hx hb dX5_isClear_3 (by decide) ?_
  refine lv_istore (lv' := [(5, .int 0), (4, .int 1), (0, .ref oM), (1, .int (nI ia)), (2, .int ph), (3, .int ps)]) hx hb dX5_isClear_4 hl (by decide) rfl (fun ls hl => ?_)
  exact lp6 _ 0 true x1 x2 x3 x4 y1 y2 y3 y4 _ _ _ rfl (by omega) (fun _ j h => absurd h (Nat.not_lt_zero j)) (fun h => Bool.noConfusion h) hP hD hS (lv_sub hl [0, 1, 2, 3, 4, 5] rfl)

set_option maxHeartbeats 4000000 in
set_option maxRecDepth 100000 in
theorem kX5_mustGiveWay (l : Launch) (D : va_G) (cI cB : ClassId) (tE tN : Nat) (oM : Nat) (mN : Nat) (mA : Nat) (mP : Nat) (mR : Nat) (mT : Nat) (mL : Nat) (mB : Nat) (ks : Nat) (ln : Nat) (x1 : Int64) (x2 : Int64) (x3 : Int64) (x4 : Int64) (y1 : Int64) (y2 : Int64) (y3 : Int64) (y4 : Int64) (od : Int32) (spt : Int32) (wa : Int32) (hs : Int64) (qn : Nat → Int32) (f : Nat → Int32) (N : Nat) (ia : Nat) (sz : Nat) (hR : Rg N f qn) (hI : Iv f) (hNN : nN f = N) (ha : ia ≤ N) : zI l yX5_mustGiveWay wsX5_mustGiveWay ({ frames := 6, cells := 0, slots := 0, locals := 145 }) D cI cB tE tN [.ref oM, .int (nI ia)] [(oM, .inr (5, [.ref mN, .ref mA, .ref mP, .int (nI ks), .ref mR, .ref mT, .int (nI ln), .long x1, .long x2, .long x3, .long x4, .long y1, .long y2, .long y3, .long y4, .ref mL, .ref mB, .int od, .int spt, .int wa, .long hs])), (mN, .inl (cI, 39, .inl qn))] sz (fun u : Int64 × Int64 × Int64 × Int64 × Int64 × Int64 × Int64 × Int64 => [(oM, .inr (5, [.ref mN, .ref mA, .ref mP, .int (nI ks), .ref mR, .ref mT, .int (nI ln), .long u.1, .long u.2.1, .long u.2.2.1, .long u.2.2.2.1, .long u.2.2.2.2.1, .long u.2.2.2.2.2.1, .long u.2.2.2.2.2.2.1, .long u.2.2.2.2.2.2.2, .ref mL, .ref mB, .int od, .int spt, .int wa, .long hs])), (mN, .inl (cI, 39, .inl qn))]) (fun (r : Int32) (u : Int64 × Int64 × Int64 × Int64 × Int64 × Int64 × Int64 × Int64) => r = b2i (cMg f N ia)) 0 0 := by
  refine zI_mk (cc := cX5_mustGiveWay) (maxL := 4) (rt := .boolean) (by decide) rfl (Nat.le_of_ble_eq_true rfl) ?_
  intro p e s m below meth c A Q ls S0 hname hA hK hP hD hT hS hQ hl
  obtain ⟨hx, hb, hml, hown, hts⟩ := id S0
  have hl : lv_has ls 4 [(0, .ref oM), (1, .int (nI ia))] := hl
  have L7 : (Cond.fieldLink RX5 7 "PastAndClearModel" "now" "[I").before ([.ref oM, .int (nI ia)] : List Value).toArray s = true := hts (.fieldLink RX5 7 "PastAndClearModel" "now" "[I") (by decide +kernel)
  have N5 : ∀ w ∈ u_ws RX5 TX5 21, w ∈ wsX5_mustGiveWay := by decide +kernel
  have hN6 : N ≤ 6 := by rw [← hNN]; exact hI.1
  have lp4 : ∀ (k : Nat) (n : Nat) (bz : Bool) (p1 : Int64) (p2 : Int64) (p3 : Int64) (p4 : Int64) (q1 : Int64) (q2 : Int64) (q3 : Int64) (q4 : Int64) (H : Heap) (locs : List Loc) (ls : Array Slot), N + 1 - n = k → (n ≤ N + 1) → (bz = true → ∃ j, j < n ∧ j ≠ ia ∧ mD f ia j) → (bz = false → ∀ j, j < n → j ≠ ia → ¬ mD f ia j) → va_P D vwCl [(oM, .inr (5, [.ref mN, .ref mA, .ref mP, .int (nI ks), .ref mR, .ref mT, .int (nI ln), .long p1, .long p2, .long p3, .long p4, .long q1, .long q2, .long q3, .long q4, .ref mL, .ref mB, .int od, .int spt, .int wa, .long hs])), (mN, .inl (cI, 39, .inl qn))] H → va_D A [(oM, .inr (5, [.ref mN, .ref mA, .ref mP, .int (nI ks), .ref mR, .ref mT, .int (nI ln), .long p1, .long p2, .long p3, .long p4, .long q1, .long q2, .long q3, .long q4, .ref mL, .ref mB, .int od, .int spt, .int wa, .long hs])), (mN, .inl (cI, 39, .inl qn))] → va_S A s.heap H locs → lv_has ls 4 [(3, .int (nI n)), (2, .int (b2i bz)), (0, .ref oM), (1, .int (nI ia))] → W p l e ({ frames := 6, cells := 0, slots := 0, locals := 145 } : Room) s m ([.ref oM, .int (nI ia)] : List Value).toArray below meth c H locs 0 0 Q (F0 m 4 ls []) := by
    intro k
    induction k using Nat.strongRecOn with
    | ind k ih =>
    intro n bz p1 p2 p3 p4 q1 q2 q3 q4 H locs ls hk hn h1 h2 hP hD hS hl
    refine lv_iload_n hx hb dX5_mustGiveWay_4 rfl (lv_at hl 0 rfl) ?_
    refine lv_aload_n hx hb dX5_mustGiveWay_5 rfl (lv_at hl 2 rfl) ?_
    refine va_get (D := D) (ci := 5) (v := .ref mN) (C := RX5) (T := TX5) (N := 21) hx hb hts N5 hown hK hP 0 rfl rfl 0 (by decide) L7 (fun _ h9 => h9) rfl dX5_mustGiveWay_6 ?_
    refine lv_iconst (v := 0) hx hb dX5_mustGiveWay_9 (by decide) ?_
    refine z_ild (v := nI (N + 1)) (j := 0) hx hb hK hP 1 rfl rfl (by omega) (by decide) (hR.1) dX5_mustGiveWay_10 ?_
    refine lv_icmp_ge (tgt := 58) hx hb dX5_mustGiveWay_11 (by decide) (fun c_1 => ?_) (fun c_1 => ?_)
    · skip
      have c_1 := (z_le (a := N + 1) (b := n) rfl rfl (by omega) (by omega)).mp c_1
      refine lv_iload_n hx hb dX5_mustGiveWay_58 rfl (lv_at hl 1 rfl) ?_
      exact hQ (b2i bz) (p1, p2, p3, p4, q1, q2, q3, q4) _ _ _ _ (z_nb _) (by rw [← mg_end (bz := bz) hN6 (by rw [show N + 1 = n by omega]; exact h1) (by rw [show N + 1 = n by omega]; exact h2)]) hP hD hS dX5_mustGiveWay_59
    · skip
      have c_1 := (z_len (a := N + 1) (b := n) rfl rfl (by omega) (by omega)).mp c_1
      refine lv_iload_n hx hb dX5_mustGiveWay_14 rfl (lv_at hl 0 rfl) ?_
      refine lv_iload_n hx hb dX5_mustGiveWay_15 rfl (lv_at hl 3 rfl) ?_
      refine lv_icmp_eq (tgt := 52) hx hb dX5_mustGiveWay_16 (by decide) (fun c_2 => ?_) (fun c_2 => ?_)
      · skip
        have c_2 := (z_eq (a := n) (b := ia) rfl rfl (by omega) (by omega)).mp c_2
        refine lv_iinc (v := nI (n + 1)) (lv' := [(3, .int (nI (n + 1))), (2, .int (b2i bz)), (0, .ref oM), (1, .int (nI ia))]) hx hb dX5_mustGiveWay_52 hl (k := 0) rfl (z_add rfl rfl) (by decide) rfl (fun ls hl => ?_)
        refine lv_goto (tgt := 4) hx hb dX5_mustGiveWay_55 (by decide) ?_
        exact ih _ (by omega) (n + 1) bz p1 p2 p3 p4 q1 q2 q3 q4 _ _ _ rfl (by omega) (fun h => ex_up (h1 h)) (fun h => z_all (h2 h) (fun e => absurd c_2 e)) hP hD hS (lv_sub hl [0, 1, 2, 3] rfl)
      · skip
        have c_2 := (z_eqn (a := n) (b := ia) rfl rfl (by omega) (by omega)).mp c_2
        refine lv_iload_n hx hb dX5_mustGiveWay_19 rfl (lv_at hl 1 rfl) ?_
        refine lv_if_ne (tgt := 46) hx hb dX5_mustGiveWay_20 (by decide) (fun c_3 => ?_) (fun c_3 => ?_)
        · skip
          have c_3 := z_b1 c_3
          refine lv_iconst (v := 1) hx hb dX5_mustGiveWay_46 (by decide) ?_
          refine lv_goto (tgt := 51) hx hb dX5_mustGiveWay_47 (by decide) ?_
          refine lv_istore_n (lv' := [(2, .int 1), (3, .int (nI n)), (0, .ref oM), (1, .int (nI ia))]) hx hb dX5_mustGiveWay_51 rfl hl (by decide) rfl (fun ls hl => ?_)
          refine lv_iinc (v := nI (n + 1)) (lv' := [(3, .int (nI (n + 1))), (2, .int 1), (0, .ref oM), (1, .int (nI ia))]) hx hb dX5_mustGiveWay_52 hl (k := 1) rfl (z_add rfl rfl) (by decide) rfl (fun ls hl => ?_)
          refine lv_goto (tgt := 4) hx hb dX5_mustGiveWay_55 (by decide) ?_
          exact ih _ (by omega) (n + 1) true p1 p2 p3 p4 q1 q2 q3 q4 _ _ _ rfl (by omega) (fun _ => ex_up (h1 c_3)) (fun h => Bool.noConfusion h) hP hD hS (lv_sub hl [0, 1, 2, 3] rfl)
        · skip
          have c_3 := z_b0 c_3
          refine lv_iload_n hx hb dX5_mustGiveWay_23 rfl (lv_at hl 3 rfl) ?_
          refine lv_if_ne (tgt := 36) hx hb dX5_mustGiveWay_24 (by decide) (fun c_4 => ?_) (fun c_4 => ?_)
          · skip
            have c_4 := (z_eqn (a := ia) (b := 0) rfl rfl (by omega) (by omega)).mp c_4
            refine lv_aload_n hx hb dX5_mustGiveWay_36 rfl (lv_at hl 2 rfl) ?_
            refine lv_iload_n hx hb dX5_mustGiveWay_37 rfl (lv_at hl 3 rfl) ?_
            refine lv_iload_n hx hb dX5_mustGiveWay_38 rfl (lv_at hl 0 rfl) ?_
            refine z_VI (n := 2) (wn := (fun u : Int64 × Int64 × Int64 × Int64 × Int64 × Int64 × Int64 × Int64 => [(oM, .inr (5, [.ref mN, .ref mA, .ref mP, .int (nI ks), .ref mR, .ref mT, .int (nI ln), .long u.1, .long u.2.1, .long u.2.2.1, .long u.2.2.2.1, .long u.2.2.2.2.1, .long u.2.2.2.2.2.1, .long u.2.2.2.2.2.2.1, .long u.2.2.2.2.2.2.2, .ref mL, .ref mB, .int od, .int spt, .int wa, .long hs])), (mN, .inl (cI, 39, .inl qn))])) (wr := []) (As := [.int (nI ia), .int (nI n)]) (rest := []) ⟨hx, hb, hml, hown, hts⟩ hK hP hD hS hA hT (kX5_tableOf l D cI cB tE tN oM mN mA mP mR mT mL mB ks ln p1 p2 p3 p4 q1 q2 q3 q4 od spt wa hs qn f N ia n _ (hR) (hI) (hNN) (by omega) (by omega)) gX5_mustGiveWay_X5_tableOf rfl rfl rfl (by decide +kernel) ⟨Nat.le_of_ble_eq_true rfl, Nat.le_of_ble_eq_true rfl⟩ [0, 1] [] [0, 1] (by decide) rfl rfl (by decide) (by decide) (by decide) (fun u => rfl) 0 5 rfl rfl rfl rfl hl.1 rfl (Nat.le_of_ble_eq_true rfl) dX5_mustGiveWay_39 ⟨Nat.le_of_ble_eq_true rfl, Nat.le_of_ble_eq_true rfl⟩ (fun r_13 u H locs hw_14 hP hD hS => ?_)
            obtain ⟨p1_5, p2_6, p3_7, p4_8, q1_9, q2_10, q3_11, q4_12⟩ := u
            try dsimp only at hw_14
            have hP : va_P D vwCl [(oM, .inr (5, [.ref mN, .ref mA, .ref mP, .int (nI ks), .ref mR, .ref mT, .int (nI ln), .long p1_5, .long p2_6, .long p3_7, .long p4_8, .long q1_9, .long q2_10, .long q3_11, .long q4_12, .ref mL, .ref mB, .int od, .int spt, .int wa, .long hs])), (mN, .inl (cI, 39, .inl qn))] H := hP
            have hD : va_D A [(oM, .inr (5, [.ref mN, .ref mA, .ref mP, .int (nI ks), .ref mR, .ref mT, .int (nI ln), .long p1_5, .long p2_6, .long p3_7, .long p4_8, .long q1_9, .long q2_10, .long q3_11, .long q4_12, .ref mL, .ref mB, .int od, .int spt, .int wa, .long hs])), (mN, .inl (cI, 39, .inl qn))] := hD
            subst r_13
            refine lv_iconst (v := 1) hx hb dX5_mustGiveWay_42 (by decide) ?_
            refine lv_icmp_ne (tgt := 50) hx hb dX5_mustGiveWay_43 (by decide) (fun c_15 => ?_) (fun c_15 => ?_)
            · skip
              refine lv_iconst (v := 0) hx hb dX5_mustGiveWay_50 (by decide) ?_
              refine lv_istore_n (lv' := [(2, .int 0), (3, .int (nI n)), (0, .ref oM), (1, .int (nI ia))]) hx hb dX5_mustGiveWay_51 rfl hl (by decide) rfl (fun ls hl => ?_)
              refine lv_iinc (v := nI (n + 1)) (lv' := [(3, .int (nI (n + 1))), (2, .int 0), (0, .ref oM), (1, .int (nI ia))]) hx hb dX5_mustGiveWay_52 hl (k := 1) rfl (z_add rfl rfl) (by decide) rfl (fun ls hl => ?_)
              refine lv_goto (tgt := 4) hx hb dX5_mustGiveWay_55 (by decide) ?_
              exact ih _ (by omega) (n + 1) false p1_5 p2_6 p3_7 p4_8 q1_9 q2_10 q3_11 q4_12 _ _ _ rfl (by omega) (fun h => Bool.noConfusion h) (fun _ => z_all (h2 c_3) (fun _ => (by first | (rw [mD, if_pos c_4]; exact c_15) | (rw [mD, if_neg c_4]; exact c_15)))) hP hD hS (lv_sub hl [0, 1, 2, 3] rfl)
            · skip
              refine lv_iconst (v := 1) hx hb dX5_mustGiveWay_46 (by decide) ?_
              refine lv_goto (tgt := 51) hx hb dX5_mustGiveWay_47 (by decide) ?_
              refine lv_istore_n (lv' := [(2, .int 1), (3, .int (nI n)), (0, .ref oM), (1, .int (nI ia))]) hx hb dX5_mustGiveWay_51 rfl hl (by decide) rfl (fun ls hl => ?_)
              refine lv_iinc (v := nI (n + 1)) (lv' := [(3, .int (nI (n + 1))), (2, .int 1), (0, .ref oM), (1, .int (nI ia))]) hx hb dX5_mustGiveWay_52 hl (k := 1) rfl (z_add rfl rfl) (by decide) rfl (fun ls hl => ?_)
              refine lv_goto (tgt := 4) hx hb dX5_mustGiveWay_55 (by decide) ?_
              exact ih _ (by omega) (n + 1) true p1_5 p2_6 p3_7 p4_8 q1_9 q2_10 q3_11 q4_12 _ _ _ rfl (by omega) (fun _ => ⟨n, by omega, c_2, (by first | (rw [mD, if_pos c_4]; exact c_15) | (rw [mD, if_neg c_4]; exact c_15))⟩) (fun h => Bool.noConfusion h) hP hD hS (lv_sub hl [0, 1, 2, 3] rfl)
          · skip
            have c_4 := (z_eq (a := ia) (b := 0) rfl rfl (by omega) (by omega)).mp c_4
            refine lv_aload_n hx hb dX5_mustGiveWay_27 rfl (lv_at hl 2 rfl) ?_
            refine lv_iload_n hx hb dX5_mustGiveWay_28 rfl (lv_at hl 0 rfl) ?_
            refine lv_iconst (v := 4) hx hb dX5_mustGiveWay_29 (by decide) ?_
            refine z_VI (n := 2) (wn := (fun u : Unit => [(oM, .inr (5, [.ref mN, .ref mA, .ref mP, .int (nI ks), .ref mR, .ref mT, .int (nI ln), .long p1, .long p2, .long p3, .long p4, .long q1, .long q2, .long q3, .long q4, .ref mL, .ref mB, .int od, .int spt, .int wa, .long hs])), (mN, .inl (cI, 39, .inl qn))])) (wr := []) (As := [.int (nI n), .int 4]) (rest := []) ⟨hx, hb, hml, hown, hts⟩ hK hP hD hS hA hT (kX5_shipOf l D cI cB tE tN oM mN mA mP mR mT mL mB ks ln p1 p2 p3 p4 q1 q2 q3 q4 od spt wa hs qn f N n 4 _ (hR) (hI) (hNN) (by omega) (by omega)) gX5_mustGiveWay_X5_shipOf rfl rfl rfl (by decide +kernel) ⟨Nat.le_of_ble_eq_true rfl, Nat.le_of_ble_eq_true rfl⟩ [0, 1] [] [0, 1] (by decide) rfl rfl (by decide) (by decide) (by decide) (fun u => rfl) 0 5 rfl rfl rfl rfl hl.1 rfl (Nat.le_of_ble_eq_true rfl) dX5_mustGiveWay_30 ⟨Nat.le_of_ble_eq_true rfl, Nat.le_of_ble_eq_true rfl⟩ (fun r_16 u H locs hw_17 hP hD hS => ?_)
            try dsimp only at hw_17
            have hP : va_P D vwCl [(oM, .inr (5, [.ref mN, .ref mA, .ref mP, .int (nI ks), .ref mR, .ref mT, .int (nI ln), .long p1, .long p2, .long p3, .long p4, .long q1, .long q2, .long q3, .long q4, .ref mL, .ref mB, .int od, .int spt, .int wa, .long hs])), (mN, .inl (cI, 39, .inl qn))] H := hP
            have hD : va_D A [(oM, .inr (5, [.ref mN, .ref mA, .ref mP, .int (nI ks), .ref mR, .ref mT, .int (nI ln), .long p1, .long p2, .long p3, .long p4, .long q1, .long q2, .long q3, .long q4, .ref mL, .ref mB, .int od, .int spt, .int wa, .long hs])), (mN, .inl (cI, 39, .inl qn))] := hD
            subst r_16
            refine lv_goto (tgt := 42) hx hb dX5_mustGiveWay_33 (by decide) ?_
            refine lv_iconst (v := 1) hx hb dX5_mustGiveWay_42 (by decide) ?_
            refine lv_icmp_ne (tgt := 50) hx hb dX5_mustGiveWay_43 (by decide) (fun c_18 => ?_) (fun c_18 => ?_)
            · skip
              refine lv_iconst (v := 0) hx hb dX5_mustGiveWay_50 (by decide) ?_
              refine lv_istore_n (lv' := [(2, .int 0), (3, .int (nI n)), (0, .ref oM), (1, .int (nI ia))]) hx hb dX5_mustGiveWay_51 rfl hl (by decide) rfl (fun ls hl => ?_)
              refine lv_iinc (v := nI (n + 1)) (lv' := [(3, .int (nI (n + 1))), (2, .int 0), (0, .ref oM), (1, .int (nI ia))]) hx hb dX5_mustGiveWay_52 hl (k := 1) rfl (z_add rfl rfl) (by decide) rfl (fun ls hl => ?_)
              refine lv_goto (tgt := 4) hx hb dX5_mustGiveWay_55 (by decide) ?_
              exact ih _ (by omega) (n + 1) false p1 p2 p3 p4 q1 q2 q3 q4 _ _ _ rfl (by omega) (fun h => Bool.noConfusion h) (fun _ => z_all (h2 c_3) (fun _ => (by first | (rw [mD, if_pos c_4]; exact c_18) | (rw [mD, if_neg c_4]; exact c_18)))) hP hD hS (lv_sub hl [0, 1, 2, 3] rfl)
            · skip
              refine lv_iconst (v := 1) hx hb dX5_mustGiveWay_46 (by decide) ?_
              refine lv_goto (tgt := 51) hx hb dX5_mustGiveWay_47 (by decide) ?_
              refine lv_istore_n (lv' := [(2, .int 1), (3, .int (nI n)), (0, .ref oM), (1, .int (nI ia))]) hx hb dX5_mustGiveWay_51 rfl hl (by decide) rfl (fun ls hl => ?_)
              refine lv_iinc (v := nI (n + 1)) (lv' := [(3, .int (nI (n + 1))), (2, .int 1), (0, .ref oM), (1, .int (nI ia))]) hx hb dX5_mustGiveWay_52 hl (k := 1) rfl (z_add rfl rfl) (by decide) rfl (fun ls hl => ?_)
              refine lv_goto (tgt := 4) hx hb dX5_mustGiveWay_55 (by decide) ?_
              exact ih _ (by omega) (n + 1) true p1 p2 p3 p4 q1 q2 q3 q4 _ _ _ rfl (by omega) (fun _ => ⟨n, by omega, c_2, (by first | (rw [mD, if_pos c_4]; exact c_18) | (rw [mD, if_neg c_4]; exact c_18))⟩) (fun h => Bool.noConfusion h) hP hD hS (lv_sub hl [0, 1, 2, 3] rfl)
  refine lv_iconst (v := 0) hx hb dX5_mustGiveWay_0 (by decide) ?_
  refine lv_istore_n (lv' := [(2, .int 0), (0, .ref oM), (1, .int (nI ia))]) hx hb dX5_mustGiveWay_1 rfl hl (by decide) rfl (fun ls hl => ?_)
  refine lv_iconst (v := 0) hx hb dX5_mustGiveWay_2 (by decide) ?_
  refine lv_istore_n (lv' := [(3, .int 0), (2, .int 0), (0, .ref oM), (1, .int (nI ia))]) hx hb dX5_mustGiveWay_3 rfl hl (by decide) rfl (fun ls hl => ?_)
  exact lp4 _ 0 false x1 x2 x3 x4 y1 y2 y3 y4 _ _ _ rfl (by omega) (fun h => Bool.noConfusion h) (fun _ j h => absurd h (Nat.not_lt_zero j)) hP hD hS (lv_sub hl [0, 1, 2, 3] rfl)

set_option maxHeartbeats 4000000 in
set_option maxRecDepth 100000 in
theorem kX5_adviceFor (l : Launch) (D : va_G) (cI cB : ClassId) (tE tN : Nat) (oM : Nat) (mN : Nat) (mA : Nat) (mP : Nat) (mR : Nat) (mT : Nat) (mL : Nat) (mB : Nat) (ks : Nat) (ln : Nat) (x1 : Int64) (x2 : Int64) (x3 : Int64) (x4 : Int64) (y1 : Int64) (y2 : Int64) (y3 : Int64) (y4 : Int64) (od : Int32) (spt : Int32) (wa : Int32) (hs : Int64) (qn : Nat → Int32) (f : Nat → Int32) (N : Nat) (ia : Nat) (sz : Nat) (hR : Rg N f qn) (hI : Iv f) (hNN : nN f = N) (ha : ia ≤ N) : zI l yX5_adviceFor wsX5_adviceFor ({ frames := 7, cells := 0, slots := 0, locals := 168 }) D cI cB tE tN [.ref oM, .int (nI ia)] [(oM, .inr (5, [.ref mN, .ref mA, .ref mP, .int (nI ks), .ref mR, .ref mT, .int (nI ln), .long x1, .long x2, .long x3, .long x4, .long y1, .long y2, .long y3, .long y4, .ref mL, .ref mB, .int od, .int spt, .int wa, .long hs])), (mN, .inl (cI, 39, .inl qn))] sz (fun u : Int64 × Int64 × Int64 × Int64 × Int64 × Int64 × Int64 × Int64 => [(oM, .inr (5, [.ref mN, .ref mA, .ref mP, .int (nI ks), .ref mR, .ref mT, .int (nI ln), .long u.1, .long u.2.1, .long u.2.2.1, .long u.2.2.2.1, .long u.2.2.2.2.1, .long u.2.2.2.2.2.1, .long u.2.2.2.2.2.2.1, .long u.2.2.2.2.2.2.2, .ref mL, .ref mB, .int od, .int spt, .int wa, .long hs])), (mN, .inl (cI, 39, .inl qn))]) (fun (r : Int32) (u : Int64 × Int64 × Int64 × Int64 × Int64 × Int64 × Int64 × Int64) => r = cAdv f N ia) 0 0 := by
  refine zI_mk (cc := cX5_adviceFor) (maxL := 5) (rt := .int) (by decide) rfl (Nat.le_of_ble_eq_true rfl) ?_
  intro p e s m below meth c A Q ls S0 hname hA hK hP hD hT hS hQ hl
  obtain ⟨hx, hb, hml, hown, hts⟩ := id S0
  have hl : lv_has ls 5 [(0, .ref oM), (1, .int (nI ia))] := hl
  have hN6 : N ≤ 6 := by rw [← hNN]; exact hI.1
  obtain ⟨ka, hka, hka15⟩ := inr_nat (hi := 15) (hI.2.2.1 ia (by omega)).2.2.1 (by decide)
  have lp19 : ∀ (k : Nat) (n : Nat) (p1 : Int64) (p2 : Int64) (p3 : Int64) (p4 : Int64) (q1 : Int64) (q2 : Int64) (q3 : Int64) (q4 : Int64) (H : Heap) (locs : List Loc) (ls : Array Slot), 15 - n = k → (n ≤ 15) → (cMg f N ia = true) → (∀ j, j < n → cClr f N ia (cTh f ia j) (f (5 * ia + 3)) = false) → va_P D vwCl [(oM, .inr (5, [.ref mN, .ref mA, .ref mP, .int (nI ks), .ref mR, .ref mT, .int (nI ln), .long p1, .long p2, .long p3, .long p4, .long q1, .long q2, .long q3, .long q4, .ref mL, .ref mB, .int od, .int spt, .int wa, .long hs])), (mN, .inl (cI, 39, .inl qn))] H → va_D A [(oM, .inr (5, [.ref mN, .ref mA, .ref mP, .int (nI ks), .ref mR, .ref mT, .int (nI ln), .long p1, .long p2, .long p3, .long p4, .long q1, .long q2, .long q3, .long q4, .ref mL, .ref mB, .int od, .int spt, .int wa, .long hs])), (mN, .inl (cI, 39, .inl qn))] → va_S A s.heap H locs → lv_has ls 5 [(3, .int (nI (n + 1))), (2, .int (f (5 * ia + 2))), (0, .ref oM), (1, .int (nI ia))] → W p l e ({ frames := 7, cells := 0, slots := 0, locals := 168 } : Room) s m ([.ref oM, .int (nI ia)] : List Value).toArray below meth c H locs 0 0 Q (F0 m 19 ls []) := by
    intro k
    induction k using Nat.strongRecOn with
    | ind k ih =>
    intro n p1 p2 p3 p4 q1 q2 q3 q4 H locs ls hk hn hmg hi hP hD hS hl
    refine lv_iload_n hx hb dX5_adviceFor_19 rfl (lv_at hl 0 rfl) ?_
    refine lv_bipush (v := 16) hx hb dX5_adviceFor_20 (by decide) ?_
    refine lv_icmp_ge (tgt := 71) hx hb dX5_adviceFor_22 (by decide) (fun c_1 => ?_) (fun c_1 => ?_)
    · skip
      have c_1 := (z_le (a := 16) (b := n + 1) rfl rfl (by omega) (by omega)).mp c_1
      refine lv_aload_n hx hb dX5_adviceFor_71 rfl (lv_at hl 2 rfl) ?_
      refine lv_iload_n hx hb dX5_adviceFor_72 rfl (lv_at hl 3 rfl) ?_
      refine lv_iload_n hx hb dX5_adviceFor_73 rfl (lv_at hl 1 rfl) ?_
      refine lv_iconst (v := 0) hx hb dX5_adviceFor_74 (by decide) ?_
      refine z_VI (n := 3) (wn := (fun u : Int64 × Int64 × Int64 × Int64 × Int64 × Int64 × Int64 × Int64 => [(oM, .inr (5, [.ref mN, .ref mA, .ref mP, .int (nI ks), .ref mR, .ref mT, .int (nI ln), .long u.1, .long u.2.1, .long u.2.2.1, .long u.2.2.2.1, .long u.2.2.2.2.1, .long u.2.2.2.2.2.1, .long u.2.2.2.2.2.2.1, .long u.2.2.2.2.2.2.2, .ref mL, .ref mB, .int od, .int spt, .int wa, .long hs])), (mN, .inl (cI, 39, .inl qn))])) (wr := []) (As := [.int (nI ia), .int (f (5 * ia + 2)), .int 0]) (rest := []) ⟨hx, hb, hml, hown, hts⟩ hK hP hD hS hA hT (kX5_isClear l D cI cB tE tN oM mN mA mP mR mT mL mB ks ln p1 p2 p3 p4 q1 q2 q3 q4 od spt wa hs qn f N ia (f (5 * ia + 2)) 0 ka _ (hR) (hI) (hNN) (by omega) (hka) (hka15) (⟨by decide, by decide⟩)) gX5_adviceFor_X5_isClear rfl rfl rfl (by decide +kernel) ⟨Nat.le_of_ble_eq_true rfl, Nat.le_of_ble_eq_true rfl⟩ [0, 1] [] [0, 1] (by decide) rfl rfl (by decide) (by decide) (by decide) (fun u => rfl) 0 5 rfl rfl rfl rfl hl.1 rfl (Nat.le_of_ble_eq_true rfl) dX5_adviceFor_75 ⟨Nat.le_of_ble_eq_true rfl, Nat.le_of_ble_eq_true rfl⟩ (fun r_10 u H locs hw_11 hP hD hS => ?_)
      obtain ⟨p1_2, p2_3, p3_4, p4_5, q1_6, q2_7, q3_8, q4_9⟩ := u
      try dsimp only at hw_11
      have hP : va_P D vwCl [(oM, .inr (5, [.ref mN, .ref mA, .ref mP, .int (nI ks), .ref mR, .ref mT, .int (nI ln), .long p1_2, .long p2_3, .long p3_4, .long p4_5, .long q1_6, .long q2_7, .long q3_8, .long q4_9, .ref mL, .ref mB, .int od, .int spt, .int wa, .long hs])), (mN, .inl (cI, 39, .inl qn))] H := hP
      have hD : va_D A [(oM, .inr (5, [.ref mN, .ref mA, .ref mP, .int (nI ks), .ref mR, .ref mT, .int (nI ln), .long p1_2, .long p2_3, .long p3_4, .long p4_5, .long q1_6, .long q2_7, .long q3_8, .long q4_9, .ref mL, .ref mB, .int od, .int spt, .int wa, .long hs])), (mN, .inl (cI, 39, .inl qn))] := hD
      subst r_10
      refine lv_if_eq (tgt := 86) hx hb dX5_adviceFor_78 (by decide) (fun c_12 => ?_) (fun c_12 => ?_)
      · skip
        have c_12 := z_b0 c_12
        refine lv_bipush (v := 17) hx hb dX5_adviceFor_86 (by decide) ?_
        exact hQ 17 (p1_2, p2_3, p3_4, p4_5, q1_6, q2_7, q3_8, q4_9) _ _ _ _ (rfl) (by rw [cAdv, if_pos hmg, cTurn_miss (fun j h => hi j (by omega))]; simp [c_12]) hP hD hS dX5_adviceFor_88
      · skip
        have c_12 := z_b1 c_12
        refine lv_bipush (v := 16) hx hb dX5_adviceFor_81 (by decide) ?_
        refine lv_goto (tgt := 88) hx hb dX5_adviceFor_83 (by decide) ?_
        exact hQ 16 (p1_2, p2_3, p3_4, p4_5, q1_6, q2_7, q3_8, q4_9) _ _ _ _ (rfl) (by rw [cAdv, if_pos hmg, cTurn_miss (fun j h => hi j (by omega))]; simp [c_12]) hP hD hS dX5_adviceFor_88
    · skip
      have c_1 := (z_len (a := 16) (b := n + 1) rfl rfl (by omega) (by omega)).mp c_1
      refine lv_iload_n hx hb dX5_adviceFor_25 rfl (lv_at hl 1 rfl) ?_
      refine lv_iload_n hx hb dX5_adviceFor_26 rfl (lv_at hl 0 rfl) ?_
      refine lv_bipush (v := 9) hx hb dX5_adviceFor_27 (by decide) ?_
      refine lv_icmp_ge (tgt := 36) hx hb dX5_adviceFor_29 (by decide) (fun c_13 => ?_) (fun c_13 => ?_)
      · skip
        have c_13 := (z_le (a := 9) (b := n + 1) rfl rfl (by omega) (by omega)).mp c_13
        refine lv_bipush (v := 24) hx hb dX5_adviceFor_36 (by decide) ?_
        refine lv_iload_n hx hb dX5_adviceFor_38 rfl (lv_at hl 0 rfl) ?_
        refine lv_isub hx hb dX5_adviceFor_39 ?_
        refine z_topi (x := 24 - (nI (n + 1))) (y := nI (24 - (n + 1))) (z_sub (a := 24) (by omega)) ?_
        refine lv_iadd hx hb dX5_adviceFor_40 ?_
        refine lv_bipush (v := 16) hx hb dX5_adviceFor_41 (by decide) ?_
        refine lv_irem hx hb dX5_adviceFor_43 (by decide) ?_
        refine z_topi (x := ((f (5 * ia + 2)) + (nI (24 - (n + 1)))) - ((f (5 * ia + 2)) + (nI (24 - (n + 1)))) / 16 * 16) (y := cTh f ia n) ((z_rem (b := 16) (z_add hka rfl) rfl (by omega) (by omega) (by omega)).trans (th_hi hka hka15 (by omega) (by omega)).symm) ?_
        refine lv_istore (lv' := [(4, .int (cTh f ia n)), (3, .int (nI (n + 1))), (2, .int (f (5 * ia + 2))), (0, .ref oM), (1, .int (nI ia))]) hx hb dX5_adviceFor_44 hl (by decide) rfl (fun ls hl => ?_)
        obtain ⟨kt, hkt, hkt15⟩ := inr_nat (hi := 15) (show inr (cTh f ia n) 0 15 by rw [cTh]; split <;> exact and15_in _) (by decide)
        refine lv_aload_n hx hb dX5_adviceFor_46 rfl (lv_at hl 3 rfl) ?_
        refine lv_iload_n hx hb dX5_adviceFor_47 rfl (lv_at hl 4 rfl) ?_
        refine lv_iload hx hb dX5_adviceFor_48 (lv_at hl 0 rfl) ?_
        refine lv_aload_n hx hb dX5_adviceFor_50 rfl (lv_at hl 3 rfl) ?_
        refine lv_iload_n hx hb dX5_adviceFor_51 rfl (lv_at hl 4 rfl) ?_
        refine lv_iconst (v := 3) hx hb dX5_adviceFor_52 (by decide) ?_
        refine z_VI (n := 2) (wn := (fun u : Unit => [(oM, .inr (5, [.ref mN, .ref mA, .ref mP, .int (nI ks), .ref mR, .ref mT, .int (nI ln), .long p1, .long p2, .long p3, .long p4, .long q1, .long q2, .long q3, .long q4, .ref mL, .ref mB, .int od, .int spt, .int wa, .long hs])), (mN, .inl (cI, 39, .inl qn))])) (wr := []) (As := [.int (nI ia), .int 3]) (rest := [.int (cTh f ia n), .int (nI ia), .ref oM]) ⟨hx, hb, hml, hown, hts⟩ hK hP hD hS hA hT (kX5_shipOf l D cI cB tE tN oM mN mA mP mR mT mL mB ks ln p1 p2 p3 p4 q1 q2 q3 q4 od spt wa hs qn f N ia 3 _ (hR) (hI) (hNN) (by omega) (by omega)) gX5_adviceFor_X5_shipOf rfl rfl rfl (by decide +kernel) ⟨Nat.le_of_ble_eq_true rfl, Nat.le_of_ble_eq_true rfl⟩ [0, 1] [] [0, 1] (by decide) rfl rfl (by decide) (by decide) (by decide) (fun u => rfl) 0 5 rfl rfl rfl rfl hl.1 rfl (Nat.le_of_ble_eq_true rfl) dX5_adviceFor_53 ⟨Nat.le_of_ble_eq_true rfl, Nat.le_of_ble_eq_true rfl⟩ (fun r_14 u H locs hw_15 hP hD hS => ?_)
        try dsimp only at hw_15
        have hP : va_P D vwCl [(oM, .inr (5, [.ref mN, .ref mA, .ref mP, .int (nI ks), .ref mR, .ref mT, .int (nI ln), .long p1, .long p2, .long p3, .long p4, .long q1, .long q2, .long q3, .long q4, .ref mL, .ref mB, .int od, .int spt, .int wa, .long hs])), (mN, .inl (cI, 39, .inl qn))] H := hP
        have hD : va_D A [(oM, .inr (5, [.ref mN, .ref mA, .ref mP, .int (nI ks), .ref mR, .ref mT, .int (nI ln), .long p1, .long p2, .long p3, .long p4, .long q1, .long q2, .long q3, .long q4, .ref mL, .ref mB, .int od, .int spt, .int wa, .long hs])), (mN, .inl (cI, 39, .inl qn))] := hD
        subst r_14
        refine z_VI (n := 3) (wn := (fun u : Int64 × Int64 × Int64 × Int64 × Int64 × Int64 × Int64 × Int64 => [(oM, .inr (5, [.ref mN, .ref mA, .ref mP, .int (nI ks), .ref mR, .ref mT, .int (nI ln), .long u.1, .long u.2.1, .long u.2.2.1, .long u.2.2.2.1, .long u.2.2.2.2.1, .long u.2.2.2.2.2.1, .long u.2.2.2.2.2.2.1, .long u.2.2.2.2.2.2.2, .ref mL, .ref mB, .int od, .int spt, .int wa, .long hs])), (mN, .inl (cI, 39, .inl qn))])) (wr := []) (As := [.int (nI ia), .int (cTh f ia n), .int (f (5 * ia + 3))]) (rest := []) ⟨hx, hb, hml, hown, hts⟩ hK hP hD hS hA hT (kX5_isClear l D cI cB tE tN oM mN mA mP mR mT mL mB ks ln p1 p2 p3 p4 q1 q2 q3 q4 od spt wa hs qn f N ia (cTh f ia n) (f (5 * ia + 3)) kt _ (hR) (hI) (hNN) (by omega) (hkt) (hkt15) ((hI.2.2.1 ia (by omega)).2.2.2)) gX5_adviceFor_X5_isClear rfl rfl rfl (by decide +kernel) ⟨Nat.le_of_ble_eq_true rfl, Nat.le_of_ble_eq_true rfl⟩ [0, 1] [] [0, 1] (by decide) rfl rfl (by decide) (by decide) (by decide) (fun u => rfl) 0 5 rfl rfl rfl rfl hl.1 rfl (Nat.le_of_ble_eq_true rfl) dX5_adviceFor_56 ⟨Nat.le_of_ble_eq_true rfl, Nat.le_of_ble_eq_true rfl⟩ (fun r_24 u H locs hw_25 hP hD hS => ?_)
        obtain ⟨p1_16, p2_17, p3_18, p4_19, q1_20, q2_21, q3_22, q4_23⟩ := u
        try dsimp only at hw_25
        have hP : va_P D vwCl [(oM, .inr (5, [.ref mN, .ref mA, .ref mP, .int (nI ks), .ref mR, .ref mT, .int (nI ln), .long p1_16, .long p2_17, .long p3_18, .long p4_19, .long q1_20, .long q2_21, .long q3_22, .long q4_23, .ref mL, .ref mB, .int od, .int spt, .int wa, .long hs])), (mN, .inl (cI, 39, .inl qn))] H := hP
        have hD : va_D A [(oM, .inr (5, [.ref mN, .ref mA, .ref mP, .int (nI ks), .ref mR, .ref mT, .int (nI ln), .long p1_16, .long p2_17, .long p3_18, .long p4_19, .long q1_20, .long q2_21, .long q3_22, .long q4_23, .ref mL, .ref mB, .int od, .int spt, .int wa, .long hs])), (mN, .inl (cI, 39, .inl qn))] := hD
        subst r_24
        refine lv_if_eq (tgt := 65) hx hb dX5_adviceFor_59 (by decide) (fun c_26 => ?_) (fun c_26 => ?_)
        · skip
          have c_26 := z_b0 c_26
          refine lv_iinc (v := nI (n + 1 + 1)) (lv' := [(3, .int (nI (n + 1 + 1))), (4, .int (cTh f ia n)), (2, .int (f (5 * ia + 2))), (0, .ref oM), (1, .int (nI ia))]) hx hb dX5_adviceFor_65 hl (k := 1) rfl (z_add rfl rfl) (by decide) rfl (fun ls hl => ?_)
          refine lv_goto (tgt := 19) hx hb dX5_adviceFor_68 (by decide) ?_
          exact ih _ (by omega) (n + 1) p1_16 p2_17 p3_18 p4_19 q1_20 q2_21 q3_22 q4_23 _ _ _ rfl (by omega) hmg (z_all hi c_26) hP hD hS (lv_sub hl [0, 2, 3, 4] rfl)
        · skip
          have c_26 := z_b1 c_26
          refine lv_iload hx hb dX5_adviceFor_62 (lv_at hl 0 rfl) ?_
          exact hQ (cTh f ia n) (p1_16, p2_17, p3_18, p4_19, q1_20, q2_21, q3_22, q4_23) _ _ _ _ (rfl) (by rw [cAdv, if_pos hmg, cTurn_hit (t := n) (by omega) hi c_26]) hP hD hS dX5_adviceFor_64
      · skip
        have c_13 := (z_len (a := 9) (b := n + 1) rfl rfl (by omega) (by omega)).mp c_13
        refine lv_iload_n hx hb dX5_adviceFor_32 rfl (lv_at hl 0 rfl) ?_
        refine lv_goto (tgt := 40) hx hb dX5_adviceFor_33 (by decide) ?_
        refine lv_iadd hx hb dX5_adviceFor_40 ?_
        refine lv_bipush (v := 16) hx hb dX5_adviceFor_41 (by decide) ?_
        refine lv_irem hx hb dX5_adviceFor_43 (by decide) ?_
        refine z_topi (x := ((f (5 * ia + 2)) + (nI (n + 1))) - ((f (5 * ia + 2)) + (nI (n + 1))) / 16 * 16) (y := cTh f ia n) ((z_rem (b := 16) (z_add hka rfl) rfl (by omega) (by omega) (by omega)).trans (th_lo hka hka15 (by omega)).symm) ?_
        refine lv_istore (lv' := [(4, .int (cTh f ia n)), (3, .int (nI (n + 1))), (2, .int (f (5 * ia + 2))), (0, .ref oM), (1, .int (nI ia))]) hx hb dX5_adviceFor_44 hl (by decide) rfl (fun ls hl => ?_)
        obtain ⟨kt, hkt, hkt15⟩ := inr_nat (hi := 15) (show inr (cTh f ia n) 0 15 by rw [cTh]; split <;> exact and15_in _) (by decide)
        refine lv_aload_n hx hb dX5_adviceFor_46 rfl (lv_at hl 3 rfl) ?_
        refine lv_iload_n hx hb dX5_adviceFor_47 rfl (lv_at hl 4 rfl) ?_
        refine lv_iload hx hb dX5_adviceFor_48 (lv_at hl 0 rfl) ?_
        refine lv_aload_n hx hb dX5_adviceFor_50 rfl (lv_at hl 3 rfl) ?_
        refine lv_iload_n hx hb dX5_adviceFor_51 rfl (lv_at hl 4 rfl) ?_
        refine lv_iconst (v := 3) hx hb dX5_adviceFor_52 (by decide) ?_
        refine z_VI (n := 2) (wn := (fun u : Unit => [(oM, .inr (5, [.ref mN, .ref mA, .ref mP, .int (nI ks), .ref mR, .ref mT, .int (nI ln), .long p1, .long p2, .long p3, .long p4, .long q1, .long q2, .long q3, .long q4, .ref mL, .ref mB, .int od, .int spt, .int wa, .long hs])), (mN, .inl (cI, 39, .inl qn))])) (wr := []) (As := [.int (nI ia), .int 3]) (rest := [.int (cTh f ia n), .int (nI ia), .ref oM]) ⟨hx, hb, hml, hown, hts⟩ hK hP hD hS hA hT (kX5_shipOf l D cI cB tE tN oM mN mA mP mR mT mL mB ks ln p1 p2 p3 p4 q1 q2 q3 q4 od spt wa hs qn f N ia 3 _ (hR) (hI) (hNN) (by omega) (by omega)) gX5_adviceFor_X5_shipOf rfl rfl rfl (by decide +kernel) ⟨Nat.le_of_ble_eq_true rfl, Nat.le_of_ble_eq_true rfl⟩ [0, 1] [] [0, 1] (by decide) rfl rfl (by decide) (by decide) (by decide) (fun u => rfl) 0 5 rfl rfl rfl rfl hl.1 rfl (Nat.le_of_ble_eq_true rfl) dX5_adviceFor_53 ⟨Nat.le_of_ble_eq_true rfl, Nat.le_of_ble_eq_true rfl⟩ (fun r_27 u H locs hw_28 hP hD hS => ?_)
        try dsimp only at hw_28
        have hP : va_P D vwCl [(oM, .inr (5, [.ref mN, .ref mA, .ref mP, .int (nI ks), .ref mR, .ref mT, .int (nI ln), .long p1, .long p2, .long p3, .long p4, .long q1, .long q2, .long q3, .long q4, .ref mL, .ref mB, .int od, .int spt, .int wa, .long hs])), (mN, .inl (cI, 39, .inl qn))] H := hP
        have hD : va_D A [(oM, .inr (5, [.ref mN, .ref mA, .ref mP, .int (nI ks), .ref mR, .ref mT, .int (nI ln), .long p1, .long p2, .long p3, .long p4, .long q1, .long q2, .long q3, .long q4, .ref mL, .ref mB, .int od, .int spt, .int wa, .long hs])), (mN, .inl (cI, 39, .inl qn))] := hD
        subst r_27
        refine z_VI (n := 3) (wn := (fun u : Int64 × Int64 × Int64 × Int64 × Int64 × Int64 × Int64 × Int64 => [(oM, .inr (5, [.ref mN, .ref mA, .ref mP, .int (nI ks), .ref mR, .ref mT, .int (nI ln), .long u.1, .long u.2.1, .long u.2.2.1, .long u.2.2.2.1, .long u.2.2.2.2.1, .long u.2.2.2.2.2.1, .long u.2.2.2.2.2.2.1, .long u.2.2.2.2.2.2.2, .ref mL, .ref mB, .int od, .int spt, .int wa, .long hs])), (mN, .inl (cI, 39, .inl qn))])) (wr := []) (As := [.int (nI ia), .int (cTh f ia n), .int (f (5 * ia + 3))]) (rest := []) ⟨hx, hb, hml, hown, hts⟩ hK hP hD hS hA hT (kX5_isClear l D cI cB tE tN oM mN mA mP mR mT mL mB ks ln p1 p2 p3 p4 q1 q2 q3 q4 od spt wa hs qn f N ia (cTh f ia n) (f (5 * ia + 3)) kt _ (hR) (hI) (hNN) (by omega) (hkt) (hkt15) ((hI.2.2.1 ia (by omega)).2.2.2)) gX5_adviceFor_X5_isClear rfl rfl rfl (by decide +kernel) ⟨Nat.le_of_ble_eq_true rfl, Nat.le_of_ble_eq_true rfl⟩ [0, 1] [] [0, 1] (by decide) rfl rfl (by decide) (by decide) (by decide) (fun u => rfl) 0 5 rfl rfl rfl rfl hl.1 rfl (Nat.le_of_ble_eq_true rfl) dX5_adviceFor_56 ⟨Nat.le_of_ble_eq_true rfl, Nat.le_of_ble_eq_true rfl⟩ (fun r_37 u H locs hw_38 hP hD hS => ?_)
        obtain ⟨p1_29, p2_30, p3_31, p4_32, q1_33, q2_34, q3_35, q4_36⟩ := u
        try dsimp only at hw_38
        have hP : va_P D vwCl [(oM, .inr (5, [.ref mN, .ref mA, .ref mP, .int (nI ks), .ref mR, .ref mT, .int (nI ln), .long p1_29, .long p2_30, .long p3_31, .long p4_32, .long q1_33, .long q2_34, .long q3_35, .long q4_36, .ref mL, .ref mB, .int od, .int spt, .int wa, .long hs])), (mN, .inl (cI, 39, .inl qn))] H := hP
        have hD : va_D A [(oM, .inr (5, [.ref mN, .ref mA, .ref mP, .int (nI ks), .ref mR, .ref mT, .int (nI ln), .long p1_29, .long p2_30, .long p3_31, .long p4_32, .long q1_33, .long q2_34, .long q3_35, .long q4_36, .ref mL, .ref mB, .int od, .int spt, .int wa, .long hs])), (mN, .inl (cI, 39, .inl qn))] := hD
        subst r_37
        refine lv_if_eq (tgt := 65) hx hb dX5_adviceFor_59 (by decide) (fun c_39 => ?_) (fun c_39 => ?_)
        · skip
          have c_39 := z_b0 c_39
          refine lv_iinc (v := nI (n + 1 + 1)) (lv' := [(3, .int (nI (n + 1 + 1))), (4, .int (cTh f ia n)), (2, .int (f (5 * ia + 2))), (0, .ref oM), (1, .int (nI ia))]) hx hb dX5_adviceFor_65 hl (k := 1) rfl (z_add rfl rfl) (by decide) rfl (fun ls hl => ?_)
          refine lv_goto (tgt := 19) hx hb dX5_adviceFor_68 (by decide) ?_
          exact ih _ (by omega) (n + 1) p1_29 p2_30 p3_31 p4_32 q1_33 q2_34 q3_35 q4_36 _ _ _ rfl (by omega) hmg (z_all hi c_39) hP hD hS (lv_sub hl [0, 2, 3, 4] rfl)
        · skip
          have c_39 := z_b1 c_39
          refine lv_iload hx hb dX5_adviceFor_62 (lv_at hl 0 rfl) ?_
          exact hQ (cTh f ia n) (p1_29, p2_30, p3_31, p4_32, q1_33, q2_34, q3_35, q4_36) _ _ _ _ (rfl) (by rw [cAdv, if_pos hmg, cTurn_hit (t := n) (by omega) hi c_39]) hP hD hS dX5_adviceFor_64
  refine lv_aload_n hx hb dX5_adviceFor_0 rfl (lv_at hl 0 rfl) ?_
  refine lv_iload_n hx hb dX5_adviceFor_1 rfl (lv_at hl 1 rfl) ?_
  refine lv_iconst (v := 2) hx hb dX5_adviceFor_2 (by decide) ?_
  refine z_VI (n := 2) (wn := (fun u : Unit => [(oM, .inr (5, [.ref mN, .ref mA, .ref mP, .int (nI ks), .ref mR, .ref mT, .int (nI ln), .long x1, .long x2, .long x3, .long x4, .long y1, .long y2, .long y3, .long y4, .ref mL, .ref mB, .int od, .int spt, .int wa, .long hs])), (mN, .inl (cI, 39, .inl qn))])) (wr := []) (As := [.int (nI ia), .int 2]) (rest := []) ⟨hx, hb, hml, hown, hts⟩ hK hP hD hS hA hT (kX5_shipOf l D cI cB tE tN oM mN mA mP mR mT mL mB ks ln x1 x2 x3 x4 y1 y2 y3 y4 od spt wa hs qn f N ia 2 _ (hR) (hI) (hNN) (by omega) (by omega)) gX5_adviceFor_X5_shipOf rfl rfl rfl (by decide +kernel) ⟨Nat.le_of_ble_eq_true rfl, Nat.le_of_ble_eq_true rfl⟩ [0, 1] [] [0, 1] (by decide) rfl rfl (by decide) (by decide) (by decide) (fun u => rfl) 0 5 rfl rfl rfl rfl hl.1 rfl (Nat.le_of_ble_eq_true rfl) dX5_adviceFor_3 ⟨Nat.le_of_ble_eq_true rfl, Nat.le_of_ble_eq_true rfl⟩ (fun r_40 u H locs hw_41 hP hD hS => ?_)
  try dsimp only at hw_41
  have hP : va_P D vwCl [(oM, .inr (5, [.ref mN, .ref mA, .ref mP, .int (nI ks), .ref mR, .ref mT, .int (nI ln), .long x1, .long x2, .long x3, .long x4, .long y1, .long y2, .long y3, .long y4, .ref mL, .ref mB, .int od, .int spt, .int wa, .long hs])), (mN, .inl (cI, 39, .inl qn))] H := hP
  have hD : va_D A [(oM, .inr (5, [.ref mN, .ref mA, .ref mP, .int (nI ks), .ref mR, .ref mT, .int (nI ln), .long x1, .long x2, .long x3, .long x4, .long y1, .long y2, .long y3, .long y4, .ref mL, .ref mB, .int od, .int spt, .int wa, .long hs])), (mN, .inl (cI, 39, .inl qn))] := hD
  subst r_40
  refine lv_istore_n (lv' := [(2, .int (f (5 * ia + 2))), (0, .ref oM), (1, .int (nI ia))]) hx hb dX5_adviceFor_6 rfl hl (by decide) rfl (fun ls hl => ?_)
  refine lv_aload_n hx hb dX5_adviceFor_7 rfl (lv_at hl 1 rfl) ?_
  refine lv_iload_n hx hb dX5_adviceFor_8 rfl (lv_at hl 2 rfl) ?_
  refine z_VI (n := 1) (wn := (fun u : Int64 × Int64 × Int64 × Int64 × Int64 × Int64 × Int64 × Int64 => [(oM, .inr (5, [.ref mN, .ref mA, .ref mP, .int (nI ks), .ref mR, .ref mT, .int (nI ln), .long u.1, .long u.2.1, .long u.2.2.1, .long u.2.2.2.1, .long u.2.2.2.2.1, .long u.2.2.2.2.2.1, .long u.2.2.2.2.2.2.1, .long u.2.2.2.2.2.2.2, .ref mL, .ref mB, .int od, .int spt, .int wa, .long hs])), (mN, .inl (cI, 39, .inl qn))])) (wr := []) (As := [.int (nI ia)]) (rest := []) ⟨hx, hb, hml, hown, hts⟩ hK hP hD hS hA hT (kX5_mustGiveWay l D cI cB tE tN oM mN mA mP mR mT mL mB ks ln x1 x2 x3 x4 y1 y2 y3 y4 od spt wa hs qn f N ia _ (hR) (hI) (hNN) (by omega)) gX5_adviceFor_X5_mustGiveWay rfl rfl rfl (by decide +kernel) ⟨Nat.le_of_ble_eq_true rfl, Nat.le_of_ble_eq_true rfl⟩ [0, 1] [] [0, 1] (by decide) rfl rfl (by decide) (by decide) (by decide) (fun u => rfl) 0 5 rfl rfl rfl rfl hl.1 rfl (Nat.le_of_ble_eq_true rfl) dX5_adviceFor_9 ⟨Nat.le_of_ble_eq_true rfl, Nat.le_of_ble_eq_true rfl⟩ (fun r_50 u H locs hw_51 hP hD hS => ?_)
  obtain ⟨p1_42, p2_43, p3_44, p4_45, q1_46, q2_47, q3_48, q4_49⟩ := u
  try dsimp only at hw_51
  have hP : va_P D vwCl [(oM, .inr (5, [.ref mN, .ref mA, .ref mP, .int (nI ks), .ref mR, .ref mT, .int (nI ln), .long p1_42, .long p2_43, .long p3_44, .long p4_45, .long q1_46, .long q2_47, .long q3_48, .long q4_49, .ref mL, .ref mB, .int od, .int spt, .int wa, .long hs])), (mN, .inl (cI, 39, .inl qn))] H := hP
  have hD : va_D A [(oM, .inr (5, [.ref mN, .ref mA, .ref mP, .int (nI ks), .ref mR, .ref mT, .int (nI ln), .long p1_42, .long p2_43, .long p3_44, .long p4_45, .long q1_46, .long q2_47, .long q3_48, .long q4_49, .ref mL, .ref mB, .int od, .int spt, .int wa, .long hs])), (mN, .inl (cI, 39, .inl qn))] := hD
  subst r_50
  refine lv_if_ne (tgt := 17) hx hb dX5_adviceFor_12 (by decide) (fun c_52 => ?_) (fun c_52 => ?_)
  · skip
    have c_52 := z_b1 c_52
    refine lv_iconst (v := 1) hx hb dX5_adviceFor_17 (by decide) ?_
    refine lv_istore_n (lv' := [(3, .int 1), (2, .int (f (5 * ia + 2))), (0, .ref oM), (1, .int (nI ia))]) hx hb dX5_adviceFor_18 rfl hl (by decide) rfl (fun ls hl => ?_)
    exact lp19 _ 0 p1_42 p2_43 p3_44 p4_45 q1_46 q2_47 q3_48 q4_49 _ _ _ rfl (by omega) c_52 (fun j h => absurd h (Nat.not_lt_zero j)) hP hD hS (lv_sub hl [0, 1, 2, 3] rfl)
  · skip
    have c_52 := z_b0 c_52
    refine lv_iload_n hx hb dX5_adviceFor_15 rfl (lv_at hl 0 rfl) ?_
    exact hQ (f (5 * ia + 2)) (p1_42, p2_43, p3_44, p4_45, q1_46, q2_47, q3_48, q4_49) _ _ _ _ (rfl) (by rw [cAdv, if_neg (by rw [c_52]; decide)]) hP hD hS dX5_adviceFor_16

set_option maxHeartbeats 4000000 in
set_option maxRecDepth 100000 in
theorem kX5_putObeyed (l : Launch) (D : va_G) (cI cB : ClassId) (tE tN : Nat) (oM : Nat) (mN : Nat) (mA : Nat) (mP : Nat) (mR : Nat) (mT : Nat) (mL : Nat) (mB : Nat) (ks : Nat) (ln : Nat) (x1 : Int64) (x2 : Int64) (x3 : Int64) (x4 : Int64) (y1 : Int64) (y2 : Int64) (y3 : Int64) (y4 : Int64) (od : Int32) (spt : Int32) (wa : Int32) (hs : Int64) (qn : Nat → Int32) (f : Nat → Int32) (N : Nat) (sz : Nat) (hR : Rg N f qn) (hI : Iv f) (hNN : nN f = N) : zI l yX5_putObeyed wsX5_putObeyed ({ frames := 8, cells := 0, slots := 0, locals := 192 }) D cI cB tE tN [.ref oM] [(oM, .inr (5, [.ref mN, .ref mA, .ref mP, .int (nI ks), .ref mR, .ref mT, .int (nI ln), .long x1, .long x2, .long x3, .long x4, .long y1, .long y2, .long y3, .long y4, .ref mL, .ref mB, .int od, .int spt, .int wa, .long hs])), (mN, .inl (cI, 39, .inl qn))] sz (fun u : (Nat → Int32) × Int64 × Int64 × Int64 × Int64 × Int64 × Int64 × Int64 × Int64 => [(oM, .inr (5, [.ref mN, .ref mA, .ref mP, .int (nI ks), .ref mR, .ref mT, .int (nI ln), .long u.2.1, .long u.2.2.1, .long u.2.2.2.1, .long u.2.2.2.2.1, .long u.2.2.2.2.2.1, .long u.2.2.2.2.2.2.1, .long u.2.2.2.2.2.2.2.1, .long u.2.2.2.2.2.2.2.2, .ref mL, .ref mB, .int od, .int spt, .int wa, .long hs])), (mN, .inl (cI, 39, .inl u.1))]) (fun (r : Int32) (u : (Nat → Int32) × Int64 × Int64 × Int64 × Int64 × Int64 × Int64 × Int64 × Int64) => r = cAdv f N 0 ∧ Rg (nN (cFol f (cAdv f N 0))) (cFol f (cAdv f N 0)) u.1) 0 0 := by
  refine zI_mk (cc := cX5_putObeyed) (maxL := 2) (rt := .int) (by decide) rfl (Nat.le_of_ble_eq_true rfl) ?_
  intro p e s m below meth c A Q ls S0 hname hA hK hP hD hT hS hQ hl
  obtain ⟨hx, hb, hml, hown, hts⟩ := id S0
  have hl : lv_has ls 2 [(0, .ref oM)] := hl
  have hN6 : N ≤ 6 := by rw [← hNN]; exact hI.1
  refine lv_aload_n hx hb dX5_putObeyed_0 rfl (lv_at hl 0 rfl) ?_
  refine lv_iconst (v := 0) hx hb dX5_putObeyed_1 (by decide) ?_
  refine z_VI (n := 1) (wn := (fun u : Int64 × Int64 × Int64 × Int64 × Int64 × Int64 × Int64 × Int64 => [(oM, .inr (5, [.ref mN, .ref mA, .ref mP, .int (nI ks), .ref mR, .ref mT, .int (nI ln), .long u.1, .long u.2.1, .long u.2.2.1, .long u.2.2.2.1, .long u.2.2.2.2.1, .long u.2.2.2.2.2.1, .long u.2.2.2.2.2.2.1, .long u.2.2.2.2.2.2.2, .ref mL, .ref mB, .int od, .int spt, .int wa, .long hs])), (mN, .inl (cI, 39, .inl qn))])) (wr := []) (As := [.int 0]) (rest := []) ⟨hx, hb, hml, hown, hts⟩ hK hP hD hS hA hT (kX5_adviceFor l D cI cB tE tN oM mN mA mP mR mT mL mB ks ln x1 x2 x3 x4 y1 y2 y3 y4 od spt wa hs qn f N 0 _ (hR) (hI) (hNN) (by omega)) gX5_putObeyed_X5_adviceFor rfl rfl rfl (by decide +kernel) ⟨Nat.le_of_ble_eq_true rfl, Nat.le_of_ble_eq_true rfl⟩ [0, 1] [] [0, 1] (by decide) rfl rfl (by decide) (by decide) (by decide) (fun u => rfl) 0 5 rfl rfl rfl rfl hl.1 rfl (Nat.le_of_ble_eq_true rfl) dX5_putObeyed_2 ⟨Nat.le_of_ble_eq_true rfl, Nat.le_of_ble_eq_true rfl⟩ (fun r_9 u H locs hw_10 hP hD hS => ?_)
  obtain ⟨p1_1, p2_2, p3_3, p4_4, q1_5, q2_6, q3_7, q4_8⟩ := u
  try dsimp only at hw_10
  have hP : va_P D vwCl [(oM, .inr (5, [.ref mN, .ref mA, .ref mP, .int (nI ks), .ref mR, .ref mT, .int (nI ln), .long p1_1, .long p2_2, .long p3_3, .long p4_4, .long q1_5, .long q2_6, .long q3_7, .long q4_8, .ref mL, .ref mB, .int od, .int spt, .int wa, .long hs])), (mN, .inl (cI, 39, .inl qn))] H := hP
  have hD : va_D A [(oM, .inr (5, [.ref mN, .ref mA, .ref mP, .int (nI ks), .ref mR, .ref mT, .int (nI ln), .long p1_1, .long p2_2, .long p3_3, .long p4_4, .long q1_5, .long q2_6, .long q3_7, .long q4_8, .ref mL, .ref mB, .int od, .int spt, .int wa, .long hs])), (mN, .inl (cI, 39, .inl qn))] := hD
  subst r_9
  refine lv_istore_n (lv' := [(1, .int (cAdv f N 0)), (0, .ref oM)]) hx hb dX5_putObeyed_5 rfl hl (by decide) rfl (fun ls hl => ?_)
  refine lv_iload_n hx hb dX5_putObeyed_6 rfl (lv_at hl 0 rfl) ?_
  refine lv_bipush (v := 16) hx hb dX5_putObeyed_7 (by decide) ?_
  refine lv_icmp_ge (tgt := 22) hx hb dX5_putObeyed_9 (by decide) (fun c_11 => ?_) (fun c_11 => ?_)
  · skip
    refine lv_iload_n hx hb dX5_putObeyed_22 rfl (lv_at hl 0 rfl) ?_
    refine lv_bipush (v := 16) hx hb dX5_putObeyed_23 (by decide) ?_
    refine lv_icmp_ne (tgt := 35) hx hb dX5_putObeyed_25 (by decide) (fun c_12 => ?_) (fun c_12 => ?_)
    · skip
      refine lv_iload_n hx hb dX5_putObeyed_35 rfl (lv_at hl 0 rfl) ?_
      exact hQ (cAdv f N 0) (qn, p1_1, p2_2, p3_3, p4_4, q1_5, q2_6, q3_7, q4_8) _ _ _ _ (rfl) (⟨rfl, by rw [fol_17 c_11 c_12, hNN]; exact hR⟩) hP hD hS dX5_putObeyed_36
    · skip
      refine lv_aload_n hx hb dX5_putObeyed_28 rfl (lv_at hl 1 rfl) ?_
      refine lv_iconst (v := 0) hx hb dX5_putObeyed_29 (by decide) ?_
      refine lv_iconst (v := 3) hx hb dX5_putObeyed_30 (by decide) ?_
      refine lv_iconst (v := 0) hx hb dX5_putObeyed_31 (by decide) ?_
      refine z_VV (n := 3) (wn := (fun u : Unit => [(oM, .inr (5, [.ref mN, .ref mA, .ref mP, .int (nI ks), .ref mR, .ref mT, .int (nI ln), .long p1_1, .long p2_2, .long p3_3, .long p4_4, .long q1_5, .long q2_6, .long q3_7, .long q4_8, .ref mL, .ref mB, .int od, .int spt, .int wa, .long hs])), (mN, .inl (cI, 39, .inl (upd qn (4 + 5 * 0 + 3) 0)))])) (wr := []) (As := [.int 0, .int 3, .int 0]) (rest := []) ⟨hx, hb, hml, hown, hts⟩ hK hP hD hS hA hT (kX5_tells l D cI cB tE tN oM mN mA mP mR mT mL mB ks ln p1_1 p2_2 p3_3 p4_4 q1_5 q2_6 q3_7 q4_8 od spt wa hs qn 0 3 0 _ (by omega) (by omega)) gX5_putObeyed_X5_tells rfl rfl rfl (by decide +kernel) ⟨Nat.le_of_ble_eq_true rfl, Nat.le_of_ble_eq_true rfl⟩ [0, 1] [] [0, 1] (by decide) rfl rfl (by decide) (by decide) (by decide) (fun u => rfl) 0 5 rfl rfl rfl rfl hl.1 rfl (Nat.le_of_ble_eq_true rfl) dX5_putObeyed_32 ⟨Nat.le_of_ble_eq_true rfl, Nat.le_of_ble_eq_true rfl⟩ (fun u H locs hw_14 hP hD hS => ?_)
      try dsimp only at hw_14
      have hP : va_P D vwCl [(oM, .inr (5, [.ref mN, .ref mA, .ref mP, .int (nI ks), .ref mR, .ref mT, .int (nI ln), .long p1_1, .long p2_2, .long p3_3, .long p4_4, .long q1_5, .long q2_6, .long q3_7, .long q4_8, .ref mL, .ref mB, .int od, .int spt, .int wa, .long hs])), (mN, .inl (cI, 39, .inl (upd qn (4 + 5 * 0 + 3) 0)))] H := hP
      have hD : va_D A [(oM, .inr (5, [.ref mN, .ref mA, .ref mP, .int (nI ks), .ref mR, .ref mT, .int (nI ln), .long p1_1, .long p2_2, .long p3_3, .long p4_4, .long q1_5, .long q2_6, .long q3_7, .long q4_8, .ref mL, .ref mB, .int od, .int spt, .int wa, .long hs])), (mN, .inl (cI, 39, .inl (upd qn (4 + 5 * 0 + 3) 0)))] := hD
      refine lv_iload_n hx hb dX5_putObeyed_35 rfl (lv_at hl 0 rfl) ?_
      exact hQ (cAdv f N 0) (upd qn (4 + 5 * 0 + 3) 0, p1_1, p2_2, p3_3, p4_4, q1_5, q2_6, q3_7, q4_8) _ _ _ _ (rfl) (⟨rfl, by rw [fol_16 c_12, nN_upd (by omega), hNN]; exact hR.put (n := 0) (k := 3) (by omega) (by omega) hN6 _⟩) hP hD hS dX5_putObeyed_36
  · skip
    refine lv_aload_n hx hb dX5_putObeyed_12 rfl (lv_at hl 1 rfl) ?_
    refine lv_iconst (v := 0) hx hb dX5_putObeyed_13 (by decide) ?_
    refine lv_iconst (v := 2) hx hb dX5_putObeyed_14 (by decide) ?_
    refine lv_iload_n hx hb dX5_putObeyed_15 rfl (lv_at hl 0 rfl) ?_
    refine z_VV (n := 3) (wn := (fun u : Unit => [(oM, .inr (5, [.ref mN, .ref mA, .ref mP, .int (nI ks), .ref mR, .ref mT, .int (nI ln), .long p1_1, .long p2_2, .long p3_3, .long p4_4, .long q1_5, .long q2_6, .long q3_7, .long q4_8, .ref mL, .ref mB, .int od, .int spt, .int wa, .long hs])), (mN, .inl (cI, 39, .inl (upd qn (4 + 5 * 0 + 2) (cAdv f N 0))))])) (wr := []) (As := [.int 0, .int 2, .int (cAdv f N 0)]) (rest := []) ⟨hx, hb, hml, hown, hts⟩ hK hP hD hS hA hT (kX5_tells l D cI cB tE tN oM mN mA mP mR mT mL mB ks ln p1_1 p2_2 p3_3 p4_4 q1_5 q2_6 q3_7 q4_8 od spt wa hs qn 0 2 (cAdv f N 0) _ (by omega) (by omega)) gX5_putObeyed_X5_tells rfl rfl rfl (by decide +kernel) ⟨Nat.le_of_ble_eq_true rfl, Nat.le_of_ble_eq_true rfl⟩ [0, 1] [] [0, 1] (by decide) rfl rfl (by decide) (by decide) (by decide) (fun u => rfl) 0 5 rfl rfl rfl rfl hl.1 rfl (Nat.le_of_ble_eq_true rfl) dX5_putObeyed_16 ⟨Nat.le_of_ble_eq_true rfl, Nat.le_of_ble_eq_true rfl⟩ (fun u H locs hw_16 hP hD hS => ?_)
    try dsimp only at hw_16
    have hP : va_P D vwCl [(oM, .inr (5, [.ref mN, .ref mA, .ref mP, .int (nI ks), .ref mR, .ref mT, .int (nI ln), .long p1_1, .long p2_2, .long p3_3, .long p4_4, .long q1_5, .long q2_6, .long q3_7, .long q4_8, .ref mL, .ref mB, .int od, .int spt, .int wa, .long hs])), (mN, .inl (cI, 39, .inl (upd qn (4 + 5 * 0 + 2) (cAdv f N 0))))] H := hP
    have hD : va_D A [(oM, .inr (5, [.ref mN, .ref mA, .ref mP, .int (nI ks), .ref mR, .ref mT, .int (nI ln), .long p1_1, .long p2_2, .long p3_3, .long p4_4, .long q1_5, .long q2_6, .long q3_7, .long q4_8, .ref mL, .ref mB, .int od, .int spt, .int wa, .long hs])), (mN, .inl (cI, 39, .inl (upd qn (4 + 5 * 0 + 2) (cAdv f N 0))))] := hD
    refine lv_goto (tgt := 35) hx hb dX5_putObeyed_19 (by decide) ?_
    refine lv_iload_n hx hb dX5_putObeyed_35 rfl (lv_at hl 0 rfl) ?_
    exact hQ (cAdv f N 0) (upd qn (4 + 5 * 0 + 2) (cAdv f N 0), p1_1, p2_2, p3_3, p4_4, q1_5, q2_6, q3_7, q4_8) _ _ _ _ (rfl) (⟨rfl, by rw [fol_lo c_11, nN_upd (by omega), hNN]; exact hR.put (n := 0) (k := 2) (by omega) (by omega) hN6 _⟩) hP hD hS dX5_putObeyed_36
