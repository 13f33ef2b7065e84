set_option maxHeartbeats 4000000 in
set_option maxRecDepth 100000 in
theorem kX5_look (l : Launch) (D : va_G) (cI cB : ClassId) (tE tN : Nat) (oM : Nat) (mN : Nat) (mA : Nat) (mP : Nat) (mR : Nat) (mT : Nat) (mL : Nat) (mB : Nat) (ks : Nat) (ln : Nat) (x1 : Int64) (x2 : Int64) (x3 : Int64) (x4 : Int64) (y1 : Int64) (y2 : Int64) (y3 : Int64) (y4 : Int64) (od : Int32) (spt : Int32) (wa : Int32) (hs : Int64) (qn : Nat → Int32) (f : Nat → Int32) (N : Nat) (sz : Nat) (hR : Rg N f qn) (hI : Iv f) (hNN : nN f = N) : zI l yX5_look wsX5_look ({ frames := 6, cells := 0, slots := 0, locals := 145 }) D cI cB tE tN [.ref oM] [(oM, .inr (5, [.ref mN, .ref mA, .ref mP, .int (nI ks), .ref mR, .ref mT, .int (nI ln), .long x1, .long x2, .long x3, .long x4, .long y1, .long y2, .long y3, .long y4, .ref mL, .ref mB, .int od, .int spt, .int wa, .long hs])), (mN, .inl (cI, 39, .inl qn))] sz (fun u : (Nat → Int32) × Int64 × Int64 × Int64 × Int64 × Int64 × Int64 × Int64 × Int64 => [(oM, .inr (5, [.ref mN, .ref mA, .ref mP, .int (nI ks), .ref mR, .ref mT, .int (nI ln), .long u.2.1, .long u.2.2.1, .long u.2.2.2.1, .long u.2.2.2.2.1, .long u.2.2.2.2.2.1, .long u.2.2.2.2.2.2.1, .long u.2.2.2.2.2.2.2.1, .long u.2.2.2.2.2.2.2.2, .ref mL, .ref mB, .int od, .int spt, .int wa, .long hs])), (mN, .inl (cI, 39, .inl u.1))]) (fun (r : Int32) (u : (Nat → Int32) × Int64 × Int64 × Int64 × Int64 × Int64 × Int64 × Int64 × Int64) => r = gwF (lkF f N) N ∧ (Rg N (lkF f N) u.1)) 0 0 := by
  refine zI_mk (cc := cX5_look) (maxL := 5) (rt := .int) (by decide) rfl (Nat.le_of_ble_eq_true rfl) ?_
  intro p e s m below meth c A Q ls S0 hname hA hK hP hD hT hS hQ hl
  obtain ⟨hx, hb, hml, hown, hts⟩ := id S0
  have hl : lv_has ls 5 [(0, .ref oM)] := hl
  have L7 : (Cond.fieldLink RX5 7 "PastAndClearModel" "now" "[I").before ([.ref oM] : List Value).toArray s = true := hts (.fieldLink RX5 7 "PastAndClearModel" "now" "[I") (by decide +kernel)
  have N5 : ∀ w ∈ u_ws RX5 TX5 21, w ∈ wsX5_look := by decide +kernel
  have hN6 : N ≤ 6 := by rw [← hNN]; exact hI.1
  have lp4 : ∀ (k : Nat) (n : Nat) (x : Int32) (q1z : Nat → Int32) (p1 : Int64) (p2 : Int64) (p3 : Int64) (p4 : Int64) (q1 : Int64) (q2 : Int64) (q3 : Int64) (q4 : Int64) (H : Heap) (locs : List Loc) (ls : Array Slot), N - n = k → (n ≤ N) → (Rg N (lkF f n) q1z) → (x = gwF (lkF f n) n) → va_P D vwCl [(oM, .inr (5, [.ref mN, .ref mA, .ref mP, .int (nI ks), .ref mR, .ref mT, .int (nI ln), .long p1, .long p2, .long p3, .long p4, .long q1, .long q2, .long q3, .long q4, .ref mL, .ref mB, .int od, .int spt, .int wa, .long hs])), (mN, .inl (cI, 39, .inl q1z))] H → va_D A [(oM, .inr (5, [.ref mN, .ref mA, .ref mP, .int (nI ks), .ref mR, .ref mT, .int (nI ln), .long p1, .long p2, .long p3, .long p4, .long q1, .long q2, .long q3, .long q4, .ref mL, .ref mB, .int od, .int spt, .int wa, .long hs])), (mN, .inl (cI, 39, .inl q1z))] → va_S A s.heap H locs → lv_has ls 5 [(2, .int (nI (n + 1))), (1, .int x), (0, .ref oM)] → W p l e ({ frames := 6, cells := 0, slots := 0, locals := 145 } : Room) s m ([.ref oM] : List Value).toArray below meth c H locs 0 0 Q (F0 m 4 ls []) := by
    intro k
    induction k using Nat.strongRecOn with
    | ind k ih =>
    intro n x q1z p1 p2 p3 p4 q1 q2 q3 q4 H locs ls hk hn hR1 hxx hP hD hS hl
    refine lv_iload_n hx hb dX5_look_4 rfl (lv_at hl 0 rfl) ?_
    refine lv_aload_n hx hb dX5_look_5 rfl (lv_at hl 2 rfl) ?_
    refine va_get (D := D) (ci := 5) (v := .ref mN) (C := RX5) (T := TX5) (N := 21) hx hb hts N5 hown hK hP 0 rfl rfl 0 (by decide) L7 (fun _ h9 => h9) rfl dX5_look_6 ?_
    refine lv_iconst (v := 0) hx hb dX5_look_9 (by decide) ?_
    refine z_ild (v := nI (N + 1)) (j := 0) hx hb hK hP 1 rfl rfl (by omega) (by decide) (hR1.1) dX5_look_10 ?_
    refine lv_icmp_ge (tgt := 79) hx hb dX5_look_11 (by decide) (fun c_1 => ?_) (fun c_1 => ?_)
    · skip
      have c_1 := (z_le (a := N + 1) (b := n + 1) rfl rfl (by omega) (by omega)).mp c_1
      refine lv_iload_n hx hb dX5_look_79 rfl (lv_at hl 1 rfl) ?_
      exact hQ x (q1z, p1, p2, p3, p4, q1, q2, q3, q4) _ _ _ _ (rfl) (by rw [show N = n by omega] at hR1 ⊢; exact ⟨hxx, hR1⟩) hP hD hS dX5_look_80
    · skip
      have c_1 := (z_len (a := N + 1) (b := n + 1) rfl rfl (by omega) (by omega)).mp c_1
      refine lv_aload_n hx hb dX5_look_14 rfl (lv_at hl 2 rfl) ?_
      refine lv_iload_n hx hb dX5_look_15 rfl (lv_at hl 0 rfl) ?_
      refine lv_iconst (v := 4) hx hb dX5_look_16 (by decide) ?_
      refine z_VI (n := 2) (wn := (fun u : Unit => [(oM, .inr (5, [.ref mN, .ref mA, .ref mP, .int (nI ks), .ref mR, .ref mT, .int (nI ln), .long p1, .long p2, .long p3, .long p4, .long q1, .long q2, .long q3, .long q4, .ref mL, .ref mB, .int od, .int spt, .int wa, .long hs])), (mN, .inl (cI, 39, .inl q1z))])) (wr := []) (As := [.int (nI (n + 1)), .int 4]) (rest := []) ⟨hx, hb, hml, hown, hts⟩ hK hP hD hS hA hT (kX5_shipOf l D cI cB tE tN oM mN mA mP mR mT mL mB ks ln p1 p2 p3 p4 q1 q2 q3 q4 od spt wa hs q1z (lkF f n) N (n + 1) 4 _ (hR1) (Iv_look hI (by omega)) ((nN_lk (by omega)).trans hNN) (by omega) (by omega)) gX5_look_X5_shipOf rfl rfl rfl (by decide +kernel) ⟨Nat.le_of_ble_eq_true rfl, Nat.le_of_ble_eq_true rfl⟩ [0, 1] [] [0, 1] (by decide) rfl rfl (by decide) (by decide) (by decide) (fun u => rfl) 0 5 rfl rfl rfl rfl hl.1 rfl (Nat.le_of_ble_eq_true rfl) dX5_look_17 ⟨Nat.le_of_ble_eq_true rfl, Nat.le_of_ble_eq_true rfl⟩ (fun r_2 u H locs hw_3 hP hD hS => ?_)
      try dsimp only at hw_3
      have hP : va_P D vwCl [(oM, .inr (5, [.ref mN, .ref mA, .ref mP, .int (nI ks), .ref mR, .ref mT, .int (nI ln), .long p1, .long p2, .long p3, .long p4, .long q1, .long q2, .long q3, .long q4, .ref mL, .ref mB, .int od, .int spt, .int wa, .long hs])), (mN, .inl (cI, 39, .inl q1z))] H := hP
      have hD : va_D A [(oM, .inr (5, [.ref mN, .ref mA, .ref mP, .int (nI ks), .ref mR, .ref mT, .int (nI ln), .long p1, .long p2, .long p3, .long p4, .long q1, .long q2, .long q3, .long q4, .ref mL, .ref mB, .int od, .int spt, .int wa, .long hs])), (mN, .inl (cI, 39, .inl q1z))] := hD
      subst r_2
      refine lv_istore_n (lv' := [(3, .int ((lkF f n) (5 * (n + 1) + 4))), (2, .int (nI (n + 1))), (1, .int x), (0, .ref oM)]) hx hb dX5_look_20 rfl hl (by decide) rfl (fun ls hl => ?_)
      refine lv_iload_n hx hb dX5_look_21 rfl (lv_at hl 0 rfl) ?_
      refine lv_if_ne (tgt := 34) hx hb dX5_look_22 (by decide) (fun c_4 => ?_) (fun c_4 => ?_)
      · skip
        refine lv_aload_n hx hb dX5_look_34 rfl (lv_at hl 3 rfl) ?_
        refine lv_iload_n hx hb dX5_look_35 rfl (lv_at hl 1 rfl) ?_
        refine z_VI (n := 1) (wn := (fun u : Int64 × Int64 × Int64 × Int64 => [(oM, .inr (5, [.ref mN, .ref mA, .ref mP, .int (nI ks), .ref mR, .ref mT, .int (nI ln), .long u.1, .long u.2.1, .long u.2.2.1, .long u.2.2.2, .long q1, .long q2, .long q3, .long q4, .ref mL, .ref mB, .int od, .int spt, .int wa, .long hs])), (mN, .inl (cI, 39, .inl q1z))])) (wr := []) (As := [.int (nI (n + 1))]) (rest := []) ⟨hx, hb, hml, hown, hts⟩ hK hP hD hS hA hT (kX5_isPastAndClear l D cI cB tE tN oM mN mA mP mR mT mL mB ks ln p1 p2 p3 p4 q1 q2 q3 q4 od spt wa hs q1z (lkF f n) N (n + 1) _ (hR1) (Iv_look hI (by omega)) ((nN_lk (by omega)).trans hNN) (by omega)) gX5_look_X5_isPastAndClear rfl rfl rfl (by decide +kernel) ⟨Nat.le_of_ble_eq_true rfl, Nat.le_of_ble_eq_true rfl⟩ [0, 1] [] [0, 1] (by decide) rfl rfl (by decide) (by decide) (by decide) (fun u => rfl) 0 5 rfl rfl rfl rfl hl.1 rfl (Nat.le_of_ble_eq_true rfl) dX5_look_36 ⟨Nat.le_of_ble_eq_true rfl, Nat.le_of_ble_eq_true rfl⟩ (fun r_9 u H locs hw_10 hP hD hS => ?_)
        obtain ⟨p1_5, p2_6, p3_7, p4_8⟩ := u
        try dsimp only at hw_10
        have hP : va_P D vwCl [(oM, .inr (5, [.ref mN, .ref mA, .ref mP, .int (nI ks), .ref mR, .ref mT, .int (nI ln), .long p1_5, .long p2_6, .long p3_7, .long p4_8, .long q1, .long q2, .long q3, .long q4, .ref mL, .ref mB, .int od, .int spt, .int wa, .long hs])), (mN, .inl (cI, 39, .inl q1z))] H := hP
        have hD : va_D A [(oM, .inr (5, [.ref mN, .ref mA, .ref mP, .int (nI ks), .ref mR, .ref mT, .int (nI ln), .long p1_5, .long p2_6, .long p3_7, .long p4_8, .long q1, .long q2, .long q3, .long q4, .ref mL, .ref mB, .int od, .int spt, .int wa, .long hs])), (mN, .inl (cI, 39, .inl q1z))] := hD
        subst r_9
        refine lv_if_eq (tgt := 46) hx hb dX5_look_39 (by decide) (fun c_11 => ?_) (fun c_11 => ?_)
        · skip
          have c_11 := z_b0 c_11
          refine lv_iload_n hx hb dX5_look_46 rfl (lv_at hl 0 rfl) ?_
          refine z_topi (x := (lkF f n) (5 * (n + 1) + 4)) (y := cNd (lkF f n) (n + 1)) (by rw [cNd, if_neg c_4, if_neg (by rw [c_11]; decide)]) ?_
          refine lv_istore (lv' := [(4, .int (cNd (lkF f n) (n + 1))), (3, .int ((lkF f n) (5 * (n + 1) + 4))), (2, .int (nI (n + 1))), (1, .int x), (0, .ref oM)]) hx hb dX5_look_47 hl (by decide) rfl (fun ls hl => ?_)
          refine lv_aload_n hx hb dX5_look_49 rfl (lv_at hl 4 rfl) ?_
          refine lv_iload_n hx hb dX5_look_50 rfl (lv_at hl 2 rfl) ?_
          refine lv_iconst (v := 4) hx hb dX5_look_51 (by decide) ?_
          refine lv_iload hx hb dX5_look_52 (lv_at hl 0 rfl) ?_
          refine z_VV (n := 3) (wn := (fun u : Unit => [(oM, .inr (5, [.ref mN, .ref mA, .ref mP, .int (nI ks), .ref mR, .ref mT, .int (nI ln), .long p1_5, .long p2_6, .long p3_7, .long p4_8, .long q1, .long q2, .long q3, .long q4, .ref mL, .ref mB, .int od, .int spt, .int wa, .long hs])), (mN, .inl (cI, 39, .inl (upd q1z (4 + 5 * (n + 1) + 4) (cNd (lkF f n) (n + 1)))))])) (wr := []) (As := [.int (nI (n + 1)), .int 4, .int (cNd (lkF f n) (n + 1))]) (rest := []) ⟨hx, hb, hml, hown, hts⟩ hK hP hD hS hA hT (kX5_tells l D cI cB tE tN oM mN mA mP mR mT mL mB ks ln p1_5 p2_6 p3_7 p4_8 q1 q2 q3 q4 od spt wa hs q1z (n + 1) 4 (cNd (lkF f n) (n + 1)) _ (by omega) (by omega)) gX5_look_X5_tells rfl rfl rfl (by decide +kernel) ⟨Nat.le_of_ble_eq_true rfl, Nat.le_of_ble_eq_true rfl⟩ [0, 1] [] [0, 1] (by decide) rfl rfl (by decide) (by decide) (by decide) (fun u => rfl) 0 5 rfl rfl rfl rfl hl.1 rfl (Nat.le_of_ble_eq_true rfl) dX5_look_54 ⟨Nat.le_of_ble_eq_true rfl, Nat.le_of_ble_eq_true rfl⟩ (fun u H locs hw_13 hP hD hS => ?_)
          try dsimp only at hw_13
          have hP : va_P D vwCl [(oM, .inr (5, [.ref mN, .ref mA, .ref mP, .int (nI ks), .ref mR, .ref mT, .int (nI ln), .long p1_5, .long p2_6, .long p3_7, .long p4_8, .long q1, .long q2, .long q3, .long q4, .ref mL, .ref mB, .int od, .int spt, .int wa, .long hs])), (mN, .inl (cI, 39, .inl (upd q1z (4 + 5 * (n + 1) + 4) (cNd (lkF f n) (n + 1)))))] H := hP
          have hD : va_D A [(oM, .inr (5, [.ref mN, .ref mA, .ref mP, .int (nI ks), .ref mR, .ref mT, .int (nI ln), .long p1_5, .long p2_6, .long p3_7, .long p4_8, .long q1, .long q2, .long q3, .long q4, .ref mL, .ref mB, .int od, .int spt, .int wa, .long hs])), (mN, .inl (cI, 39, .inl (upd q1z (4 + 5 * (n + 1) + 4) (cNd (lkF f n) (n + 1)))))] := hD
          refine lv_iload_n hx hb dX5_look_57 rfl (lv_at hl 3 rfl) ?_
          refine lv_iload hx hb dX5_look_58 (lv_at hl 0 rfl) ?_
          refine lv_iconst (v := 1) hx hb dX5_look_60 (by decide) ?_
          refine lv_icmp_ne (tgt := 70) hx hb dX5_look_61 (by decide) (fun c_14 => ?_) (fun c_14 => ?_)
          · skip
            refine lv_iconst (v := 0) hx hb dX5_look_70 (by decide) ?_
            refine lv_ior hx hb dX5_look_71 ?_
            refine lv_istore_n (lv' := [(1, .int (x ||| 0)), (4, .int (cNd (lkF f n) (n + 1))), (3, .int ((lkF f n) (5 * (n + 1) + 4))), (2, .int (nI (n + 1))), (0, .ref oM)]) hx hb dX5_look_72 rfl hl (by decide) rfl (fun ls hl => ?_)
            refine lv_iinc (v := nI (n + 1 + 1)) (lv' := [(2, .int (nI (n + 1 + 1))), (1, .int (x ||| 0)), (4, .int (cNd (lkF f n) (n + 1))), (3, .int ((lkF f n) (5 * (n + 1) + 4))), (0, .ref oM)]) hx hb dX5_look_73 hl (k := 3) rfl (z_add rfl rfl) (by decide) rfl (fun ls hl => ?_)
            refine lv_goto (tgt := 4) hx hb dX5_look_76 (by decide) ?_
            exact ih _ (by omega) (n + 1) (x ||| 0) (upd q1z (4 + 5 * (n + 1) + 4) (cNd (lkF f n) (n + 1))) p1_5 p2_6 p3_7 p4_8 q1 q2 q3 q4 _ _ _ rfl (by omega) (hR1.put (n := n + 1) (k := 4) (by omega) (by omega) hN6 _) (gw_look hxx (by first | exact Or.inl ⟨c_14, rfl⟩ | exact Or.inr ⟨c_14, rfl⟩)) hP hD hS (lv_sub hl [0, 1, 4] rfl)
          · skip
            refine lv_iconst (v := 1) hx hb dX5_look_64 (by decide) ?_
            refine lv_iload_n hx hb dX5_look_65 rfl (lv_at hl 2 rfl) ?_
            refine lv_ishl hx hb dX5_look_66 ?_
            refine lv_goto (tgt := 71) hx hb dX5_look_67 (by decide) ?_
            refine lv_ior hx hb dX5_look_71 ?_
            refine lv_istore_n (lv' := [(1, .int (x ||| (1 <<< ((nI (n + 1)) &&& 31)))), (4, .int (cNd (lkF f n) (n + 1))), (3, .int ((lkF f n) (5 * (n + 1) + 4))), (2, .int (nI (n + 1))), (0, .ref oM)]) hx hb dX5_look_72 rfl hl (by decide) rfl (fun ls hl => ?_)
            refine lv_iinc (v := nI (n + 1 + 1)) (lv' := [(2, .int (nI (n + 1 + 1))), (1, .int (x ||| (1 <<< ((nI (n + 1)) &&& 31)))), (4, .int (cNd (lkF f n) (n + 1))), (3, .int ((lkF f n) (5 * (n + 1) + 4))), (0, .ref oM)]) hx hb dX5_look_73 hl (k := 3) rfl (z_add rfl rfl) (by decide) rfl (fun ls hl => ?_)
            refine lv_goto (tgt := 4) hx hb dX5_look_76 (by decide) ?_
            exact ih _ (by omega) (n + 1) (x ||| (1 <<< ((nI (n + 1)) &&& 31))) (upd q1z (4 + 5 * (n + 1) + 4) (cNd (lkF f n) (n + 1))) p1_5 p2_6 p3_7 p4_8 q1 q2 q3 q4 _ _ _ rfl (by omega) (hR1.put (n := n + 1) (k := 4) (by omega) (by omega) hN6 _) (gw_look hxx (by first | exact Or.inl ⟨c_14, rfl⟩ | exact Or.inr ⟨c_14, rfl⟩)) hP hD hS (lv_sub hl [0, 1, 4] rfl)
        · skip
          have c_11 := z_b1 c_11
          refine lv_iconst (v := 0) hx hb dX5_look_42 (by decide) ?_
          refine lv_goto (tgt := 47) hx hb dX5_look_43 (by decide) ?_
          refine z_topi (x := 0) (y := cNd (lkF f n) (n + 1)) (by rw [cNd, if_neg c_4, if_pos c_11]) ?_
          refine lv_istore (lv' := [(4, .int (cNd (lkF f n) (n + 1))), (3, .int ((lkF f n) (5 * (n + 1) + 4))), (2, .int (nI (n + 1))), (1, .int x), (0, .ref oM)]) hx hb dX5_look_47 hl (by decide) rfl (fun ls hl => ?_)
          refine lv_aload_n hx hb dX5_look_49 rfl (lv_at hl 4 rfl) ?_
          refine lv_iload_n hx hb dX5_look_50 rfl (lv_at hl 2 rfl) ?_
          refine lv_iconst (v := 4) hx hb dX5_look_51 (by decide) ?_
          refine lv_iload hx hb dX5_look_52 (lv_at hl 0 rfl) ?_
          refine z_VV (n := 3) (wn := (fun u : Unit => [(oM, .inr (5, [.ref mN, .ref mA, .ref mP, .int (nI ks), .ref mR, .ref mT, .int (nI ln), .long p1_5, .long p2_6, .long p3_7, .long p4_8, .long q1, .long q2, .long q3, .long q4, .ref mL, .ref mB, .int od, .int spt, .int wa, .long hs])), (mN, .inl (cI, 39, .inl (upd q1z (4 + 5 * (n + 1) + 4) (cNd (lkF f n) (n + 1)))))])) (wr := []) (As := [.int (nI (n + 1)), .int 4, .int (cNd (lkF f n) (n + 1))]) (rest := []) ⟨hx, hb, hml, hown, hts⟩ hK hP hD hS hA hT (kX5_tells l D cI cB tE tN oM mN mA mP mR mT mL mB ks ln p1_5 p2_6 p3_7 p4_8 q1 q2 q3 q4 od spt wa hs q1z (n + 1) 4 (cNd (lkF f n) (n + 1)) _ (by omega) (by omega)) gX5_look_X5_tells rfl rfl rfl (by decide +kernel) ⟨Nat.le_of_ble_eq_true rfl, Nat.le_of_ble_eq_true rfl⟩ [0, 1] [] [0, 1] (by decide) rfl rfl (by decide) (by decide) (by decide) (fun u => rfl) 0 5 rfl rfl rfl rfl hl.1 rfl (Nat.le_of_ble_eq_true rfl) dX5_look_54 ⟨Nat.le_of_ble_eq_true rfl, Nat.le_of_ble_eq_true rfl⟩ (fun u H locs hw_16 hP hD hS => ?_)
          try dsimp only at hw_16
          have hP : va_P D vwCl [(oM, .inr (5, [.ref mN, .ref mA, .ref mP, .int (nI ks), .ref mR, .ref mT, .int (nI ln), .long p1_5, .long p2_6, .long p3_7, .long p4_8, .long q1, .long q2, .long q3, .long q4, .ref mL, .ref mB, .int od, .int spt, .int wa, .long hs])), (mN, .inl (cI, 39, .inl (upd q1z (4 + 5 * (n + 1) + 4) (cNd (lkF f n) (n + 1)))))] H := hP
          have hD : va_D A [(oM, .inr (5, [.ref mN, .ref mA, .ref mP, .int (nI ks), .ref mR, .ref mT, .int (nI ln), .long p1_5, .long p2_6, .long p3_7, .long p4_8, .long q1, .long q2, .long q3, .long q4, .ref mL, .ref mB, .int od, .int spt, .int wa, .long hs])), (mN, .inl (cI, 39, .inl (upd q1z (4 + 5 * (n + 1) + 4) (cNd (lkF f n) (n + 1)))))] := hD
          refine lv_iload_n hx hb dX5_look_57 rfl (lv_at hl 3 rfl) ?_
          refine lv_iload hx hb dX5_look_58 (lv_at hl 0 rfl) ?_
          refine lv_iconst (v := 1) hx hb dX5_look_60 (by decide) ?_
          refine lv_icmp_ne (tgt := 70) hx hb dX5_look_61 (by decide) (fun c_17 => ?_) (fun c_17 => ?_)
          · skip
            refine lv_iconst (v := 0) hx hb dX5_look_70 (by decide) ?_
            refine lv_ior hx hb dX5_look_71 ?_
            refine lv_istore_n (lv' := [(1, .int (x ||| 0)), (4, .int (cNd (lkF f n) (n + 1))), (3, .int ((lkF f n) (5 * (n + 1) + 4))), (2, .int (nI (n + 1))), (0, .ref oM)]) hx hb dX5_look_72 rfl hl (by decide) rfl (fun ls hl => ?_)
            refine lv_iinc (v := nI (n + 1 + 1)) (lv' := [(2, .int (nI (n + 1 + 1))), (1, .int (x ||| 0)), (4, .int (cNd (lkF f n) (n + 1))), (3, .int ((lkF f n) (5 * (n + 1) + 4))), (0, .ref oM)]) hx hb dX5_look_73 hl (k := 3) rfl (z_add rfl rfl) (by decide) rfl (fun ls hl => ?_)
            refine lv_goto (tgt := 4) hx hb dX5_look_76 (by decide) ?_
            exact ih _ (by omega) (n + 1) (x ||| 0) (upd q1z (4 + 5 * (n + 1) + 4) (cNd (lkF f n) (n + 1))) p1_5 p2_6 p3_7 p4_8 q1 q2 q3 q4 _ _ _ rfl (by omega) (hR1.put (n := n + 1) (k := 4) (by omega) (by omega) hN6 _) (gw_look hxx (by first | exact Or.inl ⟨c_17, rfl⟩ | exact Or.inr ⟨c_17, rfl⟩)) hP hD hS (lv_sub hl [0, 1, 4] rfl)
          · skip
            refine lv_iconst (v := 1) hx hb dX5_look_64 (by decide) ?_
            refine lv_iload_n hx hb dX5_look_65 rfl (lv_at hl 2 rfl) ?_
            refine lv_ishl hx hb dX5_look_66 ?_
            refine lv_goto (tgt := 71) hx hb dX5_look_67 (by decide) ?_
            refine lv_ior hx hb dX5_look_71 ?_
            refine lv_istore_n (lv' := [(1, .int (x ||| (1 <<< ((nI (n + 1)) &&& 31)))), (4, .int (cNd (lkF f n) (n + 1))), (3, .int ((lkF f n) (5 * (n + 1) + 4))), (2, .int (nI (n + 1))), (0, .ref oM)]) hx hb dX5_look_72 rfl hl (by decide) rfl (fun ls hl => ?_)
            refine lv_iinc (v := nI (n + 1 + 1)) (lv' := [(2, .int (nI (n + 1 + 1))), (1, .int (x ||| (1 <<< ((nI (n + 1)) &&& 31)))), (4, .int (cNd (lkF f n) (n + 1))), (3, .int ((lkF f n) (5 * (n + 1) + 4))), (0, .ref oM)]) hx hb dX5_look_73 hl (k := 3) rfl (z_add rfl rfl) (by decide) rfl (fun ls hl => ?_)
            refine lv_goto (tgt := 4) hx hb dX5_look_76 (by decide) ?_
            exact ih _ (by omega) (n + 1) (x ||| (1 <<< ((nI (n + 1)) &&& 31))) (upd q1z (4 + 5 * (n + 1) + 4) (cNd (lkF f n) (n + 1))) p1_5 p2_6 p3_7 p4_8 q1 q2 q3 q4 _ _ _ rfl (by omega) (hR1.put (n := n + 1) (k := 4) (by omega) (by omega) hN6 _) (gw_look hxx (by first | exact Or.inl ⟨c_17, rfl⟩ | exact Or.inr ⟨c_17, rfl⟩)) hP hD hS (lv_sub hl [0, 1, 4] rfl)
      · skip
        refine lv_aload_n hx hb dX5_look_25 rfl (lv_at hl 3 rfl) ?_
        refine lv_iconst (v := 0) hx hb dX5_look_26 (by decide) ?_
        refine lv_iload_n hx hb dX5_look_27 rfl (lv_at hl 1 rfl) ?_
        refine z_VI (n := 2) (wn := (fun u : Int64 × Int64 × Int64 × Int64 × Int64 × Int64 × Int64 × Int64 => [(oM, .inr (5, [.ref mN, .ref mA, .ref mP, .int (nI ks), .ref mR, .ref mT, .int (nI ln), .long u.1, .long u.2.1, .long u.2.2.1, .long u.2.2.2.1, .long u.2.2.2.2.1, .long u.2.2.2.2.2.1, .long u.2.2.2.2.2.2.1, .long u.2.2.2.2.2.2.2, .ref mL, .ref mB, .int od, .int spt, .int wa, .long hs])), (mN, .inl (cI, 39, .inl q1z))])) (wr := []) (As := [.int 0, .int (nI (n + 1))]) (rest := []) ⟨hx, hb, hml, hown, hts⟩ hK hP hD hS hA hT (kX5_tableOf l D cI cB tE tN oM mN mA mP mR mT mL mB ks ln p1 p2 p3 p4 q1 q2 q3 q4 od spt wa hs q1z (lkF f n) N 0 (n + 1) _ (hR1) (Iv_look hI (by omega)) ((nN_lk (by omega)).trans hNN) (by omega) (by omega)) gX5_look_X5_tableOf rfl rfl rfl (by decide +kernel) ⟨Nat.le_of_ble_eq_true rfl, Nat.le_of_ble_eq_true rfl⟩ [0, 1] [] [0, 1] (by decide) rfl rfl (by decide) (by decide) (by decide) (fun u => rfl) 0 5 rfl rfl rfl rfl hl.1 rfl (Nat.le_of_ble_eq_true rfl) dX5_look_28 ⟨Nat.le_of_ble_eq_true rfl, Nat.le_of_ble_eq_true rfl⟩ (fun r_26 u H locs hw_27 hP hD hS => ?_)
        obtain ⟨p1_18, p2_19, p3_20, p4_21, q1_22, q2_23, q3_24, q4_25⟩ := u
        try dsimp only at hw_27
        have hP : va_P D vwCl [(oM, .inr (5, [.ref mN, .ref mA, .ref mP, .int (nI ks), .ref mR, .ref mT, .int (nI ln), .long p1_18, .long p2_19, .long p3_20, .long p4_21, .long q1_22, .long q2_23, .long q3_24, .long q4_25, .ref mL, .ref mB, .int od, .int spt, .int wa, .long hs])), (mN, .inl (cI, 39, .inl q1z))] H := hP
        have hD : va_D A [(oM, .inr (5, [.ref mN, .ref mA, .ref mP, .int (nI ks), .ref mR, .ref mT, .int (nI ln), .long p1_18, .long p2_19, .long p3_20, .long p4_21, .long q1_22, .long q2_23, .long q3_24, .long q4_25, .ref mL, .ref mB, .int od, .int spt, .int wa, .long hs])), (mN, .inl (cI, 39, .inl q1z))] := hD
        subst r_26
        refine lv_goto (tgt := 47) hx hb dX5_look_31 (by decide) ?_
        refine z_topi (x := cTab (lkF f n) 0 (n + 1)) (y := cNd (lkF f n) (n + 1)) (by rw [cNd, if_pos c_4]) ?_
        refine lv_istore (lv' := [(4, .int (cNd (lkF f n) (n + 1))), (3, .int ((lkF f n) (5 * (n + 1) + 4))), (2, .int (nI (n + 1))), (1, .int x), (0, .ref oM)]) hx hb dX5_look_47 hl (by decide) rfl (fun ls hl => ?_)
        refine lv_aload_n hx hb dX5_look_49 rfl (lv_at hl 4 rfl) ?_
        refine lv_iload_n hx hb dX5_look_50 rfl (lv_at hl 2 rfl) ?_
        refine lv_iconst (v := 4) hx hb dX5_look_51 (by decide) ?_
        refine lv_iload hx hb dX5_look_52 (lv_at hl 0 rfl) ?_
        refine z_VV (n := 3) (wn := (fun u : Unit => [(oM, .inr (5, [.ref mN, .ref mA, .ref mP, .int (nI ks), .ref mR, .ref mT, .int (nI ln), .long p1_18, .long p2_19, .long p3_20, .long p4_21, .long q1_22, .long q2_23, .long q3_24, .long q4_25, .ref mL, .ref mB, .int od, .int spt, .int wa, .long hs])), (mN, .inl (cI, 39, .inl (upd q1z (4 + 5 * (n + 1) + 4) (cNd (lkF f n) (n + 1)))))])) (wr := []) (As := [.int (nI (n + 1)), .int 4, .int (cNd (lkF f n) (n + 1))]) (rest := []) ⟨hx, hb, hml, hown, hts⟩ hK hP hD hS hA hT (kX5_tells l D cI cB tE tN oM mN mA mP mR mT mL mB ks ln p1_18 p2_19 p3_20 p4_21 q1_22 q2_23 q3_24 q4_25 od spt wa hs q1z (n + 1) 4 (cNd (lkF f n) (n + 1)) _ (by omega) (by omega)) gX5_look_X5_tells rfl rfl rfl (by decide +kernel) ⟨Nat.le_of_ble_eq_true rfl, Nat.le_of_ble_eq_true rfl⟩ [0, 1] [] [0, 1] (by decide) rfl rfl (by decide) (by decide) (by decide) (fun u => rfl) 0 5 rfl rfl rfl rfl hl.1 rfl (Nat.le_of_ble_eq_true rfl) dX5_look_54 ⟨Nat.le_of_ble_eq_true rfl, Nat.le_of_ble_eq_true rfl⟩ (fun u H locs hw_29 hP hD hS => ?_)
        try dsimp only at hw_29
        have hP : va_P D vwCl [(oM, .inr (5, [.ref mN, .ref mA, .ref mP, .int (nI ks), .ref mR, .ref mT, .int (nI ln), .long p1_18, .long p2_19, .long p3_20, .long p4_21, .long q1_22, .long q2_23, .long q3_24, .long q4_25, .ref mL, .ref mB, .int od, .int spt, .int wa, .long hs])), (mN, .inl (cI, 39, .inl (upd q1z (4 + 5 * (n + 1) + 4) (cNd (lkF f n) (n + 1)))))] H := hP
        have hD : va_D A [(oM, .inr (5, [.ref mN, .ref mA, .ref mP, .int (nI ks), .ref mR, .ref mT, .int (nI ln), .long p1_18, .long p2_19, .long p3_20, .long p4_21, .long q1_22, .long q2_23, .long q3_24, .long q4_25, .ref mL, .ref mB, .int od, .int spt, .int wa, .long hs])), (mN, .inl (cI, 39, .inl (upd q1z (4 + 5 * (n + 1) + 4) (cNd (lkF f n) (n + 1)))))] := hD
        refine lv_iload_n hx hb dX5_look_57 rfl (lv_at hl 3 rfl) ?_
        refine lv_iload hx hb dX5_look_58 (lv_at hl 0 rfl) ?_
        refine lv_iconst (v := 1) hx hb dX5_look_60 (by decide) ?_
        refine lv_icmp_ne (tgt := 70) hx hb dX5_look_61 (by decide) (fun c_30 => ?_) (fun c_30 => ?_)
        · skip
          refine lv_iconst (v := 0) hx hb dX5_look_70 (by decide) ?_
          refine lv_ior hx hb dX5_look_71 ?_
          refine lv_istore_n (lv' := [(1, .int (x ||| 0)), (4, .int (cNd (lkF f n) (n + 1))), (3, .int ((lkF f n) (5 * (n + 1) + 4))), (2, .int (nI (n + 1))), (0, .ref oM)]) hx hb dX5_look_72 rfl hl (by decide) rfl (fun ls hl => ?_)
          refine lv_iinc (v := nI (n + 1 + 1)) (lv' := [(2, .int (nI (n + 1 + 1))), (1, .int (x ||| 0)), (4, .int (cNd (lkF f n) (n + 1))), (3, .int ((lkF f n) (5 * (n + 1) + 4))), (0, .ref oM)]) hx hb dX5_look_73 hl (k := 3) rfl (z_add rfl rfl) (by decide) rfl (fun ls hl => ?_)
          refine lv_goto (tgt := 4) hx hb dX5_look_76 (by decide) ?_
          exact ih _ (by omega) (n + 1) (x ||| 0) (upd q1z (4 + 5 * (n + 1) + 4) (cNd (lkF f n) (n + 1))) p1_18 p2_19 p3_20 p4_21 q1_22 q2_23 q3_24 q4_25 _ _ _ rfl (by omega) (hR1.put (n := n + 1) (k := 4) (by omega) (by omega) hN6 _) (gw_look hxx (by first | exact Or.inl ⟨c_30, rfl⟩ | exact Or.inr ⟨c_30, rfl⟩)) hP hD hS (lv_sub hl [0, 1, 4] rfl)
        · skip
          refine lv_iconst (v := 1) hx hb dX5_look_64 (by decide) ?_
          refine lv_iload_n hx hb dX5_look_65 rfl (lv_at hl 2 rfl) ?_
          refine lv_ishl hx hb dX5_look_66 ?_
          refine lv_goto (tgt := 71) hx hb dX5_look_67 (by decide) ?_
          refine lv_ior hx hb dX5_look_71 ?_
          refine lv_istore_n (lv' := [(1, .int (x ||| (1 <<< ((nI (n + 1)) &&& 31)))), (4, .int (cNd (lkF f n) (n + 1))), (3, .int ((lkF f n) (5 * (n + 1) + 4))), (2, .int (nI (n + 1))), (0, .ref oM)]) hx hb dX5_look_72 rfl hl (by decide) rfl (fun ls hl => ?_)
          refine lv_iinc (v := nI (n + 1 + 1)) (lv' := [(2, .int (nI (n + 1 + 1))), (1, .int (x ||| (1 <<< ((nI (n + 1)) &&& 31)))), (4, .int (cNd (lkF f n) (n + 1))), (3, .int ((lkF f n) (5 * (n + 1) + 4))), (0, .ref oM)]) hx hb dX5_look_73 hl (k := 3) rfl (z_add rfl rfl) (by decide) rfl (fun ls hl => ?_)
          refine lv_goto (tgt := 4) hx hb dX5_look_76 (by decide) ?_
          exact ih _ (by omega) (n + 1) (x ||| (1 <<< ((nI (n + 1)) &&& 31))) (upd q1z (4 + 5 * (n + 1) + 4) (cNd (lkF f n) (n + 1))) p1_18 p2_19 p3_20 p4_21 q1_22 q2_23 q3_24 q4_25 _ _ _ rfl (by omega) (hR1.put (n := n + 1) (k := 4) (by omega) (by omega) hN6 _) (gw_look hxx (by first | exact Or.inl ⟨c_30, rfl⟩ | exact Or.inr ⟨c_30, rfl⟩)) hP hD hS (lv_sub hl [0, 1, 4] rfl)
  refine lv_iconst (v := 0) hx hb dX5_look_0 (by decide) ?_
  refine lv_istore_n (lv' := [(1, .int 0), (0, .ref oM)]) hx hb dX5_look_1 rfl hl (by decide) rfl (fun ls hl => ?_)
  refine lv_iconst (v := 1) hx hb dX5_look_2 (by decide) ?_
  refine lv_istore_n (lv' := [(2, .int 1), (1, .int 0), (0, .ref oM)]) hx hb dX5_look_3 rfl hl (by decide) rfl (fun ls hl => ?_)
  exact lp4 _ 0 0 qn x1 x2 x3 x4 y1 y2 y3 y4 _ _ _ rfl (by omega) hR rfl hP hD hS (lv_sub hl [0, 1, 2] rfl)

set_option maxHeartbeats 4000000 in
set_option maxRecDepth 100000 in
theorem kX5_eastSpeed (l : Launch) (D : va_G) (cI cB : ClassId) (tE tN : Nat) (oM : Nat) (mN : Nat) (mA : Nat) (mP : Nat) (mR : Nat) (mT : Nat) (mL : Nat) (mB : Nat) (ks : Nat) (ln : Nat) (x1 : Int64) (x2 : Int64) (x3 : Int64) (x4 : Int64) (y1 : Int64) (y2 : Int64) (y3 : Int64) (y4 : Int64) (od : Int32) (spt : Int32) (wa : Int32) (hs : Int64) (qn : Nat → Int32) (f : Nat → Int32) (N : Nat) (n : Nat) (sz : Nat) (hR : Rg N f qn) (hI : Iv f) (hNN : nN f = N) (hn : n ≤ N) : zI l yX5_eastSpeed wsX5_eastSpeed ({ frames := 2, cells := 0, slots := 0, locals := 43 }) D cI cB tE tN [.ref oM, .int (nI n)] [(oM, .inr (5, [.ref mN, .ref mA, .ref mP, .int (nI ks), .ref mR, .ref mT, .int (nI ln), .long x1, .long x2, .long x3, .long x4, .long y1, .long y2, .long y3, .long y4, .ref mL, .ref mB, .int od, .int spt, .int wa, .long hs])), (mN, .inl (cI, 39, .inl qn))] sz (fun u : Unit => [(oM, .inr (5, [.ref mN, .ref mA, .ref mP, .int (nI ks), .ref mR, .ref mT, .int (nI ln), .long x1, .long x2, .long x3, .long x4, .long y1, .long y2, .long y3, .long y4, .ref mL, .ref mB, .int od, .int spt, .int wa, .long hs])), (mN, .inl (cI, 39, .inl qn))]) (fun (r : Int32) (u : Unit) => r = cEast f n) 0 0 := by
  refine zI_mk (cc := cX5_eastSpeed) (maxL := 2) (rt := .int) (by decide) rfl (Nat.le_of_ble_eq_true rfl) ?_
  intro p e s m below meth c A Q ls S0 hname hA hK hP hD hT hS hQ hl
  obtain ⟨hx, hb, hml, hown, hts⟩ := id S0
  have hl : lv_has ls 2 [(0, .ref oM), (1, .int (nI n))] := hl
  have hN6 : N ≤ 6 := by rw [← hNN]; exact hI.1
  obtain ⟨ka, hka, hka15⟩ := inr_nat (hi := 15) (hI.2.2.1 n (by omega)).2.2.1 (by decide)
  refine lv_aload_n hx hb dX5_eastSpeed_0 rfl (lv_at hl 0 rfl) ?_
  refine lv_iload_n hx hb dX5_eastSpeed_1 rfl (lv_at hl 1 rfl) ?_
  refine lv_iconst (v := 3) hx hb dX5_eastSpeed_2 (by decide) ?_
  refine z_VI (n := 2) (wn := (fun u : Unit => [(oM, .inr (5, [.ref mN, .ref mA, .ref mP, .int (nI ks), .ref mR, .ref mT, .int (nI ln), .long x1, .long x2, .long x3, .long x4, .long y1, .long y2, .long y3, .long y4, .ref mL, .ref mB, .int od, .int spt, .int wa, .long hs])), (mN, .inl (cI, 39, .inl qn))])) (wr := []) (As := [.int (nI n), .int 3]) (rest := []) ⟨hx, hb, hml, hown, hts⟩ hK hP hD hS hA hT (kX5_shipOf l D cI cB tE tN oM mN mA mP mR mT mL mB ks ln x1 x2 x3 x4 y1 y2 y3 y4 od spt wa hs qn f N n 3 _ (hR) (hI) (hNN) (by omega) (by omega)) gX5_eastSpeed_X5_shipOf rfl rfl rfl (by decide +kernel) ⟨Nat.le_of_ble_eq_true rfl, Nat.le_of_ble_eq_true rfl⟩ [0, 1] [] [0, 1] (by decide) rfl rfl (by decide) (by decide) (by decide) (fun u => rfl) 0 5 rfl rfl rfl rfl hl.1 rfl (Nat.le_of_ble_eq_true rfl) dX5_eastSpeed_3 ⟨Nat.le_of_ble_eq_true rfl, Nat.le_of_ble_eq_true rfl⟩ (fun r_1 u H locs hw_2 hP hD hS => ?_)
  try dsimp only at hw_2
  have hP : va_P D vwCl [(oM, .inr (5, [.ref mN, .ref mA, .ref mP, .int (nI ks), .ref mR, .ref mT, .int (nI ln), .long x1, .long x2, .long x3, .long x4, .long y1, .long y2, .long y3, .long y4, .ref mL, .ref mB, .int od, .int spt, .int wa, .long hs])), (mN, .inl (cI, 39, .inl qn))] H := hP
  have hD : va_D A [(oM, .inr (5, [.ref mN, .ref mA, .ref mP, .int (nI ks), .ref mR, .ref mT, .int (nI ln), .long x1, .long x2, .long x3, .long x4, .long y1, .long y2, .long y3, .long y4, .ref mL, .ref mB, .int od, .int spt, .int wa, .long hs])), (mN, .inl (cI, 39, .inl qn))] := hD
  subst r_1
  refine lv_aload_n hx hb dX5_eastSpeed_6 rfl (lv_at hl 0 rfl) ?_
  refine lv_iload_n hx hb dX5_eastSpeed_7 rfl (lv_at hl 1 rfl) ?_
  refine lv_iconst (v := 2) hx hb dX5_eastSpeed_8 (by decide) ?_
  refine z_VI (n := 2) (wn := (fun u : Unit => [(oM, .inr (5, [.ref mN, .ref mA, .ref mP, .int (nI ks), .ref mR, .ref mT, .int (nI ln), .long x1, .long x2, .long x3, .long x4, .long y1, .long y2, .long y3, .long y4, .ref mL, .ref mB, .int od, .int spt, .int wa, .long hs])), (mN, .inl (cI, 39, .inl qn))])) (wr := []) (As := [.int (nI n), .int 2]) (rest := [.int (f (5 * n + 3))]) ⟨hx, hb, hml, hown, hts⟩ hK hP hD hS hA hT (kX5_shipOf l D cI cB tE tN oM mN mA mP mR mT mL mB ks ln x1 x2 x3 x4 y1 y2 y3 y4 od spt wa hs qn f N n 2 _ (hR) (hI) (hNN) (by omega) (by omega)) gX5_eastSpeed_X5_shipOf rfl rfl rfl (by decide +kernel) ⟨Nat.le_of_ble_eq_true rfl, Nat.le_of_ble_eq_true rfl⟩ [0, 1] [] [0, 1] (by decide) rfl rfl (by decide) (by decide) (by decide) (fun u => rfl) 0 5 rfl rfl rfl rfl hl.1 rfl (Nat.le_of_ble_eq_true rfl) dX5_eastSpeed_9 ⟨Nat.le_of_ble_eq_true rfl, Nat.le_of_ble_eq_true rfl⟩ (fun r_3 u H locs hw_4 hP hD hS => ?_)
  try dsimp only at hw_4
  have hP : va_P D vwCl [(oM, .inr (5, [.ref mN, .ref mA, .ref mP, .int (nI ks), .ref mR, .ref mT, .int (nI ln), .long x1, .long x2, .long x3, .long x4, .long y1, .long y2, .long y3, .long y4, .ref mL, .ref mB, .int od, .int spt, .int wa, .long hs])), (mN, .inl (cI, 39, .inl qn))] H := hP
  have hD : va_D A [(oM, .inr (5, [.ref mN, .ref mA, .ref mP, .int (nI ks), .ref mR, .ref mT, .int (nI ln), .long x1, .long x2, .long x3, .long x4, .long y1, .long y2, .long y3, .long y4, .ref mL, .ref mB, .int od, .int spt, .int wa, .long hs])), (mN, .inl (cI, 39, .inl qn))] := hD
  subst r_3
  refine z_SI (n := 1) (wn := (fun u : Unit => [(oM, .inr (5, [.ref mN, .ref mA, .ref mP, .int (nI ks), .ref mR, .ref mT, .int (nI ln), .long x1, .long x2, .long x3, .long x4, .long y1, .long y2, .long y3, .long y4, .ref mL, .ref mB, .int od, .int spt, .int wa, .long hs])), (mN, .inl (cI, 39, .inl qn))])) (wr := [(oM, .inr (5, [.ref mN, .ref mA, .ref mP, .int (nI ks), .ref mR, .ref mT, .int (nI ln), .long x1, .long x2, .long x3, .long x4, .long y1, .long y2, .long y3, .long y4, .ref mL, .ref mB, .int od, .int spt, .int wa, .long hs])), (mN, .inl (cI, 39, .inl qn))]) (As := [.int (f (5 * n + 2))]) (rest := [.int (f (5 * n + 3))]) ⟨hx, hb, hml, hown, hts⟩ hK hP hD hS hA hT (kX5_eastOf l D cI cB tE tN (f (5 * n + 2)) ka _ (hka) (hka15)) gX5_eastSpeed_X5_eastOf rfl rfl rfl (by decide +kernel) ⟨Nat.le_of_ble_eq_true rfl, Nat.le_of_ble_eq_true rfl⟩ [] [0, 1] [0, 1] (by decide) rfl rfl (by decide) (by decide) (by decide) (fun u => rfl) rfl hl.1 rfl (Nat.le_of_ble_eq_true rfl) dX5_eastSpeed_12 ⟨Nat.le_of_ble_eq_true rfl, Nat.le_of_ble_eq_true rfl⟩ (fun r_5 u H locs hw_6 hP hD hS => ?_)
  try dsimp only at hw_6
  have hP : va_P D vwCl [(oM, .inr (5, [.ref mN, .ref mA, .ref mP, .int (nI ks), .ref mR, .ref mT, .int (nI ln), .long x1, .long x2, .long x3, .long x4, .long y1, .long y2, .long y3, .long y4, .ref mL, .ref mB, .int od, .int spt, .int wa, .long hs])), (mN, .inl (cI, 39, .inl qn))] H := hP
  have hD : va_D A [(oM, .inr (5, [.ref mN, .ref mA, .ref mP, .int (nI ks), .ref mR, .ref mT, .int (nI ln), .long x1, .long x2, .long x3, .long x4, .long y1, .long y2, .long y3, .long y4, .ref mL, .ref mB, .int od, .int spt, .int wa, .long hs])), (mN, .inl (cI, 39, .inl qn))] := hD
  subst r_5
  refine lv_imul hx hb dX5_eastSpeed_15 ?_
  exact hQ ((f (5 * n + 3)) * (vE (f (5 * n + 2)))) () _ _ _ _ (rfl) (rfl) hP hD hS dX5_eastSpeed_16

set_option maxHeartbeats 4000000 in
set_option maxRecDepth 100000 in
theorem kX5_northSpeed (l : Launch) (D : va_G) (cI cB : ClassId) (tE tN : Nat) (oM : Nat) (mN : Nat) (mA : Nat) (mP : Nat) (mR : Nat) (mT : Nat) (mL : Nat) (mB : Nat) (ks : Nat) (ln : Nat) (x1 : Int64) (x2 : Int64) (x3 : Int64) (x4 : Int64) (y1 : Int64) (y2 : Int64) (y3 : Int64) (y4 : Int64) (od : Int32) (spt : Int32) (wa : Int32) (hs : Int64) (qn : Nat → Int32) (f : Nat → Int32) (N : Nat) (n : Nat) (sz : Nat) (hR : Rg N f qn) (hI : Iv f) (hNN : nN f = N) (hn : n ≤ N) : zI l yX5_northSpeed wsX5_northSpeed ({ frames := 1, cells := 0, slots := 0, locals := 23 }) D cI cB tE tN [.ref oM, .int (nI n)] [(oM, .inr (5, [.ref mN, .ref mA, .ref mP, .int (nI ks), .ref mR, .ref mT, .int (nI ln), .long x1, .long x2, .long x3, .long x4, .long y1, .long y2, .long y3, .long y4, .ref mL, .ref mB, .int od, .int spt, .int wa, .long hs])), (mN, .inl (cI, 39, .inl qn))] sz (fun u : Unit => [(oM, .inr (5, [.ref mN, .ref mA, .ref mP, .int (nI ks), .ref mR, .ref mT, .int (nI ln), .long x1, .long x2, .long x3, .long x4, .long y1, .long y2, .long y3, .long y4, .ref mL, .ref mB, .int od, .int spt, .int wa, .long hs])), (mN, .inl (cI, 39, .inl qn))]) (fun (r : Int32) (u : Unit) => r = cNorth f n) 0 0 := by
  refine zI_mk (cc := cX5_northSpeed) (maxL := 2) (rt := .int) (by decide) rfl (Nat.le_of_ble_eq_true rfl) ?_
  intro p e s m below meth c A Q ls S0 hname hA hK hP hD hT hS hQ hl
  obtain ⟨hx, hb, hml, hown, hts⟩ := id S0
  have hl : lv_has ls 2 [(0, .ref oM), (1, .int (nI n))] := hl
  have hN6 : N ≤ 6 := by rw [← hNN]; exact hI.1
  obtain ⟨ka, hka, hka15⟩ := inr_nat (hi := 15) (hI.2.2.1 n (by omega)).2.2.1 (by decide)
  refine lv_aload_n hx hb dX5_northSpeed_0 rfl (lv_at hl 0 rfl) ?_
  refine lv_iload_n hx hb dX5_northSpeed_1 rfl (lv_at hl 1 rfl) ?_
  refine lv_iconst (v := 3) hx hb dX5_northSpeed_2 (by decide) ?_
  refine z_VI (n := 2) (wn := (fun u : Unit => [(oM, .inr (5, [.ref mN, .ref mA, .ref mP, .int (nI ks), .ref mR, .ref mT, .int (nI ln), .long x1, .long x2, .long x3, .long x4, .long y1, .long y2, .long y3, .long y4, .ref mL, .ref mB, .int od, .int spt, .int wa, .long hs])), (mN, .inl (cI, 39, .inl qn))])) (wr := []) (As := [.int (nI n), .int 3]) (rest := []) ⟨hx, hb, hml, hown, hts⟩ hK hP hD hS hA hT (kX5_shipOf l D cI cB tE tN oM mN mA mP mR mT mL mB ks ln x1 x2 x3 x4 y1 y2 y3 y4 od spt wa hs qn f N n 3 _ (hR) (hI) (hNN) (by omega) (by omega)) gX5_northSpeed_X5_shipOf rfl rfl rfl (by decide +kernel) ⟨Nat.le_of_ble_eq_true rfl, Nat.le_of_ble_eq_true rfl⟩ [0, 1] [] [0, 1] (by decide) rfl rfl (by decide) (by decide) (by decide) (fun u => rfl) 0 5 rfl rfl rfl rfl hl.1 rfl (Nat.le_of_ble_eq_true rfl) dX5_northSpeed_3 ⟨Nat.le_of_ble_eq_true rfl, Nat.le_of_ble_eq_true rfl⟩ (fun r_1 u H locs hw_2 hP hD hS => ?_)
  try dsimp only at hw_2
  have hP : va_P D vwCl [(oM, .inr (5, [.ref mN, .ref mA, .ref mP, .int (nI ks), .ref mR, .ref mT, .int (nI ln), .long x1, .long x2, .long x3, .long x4, .long y1, .long y2, .long y3, .long y4, .ref mL, .ref mB, .int od, .int spt, .int wa, .long hs])), (mN, .inl (cI, 39, .inl qn))] H := hP
  have hD : va_D A [(oM, .inr (5, [.ref mN, .ref mA, .ref mP, .int (nI ks), .ref mR, .ref mT, .int (nI ln), .long x1, .long x2, .long x3, .long x4, .long y1, .long y2, .long y3, .long y4, .ref mL, .ref mB, .int od, .int spt, .int wa, .long hs])), (mN, .inl (cI, 39, .inl qn))] := hD
  subst r_1
  refine lv_aload_n hx hb dX5_northSpeed_6 rfl (lv_at hl 0 rfl) ?_
  refine lv_iload_n hx hb dX5_northSpeed_7 rfl (lv_at hl 1 rfl) ?_
  refine lv_iconst (v := 2) hx hb dX5_northSpeed_8 (by decide) ?_
  refine z_VI (n := 2) (wn := (fun u : Unit => [(oM, .inr (5, [.ref mN, .ref mA, .ref mP, .int (nI ks), .ref mR, .ref mT, .int (nI ln), .long x1, .long x2, .long x3, .long x4, .long y1, .long y2, .long y3, .long y4, .ref mL, .ref mB, .int od, .int spt, .int wa, .long hs])), (mN, .inl (cI, 39, .inl qn))])) (wr := []) (As := [.int (nI n), .int 2]) (rest := [.int (f (5 * n + 3))]) ⟨hx, hb, hml, hown, hts⟩ hK hP hD hS hA hT (kX5_shipOf l D cI cB tE tN oM mN mA mP mR mT mL mB ks ln x1 x2 x3 x4 y1 y2 y3 y4 od spt wa hs qn f N n 2 _ (hR) (hI) (hNN) (by omega) (by omega)) gX5_northSpeed_X5_shipOf rfl rfl rfl (by decide +kernel) ⟨Nat.le_of_ble_eq_true rfl, Nat.le_of_ble_eq_true rfl⟩ [0, 1] [] [0, 1] (by decide) rfl rfl (by decide) (by decide) (by decide) (fun u => rfl) 0 5 rfl rfl rfl rfl hl.1 rfl (Nat.le_of_ble_eq_true rfl) dX5_northSpeed_9 ⟨Nat.le_of_ble_eq_true rfl, Nat.le_of_ble_eq_true rfl⟩ (fun r_3 u H locs hw_4 hP hD hS => ?_)
  try dsimp only at hw_4
  have hP : va_P D vwCl [(oM, .inr (5, [.ref mN, .ref mA, .ref mP, .int (nI ks), .ref mR, .ref mT, .int (nI ln), .long x1, .long x2, .long x3, .long x4, .long y1, .long y2, .long y3, .long y4, .ref mL, .ref mB, .int od, .int spt, .int wa, .long hs])), (mN, .inl (cI, 39, .inl qn))] H := hP
  have hD : va_D A [(oM, .inr (5, [.ref mN, .ref mA, .ref mP, .int (nI ks), .ref mR, .ref mT, .int (nI ln), .long x1, .long x2, .long x3, .long x4, .long y1, .long y2, .long y3, .long y4, .ref mL, .ref mB, .int od, .int spt, .int wa, .long hs])), (mN, .inl (cI, 39, .inl qn))] := hD
  subst r_3
  refine z_SI (n := 1) (wn := (fun u : Unit => [(oM, .inr (5, [.ref mN, .ref mA, .ref mP, .int (nI ks), .ref mR, .ref mT, .int (nI ln), .long x1, .long x2, .long x3, .long x4, .long y1, .long y2, .long y3, .long y4, .ref mL, .ref mB, .int od, .int spt, .int wa, .long hs])), (mN, .inl (cI, 39, .inl qn))])) (wr := [(oM, .inr (5, [.ref mN, .ref mA, .ref mP, .int (nI ks), .ref mR, .ref mT, .int (nI ln), .long x1, .long x2, .long x3, .long x4, .long y1, .long y2, .long y3, .long y4, .ref mL, .ref mB, .int od, .int spt, .int wa, .long hs])), (mN, .inl (cI, 39, .inl qn))]) (As := [.int (f (5 * n + 2))]) (rest := [.int (f (5 * n + 3))]) ⟨hx, hb, hml, hown, hts⟩ hK hP hD hS hA hT (kX5_northOf l D cI cB tE tN (f (5 * n + 2)) ka _ (hka) (hka15)) gX5_northSpeed_X5_northOf rfl rfl rfl (by decide +kernel) ⟨Nat.le_of_ble_eq_true rfl, Nat.le_of_ble_eq_true rfl⟩ [] [0, 1] [0, 1] (by decide) rfl rfl (by decide) (by decide) (by decide) (fun u => rfl) rfl hl.1 rfl (Nat.le_of_ble_eq_true rfl) dX5_northSpeed_12 ⟨Nat.le_of_ble_eq_true rfl, Nat.le_of_ble_eq_true rfl⟩ (fun r_5 u H locs hw_6 hP hD hS => ?_)
  try dsimp only at hw_6
  have hP : va_P D vwCl [(oM, .inr (5, [.ref mN, .ref mA, .ref mP, .int (nI ks), .ref mR, .ref mT, .int (nI ln), .long x1, .long x2, .long x3, .long x4, .long y1, .long y2, .long y3, .long y4, .ref mL, .ref mB, .int od, .int spt, .int wa, .long hs])), (mN, .inl (cI, 39, .inl qn))] H := hP
  have hD : va_D A [(oM, .inr (5, [.ref mN, .ref mA, .ref mP, .int (nI ks), .ref mR, .ref mT, .int (nI ln), .long x1, .long x2, .long x3, .long x4, .long y1, .long y2, .long y3, .long y4, .ref mL, .ref mB, .int od, .int spt, .int wa, .long hs])), (mN, .inl (cI, 39, .inl qn))] := hD
  subst r_5
  refine lv_imul hx hb dX5_northSpeed_15 ?_
  exact hQ ((f (5 * n + 3)) * (vN (f (5 * n + 2)))) () _ _ _ _ (rfl) (rfl) hP hD hS dX5_northSpeed_16
