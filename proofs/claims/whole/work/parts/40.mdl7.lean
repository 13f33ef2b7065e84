def gRf (ok : Bool) (rf : Nat → Int32) : Nat → Int32 := if ok = true then rf else upd rf 0 (rf 0 + 1)
theorem vIn_cIn (w k : Int32) : (decide (¬ w < 0) && decide (w ≤ k)) = cIn w 0 k := by
  unfold cIn
  rw [← Bool.decide_and]
  simp only [Int32.not_lt]
theorem pt_rd {m : Int64 × Int64 × Int64 × Int64} {q1 q2 q3 q4 : Int64} (h : (q1, q2, q3, q4) = rdF m) : q1 = cPt m.1 m.2.1 m.2.2.1 m.2.2.2 0 ∧ q2 = cPt m.1 m.2.1 m.2.2.1 m.2.2.2 1 ∧ q3 = cPt m.1 m.2.1 m.2.2.1 m.2.2.2 2 ∧ q4 = cPt m.1 m.2.1 m.2.2.1 m.2.2.2 3 := by
  cases h
  exact ⟨rfl, rfl, rfl, rfl⟩
set_option maxHeartbeats 4000000 in
set_option maxRecDepth 100000 in
theorem kX5_refuses (l : Launch) (D : va_G) (cI cB : ClassId) (tE tN : Nat) (oM : Nat) (mN : Nat) (mA : Nat) (mP : Nat) (mR : Nat) (mT : Nat) (mL : Nat) (mB : Nat) (ks : Nat) (ln : Nat) (x1 : Int64) (x2 : Int64) (x3 : Int64) (x4 : Int64) (y1 : Int64) (y2 : Int64) (y3 : Int64) (y4 : Int64) (od : Int32) (spt : Int32) (wa : Int32) (hs : Int64) (rf : Nat → Int32) (v : Int32) (j : Nat) (sz : Nat) (hj : (-10002) - v = nI j) (hj2 : j ≤ 2) : zI l yX5_refuses wsX5_refuses ({ frames := 0, cells := 0, slots := 0, locals := 0 }) D cI cB tE tN [.ref oM, .int v] [(oM, .inr (5, [.ref mN, .ref mA, .ref mP, .int (nI ks), .ref mR, .ref mT, .int (nI ln), .long x1, .long x2, .long x3, .long x4, .long y1, .long y2, .long y3, .long y4, .ref mL, .ref mB, .int od, .int spt, .int wa, .long hs])), (mR, .inl (cI, 3, .inl rf))] sz (fun u : Unit => [(oM, .inr (5, [.ref mN, .ref mA, .ref mP, .int (nI ks), .ref mR, .ref mT, .int (nI ln), .long x1, .long x2, .long x3, .long x4, .long y1, .long y2, .long y3, .long y4, .ref mL, .ref mB, .int od, .int spt, .int wa, .long hs])), (mR, .inl (cI, 3, .inl (upd rf j (rf j + 1))))]) (fun (r : Int32) (u : Unit) => r = v) 0 0 := by
  refine zI_mk (cc := cX5_refuses) (maxL := 2) (rt := .int) (by decide) rfl (Nat.le_of_ble_eq_true rfl) ?_
  intro p e s m below meth c A Q ls S0 hname hA hK hP hD hT hS hQ hl
  obtain ⟨hx, hb, hml, hown, hts⟩ := id S0
  have hl : lv_has ls 2 [(0, .ref oM), (1, .int v)] := hl
  have L19 : (Cond.fieldLink RX5 19 "PastAndClearModel" "refusals" "[I").before ([.ref oM, .int v] : List Value).toArray s = true := hts (.fieldLink RX5 19 "PastAndClearModel" "refusals" "[I") (by decide +kernel)
  have N5 : ∀ w ∈ u_ws RX5 TX5 21, w ∈ wsX5_refuses := by decide +kernel
  refine lv_aload_n hx hb dX5_refuses_0 rfl (lv_at hl 0 rfl) ?_
  refine va_get (D := D) (ci := 5) (v := .ref mR) (C := RX5) (T := TX5) (N := 21) hx hb hts N5 hown hK hP 0 rfl rfl 4 (by decide) L19 (fun _ h9 => h9) rfl dX5_refuses_1 ?_
  refine lv_sipush (v := (-10002)) hx hb dX5_refuses_4 (by decide) ?_
  refine lv_iload_n hx hb dX5_refuses_7 rfl (lv_at hl 1 rfl) ?_
  refine lv_isub hx hb dX5_refuses_8 ?_
  refine lv_dup2_11 hx hb dX5_refuses_9 rfl rfl ?_
  refine z_ild (v := rf j) (j := j) hx hb hK hP 1 rfl hj (by omega) (by decide) (rfl) dX5_refuses_10 ?_
  refine lv_iconst (v := 1) hx hb dX5_refuses_11 (by decide) ?_
  refine lv_iadd hx hb dX5_refuses_12 ?_
  refine z_ist (j := j) hx hb hK hP hD hS 1 rfl hj (by omega) (by decide) dX5_refuses_13 (fun H locs hP hD hS => ?_)
  have hP : va_P D vwCl [(oM, .inr (5, [.ref mN, .ref mA, .ref mP, .int (nI ks), .ref mR, .ref mT, .int (nI ln), .long x1, .long x2, .long x3, .long x4, .long y1, .long y2, .long y3, .long y4, .ref mL, .ref mB, .int od, .int spt, .int wa, .long hs])), (mR, .inl (cI, 3, .inl (upd rf j ((rf j) + 1))))] H := hP
  have hD : va_D A [(oM, .inr (5, [.ref mN, .ref mA, .ref mP, .int (nI ks), .ref mR, .ref mT, .int (nI ln), .long x1, .long x2, .long x3, .long x4, .long y1, .long y2, .long y3, .long y4, .ref mL, .ref mB, .int od, .int spt, .int wa, .long hs])), (mR, .inl (cI, 3, .inl (upd rf j ((rf j) + 1))))] := hD
  refine lv_iload_n hx hb dX5_refuses_14 rfl (lv_at hl 1 rfl) ?_
  exact hQ v () _ _ _ _ (rfl) (rfl) hP hD hS dX5_refuses_15

set_option maxHeartbeats 4000000 in
set_option maxRecDepth 100000 in
theorem kX5_told0 (l : Launch) (D : va_G) (cI cB : ClassId) (tE tN : Nat) (oM : Nat) (mN : Nat) (mA : Nat) (mP : Nat) (mR : Nat) (mT : Nat) (mL : Nat) (mB : Nat) (ks : Nat) (ln : Nat) (x1 : Int64) (x2 : Int64) (x3 : Int64) (x4 : Int64) (y1 : Int64) (y2 : Int64) (y3 : Int64) (y4 : Int64) (od : Int32) (spt : Int32) (wa : Int32) (hs : Int64) (qn : Nat → Int32) (f : Nat → Int32) (N : Nat) (n : Nat) (w : Nat) (sz : Nat) (hR : Rg N f qn) (hI : Iv f) (hNN : nN f = N) (hn : n ≤ N) (hw : w ≤ 5) : zI l yX5_told0 wsX5_told0 ({ frames := 3, cells := 0, slots := 0, locals := 64 }) D cI cB tE tN [.ref oM, .int (nI n), .int (nI w)] [(oM, .inr (5, [.ref mN, .ref mA, .ref mP, .int (nI ks), .ref mR, .ref mT, .int (nI ln), .long x1, .long x2, .long x3, .long x4, .long y1, .long y2, .long y3, .long y4, .ref mL, .ref mB, .int od, .int spt, .int wa, .long hs])), (mN, .inl (cI, 39, .inl qn))] sz (fun u : Unit => [(oM, .inr (5, [.ref mN, .ref mA, .ref mP, .int (nI ks), .ref mR, .ref mT, .int (nI ln), .long x1, .long x2, .long x3, .long x4, .long y1, .long y2, .long y3, .long y4, .ref mL, .ref mB, .int od, .int spt, .int wa, .long hs])), (mN, .inl (cI, 39, .inl qn))]) (fun (r : Int32) (u : Unit) => r = cPart f n w) 0 0 := by
  refine zI_mk (cc := cX5_told0) (maxL := 3) (rt := .int) (by decide) rfl (Nat.le_of_ble_eq_true rfl) ?_
  intro p e s m below meth c A Q ls S0 hname hA hK hP hD hT hS hQ hl
  obtain ⟨hx, hb, hml, hown, hts⟩ := id S0
  have hl : lv_has ls 3 [(0, .ref oM), (1, .int (nI n)), (2, .int (nI w))] := hl
  have hN6 : N ≤ 6 := by rw [← hNN]; exact hI.1
  refine lv_iload_n hx hb dX5_told0_0 rfl (lv_at hl 2 rfl) ?_
  refine lv_iconst (v := 4) hx hb dX5_told0_1 (by decide) ?_
  refine lv_icmp_ge (tgt := 14) hx hb dX5_told0_2 (by decide) (fun c_1 => ?_) (fun c_1 => ?_)
  · skip
    have c_1 := (z_le (a := 4) (b := w) rfl rfl (by omega) (by omega)).mp c_1
    refine lv_iload_n hx hb dX5_told0_14 rfl (lv_at hl 2 rfl) ?_
    refine lv_iconst (v := 4) hx hb dX5_told0_15 (by decide) ?_
    refine lv_icmp_ne (tgt := 27) hx hb dX5_told0_16 (by decide) (fun c_2 => ?_) (fun c_2 => ?_)
    · skip
      have c_2 := (z_eqn (a := w) (b := 4) rfl rfl (by omega) (by omega)).mp c_2
      refine lv_aload_n hx hb dX5_told0_27 rfl (lv_at hl 0 rfl) ?_
      refine lv_iload_n hx hb dX5_told0_28 rfl (lv_at hl 1 rfl) ?_
      refine z_VI (n := 1) (wn := (fun u : Unit => [(oM, .inr (5, [.ref mN, .ref mA, .ref mP, .int (nI ks), .ref mR, .ref mT, .int (nI ln), .long x1, .long x2, .long x3, .long x4, .long y1, .long y2, .long y3, .long y4, .ref mL, .ref mB, .int od, .int spt, .int wa, .long hs])), (mN, .inl (cI, 39, .inl qn))])) (wr := []) (As := [.int (nI n)]) (rest := []) ⟨hx, hb, hml, hown, hts⟩ hK hP hD hS hA hT (kX5_northSpeed l D cI cB tE tN oM mN mA mP mR mT mL mB ks ln x1 x2 x3 x4 y1 y2 y3 y4 od spt wa hs qn f N n _ (hR) (hI) (hNN) (by omega)) gX5_told0_X5_northSpeed rfl rfl rfl (by decide +kernel) ⟨Nat.le_of_ble_eq_true rfl, Nat.le_of_ble_eq_true rfl⟩ [0, 1] [] [0, 1] (by decide) rfl rfl (by decide) (by decide) (by decide) (fun u => rfl) 0 5 rfl rfl rfl rfl hl.1 rfl (Nat.le_of_ble_eq_true rfl) dX5_told0_29 ⟨Nat.le_of_ble_eq_true rfl, Nat.le_of_ble_eq_true rfl⟩ (fun r_3 u H locs hw_4 hP hD hS => ?_)
      try dsimp only at hw_4
      have hP : va_P D vwCl [(oM, .inr (5, [.ref mN, .ref mA, .ref mP, .int (nI ks), .ref mR, .ref mT, .int (nI ln), .long x1, .long x2, .long x3, .long x4, .long y1, .long y2, .long y3, .long y4, .ref mL, .ref mB, .int od, .int spt, .int wa, .long hs])), (mN, .inl (cI, 39, .inl qn))] H := hP
      have hD : va_D A [(oM, .inr (5, [.ref mN, .ref mA, .ref mP, .int (nI ks), .ref mR, .ref mT, .int (nI ln), .long x1, .long x2, .long x3, .long x4, .long y1, .long y2, .long y3, .long y4, .ref mL, .ref mB, .int od, .int spt, .int wa, .long hs])), (mN, .inl (cI, 39, .inl qn))] := hD
      subst r_3
      exact hQ (cNorth f n) () _ _ _ _ (rfl) (by rw [cPart]; first | rw [if_pos c_2] | rw [if_neg c_2, if_pos (by omega)]) hP hD hS dX5_told0_32
    · skip
      have c_2 := (z_eq (a := w) (b := 4) rfl rfl (by omega) (by omega)).mp c_2
      refine lv_aload_n hx hb dX5_told0_19 rfl (lv_at hl 0 rfl) ?_
      refine lv_iload_n hx hb dX5_told0_20 rfl (lv_at hl 1 rfl) ?_
      refine z_VI (n := 1) (wn := (fun u : Unit => [(oM, .inr (5, [.ref mN, .ref mA, .ref mP, .int (nI ks), .ref mR, .ref mT, .int (nI ln), .long x1, .long x2, .long x3, .long x4, .long y1, .long y2, .long y3, .long y4, .ref mL, .ref mB, .int od, .int spt, .int wa, .long hs])), (mN, .inl (cI, 39, .inl qn))])) (wr := []) (As := [.int (nI n)]) (rest := []) ⟨hx, hb, hml, hown, hts⟩ hK hP hD hS hA hT (kX5_eastSpeed l D cI cB tE tN oM mN mA mP mR mT mL mB ks ln x1 x2 x3 x4 y1 y2 y3 y4 od spt wa hs qn f N n _ (hR) (hI) (hNN) (by omega)) gX5_told0_X5_eastSpeed rfl rfl rfl (by decide +kernel) ⟨Nat.le_of_ble_eq_true rfl, Nat.le_of_ble_eq_true rfl⟩ [0, 1] [] [0, 1] (by decide) rfl rfl (by decide) (by decide) (by decide) (fun u => rfl) 0 5 rfl rfl rfl rfl hl.1 rfl (Nat.le_of_ble_eq_true rfl) dX5_told0_21 ⟨Nat.le_of_ble_eq_true rfl, Nat.le_of_ble_eq_true rfl⟩ (fun r_5 u H locs hw_6 hP hD hS => ?_)
      try dsimp only at hw_6
      have hP : va_P D vwCl [(oM, .inr (5, [.ref mN, .ref mA, .ref mP, .int (nI ks), .ref mR, .ref mT, .int (nI ln), .long x1, .long x2, .long x3, .long x4, .long y1, .long y2, .long y3, .long y4, .ref mL, .ref mB, .int od, .int spt, .int wa, .long hs])), (mN, .inl (cI, 39, .inl qn))] H := hP
      have hD : va_D A [(oM, .inr (5, [.ref mN, .ref mA, .ref mP, .int (nI ks), .ref mR, .ref mT, .int (nI ln), .long x1, .long x2, .long x3, .long x4, .long y1, .long y2, .long y3, .long y4, .ref mL, .ref mB, .int od, .int spt, .int wa, .long hs])), (mN, .inl (cI, 39, .inl qn))] := hD
      subst r_5
      refine lv_goto (tgt := 32) hx hb dX5_told0_24 (by decide) ?_
      exact hQ (cEast f n) () _ _ _ _ (rfl) (by rw [cPart]; first | rw [if_pos c_2] | rw [if_neg c_2, if_pos (by omega)]) hP hD hS dX5_told0_32
  · skip
    have c_1 := (z_len (a := 4) (b := w) rfl rfl (by omega) (by omega)).mp c_1
    refine lv_aload_n hx hb dX5_told0_5 rfl (lv_at hl 0 rfl) ?_
    refine lv_iload_n hx hb dX5_told0_6 rfl (lv_at hl 1 rfl) ?_
    refine lv_iload_n hx hb dX5_told0_7 rfl (lv_at hl 2 rfl) ?_
    refine z_VI (n := 2) (wn := (fun u : Unit => [(oM, .inr (5, [.ref mN, .ref mA, .ref mP, .int (nI ks), .ref mR, .ref mT, .int (nI ln), .long x1, .long x2, .long x3, .long x4, .long y1, .long y2, .long y3, .long y4, .ref mL, .ref mB, .int od, .int spt, .int wa, .long hs])), (mN, .inl (cI, 39, .inl qn))])) (wr := []) (As := [.int (nI n), .int (nI w)]) (rest := []) ⟨hx, hb, hml, hown, hts⟩ hK hP hD hS hA hT (kX5_shipOf l D cI cB tE tN oM mN mA mP mR mT mL mB ks ln x1 x2 x3 x4 y1 y2 y3 y4 od spt wa hs qn f N n w _ (hR) (hI) (hNN) (by omega) (by omega)) gX5_told0_X5_shipOf rfl rfl rfl (by decide +kernel) ⟨Nat.le_of_ble_eq_true rfl, Nat.le_of_ble_eq_true rfl⟩ [0, 1] [] [0, 1] (by decide) rfl rfl (by decide) (by decide) (by decide) (fun u => rfl) 0 5 rfl rfl rfl rfl hl.1 rfl (Nat.le_of_ble_eq_true rfl) dX5_told0_8 ⟨Nat.le_of_ble_eq_true rfl, Nat.le_of_ble_eq_true rfl⟩ (fun r_7 u H locs hw_8 hP hD hS => ?_)
    try dsimp only at hw_8
    have hP : va_P D vwCl [(oM, .inr (5, [.ref mN, .ref mA, .ref mP, .int (nI ks), .ref mR, .ref mT, .int (nI ln), .long x1, .long x2, .long x3, .long x4, .long y1, .long y2, .long y3, .long y4, .ref mL, .ref mB, .int od, .int spt, .int wa, .long hs])), (mN, .inl (cI, 39, .inl qn))] H := hP
    have hD : va_D A [(oM, .inr (5, [.ref mN, .ref mA, .ref mP, .int (nI ks), .ref mR, .ref mT, .int (nI ln), .long x1, .long x2, .long x3, .long x4, .long y1, .long y2, .long y3, .long y4, .ref mL, .ref mB, .int od, .int spt, .int wa, .long hs])), (mN, .inl (cI, 39, .inl qn))] := hD
    subst r_7
    refine lv_goto (tgt := 32) hx hb dX5_told0_11 (by decide) ?_
    exact hQ (f (5 * n + w)) () _ _ _ _ (rfl) (by rw [cPart, if_neg (by omega), if_neg (by omega)]) hP hD hS dX5_told0_32

set_option maxHeartbeats 4000000 in
set_option maxRecDepth 100000 in
theorem kX5_of (l : Launch) (D : va_G) (cI cB : ClassId) (tE tN : Nat) (oM : Nat) (mN : Nat) (mA : Nat) (mP : Nat) (mR : Nat) (mT : Nat) (mL : Nat) (mB : Nat) (ks : Nat) (ln : Nat) (x1 : Int64) (x2 : Int64) (x3 : Int64) (x4 : Int64) (y1 : Int64) (y2 : Int64) (y3 : Int64) (y4 : Int64) (od : Int32) (spt : Int32) (wa : Int32) (hs : Int64) (qn : Nat → Int32) (rf : Nat → Int32) (f : Nat → Int32) (N : Nat) (i : Int32) (w : Int32) (sz : Nat) (hR : Rg N f qn) (hI : Iv f) (hNN : nN f = N) : zI l yX5_of wsX5_of ({ frames := 4, cells := 0, slots := 0, locals := 86 }) D cI cB tE tN [.ref oM, .int i, .int w] [(oM, .inr (5, [.ref mN, .ref mA, .ref mP, .int (nI ks), .ref mR, .ref mT, .int (nI ln), .long x1, .long x2, .long x3, .long x4, .long y1, .long y2, .long y3, .long y4, .ref mL, .ref mB, .int od, .int spt, .int wa, .long hs])), (mN, .inl (cI, 39, .inl qn)), (mR, .inl (cI, 3, .inl rf))] sz (fun u : (Nat → Int32) => [(oM, .inr (5, [.ref mN, .ref mA, .ref mP, .int (nI ks), .ref mR, .ref mT, .int (nI ln), .long x1, .long x2, .long x3, .long x4, .long y1, .long y2, .long y3, .long y4, .ref mL, .ref mB, .int od, .int spt, .int wa, .long hs])), (mN, .inl (cI, 39, .inl qn)), (mR, .inl (cI, 3, .inl u))]) (fun (r : Int32) (u : (Nat → Int32)) => r = gOf f i w ∧ u = gRf (vOf f i w) rf) 0 0 := by
  refine zI_mk (cc := cX5_of) (maxL := 3) (rt := .int) (by decide) rfl (Nat.le_of_ble_eq_true rfl) ?_
  intro p e s m below meth c A Q ls S0 hname hA hK hP hD hT hS hQ hl
  obtain ⟨hx, hb, hml, hown, hts⟩ := id S0
  have hl : lv_has ls 3 [(0, .ref oM), (1, .int i), (2, .int w)] := hl
  have hN6 : N ≤ 6 := by rw [← hNN]; exact hI.1
  refine lv_aload_n hx hb dX5_of_0 rfl (lv_at hl 0 rfl) ?_
  refine lv_iload_n hx hb dX5_of_1 rfl (lv_at hl 1 rfl) ?_
  refine z_VI (n := 1) (wn := (fun u : Unit => [(oM, .inr (5, [.ref mN, .ref mA, .ref mP, .int (nI ks), .ref mR, .ref mT, .int (nI ln), .long x1, .long x2, .long x3, .long x4, .long y1, .long y2, .long y3, .long y4, .ref mL, .ref mB, .int od, .int spt, .int wa, .long hs])), (mN, .inl (cI, 39, .inl qn)), (mR, .inl (cI, 3, .inl rf))])) (wr := [(mR, .inl (cI, 3, .inl rf))]) (As := [.int i]) (rest := []) ⟨hx, hb, hml, hown, hts⟩ hK hP hD hS hA hT (kX5_isShip l D cI cB tE tN oM mN mA mP mR mT mL mB ks ln x1 x2 x3 x4 y1 y2 y3 y4 od spt wa hs qn f N i _ (hR) (hI) (hNN)) gX5_of_X5_isShip rfl rfl rfl (by decide +kernel) ⟨Nat.le_of_ble_eq_true rfl, Nat.le_of_ble_eq_true rfl⟩ [0, 1] [2] [1, 2, 0] (by decide) rfl rfl (by decide) (by decide) (by decide) (fun u => rfl) 0 5 rfl rfl rfl rfl hl.1 rfl (Nat.le_of_ble_eq_true rfl) dX5_of_2 ⟨Nat.le_of_ble_eq_true rfl, Nat.le_of_ble_eq_true rfl⟩ (fun r_1 u H locs hw_2 hP hD hS => ?_)
  try dsimp only at hw_2
  have hP : va_P D vwCl [(oM, .inr (5, [.ref mN, .ref mA, .ref mP, .int (nI ks), .ref mR, .ref mT, .int (nI ln), .long x1, .long x2, .long x3, .long x4, .long y1, .long y2, .long y3, .long y4, .ref mL, .ref mB, .int od, .int spt, .int wa, .long hs])), (mN, .inl (cI, 39, .inl qn)), (mR, .inl (cI, 3, .inl rf))] H := hP
  have hD : va_D A [(oM, .inr (5, [.ref mN, .ref mA, .ref mP, .int (nI ks), .ref mR, .ref mT, .int (nI ln), .long x1, .long x2, .long x3, .long x4, .long y1, .long y2, .long y3, .long y4, .ref mL, .ref mB, .int od, .int spt, .int wa, .long hs])), (mN, .inl (cI, 39, .inl qn)), (mR, .inl (cI, 3, .inl rf))] := hD
  subst r_1
  refine lv_if_eq (tgt := 26) hx hb dX5_of_5 (by decide) (fun c_3 => ?_) (fun c_3 => ?_)
  · skip
    have c_3 := z_b0 c_3
    refine lv_aload_n hx hb dX5_of_26 rfl (lv_at hl 0 rfl) ?_
    refine lv_sipush (v := (-10002)) hx hb dX5_of_27 (by decide) ?_
    refine z_VI (n := 1) (wn := (fun u : Unit => [(oM, .inr (5, [.ref mN, .ref mA, .ref mP, .int (nI ks), .ref mR, .ref mT, .int (nI ln), .long x1, .long x2, .long x3, .long x4, .long y1, .long y2, .long y3, .long y4, .ref mL, .ref mB, .int od, .int spt, .int wa, .long hs])), (mN, .inl (cI, 39, .inl qn)), (mR, .inl (cI, 3, .inl (upd rf 0 (rf 0 + 1))))])) (wr := [(mN, .inl (cI, 39, .inl qn))]) (As := [.int (-10002)]) (rest := []) ⟨hx, hb, hml, hown, hts⟩ hK hP hD hS hA hT (kX5_refuses l D cI cB tE tN oM mN mA mP mR mT mL mB ks ln x1 x2 x3 x4 y1 y2 y3 y4 od spt wa hs rf (-10002) 0 _ (by decide) (by omega)) gX5_of_X5_refuses rfl rfl rfl (by decide +kernel) ⟨Nat.le_of_ble_eq_true rfl, Nat.le_of_ble_eq_true rfl⟩ [0, 2] [1] [1, 0, 2] (by decide) rfl rfl (by decide) (by decide) (by decide) (fun u => rfl) 0 5 rfl rfl rfl rfl hl.1 rfl (Nat.le_of_ble_eq_true rfl) dX5_of_30 ⟨Nat.le_of_ble_eq_true rfl, Nat.le_of_ble_eq_true rfl⟩ (fun r_4 u H locs hw_5 hP hD hS => ?_)
    try dsimp only at hw_5
    have hP : va_P D vwCl [(oM, .inr (5, [.ref mN, .ref mA, .ref mP, .int (nI ks), .ref mR, .ref mT, .int (nI ln), .long x1, .long x2, .long x3, .long x4, .long y1, .long y2, .long y3, .long y4, .ref mL, .ref mB, .int od, .int spt, .int wa, .long hs])), (mN, .inl (cI, 39, .inl qn)), (mR, .inl (cI, 3, .inl (upd rf 0 (rf 0 + 1))))] H := hP
    have hD : va_D A [(oM, .inr (5, [.ref mN, .ref mA, .ref mP, .int (nI ks), .ref mR, .ref mT, .int (nI ln), .long x1, .long x2, .long x3, .long x4, .long y1, .long y2, .long y3, .long y4, .ref mL, .ref mB, .int od, .int spt, .int wa, .long hs])), (mN, .inl (cI, 39, .inl qn)), (mR, .inl (cI, 3, .inl (upd rf 0 (rf 0 + 1))))] := hD
    subst r_4
    exact hQ (-10002) (upd rf 0 (rf 0 + 1)) _ _ _ _ (rfl) (⟨by rw [gOf, if_neg (by simp only [vOf, vIn_cIn, c_3] <;> simp)], by rw [gRf, if_neg (by simp only [vOf, vIn_cIn, c_3] <;> simp)]⟩) hP hD hS dX5_of_33
  · skip
    have c_3 := z_b1 c_3
    refine lv_iload_n hx hb dX5_of_8 rfl (lv_at hl 2 rfl) ?_
    refine lv_iconst (v := 0) hx hb dX5_of_9 (by decide) ?_
    refine lv_iconst (v := 5) hx hb dX5_of_10 (by decide) ?_
    refine z_SI (n := 3) (wn := (fun u : Unit => [(oM, .inr (5, [.ref mN, .ref mA, .ref mP, .int (nI ks), .ref mR, .ref mT, .int (nI ln), .long x1, .long x2, .long x3, .long x4, .long y1, .long y2, .long y3, .long y4, .ref mL, .ref mB, .int od, .int spt, .int wa, .long hs])), (mN, .inl (cI, 39, .inl qn)), (mR, .inl (cI, 3, .inl rf))])) (wr := [(oM, .inr (5, [.ref mN, .ref mA, .ref mP, .int (nI ks), .ref mR, .ref mT, .int (nI ln), .long x1, .long x2, .long x3, .long x4, .long y1, .long y2, .long y3, .long y4, .ref mL, .ref mB, .int od, .int spt, .int wa, .long hs])), (mN, .inl (cI, 39, .inl qn)), (mR, .inl (cI, 3, .inl rf))]) (As := [.int w, .int 0, .int 5]) (rest := []) ⟨hx, hb, hml, hown, hts⟩ hK hP hD hS hA hT (kX5_in l D cI cB tE tN w 0 5 _ ) gX5_of_X5_in rfl rfl rfl (by decide +kernel) ⟨Nat.le_of_ble_eq_true rfl, Nat.le_of_ble_eq_true rfl⟩ [] [0, 1, 2] [0, 1, 2] (by decide) rfl rfl (by decide) (by decide) (by decide) (fun u => rfl) rfl hl.1 rfl (Nat.le_of_ble_eq_true rfl) dX5_of_11 ⟨Nat.le_of_ble_eq_true rfl, Nat.le_of_ble_eq_true rfl⟩ (fun r_6 u H locs hw_7 hP hD hS => ?_)
    try dsimp only at hw_7
    have hP : va_P D vwCl [(oM, .inr (5, [.ref mN, .ref mA, .ref mP, .int (nI ks), .ref mR, .ref mT, .int (nI ln), .long x1, .long x2, .long x3, .long x4, .long y1, .long y2, .long y3, .long y4, .ref mL, .ref mB, .int od, .int spt, .int wa, .long hs])), (mN, .inl (cI, 39, .inl qn)), (mR, .inl (cI, 3, .inl rf))] H := hP
    have hD : va_D A [(oM, .inr (5, [.ref mN, .ref mA, .ref mP, .int (nI ks), .ref mR, .ref mT, .int (nI ln), .long x1, .long x2, .long x3, .long x4, .long y1, .long y2, .long y3, .long y4, .ref mL, .ref mB, .int od, .int spt, .int wa, .long hs])), (mN, .inl (cI, 39, .inl qn)), (mR, .inl (cI, 3, .inl rf))] := hD
    subst r_6
    refine lv_if_eq (tgt := 26) hx hb dX5_of_14 (by decide) (fun c_8 => ?_) (fun c_8 => ?_)
    · skip
      have c_8 := z_b0 c_8
      refine lv_aload_n hx hb dX5_of_26 rfl (lv_at hl 0 rfl) ?_
      refine lv_sipush (v := (-10002)) hx hb dX5_of_27 (by decide) ?_
      refine z_VI (n := 1) (wn := (fun u : Unit => [(oM, .inr (5, [.ref mN, .ref mA, .ref mP, .int (nI ks), .ref mR, .ref mT, .int (nI ln), .long x1, .long x2, .long x3, .long x4, .long y1, .long y2, .long y3, .long y4, .ref mL, .ref mB, .int od, .int spt, .int wa, .long hs])), (mN, .inl (cI, 39, .inl qn)), (mR, .inl (cI, 3, .inl (upd rf 0 (rf 0 + 1))))])) (wr := [(mN, .inl (cI, 39, .inl qn))]) (As := [.int (-10002)]) (rest := []) ⟨hx, hb, hml, hown, hts⟩ hK hP hD hS hA hT (kX5_refuses l D cI cB tE tN oM mN mA mP mR mT mL mB ks ln x1 x2 x3 x4 y1 y2 y3 y4 od spt wa hs rf (-10002) 0 _ (by decide) (by omega)) gX5_of_X5_refuses rfl rfl rfl (by decide +kernel) ⟨Nat.le_of_ble_eq_true rfl, Nat.le_of_ble_eq_true rfl⟩ [0, 2] [1] [1, 0, 2] (by decide) rfl rfl (by decide) (by decide) (by decide) (fun u => rfl) 0 5 rfl rfl rfl rfl hl.1 rfl (Nat.le_of_ble_eq_true rfl) dX5_of_30 ⟨Nat.le_of_ble_eq_true rfl, Nat.le_of_ble_eq_true rfl⟩ (fun r_9 u H locs hw_10 hP hD hS => ?_)
      try dsimp only at hw_10
      have hP : va_P D vwCl [(oM, .inr (5, [.ref mN, .ref mA, .ref mP, .int (nI ks), .ref mR, .ref mT, .int (nI ln), .long x1, .long x2, .long x3, .long x4, .long y1, .long y2, .long y3, .long y4, .ref mL, .ref mB, .int od, .int spt, .int wa, .long hs])), (mN, .inl (cI, 39, .inl qn)), (mR, .inl (cI, 3, .inl (upd rf 0 (rf 0 + 1))))] H := hP
      have hD : va_D A [(oM, .inr (5, [.ref mN, .ref mA, .ref mP, .int (nI ks), .ref mR, .ref mT, .int (nI ln), .long x1, .long x2, .long x3, .long x4, .long y1, .long y2, .long y3, .long y4, .ref mL, .ref mB, .int od, .int spt, .int wa, .long hs])), (mN, .inl (cI, 39, .inl qn)), (mR, .inl (cI, 3, .inl (upd rf 0 (rf 0 + 1))))] := hD
      subst r_9
      exact hQ (-10002) (upd rf 0 (rf 0 + 1)) _ _ _ _ (rfl) (⟨by rw [gOf, if_neg (by simp only [vOf, vIn_cIn, c_3, c_8] <;> simp)], by rw [gRf, if_neg (by simp only [vOf, vIn_cIn, c_3, c_8] <;> simp)]⟩) hP hD hS dX5_of_33
    · skip
      have c_8 := z_b1 c_8
      obtain ⟨n, rfl, hn⟩ := cShip_n hI.2.1 hI.1 c_3
      rw [hNN] at hn
      have hcn : (nI n).toNatClampNeg = n := nI_clamp (by omega)
      have hzq := of_decide_eq_true c_8
      obtain ⟨q, rfl, hq⟩ := z_nat (b := 5) (Int32.not_lt.mp hzq.1) (Int32.not_lt.mp hzq.2) (by decide)
      have hcq : (nI q).toNatClampNeg = q := nI_clamp (by omega)
      refine lv_aload_n hx hb dX5_of_17 rfl (lv_at hl 0 rfl) ?_
      refine lv_iload_n hx hb dX5_of_18 rfl (lv_at hl 1 rfl) ?_
      refine lv_iload_n hx hb dX5_of_19 rfl (lv_at hl 2 rfl) ?_
      refine z_VI (n := 2) (wn := (fun u : Unit => [(oM, .inr (5, [.ref mN, .ref mA, .ref mP, .int (nI ks), .ref mR, .ref mT, .int (nI ln), .long x1, .long x2, .long x3, .long x4, .long y1, .long y2, .long y3, .long y4, .ref mL, .ref mB, .int od, .int spt, .int wa, .long hs])), (mN, .inl (cI, 39, .inl qn)), (mR, .inl (cI, 3, .inl rf))])) (wr := [(mR, .inl (cI, 3, .inl rf))]) (As := [.int (nI n), .int (nI q)]) (rest := []) ⟨hx, hb, hml, hown, hts⟩ hK hP hD hS hA hT (kX5_told0 l D cI cB tE tN oM mN mA mP mR mT mL mB ks ln x1 x2 x3 x4 y1 y2 y3 y4 od spt wa hs qn f N n q _ (hR) (hI) (hNN) (by omega) (by omega)) gX5_of_X5_told0 rfl rfl rfl (by decide +kernel) ⟨Nat.le_of_ble_eq_true rfl, Nat.le_of_ble_eq_true rfl⟩ [0, 1] [2] [1, 2, 0] (by decide) rfl rfl (by decide) (by decide) (by decide) (fun u => rfl) 0 5 rfl rfl rfl rfl hl.1 rfl (Nat.le_of_ble_eq_true rfl) dX5_of_20 ⟨Nat.le_of_ble_eq_true rfl, Nat.le_of_ble_eq_true rfl⟩ (fun r_11 u H locs hw_12 hP hD hS => ?_)
      try dsimp only at hw_12
      have hP : va_P D vwCl [(oM, .inr (5, [.ref mN, .ref mA, .ref mP, .int (nI ks), .ref mR, .ref mT, .int (nI ln), .long x1, .long x2, .long x3, .long x4, .long y1, .long y2, .long y3, .long y4, .ref mL, .ref mB, .int od, .int spt, .int wa, .long hs])), (mN, .inl (cI, 39, .inl qn)), (mR, .inl (cI, 3, .inl rf))] H := hP
      have hD : va_D A [(oM, .inr (5, [.ref mN, .ref mA, .ref mP, .int (nI ks), .ref mR, .ref mT, .int (nI ln), .long x1, .long x2, .long x3, .long x4, .long y1, .long y2, .long y3, .long y4, .ref mL, .ref mB, .int od, .int spt, .int wa, .long hs])), (mN, .inl (cI, 39, .inl qn)), (mR, .inl (cI, 3, .inl rf))] := hD
      subst r_11
      refine lv_goto (tgt := 33) hx hb dX5_of_23 (by decide) ?_
      exact hQ (cPart f n q) rf _ _ _ _ (rfl) (⟨by rw [gOf, if_pos (by simp only [vOf, vIn_cIn, c_3, c_8] <;> simp), hcn, hcq], by rw [gRf, if_pos (by simp only [vOf, vIn_cIn, c_3, c_8] <;> simp)]⟩) hP hD hS dX5_of_33

set_option maxHeartbeats 4000000 in
set_option maxRecDepth 100000 in
theorem kX5_areTwo (l : Launch) (D : va_G) (cI cB : ClassId) (tE tN : Nat) (oM : Nat) (mN : Nat) (mA : Nat) (mP : Nat) (mR : Nat) (mT : Nat) (mL : Nat) (mB : Nat) (ks : Nat) (ln : Nat) (x1 : Int64) (x2 : Int64) (x3 : Int64) (x4 : Int64) (y1 : Int64) (y2 : Int64) (y3 : Int64) (y4 : Int64) (od : Int32) (spt : Int32) (wa : Int32) (hs : Int64) (qn : Nat → Int32) (f : Nat → Int32) (N : Nat) (i : Int32) (j : Int32) (sz : Nat) (hR : Rg N f qn) (hI : Iv f) (hNN : nN f = N) : zI l yX5_areTwo wsX5_areTwo ({ frames := 2, cells := 0, slots := 0, locals := 43 }) D cI cB tE tN [.ref oM, .int i, .int j] [(oM, .inr (5, [.ref mN, .ref mA, .ref mP, .int (nI ks), .ref mR, .ref mT, .int (nI ln), .long x1, .long x2, .long x3, .long x4, .long y1, .long y2, .long y3, .long y4, .ref mL, .ref mB, .int od, .int spt, .int wa, .long hs])), (mN, .inl (cI, 39, .inl qn))] sz (fun u : Unit => [(oM, .inr (5, [.ref mN, .ref mA, .ref mP, .int (nI ks), .ref mR, .ref mT, .int (nI ln), .long x1, .long x2, .long x3, .long x4, .long y1, .long y2, .long y3, .long y4, .ref mL, .ref mB, .int od, .int spt, .int wa, .long hs])), (mN, .inl (cI, 39, .inl qn))]) (fun (r : Int32) (u : Unit) => r = b2i (cPair f i j)) 0 0 := by
  refine zI_mk (cc := cX5_areTwo) (maxL := 3) (rt := .boolean) (by decide) rfl (Nat.le_of_ble_eq_true rfl) ?_
  intro p e s m below meth c A Q ls S0 hname hA hK hP hD hT hS hQ hl
  obtain ⟨hx, hb, hml, hown, hts⟩ := id S0
  have hl : lv_has ls 3 [(0, .ref oM), (1, .int i), (2, .int j)] := hl
  refine lv_aload_n hx hb dX5_areTwo_0 rfl (lv_at hl 0 rfl) ?_
  refine lv_iload_n hx hb dX5_areTwo_1 rfl (lv_at hl 1 rfl) ?_
  refine z_VI (n := 1) (wn := (fun u : Unit => [(oM, .inr (5, [.ref mN, .ref mA, .ref mP, .int (nI ks), .ref mR, .ref mT, .int (nI ln), .long x1, .long x2, .long x3, .long x4, .long y1, .long y2, .long y3, .long y4, .ref mL, .ref mB, .int od, .int spt, .int wa, .long hs])), (mN, .inl (cI, 39, .inl qn))])) (wr := []) (As := [.int i]) (rest := []) ⟨hx, hb, hml, hown, hts⟩ hK hP hD hS hA hT (kX5_isShip l D cI cB tE tN oM mN mA mP mR mT mL mB ks ln x1 x2 x3 x4 y1 y2 y3 y4 od spt wa hs qn f N i _ (hR) (hI) (hNN)) gX5_areTwo_X5_isShip rfl rfl rfl (by decide +kernel) ⟨Nat.le_of_ble_eq_true rfl, Nat.le_of_ble_eq_true rfl⟩ [0, 1] [] [0, 1] (by decide) rfl rfl (by decide) (by decide) (by decide) (fun u => rfl) 0 5 rfl rfl rfl rfl hl.1 rfl (Nat.le_of_ble_eq_true rfl) dX5_areTwo_2 ⟨Nat.le_of_ble_eq_true rfl, Nat.le_of_ble_eq_true rfl⟩ (fun r_1 u H locs hw_2 hP hD hS => ?_)
  try dsimp only at hw_2
  have hP : va_P D vwCl [(oM, .inr (5, [.ref mN, .ref mA, .ref mP, .int (nI ks), .ref mR, .ref mT, .int (nI ln), .long x1, .long x2, .long x3, .long x4, .long y1, .long y2, .long y3, .long y4, .ref mL, .ref mB, .int od, .int spt, .int wa, .long hs])), (mN, .inl (cI, 39, .inl qn))] H := hP
  have hD : va_D A [(oM, .inr (5, [.ref mN, .ref mA, .ref mP, .int (nI ks), .ref mR, .ref mT, .int (nI ln), .long x1, .long x2, .long x3, .long x4, .long y1, .long y2, .long y3, .long y4, .ref mL, .ref mB, .int od, .int spt, .int wa, .long hs])), (mN, .inl (cI, 39, .inl qn))] := hD
  subst r_1
  refine lv_if_eq (tgt := 25) hx hb dX5_areTwo_5 (by decide) (fun c_3 => ?_) (fun c_3 => ?_)
  · skip
    have c_3 := z_b0 c_3
    refine lv_iconst (v := 0) hx hb dX5_areTwo_25 (by decide) ?_
    exact hQ 0 () _ _ _ _ (rfl) (by simp [b2i, cPair, c_3]) hP hD hS dX5_areTwo_26
  · skip
    have c_3 := z_b1 c_3
    refine lv_aload_n hx hb dX5_areTwo_8 rfl (lv_at hl 0 rfl) ?_
    refine lv_iload_n hx hb dX5_areTwo_9 rfl (lv_at hl 2 rfl) ?_
    refine z_VI (n := 1) (wn := (fun u : Unit => [(oM, .inr (5, [.ref mN, .ref mA, .ref mP, .int (nI ks), .ref mR, .ref mT, .int (nI ln), .long x1, .long x2, .long x3, .long x4, .long y1, .long y2, .long y3, .long y4, .ref mL, .ref mB, .int od, .int spt, .int wa, .long hs])), (mN, .inl (cI, 39, .inl qn))])) (wr := []) (As := [.int j]) (rest := []) ⟨hx, hb, hml, hown, hts⟩ hK hP hD hS hA hT (kX5_isShip l D cI cB tE tN oM mN mA mP mR mT mL mB ks ln x1 x2 x3 x4 y1 y2 y3 y4 od spt wa hs qn f N j _ (hR) (hI) (hNN)) gX5_areTwo_X5_isShip rfl rfl rfl (by decide +kernel) ⟨Nat.le_of_ble_eq_true rfl, Nat.le_of_ble_eq_true rfl⟩ [0, 1] [] [0, 1] (by decide) rfl rfl (by decide) (by decide) (by decide) (fun u => rfl) 0 5 rfl rfl rfl rfl hl.1 rfl (Nat.le_of_ble_eq_true rfl) dX5_areTwo_10 ⟨Nat.le_of_ble_eq_true rfl, Nat.le_of_ble_eq_true rfl⟩ (fun r_4 u H locs hw_5 hP hD hS => ?_)
    try dsimp only at hw_5
    have hP : va_P D vwCl [(oM, .inr (5, [.ref mN, .ref mA, .ref mP, .int (nI ks), .ref mR, .ref mT, .int (nI ln), .long x1, .long x2, .long x3, .long x4, .long y1, .long y2, .long y3, .long y4, .ref mL, .ref mB, .int od, .int spt, .int wa, .long hs])), (mN, .inl (cI, 39, .inl qn))] H := hP
    have hD : va_D A [(oM, .inr (5, [.ref mN, .ref mA, .ref mP, .int (nI ks), .ref mR, .ref mT, .int (nI ln), .long x1, .long x2, .long x3, .long x4, .long y1, .long y2, .long y3, .long y4, .ref mL, .ref mB, .int od, .int spt, .int wa, .long hs])), (mN, .inl (cI, 39, .inl qn))] := hD
    subst r_4
    refine lv_if_eq (tgt := 25) hx hb dX5_areTwo_13 (by decide) (fun c_6 => ?_) (fun c_6 => ?_)
    · skip
      have c_6 := z_b0 c_6
      refine lv_iconst (v := 0) hx hb dX5_areTwo_25 (by decide) ?_
      exact hQ 0 () _ _ _ _ (rfl) (by simp [b2i, cPair, c_3, c_6]) hP hD hS dX5_areTwo_26
    · skip
      have c_6 := z_b1 c_6
      refine lv_iload_n hx hb dX5_areTwo_16 rfl (lv_at hl 1 rfl) ?_
      refine lv_iload_n hx hb dX5_areTwo_17 rfl (lv_at hl 2 rfl) ?_
      refine lv_icmp_eq (tgt := 25) hx hb dX5_areTwo_18 (by decide) (fun c_7 => ?_) (fun c_7 => ?_)
      · skip
        refine lv_iconst (v := 0) hx hb dX5_areTwo_25 (by decide) ?_
        exact hQ 0 () _ _ _ _ (rfl) (by simp [b2i, cPair, c_3, c_6, c_7]) hP hD hS dX5_areTwo_26
      · skip
        refine lv_iconst (v := 1) hx hb dX5_areTwo_21 (by decide) ?_
        refine lv_goto (tgt := 26) hx hb dX5_areTwo_22 (by decide) ?_
        exact hQ 1 () _ _ _ _ (rfl) (by simp [b2i, cPair, c_3, c_6, c_7]) hP hD hS dX5_areTwo_26

set_option maxHeartbeats 4000000 in
set_option maxRecDepth 100000 in
theorem kX5_closestOf (l : Launch) (D : va_G) (cI cB : ClassId) (tE tN : Nat) (oM : Nat) (mN : Nat) (mA : Nat) (mP : Nat) (mR : Nat) (mT : Nat) (mL : Nat) (mB : Nat) (ks : Nat) (ln : Nat) (x1 : Int64) (x2 : Int64) (x3 : Int64) (x4 : Int64) (y1 : Int64) (y2 : Int64) (y3 : Int64) (y4 : Int64) (od : Int32) (spt : Int32) (wa : Int32) (hs : Int64) (qn : Nat → Int32) (f : Nat → Int32) (N : Nat) (ia : Nat) (ib : Nat) (w : Nat) (sz : Nat) (hR : Rg N f qn) (hI : Iv f) (hNN : nN f = N) (ha : ia ≤ N) (hb6 : ib ≤ N) (hw : w ≤ 3) : zL l yX5_closestOf wsX5_closestOf ({ frames := 4, cells := 0, slots := 0, locals := 89 }) D cI cB tE tN [.ref oM, .int (nI ia), .int (nI ib), .int (nI w)] [(oM, .inr (5, [.ref mN, .ref mA, .ref mP, .int (nI ks), .ref mR, .ref mT, .int (nI ln), .long x1, .long x2, .long x3, .long x4, .long y1, .long y2, .long y3, .long y4, .ref mL, .ref mB, .int od, .int spt, .int wa, .long hs])), (mN, .inl (cI, 39, .inl qn))] sz (fun u : Int64 × Int64 × Int64 × Int64 × Int64 × Int64 × Int64 × Int64 => [(oM, .inr (5, [.ref mN, .ref mA, .ref mP, .int (nI ks), .ref mR, .ref mT, .int (nI ln), .long u.1, .long u.2.1, .long u.2.2.1, .long u.2.2.2.1, .long u.2.2.2.2.1, .long u.2.2.2.2.2.1, .long u.2.2.2.2.2.2.1, .long u.2.2.2.2.2.2.2, .ref mL, .ref mB, .int od, .int spt, .int wa, .long hs])), (mN, .inl (cI, 39, .inl qn))]) (fun (r : Int64) (u : Int64 × Int64 × Int64 × Int64 × Int64 × Int64 × Int64 × Int64) => r = cPt (cMh f ia ib).1 (cMh f ia ib).2.1 (cMh f ia ib).2.2.1 (cMh f ia ib).2.2.2 w) 0 0 := by
  refine zL_mk (cc := cX5_closestOf) (maxL := 4) (by decide) rfl (Nat.le_of_ble_eq_true rfl) ?_
  intro p e s m below meth c A Q ls S0 hname hA hK hP hD hT hS hQ hl
  obtain ⟨hx, hb, hml, hown, hts⟩ := id S0
  have hl : lv_has ls 4 [(0, .ref oM), (1, .int (nI ia)), (2, .int (nI ib)), (3, .int (nI w))] := hl
  have L93 : (Cond.fieldLink RX5 93 "PastAndClearModel" "farBelow" "J").before ([.ref oM, .int (nI ia), .int (nI ib), .int (nI w)] : List Value).toArray s = true := hts (.fieldLink RX5 93 "PastAndClearModel" "farBelow" "J") (by decide +kernel)
  have N5 : ∀ w ∈ u_ws RX5 TX5 21, w ∈ wsX5_closestOf := by decide +kernel
  have L90 : (Cond.fieldLink RX5 90 "PastAndClearModel" "farAbove" "J").before ([.ref oM, .int (nI ia), .int (nI ib), .int (nI w)] : List Value).toArray s = true := hts (.fieldLink RX5 90 "PastAndClearModel" "farAbove" "J") (by decide +kernel)
  have L84 : (Cond.fieldLink RX5 84 "PastAndClearModel" "timeBelow" "J").before ([.ref oM, .int (nI ia), .int (nI ib), .int (nI w)] : List Value).toArray s = true := hts (.fieldLink RX5 84 "PastAndClearModel" "timeBelow" "J") (by decide +kernel)
  have L81 : (Cond.fieldLink RX5 81 "PastAndClearModel" "timeAbove" "J").before ([.ref oM, .int (nI ia), .int (nI ib), .int (nI w)] : List Value).toArray s = true := hts (.fieldLink RX5 81 "PastAndClearModel" "timeAbove" "J") (by decide +kernel)
  refine lv_aload_n hx hb dX5_closestOf_0 rfl (lv_at hl 0 rfl) ?_
  refine lv_iload_n hx hb dX5_closestOf_1 rfl (lv_at hl 1 rfl) ?_
  refine lv_iload_n hx hb dX5_closestOf_2 rfl (lv_at hl 2 rfl) ?_
  refine z_VV (n := 2) (wn := (fun u : Unit => [(oM, .inr (5, [.ref mN, .ref mA, .ref mP, .int (nI ks), .ref mR, .ref mT, .int (nI ln), .long (cRx f ia ib), .long (cRy f ia ib), .long (cVx f (f (5 * ia + 2)) (f (5 * ia + 3)) ib), .long (cVy f (f (5 * ia + 2)) (f (5 * ia + 3)) ib), .long y1, .long y2, .long y3, .long y4, .ref mL, .ref mB, .int od, .int spt, .int wa, .long hs])), (mN, .inl (cI, 39, .inl qn))])) (wr := []) (As := [.int (nI ia), .int (nI ib)]) (rest := []) ⟨hx, hb, hml, hown, hts⟩ hK hP hD hS hA hT (kX5_laysAsTheyAre l D cI cB tE tN oM mN mA mP mR mT mL mB ks ln x1 x2 x3 x4 y1 y2 y3 y4 od spt wa hs qn f N ia ib _ (hR) (hI) (hNN) (by omega) (by omega)) gX5_closestOf_X5_laysAsTheyAre rfl rfl rfl (by decide +kernel) ⟨Nat.le_of_ble_eq_true rfl, Nat.le_of_ble_eq_true rfl⟩ [0, 1] [] [0, 1] (by decide) rfl rfl (by decide) (by decide) (by decide) (fun u => rfl) 0 5 rfl rfl rfl rfl hl.1 rfl (Nat.le_of_ble_eq_true rfl) dX5_closestOf_3 ⟨Nat.le_of_ble_eq_true rfl, Nat.le_of_ble_eq_true rfl⟩ (fun u H locs hw_2 hP hD hS => ?_)
  try dsimp only at hw_2
  have hP : va_P D vwCl [(oM, .inr (5, [.ref mN, .ref mA, .ref mP, .int (nI ks), .ref mR, .ref mT, .int (nI ln), .long (cRx f ia ib), .long (cRy f ia ib), .long (cVx f (f (5 * ia + 2)) (f (5 * ia + 3)) ib), .long (cVy f (f (5 * ia + 2)) (f (5 * ia + 3)) ib), .long y1, .long y2, .long y3, .long y4, .ref mL, .ref mB, .int od, .int spt, .int wa, .long hs])), (mN, .inl (cI, 39, .inl qn))] H := hP
  have hD : va_D A [(oM, .inr (5, [.ref mN, .ref mA, .ref mP, .int (nI ks), .ref mR, .ref mT, .int (nI ln), .long (cRx f ia ib), .long (cRy f ia ib), .long (cVx f (f (5 * ia + 2)) (f (5 * ia + 3)) ib), .long (cVy f (f (5 * ia + 2)) (f (5 * ia + 3)) ib), .long y1, .long y2, .long y3, .long y4, .ref mL, .ref mB, .int od, .int spt, .int wa, .long hs])), (mN, .inl (cI, 39, .inl qn))] := hD
  refine lv_aload_n hx hb dX5_closestOf_6 rfl (lv_at hl 0 rfl) ?_
  refine z_VV (n := 0) (wn := (fun u : Int64 × Int64 × Int64 × Int64 => [(oM, .inr (5, [.ref mN, .ref mA, .ref mP, .int (nI ks), .ref mR, .ref mT, .int (nI ln), .long (cRx f ia ib), .long (cRy f ia ib), .long (cVx f (f (5 * ia + 2)) (f (5 * ia + 3)) ib), .long (cVy f (f (5 * ia + 2)) (f (5 * ia + 3)) ib), .long u.1, .long u.2.1, .long u.2.2.1, .long u.2.2.2, .ref mL, .ref mB, .int od, .int spt, .int wa, .long hs])), (mN, .inl (cI, 39, .inl qn))])) (wr := [(mN, .inl (cI, 39, .inl qn))]) (As := []) (rest := []) ⟨hx, hb, hml, hown, hts⟩ hK hP hD hS hA hT (kX5_findsClosest l D cI cB tE tN oM mN mA mP mR mT mL mB ks ln (cRx f ia ib) (cRy f ia ib) (cVx f (f (5 * ia + 2)) (f (5 * ia + 3)) ib) (cVy f (f (5 * ia + 2)) (f (5 * ia + 3)) ib) y1 y2 y3 y4 od spt wa hs _ (Bd_of hI (by omega) (by omega) (hI.2.2.1 ia (by omega)).2.2.2)) gX5_closestOf_X5_findsClosest rfl rfl rfl (by decide +kernel) ⟨Nat.le_of_ble_eq_true rfl, Nat.le_of_ble_eq_true rfl⟩ [0] [1] [1, 0] (by decide) rfl rfl (by decide) (by decide) (by decide) (fun u => rfl) 0 5 rfl rfl rfl rfl hl.1 rfl (Nat.le_of_ble_eq_true rfl) dX5_closestOf_7 ⟨Nat.le_of_ble_eq_true rfl, Nat.le_of_ble_eq_true rfl⟩ (fun u H locs hw_8 hP hD hS => ?_)
  obtain ⟨q1_3, q2_4, q3_5, q4_6⟩ := u
  try dsimp only at hw_8
  have hP : va_P D vwCl [(oM, .inr (5, [.ref mN, .ref mA, .ref mP, .int (nI ks), .ref mR, .ref mT, .int (nI ln), .long (cRx f ia ib), .long (cRy f ia ib), .long (cVx f (f (5 * ia + 2)) (f (5 * ia + 3)) ib), .long (cVy f (f (5 * ia + 2)) (f (5 * ia + 3)) ib), .long q1_3, .long q2_4, .long q3_5, .long q4_6, .ref mL, .ref mB, .int od, .int spt, .int wa, .long hs])), (mN, .inl (cI, 39, .inl qn))] H := hP
  have hD : va_D A [(oM, .inr (5, [.ref mN, .ref mA, .ref mP, .int (nI ks), .ref mR, .ref mT, .int (nI ln), .long (cRx f ia ib), .long (cRy f ia ib), .long (cVx f (f (5 * ia + 2)) (f (5 * ia + 3)) ib), .long (cVy f (f (5 * ia + 2)) (f (5 * ia + 3)) ib), .long q1_3, .long q2_4, .long q3_5, .long q4_6, .ref mL, .ref mB, .int od, .int spt, .int wa, .long hs])), (mN, .inl (cI, 39, .inl qn))] := hD
  have hm := pt_rd (hw_8.trans (show _ = rdF (cMh f ia ib) by rw [cMh, cMs_mS, mFr_rd]))
  refine lv_iload_n hx hb dX5_closestOf_10 rfl (lv_at hl 3 rfl) ?_
  refine lv_if_ne (tgt := 21) hx hb dX5_closestOf_11 (by decide) (fun c_9 => ?_) (fun c_9 => ?_)
  · skip
    have c_9 := (z_eqn (a := w) (b := 0) rfl rfl (by omega) (by omega)).mp c_9
    refine lv_iload_n hx hb dX5_closestOf_21 rfl (lv_at hl 3 rfl) ?_
    refine lv_iconst (v := 1) hx hb dX5_closestOf_22 (by decide) ?_
    refine lv_icmp_ne (tgt := 33) hx hb dX5_closestOf_23 (by decide) (fun c_10 => ?_) (fun c_10 => ?_)
    · skip
      have c_10 := (z_eqn (a := w) (b := 1) rfl rfl (by omega) (by omega)).mp c_10
      refine lv_iload_n hx hb dX5_closestOf_33 rfl (lv_at hl 3 rfl) ?_
      refine lv_iconst (v := 2) hx hb dX5_closestOf_34 (by decide) ?_
      refine lv_icmp_ne (tgt := 45) hx hb dX5_closestOf_35 (by decide) (fun c_11 => ?_) (fun c_11 => ?_)
      · skip
        have c_11 := (z_eqn (a := w) (b := 2) rfl rfl (by omega) (by omega)).mp c_11
        refine lv_aload_n hx hb dX5_closestOf_45 rfl (lv_at hl 0 rfl) ?_
        refine va_get (D := D) (ci := 5) (v := .long q4_6) (C := RX5) (T := TX5) (N := 21) hx hb hts N5 hown hK hP 0 rfl rfl 14 (by decide) L93 (fun _ h9 => h9) rfl dX5_closestOf_46 ?_
        exact hQ q4_6 ((cRx f ia ib), (cRy f ia ib), (cVx f (f (5 * ia + 2)) (f (5 * ia + 3)) ib), (cVy f (f (5 * ia + 2)) (f (5 * ia + 3)) ib), q1_3, q2_4, q3_5, q4_6) _ _ _ _ (by first | (rw [c_11]; exact hm.2.2.1) | (rw [show w = 3 by omega]; exact hm.2.2.2)) hP hD hS dX5_closestOf_49
      · skip
        have c_11 := (z_eq (a := w) (b := 2) rfl rfl (by omega) (by omega)).mp c_11
        refine lv_aload_n hx hb dX5_closestOf_38 rfl (lv_at hl 0 rfl) ?_
        refine va_get (D := D) (ci := 5) (v := .long q3_5) (C := RX5) (T := TX5) (N := 21) hx hb hts N5 hown hK hP 0 rfl rfl 13 (by decide) L90 (fun _ h9 => h9) rfl dX5_closestOf_39 ?_
        refine lv_goto (tgt := 49) hx hb dX5_closestOf_42 (by decide) ?_
        exact hQ q3_5 ((cRx f ia ib), (cRy f ia ib), (cVx f (f (5 * ia + 2)) (f (5 * ia + 3)) ib), (cVy f (f (5 * ia + 2)) (f (5 * ia + 3)) ib), q1_3, q2_4, q3_5, q4_6) _ _ _ _ (by first | (rw [c_11]; exact hm.2.2.1) | (rw [show w = 3 by omega]; exact hm.2.2.2)) hP hD hS dX5_closestOf_49
    · skip
      have c_10 := (z_eq (a := w) (b := 1) rfl rfl (by omega) (by omega)).mp c_10
      refine lv_aload_n hx hb dX5_closestOf_26 rfl (lv_at hl 0 rfl) ?_
      refine va_get (D := D) (ci := 5) (v := .long q2_4) (C := RX5) (T := TX5) (N := 21) hx hb hts N5 hown hK hP 0 rfl rfl 12 (by decide) L84 (fun _ h9 => h9) rfl dX5_closestOf_27 ?_
      refine lv_goto (tgt := 49) hx hb dX5_closestOf_30 (by decide) ?_
      exact hQ q2_4 ((cRx f ia ib), (cRy f ia ib), (cVx f (f (5 * ia + 2)) (f (5 * ia + 3)) ib), (cVy f (f (5 * ia + 2)) (f (5 * ia + 3)) ib), q1_3, q2_4, q3_5, q4_6) _ _ _ _ (by rw [c_10]; exact hm.2.1) hP hD hS dX5_closestOf_49
  · skip
    have c_9 := (z_eq (a := w) (b := 0) rfl rfl (by omega) (by omega)).mp c_9
    refine lv_aload_n hx hb dX5_closestOf_14 rfl (lv_at hl 0 rfl) ?_
    refine va_get (D := D) (ci := 5) (v := .long q1_3) (C := RX5) (T := TX5) (N := 21) hx hb hts N5 hown hK hP 0 rfl rfl 11 (by decide) L81 (fun _ h9 => h9) rfl dX5_closestOf_15 ?_
    refine lv_goto (tgt := 49) hx hb dX5_closestOf_18 (by decide) ?_
    exact hQ q1_3 ((cRx f ia ib), (cRy f ia ib), (cVx f (f (5 * ia + 2)) (f (5 * ia + 3)) ib), (cVy f (f (5 * ia + 2)) (f (5 * ia + 3)) ib), q1_3, q2_4, q3_5, q4_6) _ _ _ _ (by rw [c_9]; exact hm.1) hP hD hS dX5_closestOf_49

set_option maxHeartbeats 4000000 in
set_option maxRecDepth 100000 in
theorem kX5_closest (l : Launch) (D : va_G) (cI cB : ClassId) (tE tN : Nat) (oM : Nat) (mN : Nat) (mA : Nat) (mP : Nat) (mR : Nat) (mT : Nat) (mL : Nat) (mB : Nat) (ks : Nat) (ln : Nat) (x1 : Int64) (x2 : Int64) (x3 : Int64) (x4 : Int64) (y1 : Int64) (y2 : Int64) (y3 : Int64) (y4 : Int64) (od : Int32) (spt : Int32) (wa : Int32) (hs : Int64) (qn : Nat → Int32) (rf : Nat → Int32) (f : Nat → Int32) (N : Nat) (i : Int32) (j : Int32) (w : Int32) (sz : Nat) (hR : Rg N f qn) (hI : Iv f) (hNN : nN f = N) : zL l yX5_closest wsX5_closest ({ frames := 5, cells := 0, slots := 0, locals := 112 }) D cI cB tE tN [.ref oM, .int i, .int j, .int w] [(oM, .inr (5, [.ref mN, .ref mA, .ref mP, .int (nI ks), .ref mR, .ref mT, .int (nI ln), .long x1, .long x2, .long x3, .long x4, .long y1, .long y2, .long y3, .long y4, .ref mL, .ref mB, .int od, .int spt, .int wa, .long hs])), (mN, .inl (cI, 39, .inl qn)), (mR, .inl (cI, 3, .inl rf))] sz (fun u : Int64 × Int64 × Int64 × Int64 × Int64 × Int64 × Int64 × Int64 × (Nat → Int32) => [(oM, .inr (5, [.ref mN, .ref mA, .ref mP, .int (nI ks), .ref mR, .ref mT, .int (nI ln), .long u.1, .long u.2.1, .long u.2.2.1, .long u.2.2.2.1, .long u.2.2.2.2.1, .long u.2.2.2.2.2.1, .long u.2.2.2.2.2.2.1, .long u.2.2.2.2.2.2.2.1, .ref mL, .ref mB, .int od, .int spt, .int wa, .long hs])), (mN, .inl (cI, 39, .inl qn)), (mR, .inl (cI, 3, .inl u.2.2.2.2.2.2.2.2))]) (fun (r : Int64) (u : Int64 × Int64 × Int64 × Int64 × Int64 × Int64 × Int64 × Int64 × (Nat → Int32)) => r = gCl f i j w ∧ u.2.2.2.2.2.2.2.2 = gRf (vCl f i j w) rf) 0 0 := by
  refine zL_mk (cc := cX5_closest) (maxL := 4) (by decide) rfl (Nat.le_of_ble_eq_true rfl) ?_
  intro p e s m below meth c A Q ls S0 hname hA hK hP hD hT hS hQ hl
  obtain ⟨hx, hb, hml, hown, hts⟩ := id S0
  have hl : lv_has ls 4 [(0, .ref oM), (1, .int i), (2, .int j), (3, .int w)] := hl
  have hN6 : N ≤ 6 := by rw [← hNN]; exact hI.1
  refine lv_aload_n hx hb dX5_closest_0 rfl (lv_at hl 0 rfl) ?_
  refine lv_iload_n hx hb dX5_closest_1 rfl (lv_at hl 1 rfl) ?_
  refine lv_iload_n hx hb dX5_closest_2 rfl (lv_at hl 2 rfl) ?_
  refine z_VI (n := 2) (wn := (fun u : Unit => [(oM, .inr (5, [.ref mN, .ref mA, .ref mP, .int (nI ks), .ref mR, .ref mT, .int (nI ln), .long x1, .long x2, .long x3, .long x4, .long y1, .long y2, .long y3, .long y4, .ref mL, .ref mB, .int od, .int spt, .int wa, .long hs])), (mN, .inl (cI, 39, .inl qn)), (mR, .inl (cI, 3, .inl rf))])) (wr := [(mR, .inl (cI, 3, .inl rf))]) (As := [.int i, .int j]) (rest := []) ⟨hx, hb, hml, hown, hts⟩ hK hP hD hS hA hT (kX5_areTwo l D cI cB tE tN oM mN mA mP mR mT mL mB ks ln x1 x2 x3 x4 y1 y2 y3 y4 od spt wa hs qn f N i j _ (hR) (hI) (hNN)) gX5_closest_X5_areTwo rfl rfl rfl (by decide +kernel) ⟨Nat.le_of_ble_eq_true rfl, Nat.le_of_ble_eq_true rfl⟩ [0, 1] [2] [1, 2, 0] (by decide) rfl rfl (by decide) (by decide) (by decide) (fun u => rfl) 0 5 rfl rfl rfl rfl hl.1 rfl (Nat.le_of_ble_eq_true rfl) dX5_closest_3 ⟨Nat.le_of_ble_eq_true rfl, Nat.le_of_ble_eq_true rfl⟩ (fun r_1 u H locs hw_2 hP hD hS => ?_)
  try dsimp only at hw_2
  have hP : va_P D vwCl [(oM, .inr (5, [.ref mN, .ref mA, .ref mP, .int (nI ks), .ref mR, .ref mT, .int (nI ln), .long x1, .long x2, .long x3, .long x4, .long y1, .long y2, .long y3, .long y4, .ref mL, .ref mB, .int od, .int spt, .int wa, .long hs])), (mN, .inl (cI, 39, .inl qn)), (mR, .inl (cI, 3, .inl rf))] H := hP
  have hD : va_D A [(oM, .inr (5, [.ref mN, .ref mA, .ref mP, .int (nI ks), .ref mR, .ref mT, .int (nI ln), .long x1, .long x2, .long x3, .long x4, .long y1, .long y2, .long y3, .long y4, .ref mL, .ref mB, .int od, .int spt, .int wa, .long hs])), (mN, .inl (cI, 39, .inl qn)), (mR, .inl (cI, 3, .inl rf))] := hD
  subst r_1
  refine lv_if_eq (tgt := 28) hx hb dX5_closest_6 (by decide) (fun c_3 => ?_) (fun c_3 => ?_)
  · skip
    have c_3 := z_b0 c_3
    refine lv_aload_n hx hb dX5_closest_28 rfl (lv_at hl 0 rfl) ?_
    refine lv_sipush (v := (-10002)) hx hb dX5_closest_29 (by decide) ?_
    refine z_VI (n := 1) (wn := (fun u : Unit => [(oM, .inr (5, [.ref mN, .ref mA, .ref mP, .int (nI ks), .ref mR, .ref mT, .int (nI ln), .long x1, .long x2, .long x3, .long x4, .long y1, .long y2, .long y3, .long y4, .ref mL, .ref mB, .int od, .int spt, .int wa, .long hs])), (mN, .inl (cI, 39, .inl qn)), (mR, .inl (cI, 3, .inl (upd rf 0 (rf 0 + 1))))])) (wr := [(mN, .inl (cI, 39, .inl qn))]) (As := [.int (-10002)]) (rest := []) ⟨hx, hb, hml, hown, hts⟩ hK hP hD hS hA hT (kX5_refuses l D cI cB tE tN oM mN mA mP mR mT mL mB ks ln x1 x2 x3 x4 y1 y2 y3 y4 od spt wa hs rf (-10002) 0 _ (by decide) (by omega)) gX5_closest_X5_refuses rfl rfl rfl (by decide +kernel) ⟨Nat.le_of_ble_eq_true rfl, Nat.le_of_ble_eq_true rfl⟩ [0, 2] [1] [1, 0, 2] (by decide) rfl rfl (by decide) (by decide) (by decide) (fun u => rfl) 0 5 rfl rfl rfl rfl hl.1 rfl (Nat.le_of_ble_eq_true rfl) dX5_closest_32 ⟨Nat.le_of_ble_eq_true rfl, Nat.le_of_ble_eq_true rfl⟩ (fun r_4 u H locs hw_5 hP hD hS => ?_)
    try dsimp only at hw_5
    have hP : va_P D vwCl [(oM, .inr (5, [.ref mN, .ref mA, .ref mP, .int (nI ks), .ref mR, .ref mT, .int (nI ln), .long x1, .long x2, .long x3, .long x4, .long y1, .long y2, .long y3, .long y4, .ref mL, .ref mB, .int od, .int spt, .int wa, .long hs])), (mN, .inl (cI, 39, .inl qn)), (mR, .inl (cI, 3, .inl (upd rf 0 (rf 0 + 1))))] H := hP
    have hD : va_D A [(oM, .inr (5, [.ref mN, .ref mA, .ref mP, .int (nI ks), .ref mR, .ref mT, .int (nI ln), .long x1, .long x2, .long x3, .long x4, .long y1, .long y2, .long y3, .long y4, .ref mL, .ref mB, .int od, .int spt, .int wa, .long hs])), (mN, .inl (cI, 39, .inl qn)), (mR, .inl (cI, 3, .inl (upd rf 0 (rf 0 + 1))))] := hD
    subst r_4
    refine lv_i2l (v := ((-10002) : Int32).toInt64) hx hb dX5_closest_35 rfl ?_
    exact hQ (((-10002) : Int32).toInt64) (x1, x2, x3, x4, y1, y2, y3, y4, upd rf 0 (rf 0 + 1)) _ _ _ _ (⟨by rw [gCl, if_neg (by simp only [vCl, vIn_cIn, c_3] <;> simp)], by rw [gRf, if_neg (by simp only [vCl, vIn_cIn, c_3] <;> simp)]⟩) hP hD hS dX5_closest_36
  · skip
    have c_3 := z_b1 c_3
    refine lv_iload_n hx hb dX5_closest_9 rfl (lv_at hl 3 rfl) ?_
    refine lv_iconst (v := 0) hx hb dX5_closest_10 (by decide) ?_
    refine lv_iconst (v := 3) hx hb dX5_closest_11 (by decide) ?_
    refine z_SI (n := 3) (wn := (fun u : Unit => [(oM, .inr (5, [.ref mN, .ref mA, .ref mP, .int (nI ks), .ref mR, .ref mT, .int (nI ln), .long x1, .long x2, .long x3, .long x4, .long y1, .long y2, .long y3, .long y4, .ref mL, .ref mB, .int od, .int spt, .int wa, .long hs])), (mN, .inl (cI, 39, .inl qn)), (mR, .inl (cI, 3, .inl rf))])) (wr := [(oM, .inr (5, [.ref mN, .ref mA, .ref mP, .int (nI ks), .ref mR, .ref mT, .int (nI ln), .long x1, .long x2, .long x3, .long x4, .long y1, .long y2, .long y3, .long y4, .ref mL, .ref mB, .int od, .int spt, .int wa, .long hs])), (mN, .inl (cI, 39, .inl qn)), (mR, .inl (cI, 3, .inl rf))]) (As := [.int w, .int 0, .int 3]) (rest := []) ⟨hx, hb, hml, hown, hts⟩ hK hP hD hS hA hT (kX5_in l D cI cB tE tN w 0 3 _ ) gX5_closest_X5_in rfl rfl rfl (by decide +kernel) ⟨Nat.le_of_ble_eq_true rfl, Nat.le_of_ble_eq_true rfl⟩ [] [0, 1, 2] [0, 1, 2] (by decide) rfl rfl (by decide) (by decide) (by decide) (fun u => rfl) rfl hl.1 rfl (Nat.le_of_ble_eq_true rfl) dX5_closest_12 ⟨Nat.le_of_ble_eq_true rfl, Nat.le_of_ble_eq_true rfl⟩ (fun r_6 u H locs hw_7 hP hD hS => ?_)
    try dsimp only at hw_7
    have hP : va_P D vwCl [(oM, .inr (5, [.ref mN, .ref mA, .ref mP, .int (nI ks), .ref mR, .ref mT, .int (nI ln), .long x1, .long x2, .long x3, .long x4, .long y1, .long y2, .long y3, .long y4, .ref mL, .ref mB, .int od, .int spt, .int wa, .long hs])), (mN, .inl (cI, 39, .inl qn)), (mR, .inl (cI, 3, .inl rf))] H := hP
    have hD : va_D A [(oM, .inr (5, [.ref mN, .ref mA, .ref mP, .int (nI ks), .ref mR, .ref mT, .int (nI ln), .long x1, .long x2, .long x3, .long x4, .long y1, .long y2, .long y3, .long y4, .ref mL, .ref mB, .int od, .int spt, .int wa, .long hs])), (mN, .inl (cI, 39, .inl qn)), (mR, .inl (cI, 3, .inl rf))] := hD
    subst r_6
    refine lv_if_eq (tgt := 28) hx hb dX5_closest_15 (by decide) (fun c_8 => ?_) (fun c_8 => ?_)
    · skip
      have c_8 := z_b0 c_8
      refine lv_aload_n hx hb dX5_closest_28 rfl (lv_at hl 0 rfl) ?_
      refine lv_sipush (v := (-10002)) hx hb dX5_closest_29 (by decide) ?_
      refine z_VI (n := 1) (wn := (fun u : Unit => [(oM, .inr (5, [.ref mN, .ref mA, .ref mP, .int (nI ks), .ref mR, .ref mT, .int (nI ln), .long x1, .long x2, .long x3, .long x4, .long y1, .long y2, .long y3, .long y4, .ref mL, .ref mB, .int od, .int spt, .int wa, .long hs])), (mN, .inl (cI, 39, .inl qn)), (mR, .inl (cI, 3, .inl (upd rf 0 (rf 0 + 1))))])) (wr := [(mN, .inl (cI, 39, .inl qn))]) (As := [.int (-10002)]) (rest := []) ⟨hx, hb, hml, hown, hts⟩ hK hP hD hS hA hT (kX5_refuses l D cI cB tE tN oM mN mA mP mR mT mL mB ks ln x1 x2 x3 x4 y1 y2 y3 y4 od spt wa hs rf (-10002) 0 _ (by decide) (by omega)) gX5_closest_X5_refuses rfl rfl rfl (by decide +kernel) ⟨Nat.le_of_ble_eq_true rfl, Nat.le_of_ble_eq_true rfl⟩ [0, 2] [1] [1, 0, 2] (by decide) rfl rfl (by decide) (by decide) (by decide) (fun u => rfl) 0 5 rfl rfl rfl rfl hl.1 rfl (Nat.le_of_ble_eq_true rfl) dX5_closest_32 ⟨Nat.le_of_ble_eq_true rfl, Nat.le_of_ble_eq_true rfl⟩ (fun r_9 u H locs hw_10 hP hD hS => ?_)
      try dsimp only at hw_10
      have hP : va_P D vwCl [(oM, .inr (5, [.ref mN, .ref mA, .ref mP, .int (nI ks), .ref mR, .ref mT, .int (nI ln), .long x1, .long x2, .long x3, .long x4, .long y1, .long y2, .long y3, .long y4, .ref mL, .ref mB, .int od, .int spt, .int wa, .long hs])), (mN, .inl (cI, 39, .inl qn)), (mR, .inl (cI, 3, .inl (upd rf 0 (rf 0 + 1))))] H := hP
      have hD : va_D A [(oM, .inr (5, [.ref mN, .ref mA, .ref mP, .int (nI ks), .ref mR, .ref mT, .int (nI ln), .long x1, .long x2, .long x3, .long x4, .long y1, .long y2, .long y3, .long y4, .ref mL, .ref mB, .int od, .int spt, .int wa, .long hs])), (mN, .inl (cI, 39, .inl qn)), (mR, .inl (cI, 3, .inl (upd rf 0 (rf 0 + 1))))] := hD
      subst r_9
      refine lv_i2l (v := ((-10002) : Int32).toInt64) hx hb dX5_closest_35 rfl ?_
      exact hQ (((-10002) : Int32).toInt64) (x1, x2, x3, x4, y1, y2, y3, y4, upd rf 0 (rf 0 + 1)) _ _ _ _ (⟨by rw [gCl, if_neg (by simp only [vCl, vIn_cIn, c_3, c_8] <;> simp)], by rw [gRf, if_neg (by simp only [vCl, vIn_cIn, c_3, c_8] <;> simp)]⟩) hP hD hS dX5_closest_36
    · skip
      have c_8 := z_b1 c_8
      have hzz := of_decide_eq_true c_8
      obtain ⟨z, rfl, hz⟩ := z_nat (b := 3) (Int32.not_lt.mp hzz.1) (Int32.not_lt.mp hzz.2) (by decide)
      have hcz : (nI z).toNatClampNeg = z := nI_clamp (by omega)
      obtain ⟨n, rfl, hn⟩ := cShip_n hI.2.1 hI.1 (cPair_1 c_3)
      rw [hNN] at hn
      have hcn : (nI n).toNatClampNeg = n := nI_clamp (by omega)
      obtain ⟨q, rfl, hq⟩ := cShip_n hI.2.1 hI.1 (cPair_2 c_3)
      rw [hNN] at hq
      have hcq : (nI q).toNatClampNeg = q := nI_clamp (by omega)
      refine lv_aload_n hx hb dX5_closest_18 rfl (lv_at hl 0 rfl) ?_
      refine lv_iload_n hx hb dX5_closest_19 rfl (lv_at hl 1 rfl) ?_
      refine lv_iload_n hx hb dX5_closest_20 rfl (lv_at hl 2 rfl) ?_
      refine lv_iload_n hx hb dX5_closest_21 rfl (lv_at hl 3 rfl) ?_
      refine z_VL (n := 3) (wn := (fun u : Int64 × Int64 × Int64 × Int64 × Int64 × Int64 × Int64 × Int64 => [(oM, .inr (5, [.ref mN, .ref mA, .ref mP, .int (nI ks), .ref mR, .ref mT, .int (nI ln), .long u.1, .long u.2.1, .long u.2.2.1, .long u.2.2.2.1, .long u.2.2.2.2.1, .long u.2.2.2.2.2.1, .long u.2.2.2.2.2.2.1, .long u.2.2.2.2.2.2.2, .ref mL, .ref mB, .int od, .int spt, .int wa, .long hs])), (mN, .inl (cI, 39, .inl qn)), (mR, .inl (cI, 3, .inl rf))])) (wr := [(mR, .inl (cI, 3, .inl rf))]) (As := [.int (nI n), .int (nI q), .int (nI z)]) (rest := []) ⟨hx, hb, hml, hown, hts⟩ hK hP hD hS hA hT (kX5_closestOf l D cI cB tE tN oM mN mA mP mR mT mL mB ks ln x1 x2 x3 x4 y1 y2 y3 y4 od spt wa hs qn f N n q z _ (hR) (hI) (hNN) (by omega) (by omega) (by omega)) gX5_closest_X5_closestOf rfl rfl rfl (by decide +kernel) ⟨Nat.le_of_ble_eq_true rfl, Nat.le_of_ble_eq_true rfl⟩ [0, 1] [2] [1, 2, 0] (by decide) rfl rfl (by decide) (by decide) (by decide) (fun u => rfl) 0 5 rfl rfl rfl rfl hl.1 rfl (Nat.le_of_ble_eq_true rfl) dX5_closest_22 ⟨Nat.le_of_ble_eq_true rfl, Nat.le_of_ble_eq_true rfl⟩ (fun r_19 u H locs hw_20 hP hD hS => ?_)
      obtain ⟨p1_11, p2_12, p3_13, p4_14, q1_15, q2_16, q3_17, q4_18⟩ := u
      try dsimp only at hw_20
      have hP : va_P D vwCl [(oM, .inr (5, [.ref mN, .ref mA, .ref mP, .int (nI ks), .ref mR, .ref mT, .int (nI ln), .long p1_11, .long p2_12, .long p3_13, .long p4_14, .long q1_15, .long q2_16, .long q3_17, .long q4_18, .ref mL, .ref mB, .int od, .int spt, .int wa, .long hs])), (mN, .inl (cI, 39, .inl qn)), (mR, .inl (cI, 3, .inl rf))] H := hP
      have hD : va_D A [(oM, .inr (5, [.ref mN, .ref mA, .ref mP, .int (nI ks), .ref mR, .ref mT, .int (nI ln), .long p1_11, .long p2_12, .long p3_13, .long p4_14, .long q1_15, .long q2_16, .long q3_17, .long q4_18, .ref mL, .ref mB, .int od, .int spt, .int wa, .long hs])), (mN, .inl (cI, 39, .inl qn)), (mR, .inl (cI, 3, .inl rf))] := hD
      subst r_19
      refine lv_goto (tgt := 36) hx hb dX5_closest_25 (by decide) ?_
      exact hQ (cPt (cMh f n q).1 (cMh f n q).2.1 (cMh f n q).2.2.1 (cMh f n q).2.2.2 z) (p1_11, p2_12, p3_13, p4_14, q1_15, q2_16, q3_17, q4_18, rf) _ _ _ _ (⟨by rw [gCl, if_pos (by simp only [vCl, vIn_cIn, c_3, c_8] <;> simp), hcn, hcq, hcz], by rw [gRf, if_pos (by simp only [vCl, vIn_cIn, c_3, c_8] <;> simp)]⟩) hP hD hS dX5_closest_36

set_option maxHeartbeats 4000000 in
set_option maxRecDepth 100000 in
theorem kX5_risk (l : Launch) (D : va_G) (cI cB : ClassId) (tE tN : Nat) (oM : Nat) (mN : Nat) (mA : Nat) (mP : Nat) (mR : Nat) (mT : Nat) (mL : Nat) (mB : Nat) (ks : Nat) (ln : Nat) (x1 : Int64) (x2 : Int64) (x3 : Int64) (x4 : Int64) (y1 : Int64) (y2 : Int64) (y3 : Int64) (y4 : Int64) (od : Int32) (spt : Int32) (wa : Int32) (hs : Int64) (qn : Nat → Int32) (rf : Nat → Int32) (f : Nat → Int32) (N : Nat) (i : Int32) (j : Int32) (sz : Nat) (hR : Rg N f qn) (hI : Iv f) (hNN : nN f = N) : zI l yX5_risk wsX5_risk ({ frames := 5, cells := 0, slots := 0, locals := 111 }) D cI cB tE tN [.ref oM, .int i, .int j] [(oM, .inr (5, [.ref mN, .ref mA, .ref mP, .int (nI ks), .ref mR, .ref mT, .int (nI ln), .long x1, .long x2, .long x3, .long x4, .long y1, .long y2, .long y3, .long y4, .ref mL, .ref mB, .int od, .int spt, .int wa, .long hs])), (mN, .inl (cI, 39, .inl qn)), (mR, .inl (cI, 3, .inl rf))] sz (fun u : Int64 × Int64 × Int64 × Int64 × Int64 × Int64 × Int64 × Int64 × (Nat → Int32) => [(oM, .inr (5, [.ref mN, .ref mA, .ref mP, .int (nI ks), .ref mR, .ref mT, .int (nI ln), .long u.1, .long u.2.1, .long u.2.2.1, .long u.2.2.2.1, .long u.2.2.2.2.1, .long u.2.2.2.2.2.1, .long u.2.2.2.2.2.2.1, .long u.2.2.2.2.2.2.2.1, .ref mL, .ref mB, .int od, .int spt, .int wa, .long hs])), (mN, .inl (cI, 39, .inl qn)), (mR, .inl (cI, 3, .inl u.2.2.2.2.2.2.2.2))]) (fun (r : Int32) (u : Int64 × Int64 × Int64 × Int64 × Int64 × Int64 × Int64 × Int64 × (Nat → Int32)) => r = gRi f i j ∧ u.2.2.2.2.2.2.2.2 = gRf (cPair f i j) rf) 0 0 := by
  refine zI_mk (cc := cX5_risk) (maxL := 3) (rt := .int) (by decide) rfl (Nat.le_of_ble_eq_true rfl) ?_
  intro p e s m below meth c A Q ls S0 hname hA hK hP hD hT hS hQ hl
  obtain ⟨hx, hb, hml, hown, hts⟩ := id S0
  have hl : lv_has ls 3 [(0, .ref oM), (1, .int i), (2, .int j)] := hl
  have hN6 : N ≤ 6 := by rw [← hNN]; exact hI.1
  refine lv_aload_n hx hb dX5_risk_0 rfl (lv_at hl 0 rfl) ?_
  refine lv_iload_n hx hb dX5_risk_1 rfl (lv_at hl 1 rfl) ?_
  refine lv_iload_n hx hb dX5_risk_2 rfl (lv_at hl 2 rfl) ?_
  refine z_VI (n := 2) (wn := (fun u : Unit => [(oM, .inr (5, [.ref mN, .ref mA, .ref mP, .int (nI ks), .ref mR, .ref mT, .int (nI ln), .long x1, .long x2, .long x3, .long x4, .long y1, .long y2, .long y3, .long y4, .ref mL, .ref mB, .int od, .int spt, .int wa, .long hs])), (mN, .inl (cI, 39, .inl qn)), (mR, .inl (cI, 3, .inl rf))])) (wr := [(mR, .inl (cI, 3, .inl rf))]) (As := [.int i, .int j]) (rest := []) ⟨hx, hb, hml, hown, hts⟩ hK hP hD hS hA hT (kX5_areTwo l D cI cB tE tN oM mN mA mP mR mT mL mB ks ln x1 x2 x3 x4 y1 y2 y3 y4 od spt wa hs qn f N i j _ (hR) (hI) (hNN)) gX5_risk_X5_areTwo rfl rfl rfl (by decide +kernel) ⟨Nat.le_of_ble_eq_true rfl, Nat.le_of_ble_eq_true rfl⟩ [0, 1] [2] [1, 2, 0] (by decide) rfl rfl (by decide) (by decide) (by decide) (fun u => rfl) 0 5 rfl rfl rfl rfl hl.1 rfl (Nat.le_of_ble_eq_true rfl) dX5_risk_3 ⟨Nat.le_of_ble_eq_true rfl, Nat.le_of_ble_eq_true rfl⟩ (fun r_1 u H locs hw_2 hP hD hS => ?_)
  try dsimp only at hw_2
  have hP : va_P D vwCl [(oM, .inr (5, [.ref mN, .ref mA, .ref mP, .int (nI ks), .ref mR, .ref mT, .int (nI ln), .long x1, .long x2, .long x3, .long x4, .long y1, .long y2, .long y3, .long y4, .ref mL, .ref mB, .int od, .int spt, .int wa, .long hs])), (mN, .inl (cI, 39, .inl qn)), (mR, .inl (cI, 3, .inl rf))] H := hP
  have hD : va_D A [(oM, .inr (5, [.ref mN, .ref mA, .ref mP, .int (nI ks), .ref mR, .ref mT, .int (nI ln), .long x1, .long x2, .long x3, .long x4, .long y1, .long y2, .long y3, .long y4, .ref mL, .ref mB, .int od, .int spt, .int wa, .long hs])), (mN, .inl (cI, 39, .inl qn)), (mR, .inl (cI, 3, .inl rf))] := hD
  subst r_1
  refine lv_if_eq (tgt := 26) hx hb dX5_risk_6 (by decide) (fun c_3 => ?_) (fun c_3 => ?_)
  · skip
    have c_3 := z_b0 c_3
    refine lv_aload_n hx hb dX5_risk_26 rfl (lv_at hl 0 rfl) ?_
    refine lv_sipush (v := (-10002)) hx hb dX5_risk_27 (by decide) ?_
    refine z_VI (n := 1) (wn := (fun u : Unit => [(oM, .inr (5, [.ref mN, .ref mA, .ref mP, .int (nI ks), .ref mR, .ref mT, .int (nI ln), .long x1, .long x2, .long x3, .long x4, .long y1, .long y2, .long y3, .long y4, .ref mL, .ref mB, .int od, .int spt, .int wa, .long hs])), (mN, .inl (cI, 39, .inl qn)), (mR, .inl (cI, 3, .inl (upd rf 0 (rf 0 + 1))))])) (wr := [(mN, .inl (cI, 39, .inl qn))]) (As := [.int (-10002)]) (rest := []) ⟨hx, hb, hml, hown, hts⟩ hK hP hD hS hA hT (kX5_refuses l D cI cB tE tN oM mN mA mP mR mT mL mB ks ln x1 x2 x3 x4 y1 y2 y3 y4 od spt wa hs rf (-10002) 0 _ (by decide) (by omega)) gX5_risk_X5_refuses rfl rfl rfl (by decide +kernel) ⟨Nat.le_of_ble_eq_true rfl, Nat.le_of_ble_eq_true rfl⟩ [0, 2] [1] [1, 0, 2] (by decide) rfl rfl (by decide) (by decide) (by decide) (fun u => rfl) 0 5 rfl rfl rfl rfl hl.1 rfl (Nat.le_of_ble_eq_true rfl) dX5_risk_30 ⟨Nat.le_of_ble_eq_true rfl, Nat.le_of_ble_eq_true rfl⟩ (fun r_4 u H locs hw_5 hP hD hS => ?_)
    try dsimp only at hw_5
    have hP : va_P D vwCl [(oM, .inr (5, [.ref mN, .ref mA, .ref mP, .int (nI ks), .ref mR, .ref mT, .int (nI ln), .long x1, .long x2, .long x3, .long x4, .long y1, .long y2, .long y3, .long y4, .ref mL, .ref mB, .int od, .int spt, .int wa, .long hs])), (mN, .inl (cI, 39, .inl qn)), (mR, .inl (cI, 3, .inl (upd rf 0 (rf 0 + 1))))] H := hP
    have hD : va_D A [(oM, .inr (5, [.ref mN, .ref mA, .ref mP, .int (nI ks), .ref mR, .ref mT, .int (nI ln), .long x1, .long x2, .long x3, .long x4, .long y1, .long y2, .long y3, .long y4, .ref mL, .ref mB, .int od, .int spt, .int wa, .long hs])), (mN, .inl (cI, 39, .inl qn)), (mR, .inl (cI, 3, .inl (upd rf 0 (rf 0 + 1))))] := hD
    subst r_4
    exact hQ (-10002) (x1, x2, x3, x4, y1, y2, y3, y4, upd rf 0 (rf 0 + 1)) _ _ _ _ (rfl) (⟨by rw [gRi, if_neg (by rw [c_3]; decide)], by rw [gRf, if_neg (by rw [c_3]; decide)]⟩) hP hD hS dX5_risk_33
  · skip
    have c_3 := z_b1 c_3
    obtain ⟨n, rfl, hn⟩ := cShip_n hI.2.1 hI.1 (cPair_1 c_3)
    rw [hNN] at hn
    have hcn : (nI n).toNatClampNeg = n := nI_clamp (by omega)
    obtain ⟨q, rfl, hq⟩ := cShip_n hI.2.1 hI.1 (cPair_2 c_3)
    rw [hNN] at hq
    have hcq : (nI q).toNatClampNeg = q := nI_clamp (by omega)
    refine lv_aload_n hx hb dX5_risk_9 rfl (lv_at hl 0 rfl) ?_
    refine lv_iload_n hx hb dX5_risk_10 rfl (lv_at hl 1 rfl) ?_
    refine lv_iload_n hx hb dX5_risk_11 rfl (lv_at hl 2 rfl) ?_
    refine z_VI (n := 2) (wn := (fun u : Int64 × Int64 × Int64 × Int64 => [(oM, .inr (5, [.ref mN, .ref mA, .ref mP, .int (nI ks), .ref mR, .ref mT, .int (nI ln), .long (cRx f n q), .long (cRy f n q), .long (cVx f (f (5 * n + 2)) (f (5 * n + 3)) q), .long (cVy f (f (5 * n + 2)) (f (5 * n + 3)) q), .long u.1, .long u.2.1, .long u.2.2.1, .long u.2.2.2, .ref mL, .ref mB, .int od, .int spt, .int wa, .long hs])), (mN, .inl (cI, 39, .inl qn)), (mR, .inl (cI, 3, .inl rf))])) (wr := [(mR, .inl (cI, 3, .inl rf))]) (As := [.int (nI n), .int (nI q)]) (rest := []) ⟨hx, hb, hml, hown, hts⟩ hK hP hD hS hA hT (kX5_haveRisk l D cI cB tE tN oM mN mA mP mR mT mL mB ks ln x1 x2 x3 x4 y1 y2 y3 y4 od spt wa hs qn f N n q _ (hR) (hI) (hNN) (by omega) (by omega)) gX5_risk_X5_haveRisk rfl rfl rfl (by decide +kernel) ⟨Nat.le_of_ble_eq_true rfl, Nat.le_of_ble_eq_true rfl⟩ [0, 1] [2] [1, 2, 0] (by decide) rfl rfl (by decide) (by decide) (by decide) (fun u => rfl) 0 5 rfl rfl rfl rfl hl.1 rfl (Nat.le_of_ble_eq_true rfl) dX5_risk_12 ⟨Nat.le_of_ble_eq_true rfl, Nat.le_of_ble_eq_true rfl⟩ (fun r_10 u H locs hw_11 hP hD hS => ?_)
    obtain ⟨q1_6, q2_7, q3_8, q4_9⟩ := u
    try dsimp only at hw_11
    have hP : va_P D vwCl [(oM, .inr (5, [.ref mN, .ref mA, .ref mP, .int (nI ks), .ref mR, .ref mT, .int (nI ln), .long (cRx f n q), .long (cRy f n q), .long (cVx f (f (5 * n + 2)) (f (5 * n + 3)) q), .long (cVy f (f (5 * n + 2)) (f (5 * n + 3)) q), .long q1_6, .long q2_7, .long q3_8, .long q4_9, .ref mL, .ref mB, .int od, .int spt, .int wa, .long hs])), (mN, .inl (cI, 39, .inl qn)), (mR, .inl (cI, 3, .inl rf))] H := hP
    have hD : va_D A [(oM, .inr (5, [.ref mN, .ref mA, .ref mP, .int (nI ks), .ref mR, .ref mT, .int (nI ln), .long (cRx f n q), .long (cRy f n q), .long (cVx f (f (5 * n + 2)) (f (5 * n + 3)) q), .long (cVy f (f (5 * n + 2)) (f (5 * n + 3)) q), .long q1_6, .long q2_7, .long q3_8, .long q4_9, .ref mL, .ref mB, .int od, .int spt, .int wa, .long hs])), (mN, .inl (cI, 39, .inl qn)), (mR, .inl (cI, 3, .inl rf))] := hD
    obtain ⟨hw_11, hq_12⟩ := hw_11
    subst r_10
    refine lv_if_eq (tgt := 22) hx hb dX5_risk_15 (by decide) (fun c_13 => ?_) (fun c_13 => ?_)
    · skip
      have c_13 := z_b0 c_13
      refine lv_iconst (v := 0) hx hb dX5_risk_22 (by decide) ?_
      refine lv_goto (tgt := 33) hx hb dX5_risk_23 (by decide) ?_
      exact hQ 0 (cRx f n q, cRy f n q, cVx f (f (5 * n + 2)) (f (5 * n + 3)) q, cVy f (f (5 * n + 2)) (f (5 * n + 3)) q, q1_6, q2_7, q3_8, q4_9, rf) _ _ _ _ (rfl) (⟨by rw [gRi, if_pos c_3, hcn, hcq, c_13]; rfl, by rw [gRf, if_pos c_3]⟩) hP hD hS dX5_risk_33
    · skip
      have c_13 := z_b1 c_13
      refine lv_iconst (v := 1) hx hb dX5_risk_18 (by decide) ?_
      refine lv_goto (tgt := 33) hx hb dX5_risk_19 (by decide) ?_
      exact hQ 1 (cRx f n q, cRy f n q, cVx f (f (5 * n + 2)) (f (5 * n + 3)) q, cVy f (f (5 * n + 2)) (f (5 * n + 3)) q, q1_6, q2_7, q3_8, q4_9, rf) _ _ _ _ (rfl) (⟨by rw [gRi, if_pos c_3, hcn, hcq, c_13]; rfl, by rw [gRf, if_pos c_3]⟩) hP hD hS dX5_risk_33

set_option maxHeartbeats 4000000 in
set_option maxRecDepth 100000 in
theorem kX5_sector (l : Launch) (D : va_G) (cI cB : ClassId) (tE tN : Nat) (oM : Nat) (mN : Nat) (mA : Nat) (mP : Nat) (mR : Nat) (mT : Nat) (mL : Nat) (mB : Nat) (ks : Nat) (ln : Nat) (x1 : Int64) (x2 : Int64) (x3 : Int64) (x4 : Int64) (y1 : Int64) (y2 : Int64) (y3 : Int64) (y4 : Int64) (od : Int32) (spt : Int32) (wa : Int32) (hs : Int64) (qn : Nat → Int32) (rf : Nat → Int32) (f : Nat → Int32) (N : Nat) (i : Int32) (j : Int32) (sz : Nat) (hR : Rg N f qn) (hI : Iv f) (hNN : nN f = N) : zI l yX5_sector wsX5_sector ({ frames := 5, cells := 0, slots := 0, locals := 121 }) D cI cB tE tN [.ref oM, .int i, .int j] [(oM, .inr (5, [.ref mN, .ref mA, .ref mP, .int (nI ks), .ref mR, .ref mT, .int (nI ln), .long x1, .long x2, .long x3, .long x4, .long y1, .long y2, .long y3, .long y4, .ref mL, .ref mB, .int od, .int spt, .int wa, .long hs])), (mN, .inl (cI, 39, .inl qn)), (mR, .inl (cI, 3, .inl rf))] sz (fun u : Int64 × Int64 × Int64 × Int64 × (Nat → Int32) => [(oM, .inr (5, [.ref mN, .ref mA, .ref mP, .int (nI ks), .ref mR, .ref mT, .int (nI ln), .long u.1, .long u.2.1, .long u.2.2.1, .long u.2.2.2.1, .long y1, .long y2, .long y3, .long y4, .ref mL, .ref mB, .int od, .int spt, .int wa, .long hs])), (mN, .inl (cI, 39, .inl qn)), (mR, .inl (cI, 3, .inl u.2.2.2.2))]) (fun (r : Int32) (u : Int64 × Int64 × Int64 × Int64 × (Nat → Int32)) => r = gSe f i j ∧ u.2.2.2.2 = gRf (cPair f i j) rf) 0 0 := by
  refine zI_mk (cc := cX5_sector) (maxL := 3) (rt := .int) (by decide) rfl (Nat.le_of_ble_eq_true rfl) ?_
  intro p e s m below meth c A Q ls S0 hname hA hK hP hD hT hS hQ hl
  obtain ⟨hx, hb, hml, hown, hts⟩ := id S0
  have hl : lv_has ls 3 [(0, .ref oM), (1, .int i), (2, .int j)] := hl
  have hN6 : N ≤ 6 := by rw [← hNN]; exact hI.1
  refine lv_aload_n hx hb dX5_sector_0 rfl (lv_at hl 0 rfl) ?_
  refine lv_iload_n hx hb dX5_sector_1 rfl (lv_at hl 1 rfl) ?_
  refine lv_iload_n hx hb dX5_sector_2 rfl (lv_at hl 2 rfl) ?_
  refine z_VI (n := 2) (wn := (fun u : Unit => [(oM, .inr (5, [.ref mN, .ref mA, .ref mP, .int (nI ks), .ref mR, .ref mT, .int (nI ln), .long x1, .long x2, .long x3, .long x4, .long y1, .long y2, .long y3, .long y4, .ref mL, .ref mB, .int od, .int spt, .int wa, .long hs])), (mN, .inl (cI, 39, .inl qn)), (mR, .inl (cI, 3, .inl rf))])) (wr := [(mR, .inl (cI, 3, .inl rf))]) (As := [.int i, .int j]) (rest := []) ⟨hx, hb, hml, hown, hts⟩ hK hP hD hS hA hT (kX5_areTwo l D cI cB tE tN oM mN mA mP mR mT mL mB ks ln x1 x2 x3 x4 y1 y2 y3 y4 od spt wa hs qn f N i j _ (hR) (hI) (hNN)) gX5_sector_X5_areTwo rfl rfl rfl (by decide +kernel) ⟨Nat.le_of_ble_eq_true rfl, Nat.le_of_ble_eq_true rfl⟩ [0, 1] [2] [1, 2, 0] (by decide) rfl rfl (by decide) (by decide) (by decide) (fun u => rfl) 0 5 rfl rfl rfl rfl hl.1 rfl (Nat.le_of_ble_eq_true rfl) dX5_sector_3 ⟨Nat.le_of_ble_eq_true rfl, Nat.le_of_ble_eq_true rfl⟩ (fun r_1 u H locs hw_2 hP hD hS => ?_)
  try dsimp only at hw_2
  have hP : va_P D vwCl [(oM, .inr (5, [.ref mN, .ref mA, .ref mP, .int (nI ks), .ref mR, .ref mT, .int (nI ln), .long x1, .long x2, .long x3, .long x4, .long y1, .long y2, .long y3, .long y4, .ref mL, .ref mB, .int od, .int spt, .int wa, .long hs])), (mN, .inl (cI, 39, .inl qn)), (mR, .inl (cI, 3, .inl rf))] H := hP
  have hD : va_D A [(oM, .inr (5, [.ref mN, .ref mA, .ref mP, .int (nI ks), .ref mR, .ref mT, .int (nI ln), .long x1, .long x2, .long x3, .long x4, .long y1, .long y2, .long y3, .long y4, .ref mL, .ref mB, .int od, .int spt, .int wa, .long hs])), (mN, .inl (cI, 39, .inl qn)), (mR, .inl (cI, 3, .inl rf))] := hD
  subst r_1
  refine lv_if_eq (tgt := 18) hx hb dX5_sector_6 (by decide) (fun c_3 => ?_) (fun c_3 => ?_)
  · skip
    have c_3 := z_b0 c_3
    refine lv_aload_n hx hb dX5_sector_18 rfl (lv_at hl 0 rfl) ?_
    refine lv_sipush (v := (-10002)) hx hb dX5_sector_19 (by decide) ?_
    refine z_VI (n := 1) (wn := (fun u : Unit => [(oM, .inr (5, [.ref mN, .ref mA, .ref mP, .int (nI ks), .ref mR, .ref mT, .int (nI ln), .long x1, .long x2, .long x3, .long x4, .long y1, .long y2, .long y3, .long y4, .ref mL, .ref mB, .int od, .int spt, .int wa, .long hs])), (mN, .inl (cI, 39, .inl qn)), (mR, .inl (cI, 3, .inl (upd rf 0 (rf 0 + 1))))])) (wr := [(mN, .inl (cI, 39, .inl qn))]) (As := [.int (-10002)]) (rest := []) ⟨hx, hb, hml, hown, hts⟩ hK hP hD hS hA hT (kX5_refuses l D cI cB tE tN oM mN mA mP mR mT mL mB ks ln x1 x2 x3 x4 y1 y2 y3 y4 od spt wa hs rf (-10002) 0 _ (by decide) (by omega)) gX5_sector_X5_refuses rfl rfl rfl (by decide +kernel) ⟨Nat.le_of_ble_eq_true rfl, Nat.le_of_ble_eq_true rfl⟩ [0, 2] [1] [1, 0, 2] (by decide) rfl rfl (by decide) (by decide) (by decide) (fun u => rfl) 0 5 rfl rfl rfl rfl hl.1 rfl (Nat.le_of_ble_eq_true rfl) dX5_sector_22 ⟨Nat.le_of_ble_eq_true rfl, Nat.le_of_ble_eq_true rfl⟩ (fun r_4 u H locs hw_5 hP hD hS => ?_)
    try dsimp only at hw_5
    have hP : va_P D vwCl [(oM, .inr (5, [.ref mN, .ref mA, .ref mP, .int (nI ks), .ref mR, .ref mT, .int (nI ln), .long x1, .long x2, .long x3, .long x4, .long y1, .long y2, .long y3, .long y4, .ref mL, .ref mB, .int od, .int spt, .int wa, .long hs])), (mN, .inl (cI, 39, .inl qn)), (mR, .inl (cI, 3, .inl (upd rf 0 (rf 0 + 1))))] H := hP
    have hD : va_D A [(oM, .inr (5, [.ref mN, .ref mA, .ref mP, .int (nI ks), .ref mR, .ref mT, .int (nI ln), .long x1, .long x2, .long x3, .long x4, .long y1, .long y2, .long y3, .long y4, .ref mL, .ref mB, .int od, .int spt, .int wa, .long hs])), (mN, .inl (cI, 39, .inl qn)), (mR, .inl (cI, 3, .inl (upd rf 0 (rf 0 + 1))))] := hD
    subst r_4
    exact hQ (-10002) (x1, x2, x3, x4, upd rf 0 (rf 0 + 1)) _ _ _ _ (rfl) (⟨by rw [gSe, if_neg (by rw [c_3]; decide)], by rw [gRf, if_neg (by rw [c_3]; decide)]⟩) hP hD hS dX5_sector_25
  · skip
    have c_3 := z_b1 c_3
    obtain ⟨n, rfl, hn⟩ := cShip_n hI.2.1 hI.1 (cPair_1 c_3)
    rw [hNN] at hn
    have hcn : (nI n).toNatClampNeg = n := nI_clamp (by omega)
    obtain ⟨q, rfl, hq⟩ := cShip_n hI.2.1 hI.1 (cPair_2 c_3)
    rw [hNN] at hq
    have hcq : (nI q).toNatClampNeg = q := nI_clamp (by omega)
    refine lv_aload_n hx hb dX5_sector_9 rfl (lv_at hl 0 rfl) ?_
    refine lv_iload_n hx hb dX5_sector_10 rfl (lv_at hl 1 rfl) ?_
    refine lv_iload_n hx hb dX5_sector_11 rfl (lv_at hl 2 rfl) ?_
    refine z_VI (n := 2) (wn := (fun u : Unit => [(oM, .inr (5, [.ref mN, .ref mA, .ref mP, .int (nI ks), .ref mR, .ref mT, .int (nI ln), .long (cRx f n q), .long (cRy f n q), .long (cVx f (f (5 * n + 2)) (f (5 * n + 3)) q), .long (cVy f (f (5 * n + 2)) (f (5 * n + 3)) q), .long y1, .long y2, .long y3, .long y4, .ref mL, .ref mB, .int od, .int spt, .int wa, .long hs])), (mN, .inl (cI, 39, .inl qn)), (mR, .inl (cI, 3, .inl rf))])) (wr := [(mR, .inl (cI, 3, .inl rf))]) (As := [.int (nI n), .int (nI q)]) (rest := []) ⟨hx, hb, hml, hown, hts⟩ hK hP hD hS hA hT (kX5_sectorOf l D cI cB tE tN oM mN mA mP mR mT mL mB ks ln x1 x2 x3 x4 y1 y2 y3 y4 od spt wa hs qn f N n q _ (hR) (hI) (hNN) (by omega) (by omega)) gX5_sector_X5_sectorOf rfl rfl rfl (by decide +kernel) ⟨Nat.le_of_ble_eq_true rfl, Nat.le_of_ble_eq_true rfl⟩ [0, 1] [2] [1, 2, 0] (by decide) rfl rfl (by decide) (by decide) (by decide) (fun u => rfl) 0 5 rfl rfl rfl rfl hl.1 rfl (Nat.le_of_ble_eq_true rfl) dX5_sector_12 ⟨Nat.le_of_ble_eq_true rfl, Nat.le_of_ble_eq_true rfl⟩ (fun r_6 u H locs hw_7 hP hD hS => ?_)
    try dsimp only at hw_7
    have hP : va_P D vwCl [(oM, .inr (5, [.ref mN, .ref mA, .ref mP, .int (nI ks), .ref mR, .ref mT, .int (nI ln), .long (cRx f n q), .long (cRy f n q), .long (cVx f (f (5 * n + 2)) (f (5 * n + 3)) q), .long (cVy f (f (5 * n + 2)) (f (5 * n + 3)) q), .long y1, .long y2, .long y3, .long y4, .ref mL, .ref mB, .int od, .int spt, .int wa, .long hs])), (mN, .inl (cI, 39, .inl qn)), (mR, .inl (cI, 3, .inl rf))] H := hP
    have hD : va_D A [(oM, .inr (5, [.ref mN, .ref mA, .ref mP, .int (nI ks), .ref mR, .ref mT, .int (nI ln), .long (cRx f n q), .long (cRy f n q), .long (cVx f (f (5 * n + 2)) (f (5 * n + 3)) q), .long (cVy f (f (5 * n + 2)) (f (5 * n + 3)) q), .long y1, .long y2, .long y3, .long y4, .ref mL, .ref mB, .int od, .int spt, .int wa, .long hs])), (mN, .inl (cI, 39, .inl qn)), (mR, .inl (cI, 3, .inl rf))] := hD
    subst r_6
    refine lv_goto (tgt := 25) hx hb dX5_sector_15 (by decide) ?_
    exact hQ (cSec f n q) (cRx f n q, cRy f n q, cVx f (f (5 * n + 2)) (f (5 * n + 3)) q, cVy f (f (5 * n + 2)) (f (5 * n + 3)) q, rf) _ _ _ _ (rfl) (⟨by rw [gSe, if_pos c_3, hcn, hcq], by rw [gRf, if_pos c_3]⟩) hP hD hS dX5_sector_25

set_option maxHeartbeats 4000000 in
set_option maxRecDepth 100000 in
theorem kX5_table (l : Launch) (D : va_G) (cI cB : ClassId) (tE tN : Nat) (oM : Nat) (mN : Nat) (mA : Nat) (mP : Nat) (mR : Nat) (mT : Nat) (mL : Nat) (mB : Nat) (ks : Nat) (ln : Nat) (x1 : Int64) (x2 : Int64) (x3 : Int64) (x4 : Int64) (y1 : Int64) (y2 : Int64) (y3 : Int64) (y4 : Int64) (od : Int32) (spt : Int32) (wa : Int32) (hs : Int64) (qn : Nat → Int32) (rf : Nat → Int32) (f : Nat → Int32) (N : Nat) (i : Int32) (j : Int32) (sz : Nat) (hR : Rg N f qn) (hI : Iv f) (hNN : nN f = N) : zI l yX5_table wsX5_table ({ frames := 6, cells := 0, slots := 0, locals := 145 }) D cI cB tE tN [.ref oM, .int i, .int j] [(oM, .inr (5, [.ref mN, .ref mA, .ref mP, .int (nI ks), .ref mR, .ref mT, .int (nI ln), .long x1, .long x2, .long x3, .long x4, .long y1, .long y2, .long y3, .long y4, .ref mL, .ref mB, .int od, .int spt, .int wa, .long hs])), (mN, .inl (cI, 39, .inl qn)), (mR, .inl (cI, 3, .inl rf))] sz (fun u : Int64 × Int64 × Int64 × Int64 × Int64 × Int64 × Int64 × Int64 × (Nat → Int32) => [(oM, .inr (5, [.ref mN, .ref mA, .ref mP, .int (nI ks), .ref mR, .ref mT, .int (nI ln), .long u.1, .long u.2.1, .long u.2.2.1, .long u.2.2.2.1, .long u.2.2.2.2.1, .long u.2.2.2.2.2.1, .long u.2.2.2.2.2.2.1, .long u.2.2.2.2.2.2.2.1, .ref mL, .ref mB, .int od, .int spt, .int wa, .long hs])), (mN, .inl (cI, 39, .inl qn)), (mR, .inl (cI, 3, .inl u.2.2.2.2.2.2.2.2))]) (fun (r : Int32) (u : Int64 × Int64 × Int64 × Int64 × Int64 × Int64 × Int64 × Int64 × (Nat → Int32)) => r = gTa f i j ∧ u.2.2.2.2.2.2.2.2 = gRf (cPair f i j) rf) 0 0 := by
  refine zI_mk (cc := cX5_table) (maxL := 3) (rt := .int) (by decide) rfl (Nat.le_of_ble_eq_true rfl) ?_
  intro p e s m below meth c A Q ls S0 hname hA hK hP hD hT hS hQ hl
  obtain ⟨hx, hb, hml, hown, hts⟩ := id S0
  have hl : lv_has ls 3 [(0, .ref oM), (1, .int i), (2, .int j)] := hl
  have hN6 : N ≤ 6 := by rw [← hNN]; exact hI.1
  refine lv_aload_n hx hb dX5_table_0 rfl (lv_at hl 0 rfl) ?_
  refine lv_iload_n hx hb dX5_table_1 rfl (lv_at hl 1 rfl) ?_
  refine lv_iload_n hx hb dX5_table_2 rfl (lv_at hl 2 rfl) ?_
  refine z_VI (n := 2) (wn := (fun u : Unit => [(oM, .inr (5, [.ref mN, .ref mA, .ref mP, .int (nI ks), .ref mR, .ref mT, .int (nI ln), .long x1, .long x2, .long x3, .long x4, .long y1, .long y2, .long y3, .long y4, .ref mL, .ref mB, .int od, .int spt, .int wa, .long hs])), (mN, .inl (cI, 39, .inl qn)), (mR, .inl (cI, 3, .inl rf))])) (wr := [(mR, .inl (cI, 3, .inl rf))]) (As := [.int i, .int j]) (rest := []) ⟨hx, hb, hml, hown, hts⟩ hK hP hD hS hA hT (kX5_areTwo l D cI cB tE tN oM mN mA mP mR mT mL mB ks ln x1 x2 x3 x4 y1 y2 y3 y4 od spt wa hs qn f N i j _ (hR) (hI) (hNN)) gX5_table_X5_areTwo rfl rfl rfl (by decide +kernel) ⟨Nat.le_of_ble_eq_true rfl, Nat.le_of_ble_eq_true rfl⟩ [0, 1] [2] [1, 2, 0] (by decide) rfl rfl (by decide) (by decide) (by decide) (fun u => rfl) 0 5 rfl rfl rfl rfl hl.1 rfl (Nat.le_of_ble_eq_true rfl) dX5_table_3 ⟨Nat.le_of_ble_eq_true rfl, Nat.le_of_ble_eq_true rfl⟩ (fun r_1 u H locs hw_2 hP hD hS => ?_)
  try dsimp only at hw_2
  have hP : va_P D vwCl [(oM, .inr (5, [.ref mN, .ref mA, .ref mP, .int (nI ks), .ref mR, .ref mT, .int (nI ln), .long x1, .long x2, .long x3, .long x4, .long y1, .long y2, .long y3, .long y4, .ref mL, .ref mB, .int od, .int spt, .int wa, .long hs])), (mN, .inl (cI, 39, .inl qn)), (mR, .inl (cI, 3, .inl rf))] H := hP
  have hD : va_D A [(oM, .inr (5, [.ref mN, .ref mA, .ref mP, .int (nI ks), .ref mR, .ref mT, .int (nI ln), .long x1, .long x2, .long x3, .long x4, .long y1, .long y2, .long y3, .long y4, .ref mL, .ref mB, .int od, .int spt, .int wa, .long hs])), (mN, .inl (cI, 39, .inl qn)), (mR, .inl (cI, 3, .inl rf))] := hD
  subst r_1
  refine lv_if_eq (tgt := 18) hx hb dX5_table_6 (by decide) (fun c_3 => ?_) (fun c_3 => ?_)
  · skip
    have c_3 := z_b0 c_3
    refine lv_aload_n hx hb dX5_table_18 rfl (lv_at hl 0 rfl) ?_
    refine lv_sipush (v := (-10002)) hx hb dX5_table_19 (by decide) ?_
    refine z_VI (n := 1) (wn := (fun u : Unit => [(oM, .inr (5, [.ref mN, .ref mA, .ref mP, .int (nI ks), .ref mR, .ref mT, .int (nI ln), .long x1, .long x2, .long x3, .long x4, .long y1, .long y2, .long y3, .long y4, .ref mL, .ref mB, .int od, .int spt, .int wa, .long hs])), (mN, .inl (cI, 39, .inl qn)), (mR, .inl (cI, 3, .inl (upd rf 0 (rf 0 + 1))))])) (wr := [(mN, .inl (cI, 39, .inl qn))]) (As := [.int (-10002)]) (rest := []) ⟨hx, hb, hml, hown, hts⟩ hK hP hD hS hA hT (kX5_refuses l D cI cB tE tN oM mN mA mP mR mT mL mB ks ln x1 x2 x3 x4 y1 y2 y3 y4 od spt wa hs rf (-10002) 0 _ (by decide) (by omega)) gX5_table_X5_refuses rfl rfl rfl (by decide +kernel) ⟨Nat.le_of_ble_eq_true rfl, Nat.le_of_ble_eq_true rfl⟩ [0, 2] [1] [1, 0, 2] (by decide) rfl rfl (by decide) (by decide) (by decide) (fun u => rfl) 0 5 rfl rfl rfl rfl hl.1 rfl (Nat.le_of_ble_eq_true rfl) dX5_table_22 ⟨Nat.le_of_ble_eq_true rfl, Nat.le_of_ble_eq_true rfl⟩ (fun r_4 u H locs hw_5 hP hD hS => ?_)
    try dsimp only at hw_5
    have hP : va_P D vwCl [(oM, .inr (5, [.ref mN, .ref mA, .ref mP, .int (nI ks), .ref mR, .ref mT, .int (nI ln), .long x1, .long x2, .long x3, .long x4, .long y1, .long y2, .long y3, .long y4, .ref mL, .ref mB, .int od, .int spt, .int wa, .long hs])), (mN, .inl (cI, 39, .inl qn)), (mR, .inl (cI, 3, .inl (upd rf 0 (rf 0 + 1))))] H := hP
    have hD : va_D A [(oM, .inr (5, [.ref mN, .ref mA, .ref mP, .int (nI ks), .ref mR, .ref mT, .int (nI ln), .long x1, .long x2, .long x3, .long x4, .long y1, .long y2, .long y3, .long y4, .ref mL, .ref mB, .int od, .int spt, .int wa, .long hs])), (mN, .inl (cI, 39, .inl qn)), (mR, .inl (cI, 3, .inl (upd rf 0 (rf 0 + 1))))] := hD
    subst r_4
    exact hQ (-10002) (x1, x2, x3, x4, y1, y2, y3, y4, upd rf 0 (rf 0 + 1)) _ _ _ _ (rfl) (⟨by rw [gTa, if_neg (by rw [c_3]; decide)], by rw [gRf, if_neg (by rw [c_3]; decide)]⟩) hP hD hS dX5_table_25
  · skip
    have c_3 := z_b1 c_3
    obtain ⟨n, rfl, hn⟩ := cShip_n hI.2.1 hI.1 (cPair_1 c_3)
    rw [hNN] at hn
    have hcn : (nI n).toNatClampNeg = n := nI_clamp (by omega)
    obtain ⟨q, rfl, hq⟩ := cShip_n hI.2.1 hI.1 (cPair_2 c_3)
    rw [hNN] at hq
    have hcq : (nI q).toNatClampNeg = q := nI_clamp (by omega)
    refine lv_aload_n hx hb dX5_table_9 rfl (lv_at hl 0 rfl) ?_
    refine lv_iload_n hx hb dX5_table_10 rfl (lv_at hl 1 rfl) ?_
    refine lv_iload_n hx hb dX5_table_11 rfl (lv_at hl 2 rfl) ?_
    refine z_VI (n := 2) (wn := (fun u : Int64 × Int64 × Int64 × Int64 × Int64 × Int64 × Int64 × Int64 => [(oM, .inr (5, [.ref mN, .ref mA, .ref mP, .int (nI ks), .ref mR, .ref mT, .int (nI ln), .long u.1, .long u.2.1, .long u.2.2.1, .long u.2.2.2.1, .long u.2.2.2.2.1, .long u.2.2.2.2.2.1, .long u.2.2.2.2.2.2.1, .long u.2.2.2.2.2.2.2, .ref mL, .ref mB, .int od, .int spt, .int wa, .long hs])), (mN, .inl (cI, 39, .inl qn)), (mR, .inl (cI, 3, .inl rf))])) (wr := [(mR, .inl (cI, 3, .inl rf))]) (As := [.int (nI n), .int (nI q)]) (rest := []) ⟨hx, hb, hml, hown, hts⟩ hK hP hD hS hA hT (kX5_tableOf l D cI cB tE tN oM mN mA mP mR mT mL mB ks ln x1 x2 x3 x4 y1 y2 y3 y4 od spt wa hs qn f N n q _ (hR) (hI) (hNN) (by omega) (by omega)) gX5_table_X5_tableOf rfl rfl rfl (by decide +kernel) ⟨Nat.le_of_ble_eq_true rfl, Nat.le_of_ble_eq_true rfl⟩ [0, 1] [2] [1, 2, 0] (by decide) rfl rfl (by decide) (by decide) (by decide) (fun u => rfl) 0 5 rfl rfl rfl rfl hl.1 rfl (Nat.le_of_ble_eq_true rfl) dX5_table_12 ⟨Nat.le_of_ble_eq_true rfl, Nat.le_of_ble_eq_true rfl⟩ (fun r_14 u H locs hw_15 hP hD hS => ?_)
    obtain ⟨p1_6, p2_7, p3_8, p4_9, q1_10, q2_11, q3_12, q4_13⟩ := u
    try dsimp only at hw_15
    have hP : va_P D vwCl [(oM, .inr (5, [.ref mN, .ref mA, .ref mP, .int (nI ks), .ref mR, .ref mT, .int (nI ln), .long p1_6, .long p2_7, .long p3_8, .long p4_9, .long q1_10, .long q2_11, .long q3_12, .long q4_13, .ref mL, .ref mB, .int od, .int spt, .int wa, .long hs])), (mN, .inl (cI, 39, .inl qn)), (mR, .inl (cI, 3, .inl rf))] H := hP
    have hD : va_D A [(oM, .inr (5, [.ref mN, .ref mA, .ref mP, .int (nI ks), .ref mR, .ref mT, .int (nI ln), .long p1_6, .long p2_7, .long p3_8, .long p4_9, .long q1_10, .long q2_11, .long q3_12, .long q4_13, .ref mL, .ref mB, .int od, .int spt, .int wa, .long hs])), (mN, .inl (cI, 39, .inl qn)), (mR, .inl (cI, 3, .inl rf))] := hD
    subst r_14
    refine lv_goto (tgt := 25) hx hb dX5_table_15 (by decide) ?_
    exact hQ (cTab f n q) (p1_6, p2_7, p3_8, p4_9, q1_10, q2_11, q3_12, q4_13, rf) _ _ _ _ (rfl) (⟨by rw [gTa, if_pos c_3, hcn, hcq], by rw [gRf, if_pos c_3]⟩) hP hD hS dX5_table_25

set_option maxHeartbeats 4000000 in
set_option maxRecDepth 100000 in
theorem kX5_duty (l : Launch) (D : va_G) (cI cB : ClassId) (tE tN : Nat) (oM : Nat) (mN : Nat) (mA : Nat) (mP : Nat) (mR : Nat) (mT : Nat) (mL : Nat) (mB : Nat) (ks : Nat) (ln : Nat) (x1 : Int64) (x2 : Int64) (x3 : Int64) (x4 : Int64) (y1 : Int64) (y2 : Int64) (y3 : Int64) (y4 : Int64) (od : Int32) (spt : Int32) (wa : Int32) (hs : Int64) (qn : Nat → Int32) (rf : Nat → Int32) (f : Nat → Int32) (N : Nat) (i : Int32) (sz : Nat) (hR : Rg N f qn) (hI : Iv f) (hNN : nN f = N) : zI l yX5_duty wsX5_duty ({ frames := 3, cells := 0, slots := 0, locals := 64 }) D cI cB tE tN [.ref oM, .int i] [(oM, .inr (5, [.ref mN, .ref mA, .ref mP, .int (nI ks), .ref mR, .ref mT, .int (nI ln), .long x1, .long x2, .long x3, .long x4, .long y1, .long y2, .long y3, .long y4, .ref mL, .ref mB, .int od, .int spt, .int wa, .long hs])), (mN, .inl (cI, 39, .inl qn)), (mR, .inl (cI, 3, .inl rf))] sz (fun u : (Nat → Int32) => [(oM, .inr (5, [.ref mN, .ref mA, .ref mP, .int (nI ks), .ref mR, .ref mT, .int (nI ln), .long x1, .long x2, .long x3, .long x4, .long y1, .long y2, .long y3, .long y4, .ref mL, .ref mB, .int od, .int spt, .int wa, .long hs])), (mN, .inl (cI, 39, .inl qn)), (mR, .inl (cI, 3, .inl u))]) (fun (r : Int32) (u : (Nat → Int32)) => r = gDu f i ∧ u = gRf (cOther f i) rf) 0 0 := by
  refine zI_mk (cc := cX5_duty) (maxL := 2) (rt := .int) (by decide) rfl (Nat.le_of_ble_eq_true rfl) ?_
  intro p e s m below meth c A Q ls S0 hname hA hK hP hD hT hS hQ hl
  obtain ⟨hx, hb, hml, hown, hts⟩ := id S0
  have hl : lv_has ls 2 [(0, .ref oM), (1, .int i)] := hl
  have hN6 : N ≤ 6 := by rw [← hNN]; exact hI.1
  refine lv_aload_n hx hb dX5_duty_0 rfl (lv_at hl 0 rfl) ?_
  refine lv_iload_n hx hb dX5_duty_1 rfl (lv_at hl 1 rfl) ?_
  refine z_VI (n := 1) (wn := (fun u : Unit => [(oM, .inr (5, [.ref mN, .ref mA, .ref mP, .int (nI ks), .ref mR, .ref mT, .int (nI ln), .long x1, .long x2, .long x3, .long x4, .long y1, .long y2, .long y3, .long y4, .ref mL, .ref mB, .int od, .int spt, .int wa, .long hs])), (mN, .inl (cI, 39, .inl qn)), (mR, .inl (cI, 3, .inl rf))])) (wr := [(mR, .inl (cI, 3, .inl rf))]) (As := [.int i]) (rest := []) ⟨hx, hb, hml, hown, hts⟩ hK hP hD hS hA hT (kX5_isOther l D cI cB tE tN oM mN mA mP mR mT mL mB ks ln x1 x2 x3 x4 y1 y2 y3 y4 od spt wa hs qn f N i _ (hR) (hI) (hNN)) gX5_duty_X5_isOther rfl rfl rfl (by decide +kernel) ⟨Nat.le_of_ble_eq_true rfl, Nat.le_of_ble_eq_true rfl⟩ [0, 1] [2] [1, 2, 0] (by decide) rfl rfl (by decide) (by decide) (by decide) (fun u => rfl) 0 5 rfl rfl rfl rfl hl.1 rfl (Nat.le_of_ble_eq_true rfl) dX5_duty_2 ⟨Nat.le_of_ble_eq_true rfl, Nat.le_of_ble_eq_true rfl⟩ (fun r_1 u H locs hw_2 hP hD hS => ?_)
  try dsimp only at hw_2
  have hP : va_P D vwCl [(oM, .inr (5, [.ref mN, .ref mA, .ref mP, .int (nI ks), .ref mR, .ref mT, .int (nI ln), .long x1, .long x2, .long x3, .long x4, .long y1, .long y2, .long y3, .long y4, .ref mL, .ref mB, .int od, .int spt, .int wa, .long hs])), (mN, .inl (cI, 39, .inl qn)), (mR, .inl (cI, 3, .inl rf))] H := hP
  have hD : va_D A [(oM, .inr (5, [.ref mN, .ref mA, .ref mP, .int (nI ks), .ref mR, .ref mT, .int (nI ln), .long x1, .long x2, .long x3, .long x4, .long y1, .long y2, .long y3, .long y4, .ref mL, .ref mB, .int od, .int spt, .int wa, .long hs])), (mN, .inl (cI, 39, .inl qn)), (mR, .inl (cI, 3, .inl rf))] := hD
  subst r_1
  refine lv_if_eq (tgt := 17) hx hb dX5_duty_5 (by decide) (fun c_3 => ?_) (fun c_3 => ?_)
  · skip
    have c_3 := z_b0 c_3
    refine lv_aload_n hx hb dX5_duty_17 rfl (lv_at hl 0 rfl) ?_
    refine lv_sipush (v := (-10002)) hx hb dX5_duty_18 (by decide) ?_
    refine z_VI (n := 1) (wn := (fun u : Unit => [(oM, .inr (5, [.ref mN, .ref mA, .ref mP, .int (nI ks), .ref mR, .ref mT, .int (nI ln), .long x1, .long x2, .long x3, .long x4, .long y1, .long y2, .long y3, .long y4, .ref mL, .ref mB, .int od, .int spt, .int wa, .long hs])), (mN, .inl (cI, 39, .inl qn)), (mR, .inl (cI, 3, .inl (upd rf 0 (rf 0 + 1))))])) (wr := [(mN, .inl (cI, 39, .inl qn))]) (As := [.int (-10002)]) (rest := []) ⟨hx, hb, hml, hown, hts⟩ hK hP hD hS hA hT (kX5_refuses l D cI cB tE tN oM mN mA mP mR mT mL mB ks ln x1 x2 x3 x4 y1 y2 y3 y4 od spt wa hs rf (-10002) 0 _ (by decide) (by omega)) gX5_duty_X5_refuses rfl rfl rfl (by decide +kernel) ⟨Nat.le_of_ble_eq_true rfl, Nat.le_of_ble_eq_true rfl⟩ [0, 2] [1] [1, 0, 2] (by decide) rfl rfl (by decide) (by decide) (by decide) (fun u => rfl) 0 5 rfl rfl rfl rfl hl.1 rfl (Nat.le_of_ble_eq_true rfl) dX5_duty_21 ⟨Nat.le_of_ble_eq_true rfl, Nat.le_of_ble_eq_true rfl⟩ (fun r_4 u H locs hw_5 hP hD hS => ?_)
    try dsimp only at hw_5
    have hP : va_P D vwCl [(oM, .inr (5, [.ref mN, .ref mA, .ref mP, .int (nI ks), .ref mR, .ref mT, .int (nI ln), .long x1, .long x2, .long x3, .long x4, .long y1, .long y2, .long y3, .long y4, .ref mL, .ref mB, .int od, .int spt, .int wa, .long hs])), (mN, .inl (cI, 39, .inl qn)), (mR, .inl (cI, 3, .inl (upd rf 0 (rf 0 + 1))))] H := hP
    have hD : va_D A [(oM, .inr (5, [.ref mN, .ref mA, .ref mP, .int (nI ks), .ref mR, .ref mT, .int (nI ln), .long x1, .long x2, .long x3, .long x4, .long y1, .long y2, .long y3, .long y4, .ref mL, .ref mB, .int od, .int spt, .int wa, .long hs])), (mN, .inl (cI, 39, .inl qn)), (mR, .inl (cI, 3, .inl (upd rf 0 (rf 0 + 1))))] := hD
    subst r_4
    exact hQ (-10002) (upd rf 0 (rf 0 + 1)) _ _ _ _ (rfl) (⟨by rw [gDu, if_neg (by rw [c_3]; decide)], by rw [gRf, if_neg (by rw [c_3]; decide)]⟩) hP hD hS dX5_duty_24
  · skip
    have c_3 := z_b1 c_3
    obtain ⟨n, rfl, hn1, hn⟩ := cOther_n hI.2.1 hI.1 c_3
    rw [hNN] at hn
    have hcn : (nI n).toNatClampNeg = n := nI_clamp (by omega)
    refine lv_aload_n hx hb dX5_duty_8 rfl (lv_at hl 0 rfl) ?_
    refine lv_iload_n hx hb dX5_duty_9 rfl (lv_at hl 1 rfl) ?_
    refine lv_iconst (v := 4) hx hb dX5_duty_10 (by decide) ?_
    refine z_VI (n := 2) (wn := (fun u : Unit => [(oM, .inr (5, [.ref mN, .ref mA, .ref mP, .int (nI ks), .ref mR, .ref mT, .int (nI ln), .long x1, .long x2, .long x3, .long x4, .long y1, .long y2, .long y3, .long y4, .ref mL, .ref mB, .int od, .int spt, .int wa, .long hs])), (mN, .inl (cI, 39, .inl qn)), (mR, .inl (cI, 3, .inl rf))])) (wr := [(mR, .inl (cI, 3, .inl rf))]) (As := [.int (nI n), .int 4]) (rest := []) ⟨hx, hb, hml, hown, hts⟩ hK hP hD hS hA hT (kX5_shipOf l D cI cB tE tN oM mN mA mP mR mT mL mB ks ln x1 x2 x3 x4 y1 y2 y3 y4 od spt wa hs qn f N n 4 _ (hR) (hI) (hNN) (by omega) (by omega)) gX5_duty_X5_shipOf rfl rfl rfl (by decide +kernel) ⟨Nat.le_of_ble_eq_true rfl, Nat.le_of_ble_eq_true rfl⟩ [0, 1] [2] [1, 2, 0] (by decide) rfl rfl (by decide) (by decide) (by decide) (fun u => rfl) 0 5 rfl rfl rfl rfl hl.1 rfl (Nat.le_of_ble_eq_true rfl) dX5_duty_11 ⟨Nat.le_of_ble_eq_true rfl, Nat.le_of_ble_eq_true rfl⟩ (fun r_6 u H locs hw_7 hP hD hS => ?_)
    try dsimp only at hw_7
    have hP : va_P D vwCl [(oM, .inr (5, [.ref mN, .ref mA, .ref mP, .int (nI ks), .ref mR, .ref mT, .int (nI ln), .long x1, .long x2, .long x3, .long x4, .long y1, .long y2, .long y3, .long y4, .ref mL, .ref mB, .int od, .int spt, .int wa, .long hs])), (mN, .inl (cI, 39, .inl qn)), (mR, .inl (cI, 3, .inl rf))] H := hP
    have hD : va_D A [(oM, .inr (5, [.ref mN, .ref mA, .ref mP, .int (nI ks), .ref mR, .ref mT, .int (nI ln), .long x1, .long x2, .long x3, .long x4, .long y1, .long y2, .long y3, .long y4, .ref mL, .ref mB, .int od, .int spt, .int wa, .long hs])), (mN, .inl (cI, 39, .inl qn)), (mR, .inl (cI, 3, .inl rf))] := hD
    subst r_6
    refine lv_goto (tgt := 24) hx hb dX5_duty_14 (by decide) ?_
    exact hQ (f (5 * n + 4)) rf _ _ _ _ (rfl) (⟨by rw [gDu, if_pos c_3, hcn], by rw [gRf, if_pos c_3]⟩) hP hD hS dX5_duty_24
