set_option maxHeartbeats 4000000 in
set_option maxRecDepth 100000 in
theorem kX5_shipOf (l : Launch) (D : va_G) (cI cB : ClassId) (tE tN : Nat) (oM : Nat) (mN : Nat) (mA : Nat) (mP : Nat) (mR : Nat) (mT : Nat) (mL : Nat) (mB : Nat) (ks : Nat) (ln : Nat) (x1 : Int64) (x2 : Int64) (x3 : Int64) (x4 : Int64) (y1 : Int64) (y2 : Int64) (y3 : Int64) (y4 : Int64) (od : Int32) (spt : Int32) (wa : Int32) (hs : Int64) (qn : Nat → Int32) (f : Nat → Int32) (N : Nat) (n : Nat) (k : Nat) (sz : Nat) (hR : Rg N f qn) (hI : Iv f) (hNN : nN f = N) (hn : n ≤ N) (hk4 : k ≤ 4) : zI l yX5_shipOf wsX5_shipOf ({ frames := 0, cells := 0, slots := 0, locals := 0 }) D cI cB tE tN [.ref oM, .int (nI n), .int (nI k)] [(oM, .inr (5, [.ref mN, .ref mA, .ref mP, .int (nI ks), .ref mR, .ref mT, .int (nI ln), .long x1, .long x2, .long x3, .long x4, .long y1, .long y2, .long y3, .long y4, .ref mL, .ref mB, .int od, .int spt, .int wa, .long hs])), (mN, .inl (cI, 39, .inl qn))] sz (fun u : Unit => [(oM, .inr (5, [.ref mN, .ref mA, .ref mP, .int (nI ks), .ref mR, .ref mT, .int (nI ln), .long x1, .long x2, .long x3, .long x4, .long y1, .long y2, .long y3, .long y4, .ref mL, .ref mB, .int od, .int spt, .int wa, .long hs])), (mN, .inl (cI, 39, .inl qn))]) (fun (r : Int32) (u : Unit) => r = f (5 * n + k)) 0 0 := by
  refine zI_mk (cc := cX5_shipOf) (maxL := 3) (rt := .int) (by decide) rfl (Nat.le_of_ble_eq_true rfl) ?_
  intro p e s m below meth c A Q ls S0 hname hA hK hP hD hT hS hQ hl
  obtain ⟨hx, hb, hml, hown, hts⟩ := id S0
  have hl : lv_has ls 3 [(0, .ref oM), (1, .int (nI n)), (2, .int (nI k))] := hl
  have L7 : (Cond.fieldLink RX5 7 "PastAndClearModel" "now" "[I").before ([.ref oM, .int (nI n), .int (nI k)] : List Value).toArray s = true := hts (.fieldLink RX5 7 "PastAndClearModel" "now" "[I") (by decide +kernel)
  have N5 : ∀ w ∈ u_ws RX5 TX5 21, w ∈ wsX5_shipOf := by decide +kernel
  have hN6 : N ≤ 6 := by rw [← hNN]; exact hI.1
  refine lv_aload_n hx hb dX5_shipOf_0 rfl (lv_at hl 0 rfl) ?_
  refine va_get (D := D) (ci := 5) (v := .ref mN) (C := RX5) (T := TX5) (N := 21) hx hb hts N5 hown hK hP 0 rfl rfl 0 (by decide) L7 (fun _ h9 => h9) rfl dX5_shipOf_1 ?_
  refine lv_iconst (v := 4) hx hb dX5_shipOf_4 (by decide) ?_
  refine lv_iconst (v := 5) hx hb dX5_shipOf_5 (by decide) ?_
  refine lv_iload_n hx hb dX5_shipOf_6 rfl (lv_at hl 1 rfl) ?_
  refine lv_imul hx hb dX5_shipOf_7 ?_
  refine lv_iadd hx hb dX5_shipOf_8 ?_
  refine lv_iload_n hx hb dX5_shipOf_9 rfl (lv_at hl 2 rfl) ?_
  refine lv_iadd hx hb dX5_shipOf_10 ?_
  refine z_ild (v := f (5 * n + k)) (j := (4 + (5 * n)) + k) hx hb hK hP 1 rfl (z_add (z_add rfl (z_mul rfl rfl)) rfl) (by omega) (by decide) (hR.rd hn hk4) dX5_shipOf_11 ?_
  exact hQ (f (5 * n + k)) () _ _ _ _ (rfl) (rfl) hP hD hS dX5_shipOf_12

set_option maxHeartbeats 4000000 in
set_option maxRecDepth 100000 in
theorem kX5_tells (l : Launch) (D : va_G) (cI cB : ClassId) (tE tN : Nat) (oM : Nat) (mN : Nat) (mA : Nat) (mP : Nat) (mR : Nat) (mT : Nat) (mL : Nat) (mB : Nat) (ks : Nat) (ln : Nat) (x1 : Int64) (x2 : Int64) (x3 : Int64) (x4 : Int64) (y1 : Int64) (y2 : Int64) (y3 : Int64) (y4 : Int64) (od : Int32) (spt : Int32) (wa : Int32) (hs : Int64) (qn : Nat → Int32) (n : Nat) (k : Nat) (v : Int32) (sz : Nat) (hn6 : n ≤ 6) (hk4 : k ≤ 4) : zV l yX5_tells wsX5_tells ({ frames := 0, cells := 0, slots := 0, locals := 0 }) D cI cB tE tN [.ref oM, .int (nI n), .int (nI k), .int v] [(oM, .inr (5, [.ref mN, .ref mA, .ref mP, .int (nI ks), .ref mR, .ref mT, .int (nI ln), .long x1, .long x2, .long x3, .long x4, .long y1, .long y2, .long y3, .long y4, .ref mL, .ref mB, .int od, .int spt, .int wa, .long hs])), (mN, .inl (cI, 39, .inl qn))] sz (fun u : Unit => [(oM, .inr (5, [.ref mN, .ref mA, .ref mP, .int (nI ks), .ref mR, .ref mT, .int (nI ln), .long x1, .long x2, .long x3, .long x4, .long y1, .long y2, .long y3, .long y4, .ref mL, .ref mB, .int od, .int spt, .int wa, .long hs])), (mN, .inl (cI, 39, .inl (upd qn (4 + 5 * n + k) v)))]) (fun (u : Unit) => True) 0 0 := by
  refine zV_mk (cc := cX5_tells) (maxL := 4) (by decide) rfl (Nat.le_of_ble_eq_true rfl) ?_
  intro p e s m below meth c A Q ls S0 hname hA hK hP hD hT hS hQ hl
  obtain ⟨hx, hb, hml, hown, hts⟩ := id S0
  have hl : lv_has ls 4 [(0, .ref oM), (1, .int (nI n)), (2, .int (nI k)), (3, .int v)] := hl
  have L7 : (Cond.fieldLink RX5 7 "PastAndClearModel" "now" "[I").before ([.ref oM, .int (nI n), .int (nI k), .int v] : List Value).toArray s = true := hts (.fieldLink RX5 7 "PastAndClearModel" "now" "[I") (by decide +kernel)
  have N5 : ∀ w ∈ u_ws RX5 TX5 21, w ∈ wsX5_tells := by decide +kernel
  refine lv_aload_n hx hb dX5_tells_0 rfl (lv_at hl 0 rfl) ?_
  refine va_get (D := D) (ci := 5) (v := .ref mN) (C := RX5) (T := TX5) (N := 21) hx hb hts N5 hown hK hP 0 rfl rfl 0 (by decide) L7 (fun _ h9 => h9) rfl dX5_tells_1 ?_
  refine lv_iconst (v := 4) hx hb dX5_tells_4 (by decide) ?_
  refine lv_iconst (v := 5) hx hb dX5_tells_5 (by decide) ?_
  refine lv_iload_n hx hb dX5_tells_6 rfl (lv_at hl 1 rfl) ?_
  refine lv_imul hx hb dX5_tells_7 ?_
  refine lv_iadd hx hb dX5_tells_8 ?_
  refine lv_iload_n hx hb dX5_tells_9 rfl (lv_at hl 2 rfl) ?_
  refine lv_iadd hx hb dX5_tells_10 ?_
  refine lv_iload_n hx hb dX5_tells_11 rfl (lv_at hl 3 rfl) ?_
  refine z_ist (j := (4 + (5 * n)) + k) hx hb hK hP hD hS 1 rfl (z_add (z_add rfl (z_mul rfl rfl)) rfl) (by omega) (by decide) dX5_tells_12 (fun H locs hP hD hS => ?_)
  have hP : va_P D vwCl [(oM, .inr (5, [.ref mN, .ref mA, .ref mP, .int (nI ks), .ref mR, .ref mT, .int (nI ln), .long x1, .long x2, .long x3, .long x4, .long y1, .long y2, .long y3, .long y4, .ref mL, .ref mB, .int od, .int spt, .int wa, .long hs])), (mN, .inl (cI, 39, .inl (upd qn ((4 + (5 * n)) + k) v)))] H := hP
  have hD : va_D A [(oM, .inr (5, [.ref mN, .ref mA, .ref mP, .int (nI ks), .ref mR, .ref mT, .int (nI ln), .long x1, .long x2, .long x3, .long x4, .long y1, .long y2, .long y3, .long y4, .ref mL, .ref mB, .int od, .int spt, .int wa, .long hs])), (mN, .inl (cI, 39, .inl (upd qn ((4 + (5 * n)) + k) v)))] := hD
  exact hQ () _ _ _ _ (trivial) hP hD hS dX5_tells_13

set_option maxHeartbeats 4000000 in
set_option maxRecDepth 100000 in
theorem kX5_isShip (l : Launch) (D : va_G) (cI cB : ClassId) (tE tN : Nat) (oM : Nat) (mN : Nat) (mA : Nat) (mP : Nat) (mR : Nat) (mT : Nat) (mL : Nat) (mB : Nat) (ks : Nat) (ln : Nat) (x1 : Int64) (x2 : Int64) (x3 : Int64) (x4 : Int64) (y1 : Int64) (y2 : Int64) (y3 : Int64) (y4 : Int64) (od : Int32) (spt : Int32) (wa : Int32) (hs : Int64) (qn : Nat → Int32) (f : Nat → Int32) (N : Nat) (i : Int32) (sz : Nat) (hR : Rg N f qn) (hI : Iv f) (hNN : nN f = N) : zI l yX5_isShip wsX5_isShip ({ frames := 1, cells := 0, slots := 0, locals := 22 }) D cI cB tE tN [.ref oM, .int i] [(oM, .inr (5, [.ref mN, .ref mA, .ref mP, .int (nI ks), .ref mR, .ref mT, .int (nI ln), .long x1, .long x2, .long x3, .long x4, .long y1, .long y2, .long y3, .long y4, .ref mL, .ref mB, .int od, .int spt, .int wa, .long hs])), (mN, .inl (cI, 39, .inl qn))] sz (fun u : Unit => [(oM, .inr (5, [.ref mN, .ref mA, .ref mP, .int (nI ks), .ref mR, .ref mT, .int (nI ln), .long x1, .long x2, .long x3, .long x4, .long y1, .long y2, .long y3, .long y4, .ref mL, .ref mB, .int od, .int spt, .int wa, .long hs])), (mN, .inl (cI, 39, .inl qn))]) (fun (r : Int32) (u : Unit) => r = b2i (cShip f i)) 0 0 := by
  refine zI_mk (cc := cX5_isShip) (maxL := 2) (rt := .boolean) (by decide) rfl (Nat.le_of_ble_eq_true rfl) ?_
  intro p e s m below meth c A Q ls S0 hname hA hK hP hD hT hS hQ hl
  obtain ⟨hx, hb, hml, hown, hts⟩ := id S0
  have hl : lv_has ls 2 [(0, .ref oM), (1, .int i)] := hl
  have L7 : (Cond.fieldLink RX5 7 "PastAndClearModel" "now" "[I").before ([.ref oM, .int i] : List Value).toArray s = true := hts (.fieldLink RX5 7 "PastAndClearModel" "now" "[I") (by decide +kernel)
  have N5 : ∀ w ∈ u_ws RX5 TX5 21, w ∈ wsX5_isShip := by decide +kernel
  refine lv_iload_n hx hb dX5_isShip_0 rfl (lv_at hl 1 rfl) ?_
  refine lv_iconst (v := 0) hx hb dX5_isShip_1 (by decide) ?_
  refine lv_aload_n hx hb dX5_isShip_2 rfl (lv_at hl 0 rfl) ?_
  refine va_get (D := D) (ci := 5) (v := .ref mN) (C := RX5) (T := TX5) (N := 21) hx hb hts N5 hown hK hP 0 rfl rfl 0 (by decide) L7 (fun _ h9 => h9) rfl dX5_isShip_3 ?_
  refine lv_iconst (v := 0) hx hb dX5_isShip_6 (by decide) ?_
  refine z_ild (v := nI (N + 1)) (j := 0) hx hb hK hP 1 rfl rfl (by omega) (by decide) (hR.1) dX5_isShip_7 ?_
  refine lv_iconst (v := 1) hx hb dX5_isShip_8 (by decide) ?_
  refine lv_isub hx hb dX5_isShip_9 ?_
  refine z_topi (x := (nI (N + 1)) - 1) (y := nI N) (nI_pred N) ?_
  refine z_SI (n := 3) (wn := (fun u : Unit => [(oM, .inr (5, [.ref mN, .ref mA, .ref mP, .int (nI ks), .ref mR, .ref mT, .int (nI ln), .long x1, .long x2, .long x3, .long x4, .long y1, .long y2, .long y3, .long y4, .ref mL, .ref mB, .int od, .int spt, .int wa, .long hs])), (mN, .inl (cI, 39, .inl qn))])) (wr := [(oM, .inr (5, [.ref mN, .ref mA, .ref mP, .int (nI ks), .ref mR, .ref mT, .int (nI ln), .long x1, .long x2, .long x3, .long x4, .long y1, .long y2, .long y3, .long y4, .ref mL, .ref mB, .int od, .int spt, .int wa, .long hs])), (mN, .inl (cI, 39, .inl qn))]) (As := [.int i, .int 0, .int (nI N)]) (rest := []) ⟨hx, hb, hml, hown, hts⟩ hK hP hD hS hA hT (kX5_in l D cI cB tE tN i 0 (nI N) _ ) gX5_isShip_X5_in rfl rfl rfl (by decide +kernel) ⟨Nat.le_of_ble_eq_true rfl, Nat.le_of_ble_eq_true rfl⟩ [] [0, 1] [0, 1] (by decide) rfl rfl (by decide) (by decide) (by decide) (fun u => rfl) rfl hl.1 rfl (Nat.le_of_ble_eq_true rfl) dX5_isShip_10 ⟨Nat.le_of_ble_eq_true rfl, Nat.le_of_ble_eq_true rfl⟩ (fun r_1 u H locs hw_2 hP hD hS => ?_)
  try dsimp only at hw_2
  have hP : va_P D vwCl [(oM, .inr (5, [.ref mN, .ref mA, .ref mP, .int (nI ks), .ref mR, .ref mT, .int (nI ln), .long x1, .long x2, .long x3, .long x4, .long y1, .long y2, .long y3, .long y4, .ref mL, .ref mB, .int od, .int spt, .int wa, .long hs])), (mN, .inl (cI, 39, .inl qn))] H := hP
  have hD : va_D A [(oM, .inr (5, [.ref mN, .ref mA, .ref mP, .int (nI ks), .ref mR, .ref mT, .int (nI ln), .long x1, .long x2, .long x3, .long x4, .long y1, .long y2, .long y3, .long y4, .ref mL, .ref mB, .int od, .int spt, .int wa, .long hs])), (mN, .inl (cI, 39, .inl qn))] := hD
  subst r_1
  exact hQ (b2i (cIn i 0 (nI N))) () _ _ _ _ (z_nb _) (by rw [cShip_cIn hI hNN]) hP hD hS dX5_isShip_13

set_option maxHeartbeats 4000000 in
set_option maxRecDepth 100000 in
theorem kX5_isOther (l : Launch) (D : va_G) (cI cB : ClassId) (tE tN : Nat) (oM : Nat) (mN : Nat) (mA : Nat) (mP : Nat) (mR : Nat) (mT : Nat) (mL : Nat) (mB : Nat) (ks : Nat) (ln : Nat) (x1 : Int64) (x2 : Int64) (x3 : Int64) (x4 : Int64) (y1 : Int64) (y2 : Int64) (y3 : Int64) (y4 : Int64) (od : Int32) (spt : Int32) (wa : Int32) (hs : Int64) (qn : Nat → Int32) (f : Nat → Int32) (N : Nat) (i : Int32) (sz : Nat) (hR : Rg N f qn) (hI : Iv f) (hNN : nN f = N) : zI l yX5_isOther wsX5_isOther ({ frames := 2, cells := 0, slots := 0, locals := 43 }) D cI cB tE tN [.ref oM, .int i] [(oM, .inr (5, [.ref mN, .ref mA, .ref mP, .int (nI ks), .ref mR, .ref mT, .int (nI ln), .long x1, .long x2, .long x3, .long x4, .long y1, .long y2, .long y3, .long y4, .ref mL, .ref mB, .int od, .int spt, .int wa, .long hs])), (mN, .inl (cI, 39, .inl qn))] sz (fun u : Unit => [(oM, .inr (5, [.ref mN, .ref mA, .ref mP, .int (nI ks), .ref mR, .ref mT, .int (nI ln), .long x1, .long x2, .long x3, .long x4, .long y1, .long y2, .long y3, .long y4, .ref mL, .ref mB, .int od, .int spt, .int wa, .long hs])), (mN, .inl (cI, 39, .inl qn))]) (fun (r : Int32) (u : Unit) => r = b2i (cOther f i)) 0 0 := by
  refine zI_mk (cc := cX5_isOther) (maxL := 2) (rt := .boolean) (by decide) rfl (Nat.le_of_ble_eq_true rfl) ?_
  intro p e s m below meth c A Q ls S0 hname hA hK hP hD hT hS hQ hl
  obtain ⟨hx, hb, hml, hown, hts⟩ := id S0
  have hl : lv_has ls 2 [(0, .ref oM), (1, .int i)] := hl
  refine lv_iload_n hx hb dX5_isOther_0 rfl (lv_at hl 1 rfl) ?_
  refine lv_if_le (tgt := 16) hx hb dX5_isOther_1 (by decide) (fun c_1 => ?_) (fun c_1 => ?_)
  · skip
    refine lv_iconst (v := 0) hx hb dX5_isOther_16 (by decide) ?_
    exact hQ 0 () _ _ _ _ (rfl) (by simp [b2i, cOther, c_1]) hP hD hS dX5_isOther_17
  · skip
    refine lv_aload_n hx hb dX5_isOther_4 rfl (lv_at hl 0 rfl) ?_
    refine lv_iload_n hx hb dX5_isOther_5 rfl (lv_at hl 1 rfl) ?_
    refine z_VI (n := 1) (wn := (fun u : Unit => [(oM, .inr (5, [.ref mN, .ref mA, .ref mP, .int (nI ks), .ref mR, .ref mT, .int (nI ln), .long x1, .long x2, .long x3, .long x4, .long y1, .long y2, .long y3, .long y4, .ref mL, .ref mB, .int od, .int spt, .int wa, .long hs])), (mN, .inl (cI, 39, .inl qn))])) (wr := []) (As := [.int i]) (rest := []) ⟨hx, hb, hml, hown, hts⟩ hK hP hD hS hA hT (kX5_isShip l D cI cB tE tN oM mN mA mP mR mT mL mB ks ln x1 x2 x3 x4 y1 y2 y3 y4 od spt wa hs qn f N i _ (hR) (hI) (hNN)) gX5_isOther_X5_isShip rfl rfl rfl (by decide +kernel) ⟨Nat.le_of_ble_eq_true rfl, Nat.le_of_ble_eq_true rfl⟩ [0, 1] [] [0, 1] (by decide) rfl rfl (by decide) (by decide) (by decide) (fun u => rfl) 0 5 rfl rfl rfl rfl hl.1 rfl (Nat.le_of_ble_eq_true rfl) dX5_isOther_6 ⟨Nat.le_of_ble_eq_true rfl, Nat.le_of_ble_eq_true rfl⟩ (fun r_2 u H locs hw_3 hP hD hS => ?_)
    try dsimp only at hw_3
    have hP : va_P D vwCl [(oM, .inr (5, [.ref mN, .ref mA, .ref mP, .int (nI ks), .ref mR, .ref mT, .int (nI ln), .long x1, .long x2, .long x3, .long x4, .long y1, .long y2, .long y3, .long y4, .ref mL, .ref mB, .int od, .int spt, .int wa, .long hs])), (mN, .inl (cI, 39, .inl qn))] H := hP
    have hD : va_D A [(oM, .inr (5, [.ref mN, .ref mA, .ref mP, .int (nI ks), .ref mR, .ref mT, .int (nI ln), .long x1, .long x2, .long x3, .long x4, .long y1, .long y2, .long y3, .long y4, .ref mL, .ref mB, .int od, .int spt, .int wa, .long hs])), (mN, .inl (cI, 39, .inl qn))] := hD
    subst r_2
    refine lv_if_eq (tgt := 16) hx hb dX5_isOther_9 (by decide) (fun c_4 => ?_) (fun c_4 => ?_)
    · skip
      have c_4 := z_b0 c_4
      refine lv_iconst (v := 0) hx hb dX5_isOther_16 (by decide) ?_
      exact hQ 0 () _ _ _ _ (rfl) (by rw [cOther_of c_1, c_4]; rfl) hP hD hS dX5_isOther_17
    · skip
      have c_4 := z_b1 c_4
      refine lv_iconst (v := 1) hx hb dX5_isOther_12 (by decide) ?_
      refine lv_goto (tgt := 17) hx hb dX5_isOther_13 (by decide) ?_
      exact hQ 1 () _ _ _ _ (rfl) (by rw [cOther_of c_1, c_4]; rfl) hP hD hS dX5_isOther_17

set_option maxHeartbeats 4000000 in
set_option maxRecDepth 100000 in
theorem kX5_lays (l : Launch) (D : va_G) (cI cB : ClassId) (tE tN : Nat) (oM : Nat) (mN : Nat) (mA : Nat) (mP : Nat) (mR : Nat) (mT : Nat) (mL : Nat) (mB : Nat) (ks : Nat) (ln : Nat) (x1 : Int64) (x2 : Int64) (x3 : Int64) (x4 : Int64) (y1 : Int64) (y2 : Int64) (y3 : Int64) (y4 : Int64) (od : Int32) (spt : Int32) (wa : Int32) (hs : Int64) (qn : Nat → Int32) (f : Nat → Int32) (N : Nat) (ia : Nat) (ib : Nat) (ph : Int32) (ps : Int32) (kh : Nat) (sz : Nat) (hR : Rg N f qn) (hI : Iv f) (hNN : nN f = N) (ha : ia ≤ N) (hb6 : ib ≤ N) (hkh : ph = nI kh) (hkh15 : kh ≤ 15) : zV l yX5_lays wsX5_lays ({ frames := 2, cells := 0, slots := 0, locals := 43 }) D cI cB tE tN [.ref oM, .int (nI ia), .int (nI ib), .int ph, .int ps] [(oM, .inr (5, [.ref mN, .ref mA, .ref mP, .int (nI ks), .ref mR, .ref mT, .int (nI ln), .long x1, .long x2, .long x3, .long x4, .long y1, .long y2, .long y3, .long y4, .ref mL, .ref mB, .int od, .int spt, .int wa, .long hs])), (mN, .inl (cI, 39, .inl qn))] sz (fun u : Unit => [(oM, .inr (5, [.ref mN, .ref mA, .ref mP, .int (nI ks), .ref mR, .ref mT, .int (nI ln), .long (cRx f ia ib), .long (cRy f ia ib), .long (cVx f ph ps ib), .long (cVy f ph ps ib), .long y1, .long y2, .long y3, .long y4, .ref mL, .ref mB, .int od, .int spt, .int wa, .long hs])), (mN, .inl (cI, 39, .inl qn))]) (fun (u : Unit) => True) 0 0 := by
  refine zV_mk (cc := cX5_lays) (maxL := 5) (by decide) rfl (Nat.le_of_ble_eq_true rfl) ?_
  intro p e s m below meth c A Q ls S0 hname hA hK hP hD hT hS hQ hl
  obtain ⟨hx, hb, hml, hown, hts⟩ := id S0
  have hl : lv_has ls 5 [(0, .ref oM), (1, .int (nI ia)), (2, .int (nI ib)), (3, .int ph), (4, .int ps)] := hl
  have L57 : (Cond.fieldLink RX5 57 "PastAndClearModel" "placeX" "J").before ([.ref oM, .int (nI ia), .int (nI ib), .int ph, .int ps] : List Value).toArray s = true := hts (.fieldLink RX5 57 "PastAndClearModel" "placeX" "J") (by decide +kernel)
  have N5 : ∀ w ∈ u_ws RX5 TX5 21, w ∈ wsX5_lays := by decide +kernel
  have L61 : (Cond.fieldLink RX5 61 "PastAndClearModel" "placeY" "J").before ([.ref oM, .int (nI ia), .int (nI ib), .int ph, .int ps] : List Value).toArray s = true := hts (.fieldLink RX5 61 "PastAndClearModel" "placeY" "J") (by decide +kernel)
  have L67 : (Cond.fieldLink RX5 67 "PastAndClearModel" "speedX" "J").before ([.ref oM, .int (nI ia), .int (nI ib), .int ph, .int ps] : List Value).toArray s = true := hts (.fieldLink RX5 67 "PastAndClearModel" "speedX" "J") (by decide +kernel)
  have L70 : (Cond.fieldLink RX5 70 "PastAndClearModel" "speedY" "J").before ([.ref oM, .int (nI ia), .int (nI ib), .int ph, .int ps] : List Value).toArray s = true := hts (.fieldLink RX5 70 "PastAndClearModel" "speedY" "J") (by decide +kernel)
  have hN6 : N ≤ 6 := by rw [← hNN]; exact hI.1
  obtain ⟨kb, hkb, hkb15⟩ := inr_nat (hi := 15) (hI.2.2.1 ib (by omega)).2.2.1 (by decide)
  refine lv_aload_n hx hb dX5_lays_0 rfl (lv_at hl 0 rfl) ?_
  refine lv_aload_n hx hb dX5_lays_1 rfl (lv_at hl 0 rfl) ?_
  refine lv_iload_n hx hb dX5_lays_2 rfl (lv_at hl 2 rfl) ?_
  refine lv_iconst (v := 0) hx hb dX5_lays_3 (by decide) ?_
  refine z_VI (n := 2) (wn := (fun u : Unit => [(oM, .inr (5, [.ref mN, .ref mA, .ref mP, .int (nI ks), .ref mR, .ref mT, .int (nI ln), .long x1, .long x2, .long x3, .long x4, .long y1, .long y2, .long y3, .long y4, .ref mL, .ref mB, .int od, .int spt, .int wa, .long hs])), (mN, .inl (cI, 39, .inl qn))])) (wr := []) (As := [.int (nI ib), .int 0]) (rest := [.ref oM]) ⟨hx, hb, hml, hown, hts⟩ hK hP hD hS hA hT (kX5_shipOf l D cI cB tE tN oM mN mA mP mR mT mL mB ks ln x1 x2 x3 x4 y1 y2 y3 y4 od spt wa hs qn f N ib 0 _ (hR) (hI) (hNN) (by omega) (by omega)) gX5_lays_X5_shipOf rfl rfl rfl (by decide +kernel) ⟨Nat.le_of_ble_eq_true rfl, Nat.le_of_ble_eq_true rfl⟩ [0, 1] [] [0, 1] (by decide) rfl rfl (by decide) (by decide) (by decide) (fun u => rfl) 0 5 rfl rfl rfl rfl hl.1 rfl (Nat.le_of_ble_eq_true rfl) dX5_lays_4 ⟨Nat.le_of_ble_eq_true rfl, Nat.le_of_ble_eq_true rfl⟩ (fun r_1 u H locs hw_2 hP hD hS => ?_)
  try dsimp only at hw_2
  have hP : va_P D vwCl [(oM, .inr (5, [.ref mN, .ref mA, .ref mP, .int (nI ks), .ref mR, .ref mT, .int (nI ln), .long x1, .long x2, .long x3, .long x4, .long y1, .long y2, .long y3, .long y4, .ref mL, .ref mB, .int od, .int spt, .int wa, .long hs])), (mN, .inl (cI, 39, .inl qn))] H := hP
  have hD : va_D A [(oM, .inr (5, [.ref mN, .ref mA, .ref mP, .int (nI ks), .ref mR, .ref mT, .int (nI ln), .long x1, .long x2, .long x3, .long x4, .long y1, .long y2, .long y3, .long y4, .ref mL, .ref mB, .int od, .int spt, .int wa, .long hs])), (mN, .inl (cI, 39, .inl qn))] := hD
  subst r_1
  refine lv_aload_n hx hb dX5_lays_7 rfl (lv_at hl 0 rfl) ?_
  refine lv_iload_n hx hb dX5_lays_8 rfl (lv_at hl 1 rfl) ?_
  refine lv_iconst (v := 0) hx hb dX5_lays_9 (by decide) ?_
  refine z_VI (n := 2) (wn := (fun u : Unit => [(oM, .inr (5, [.ref mN, .ref mA, .ref mP, .int (nI ks), .ref mR, .ref mT, .int (nI ln), .long x1, .long x2, .long x3, .long x4, .long y1, .long y2, .long y3, .long y4, .ref mL, .ref mB, .int od, .int spt, .int wa, .long hs])), (mN, .inl (cI, 39, .inl qn))])) (wr := []) (As := [.int (nI ia), .int 0]) (rest := [.int (f (5 * ib + 0)), .ref oM]) ⟨hx, hb, hml, hown, hts⟩ hK hP hD hS hA hT (kX5_shipOf l D cI cB tE tN oM mN mA mP mR mT mL mB ks ln x1 x2 x3 x4 y1 y2 y3 y4 od spt wa hs qn f N ia 0 _ (hR) (hI) (hNN) (by omega) (by omega)) gX5_lays_X5_shipOf rfl rfl rfl (by decide +kernel) ⟨Nat.le_of_ble_eq_true rfl, Nat.le_of_ble_eq_true rfl⟩ [0, 1] [] [0, 1] (by decide) rfl rfl (by decide) (by decide) (by decide) (fun u => rfl) 0 5 rfl rfl rfl rfl hl.1 rfl (Nat.le_of_ble_eq_true rfl) dX5_lays_10 ⟨Nat.le_of_ble_eq_true rfl, Nat.le_of_ble_eq_true rfl⟩ (fun r_3 u H locs hw_4 hP hD hS => ?_)
  try dsimp only at hw_4
  have hP : va_P D vwCl [(oM, .inr (5, [.ref mN, .ref mA, .ref mP, .int (nI ks), .ref mR, .ref mT, .int (nI ln), .long x1, .long x2, .long x3, .long x4, .long y1, .long y2, .long y3, .long y4, .ref mL, .ref mB, .int od, .int spt, .int wa, .long hs])), (mN, .inl (cI, 39, .inl qn))] H := hP
  have hD : va_D A [(oM, .inr (5, [.ref mN, .ref mA, .ref mP, .int (nI ks), .ref mR, .ref mT, .int (nI ln), .long x1, .long x2, .long x3, .long x4, .long y1, .long y2, .long y3, .long y4, .ref mL, .ref mB, .int od, .int spt, .int wa, .long hs])), (mN, .inl (cI, 39, .inl qn))] := hD
  subst r_3
  refine lv_isub hx hb dX5_lays_13 ?_
  refine lv_i2l (v := ((f (5 * ib + 0)) - (f (5 * ia + 0))).toInt64) hx hb dX5_lays_14 rfl ?_
  refine va_put (D := D) (ci := 5) (v := .long (((f (5 * ib + 0)) - (f (5 * ia + 0))).toInt64)) (ty := .long) (C := RX5) (T := TX5) (N := 21) hx hb hts N5 tyX5 tyX5_ok nmX5 hown hK hP hD hS 0 rfl rfl 7 (by decide) L57 (fun _ h9 => h9) rfl (by decide +kernel) rfl rfl (Nat.le_of_ble_eq_true rfl) dX5_lays_15 (fun H locs hP hD hS => ?_)
  have hP : va_P D vwCl [(oM, .inr (5, [.ref mN, .ref mA, .ref mP, .int (nI ks), .ref mR, .ref mT, .int (nI ln), .long (((f (5 * ib + 0)) - (f (5 * ia + 0))).toInt64), .long x2, .long x3, .long x4, .long y1, .long y2, .long y3, .long y4, .ref mL, .ref mB, .int od, .int spt, .int wa, .long hs])), (mN, .inl (cI, 39, .inl qn))] H := hP
  have hD : va_D A [(oM, .inr (5, [.ref mN, .ref mA, .ref mP, .int (nI ks), .ref mR, .ref mT, .int (nI ln), .long (((f (5 * ib + 0)) - (f (5 * ia + 0))).toInt64), .long x2, .long x3, .long x4, .long y1, .long y2, .long y3, .long y4, .ref mL, .ref mB, .int od, .int spt, .int wa, .long hs])), (mN, .inl (cI, 39, .inl qn))] := hD
  refine lv_aload_n hx hb dX5_lays_18 rfl (lv_at hl 0 rfl) ?_
  refine lv_aload_n hx hb dX5_lays_19 rfl (lv_at hl 0 rfl) ?_
  refine lv_iload_n hx hb dX5_lays_20 rfl (lv_at hl 2 rfl) ?_
  refine lv_iconst (v := 1) hx hb dX5_lays_21 (by decide) ?_
  refine z_VI (n := 2) (wn := (fun u : Unit => [(oM, .inr (5, [.ref mN, .ref mA, .ref mP, .int (nI ks), .ref mR, .ref mT, .int (nI ln), .long (((f (5 * ib + 0)) - (f (5 * ia + 0))).toInt64), .long x2, .long x3, .long x4, .long y1, .long y2, .long y3, .long y4, .ref mL, .ref mB, .int od, .int spt, .int wa, .long hs])), (mN, .inl (cI, 39, .inl qn))])) (wr := []) (As := [.int (nI ib), .int 1]) (rest := [.ref oM]) ⟨hx, hb, hml, hown, hts⟩ hK hP hD hS hA hT (kX5_shipOf l D cI cB tE tN oM mN mA mP mR mT mL mB ks ln (((f (5 * ib + 0)) - (f (5 * ia + 0))).toInt64) x2 x3 x4 y1 y2 y3 y4 od spt wa hs qn f N ib 1 _ (hR) (hI) (hNN) (by omega) (by omega)) gX5_lays_X5_shipOf rfl rfl rfl (by decide +kernel) ⟨Nat.le_of_ble_eq_true rfl, Nat.le_of_ble_eq_true rfl⟩ [0, 1] [] [0, 1] (by decide) rfl rfl (by decide) (by decide) (by decide) (fun u => rfl) 0 5 rfl rfl rfl rfl hl.1 rfl (Nat.le_of_ble_eq_true rfl) dX5_lays_22 ⟨Nat.le_of_ble_eq_true rfl, Nat.le_of_ble_eq_true rfl⟩ (fun r_5 u H locs hw_6 hP hD hS => ?_)
  try dsimp only at hw_6
  have hP : va_P D vwCl [(oM, .inr (5, [.ref mN, .ref mA, .ref mP, .int (nI ks), .ref mR, .ref mT, .int (nI ln), .long (((f (5 * ib + 0)) - (f (5 * ia + 0))).toInt64), .long x2, .long x3, .long x4, .long y1, .long y2, .long y3, .long y4, .ref mL, .ref mB, .int od, .int spt, .int wa, .long hs])), (mN, .inl (cI, 39, .inl qn))] H := hP
  have hD : va_D A [(oM, .inr (5, [.ref mN, .ref mA, .ref mP, .int (nI ks), .ref mR, .ref mT, .int (nI ln), .long (((f (5 * ib + 0)) - (f (5 * ia + 0))).toInt64), .long x2, .long x3, .long x4, .long y1, .long y2, .long y3, .long y4, .ref mL, .ref mB, .int od, .int spt, .int wa, .long hs])), (mN, .inl (cI, 39, .inl qn))] := hD
  subst r_5
  refine lv_aload_n hx hb dX5_lays_25 rfl (lv_at hl 0 rfl) ?_
  refine lv_iload_n hx hb dX5_lays_26 rfl (lv_at hl 1 rfl) ?_
  refine lv_iconst (v := 1) hx hb dX5_lays_27 (by decide) ?_
  refine z_VI (n := 2) (wn := (fun u : Unit => [(oM, .inr (5, [.ref mN, .ref mA, .ref mP, .int (nI ks), .ref mR, .ref mT, .int (nI ln), .long (((f (5 * ib + 0)) - (f (5 * ia + 0))).toInt64), .long x2, .long x3, .long x4, .long y1, .long y2, .long y3, .long y4, .ref mL, .ref mB, .int od, .int spt, .int wa, .long hs])), (mN, .inl (cI, 39, .inl qn))])) (wr := []) (As := [.int (nI ia), .int 1]) (rest := [.int (f (5 * ib + 1)), .ref oM]) ⟨hx, hb, hml, hown, hts⟩ hK hP hD hS hA hT (kX5_shipOf l D cI cB tE tN oM mN mA mP mR mT mL mB ks ln (((f (5 * ib + 0)) - (f (5 * ia + 0))).toInt64) x2 x3 x4 y1 y2 y3 y4 od spt wa hs qn f N ia 1 _ (hR) (hI) (hNN) (by omega) (by omega)) gX5_lays_X5_shipOf rfl rfl rfl (by decide +kernel) ⟨Nat.le_of_ble_eq_true rfl, Nat.le_of_ble_eq_true rfl⟩ [0, 1] [] [0, 1] (by decide) rfl rfl (by decide) (by decide) (by decide) (fun u => rfl) 0 5 rfl rfl rfl rfl hl.1 rfl (Nat.le_of_ble_eq_true rfl) dX5_lays_28 ⟨Nat.le_of_ble_eq_true rfl, Nat.le_of_ble_eq_true rfl⟩ (fun r_7 u H locs hw_8 hP hD hS => ?_)
  try dsimp only at hw_8
  have hP : va_P D vwCl [(oM, .inr (5, [.ref mN, .ref mA, .ref mP, .int (nI ks), .ref mR, .ref mT, .int (nI ln), .long (((f (5 * ib + 0)) - (f (5 * ia + 0))).toInt64), .long x2, .long x3, .long x4, .long y1, .long y2, .long y3, .long y4, .ref mL, .ref mB, .int od, .int spt, .int wa, .long hs])), (mN, .inl (cI, 39, .inl qn))] H := hP
  have hD : va_D A [(oM, .inr (5, [.ref mN, .ref mA, .ref mP, .int (nI ks), .ref mR, .ref mT, .int (nI ln), .long (((f (5 * ib + 0)) - (f (5 * ia + 0))).toInt64), .long x2, .long x3, .long x4, .long y1, .long y2, .long y3, .long y4, .ref mL, .ref mB, .int od, .int spt, .int wa, .long hs])), (mN, .inl (cI, 39, .inl qn))] := hD
  subst r_7
  refine lv_isub hx hb dX5_lays_31 ?_
  refine lv_i2l (v := ((f (5 * ib + 1)) - (f (5 * ia + 1))).toInt64) hx hb dX5_lays_32 rfl ?_
  refine va_put (D := D) (ci := 5) (v := .long (((f (5 * ib + 1)) - (f (5 * ia + 1))).toInt64)) (ty := .long) (C := RX5) (T := TX5) (N := 21) hx hb hts N5 tyX5 tyX5_ok nmX5 hown hK hP hD hS 0 rfl rfl 8 (by decide) L61 (fun _ h9 => h9) rfl (by decide +kernel) rfl rfl (Nat.le_of_ble_eq_true rfl) dX5_lays_33 (fun H locs hP hD hS => ?_)
  have hP : va_P D vwCl [(oM, .inr (5, [.ref mN, .ref mA, .ref mP, .int (nI ks), .ref mR, .ref mT, .int (nI ln), .long (((f (5 * ib + 0)) - (f (5 * ia + 0))).toInt64), .long (((f (5 * ib + 1)) - (f (5 * ia + 1))).toInt64), .long x3, .long x4, .long y1, .long y2, .long y3, .long y4, .ref mL, .ref mB, .int od, .int spt, .int wa, .long hs])), (mN, .inl (cI, 39, .inl qn))] H := hP
  have hD : va_D A [(oM, .inr (5, [.ref mN, .ref mA, .ref mP, .int (nI ks), .ref mR, .ref mT, .int (nI ln), .long (((f (5 * ib + 0)) - (f (5 * ia + 0))).toInt64), .long (((f (5 * ib + 1)) - (f (5 * ia + 1))).toInt64), .long x3, .long x4, .long y1, .long y2, .long y3, .long y4, .ref mL, .ref mB, .int od, .int spt, .int wa, .long hs])), (mN, .inl (cI, 39, .inl qn))] := hD
  refine lv_aload_n hx hb dX5_lays_36 rfl (lv_at hl 0 rfl) ?_
  refine lv_aload_n hx hb dX5_lays_37 rfl (lv_at hl 0 rfl) ?_
  refine lv_iload_n hx hb dX5_lays_38 rfl (lv_at hl 2 rfl) ?_
  refine lv_iconst (v := 3) hx hb dX5_lays_39 (by decide) ?_
  refine z_VI (n := 2) (wn := (fun u : Unit => [(oM, .inr (5, [.ref mN, .ref mA, .ref mP, .int (nI ks), .ref mR, .ref mT, .int (nI ln), .long (((f (5 * ib + 0)) - (f (5 * ia + 0))).toInt64), .long (((f (5 * ib + 1)) - (f (5 * ia + 1))).toInt64), .long x3, .long x4, .long y1, .long y2, .long y3, .long y4, .ref mL, .ref mB, .int od, .int spt, .int wa, .long hs])), (mN, .inl (cI, 39, .inl qn))])) (wr := []) (As := [.int (nI ib), .int 3]) (rest := [.ref oM]) ⟨hx, hb, hml, hown, hts⟩ hK hP hD hS hA hT (kX5_shipOf l D cI cB tE tN oM mN mA mP mR mT mL mB ks ln (((f (5 * ib + 0)) - (f (5 * ia + 0))).toInt64) (((f (5 * ib + 1)) - (f (5 * ia + 1))).toInt64) x3 x4 y1 y2 y3 y4 od spt wa hs qn f N ib 3 _ (hR) (hI) (hNN) (by omega) (by omega)) gX5_lays_X5_shipOf rfl rfl rfl (by decide +kernel) ⟨Nat.le_of_ble_eq_true rfl, Nat.le_of_ble_eq_true rfl⟩ [0, 1] [] [0, 1] (by decide) rfl rfl (by decide) (by decide) (by decide) (fun u => rfl) 0 5 rfl rfl rfl rfl hl.1 rfl (Nat.le_of_ble_eq_true rfl) dX5_lays_40 ⟨Nat.le_of_ble_eq_true rfl, Nat.le_of_ble_eq_true rfl⟩ (fun r_9 u H locs hw_10 hP hD hS => ?_)
  try dsimp only at hw_10
  have hP : va_P D vwCl [(oM, .inr (5, [.ref mN, .ref mA, .ref mP, .int (nI ks), .ref mR, .ref mT, .int (nI ln), .long (((f (5 * ib + 0)) - (f (5 * ia + 0))).toInt64), .long (((f (5 * ib + 1)) - (f (5 * ia + 1))).toInt64), .long x3, .long x4, .long y1, .long y2, .long y3, .long y4, .ref mL, .ref mB, .int od, .int spt, .int wa, .long hs])), (mN, .inl (cI, 39, .inl qn))] H := hP
  have hD : va_D A [(oM, .inr (5, [.ref mN, .ref mA, .ref mP, .int (nI ks), .ref mR, .ref mT, .int (nI ln), .long (((f (5 * ib + 0)) - (f (5 * ia + 0))).toInt64), .long (((f (5 * ib + 1)) - (f (5 * ia + 1))).toInt64), .long x3, .long x4, .long y1, .long y2, .long y3, .long y4, .ref mL, .ref mB, .int od, .int spt, .int wa, .long hs])), (mN, .inl (cI, 39, .inl qn))] := hD
  subst r_9
  refine lv_aload_n hx hb dX5_lays_43 rfl (lv_at hl 0 rfl) ?_
  refine lv_iload_n hx hb dX5_lays_44 rfl (lv_at hl 2 rfl) ?_
  refine lv_iconst (v := 2) hx hb dX5_lays_45 (by decide) ?_
  refine z_VI (n := 2) (wn := (fun u : Unit => [(oM, .inr (5, [.ref mN, .ref mA, .ref mP, .int (nI ks), .ref mR, .ref mT, .int (nI ln), .long (((f (5 * ib + 0)) - (f (5 * ia + 0))).toInt64), .long (((f (5 * ib + 1)) - (f (5 * ia + 1))).toInt64), .long x3, .long x4, .long y1, .long y2, .long y3, .long y4, .ref mL, .ref mB, .int od, .int spt, .int wa, .long hs])), (mN, .inl (cI, 39, .inl qn))])) (wr := []) (As := [.int (nI ib), .int 2]) (rest := [.int (f (5 * ib + 3)), .ref oM]) ⟨hx, hb, hml, hown, hts⟩ hK hP hD hS hA hT (kX5_shipOf l D cI cB tE tN oM mN mA mP mR mT mL mB ks ln (((f (5 * ib + 0)) - (f (5 * ia + 0))).toInt64) (((f (5 * ib + 1)) - (f (5 * ia + 1))).toInt64) x3 x4 y1 y2 y3 y4 od spt wa hs qn f N ib 2 _ (hR) (hI) (hNN) (by omega) (by omega)) gX5_lays_X5_shipOf rfl rfl rfl (by decide +kernel) ⟨Nat.le_of_ble_eq_true rfl, Nat.le_of_ble_eq_true rfl⟩ [0, 1] [] [0, 1] (by decide) rfl rfl (by decide) (by decide) (by decide) (fun u => rfl) 0 5 rfl rfl rfl rfl hl.1 rfl (Nat.le_of_ble_eq_true rfl) dX5_lays_46 ⟨Nat.le_of_ble_eq_true rfl, Nat.le_of_ble_eq_true rfl⟩ (fun r_11 u H locs hw_12 hP hD hS => ?_)
  try dsimp only at hw_12
  have hP : va_P D vwCl [(oM, .inr (5, [.ref mN, .ref mA, .ref mP, .int (nI ks), .ref mR, .ref mT, .int (nI ln), .long (((f (5 * ib + 0)) - (f (5 * ia + 0))).toInt64), .long (((f (5 * ib + 1)) - (f (5 * ia + 1))).toInt64), .long x3, .long x4, .long y1, .long y2, .long y3, .long y4, .ref mL, .ref mB, .int od, .int spt, .int wa, .long hs])), (mN, .inl (cI, 39, .inl qn))] H := hP
  have hD : va_D A [(oM, .inr (5, [.ref mN, .ref mA, .ref mP, .int (nI ks), .ref mR, .ref mT, .int (nI ln), .long (((f (5 * ib + 0)) - (f (5 * ia + 0))).toInt64), .long (((f (5 * ib + 1)) - (f (5 * ia + 1))).toInt64), .long x3, .long x4, .long y1, .long y2, .long y3, .long y4, .ref mL, .ref mB, .int od, .int spt, .int wa, .long hs])), (mN, .inl (cI, 39, .inl qn))] := hD
  subst r_11
  refine z_SI (n := 1) (wn := (fun u : Unit => [(oM, .inr (5, [.ref mN, .ref mA, .ref mP, .int (nI ks), .ref mR, .ref mT, .int (nI ln), .long (((f (5 * ib + 0)) - (f (5 * ia + 0))).toInt64), .long (((f (5 * ib + 1)) - (f (5 * ia + 1))).toInt64), .long x3, .long x4, .long y1, .long y2, .long y3, .long y4, .ref mL, .ref mB, .int od, .int spt, .int wa, .long hs])), (mN, .inl (cI, 39, .inl qn))])) (wr := [(oM, .inr (5, [.ref mN, .ref mA, .ref mP, .int (nI ks), .ref mR, .ref mT, .int (nI ln), .long (((f (5 * ib + 0)) - (f (5 * ia + 0))).toInt64), .long (((f (5 * ib + 1)) - (f (5 * ia + 1))).toInt64), .long x3, .long x4, .long y1, .long y2, .long y3, .long y4, .ref mL, .ref mB, .int od, .int spt, .int wa, .long hs])), (mN, .inl (cI, 39, .inl qn))]) (As := [.int (f (5 * ib + 2))]) (rest := [.int (f (5 * ib + 3)), .ref oM]) ⟨hx, hb, hml, hown, hts⟩ hK hP hD hS hA hT (kX5_eastOf l D cI cB tE tN (f (5 * ib + 2)) kb _ (hkb) (hkb15)) gX5_lays_X5_eastOf rfl rfl rfl (by decide +kernel) ⟨Nat.le_of_ble_eq_true rfl, Nat.le_of_ble_eq_true rfl⟩ [] [0, 1] [0, 1] (by decide) rfl rfl (by decide) (by decide) (by decide) (fun u => rfl) rfl hl.1 rfl (Nat.le_of_ble_eq_true rfl) dX5_lays_49 ⟨Nat.le_of_ble_eq_true rfl, Nat.le_of_ble_eq_true rfl⟩ (fun r_13 u H locs hw_14 hP hD hS => ?_)
  try dsimp only at hw_14
  have hP : va_P D vwCl [(oM, .inr (5, [.ref mN, .ref mA, .ref mP, .int (nI ks), .ref mR, .ref mT, .int (nI ln), .long (((f (5 * ib + 0)) - (f (5 * ia + 0))).toInt64), .long (((f (5 * ib + 1)) - (f (5 * ia + 1))).toInt64), .long x3, .long x4, .long y1, .long y2, .long y3, .long y4, .ref mL, .ref mB, .int od, .int spt, .int wa, .long hs])), (mN, .inl (cI, 39, .inl qn))] H := hP
  have hD : va_D A [(oM, .inr (5, [.ref mN, .ref mA, .ref mP, .int (nI ks), .ref mR, .ref mT, .int (nI ln), .long (((f (5 * ib + 0)) - (f (5 * ia + 0))).toInt64), .long (((f (5 * ib + 1)) - (f (5 * ia + 1))).toInt64), .long x3, .long x4, .long y1, .long y2, .long y3, .long y4, .ref mL, .ref mB, .int od, .int spt, .int wa, .long hs])), (mN, .inl (cI, 39, .inl qn))] := hD
  subst r_13
  refine lv_imul hx hb dX5_lays_52 ?_
  refine lv_iload hx hb dX5_lays_53 (lv_at hl 4 rfl) ?_
  refine lv_iload_n hx hb dX5_lays_55 rfl (lv_at hl 3 rfl) ?_
  refine z_SI (n := 1) (wn := (fun u : Unit => [(oM, .inr (5, [.ref mN, .ref mA, .ref mP, .int (nI ks), .ref mR, .ref mT, .int (nI ln), .long (((f (5 * ib + 0)) - (f (5 * ia + 0))).toInt64), .long (((f (5 * ib + 1)) - (f (5 * ia + 1))).toInt64), .long x3, .long x4, .long y1, .long y2, .long y3, .long y4, .ref mL, .ref mB, .int od, .int spt, .int wa, .long hs])), (mN, .inl (cI, 39, .inl qn))])) (wr := [(oM, .inr (5, [.ref mN, .ref mA, .ref mP, .int (nI ks), .ref mR, .ref mT, .int (nI ln), .long (((f (5 * ib + 0)) - (f (5 * ia + 0))).toInt64), .long (((f (5 * ib + 1)) - (f (5 * ia + 1))).toInt64), .long x3, .long x4, .long y1, .long y2, .long y3, .long y4, .ref mL, .ref mB, .int od, .int spt, .int wa, .long hs])), (mN, .inl (cI, 39, .inl qn))]) (As := [.int ph]) (rest := [.int ps, .int ((f (5 * ib + 3)) * (vE (f (5 * ib + 2)))), .ref oM]) ⟨hx, hb, hml, hown, hts⟩ hK hP hD hS hA hT (kX5_eastOf l D cI cB tE tN ph kh _ (hkh) (hkh15)) gX5_lays_X5_eastOf rfl rfl rfl (by decide +kernel) ⟨Nat.le_of_ble_eq_true rfl, Nat.le_of_ble_eq_true rfl⟩ [] [0, 1] [0, 1] (by decide) rfl rfl (by decide) (by decide) (by decide) (fun u => rfl) rfl hl.1 rfl (Nat.le_of_ble_eq_true rfl) dX5_lays_56 ⟨Nat.le_of_ble_eq_true rfl, Nat.le_of_ble_eq_true rfl⟩ (fun r_15 u H locs hw_16 hP hD hS => ?_)
  try dsimp only at hw_16
  have hP : va_P D vwCl [(oM, .inr (5, [.ref mN, .ref mA, .ref mP, .int (nI ks), .ref mR, .ref mT, .int (nI ln), .long (((f (5 * ib + 0)) - (f (5 * ia + 0))).toInt64), .long (((f (5 * ib + 1)) - (f (5 * ia + 1))).toInt64), .long x3, .long x4, .long y1, .long y2, .long y3, .long y4, .ref mL, .ref mB, .int od, .int spt, .int wa, .long hs])), (mN, .inl (cI, 39, .inl qn))] H := hP
  have hD : va_D A [(oM, .inr (5, [.ref mN, .ref mA, .ref mP, .int (nI ks), .ref mR, .ref mT, .int (nI ln), .long (((f (5 * ib + 0)) - (f (5 * ia + 0))).toInt64), .long (((f (5 * ib + 1)) - (f (5 * ia + 1))).toInt64), .long x3, .long x4, .long y1, .long y2, .long y3, .long y4, .ref mL, .ref mB, .int od, .int spt, .int wa, .long hs])), (mN, .inl (cI, 39, .inl qn))] := hD
  subst r_15
  refine lv_imul hx hb dX5_lays_59 ?_
  refine lv_isub hx hb dX5_lays_60 ?_
  refine lv_i2l (v := (((f (5 * ib + 3)) * (vE (f (5 * ib + 2)))) - (ps * (vE ph))).toInt64) hx hb dX5_lays_61 rfl ?_
  refine va_put (D := D) (ci := 5) (v := .long ((((f (5 * ib + 3)) * (vE (f (5 * ib + 2)))) - (ps * (vE ph))).toInt64)) (ty := .long) (C := RX5) (T := TX5) (N := 21) hx hb hts N5 tyX5 tyX5_ok nmX5 hown hK hP hD hS 0 rfl rfl 9 (by decide) L67 (fun _ h9 => h9) rfl (by decide +kernel) rfl rfl (Nat.le_of_ble_eq_true rfl) dX5_lays_62 (fun H locs hP hD hS => ?_)
  have hP : va_P D vwCl [(oM, .inr (5, [.ref mN, .ref mA, .ref mP, .int (nI ks), .ref mR, .ref mT, .int (nI ln), .long (((f (5 * ib + 0)) - (f (5 * ia + 0))).toInt64), .long (((f (5 * ib + 1)) - (f (5 * ia + 1))).toInt64), .long ((((f (5 * ib + 3)) * (vE (f (5 * ib + 2)))) - (ps * (vE ph))).toInt64), .long x4, .long y1, .long y2, .long y3, .long y4, .ref mL, .ref mB, .int od, .int spt, .int wa, .long hs])), (mN, .inl (cI, 39, .inl qn))] H := hP
  have hD : va_D A [(oM, .inr (5, [.ref mN, .ref mA, .ref mP, .int (nI ks), .ref mR, .ref mT, .int (nI ln), .long (((f (5 * ib + 0)) - (f (5 * ia + 0))).toInt64), .long (((f (5 * ib + 1)) - (f (5 * ia + 1))).toInt64), .long ((((f (5 * ib + 3)) * (vE (f (5 * ib + 2)))) - (ps * (vE ph))).toInt64), .long x4, .long y1, .long y2, .long y3, .long y4, .ref mL, .ref mB, .int od, .int spt, .int wa, .long hs])), (mN, .inl (cI, 39, .inl qn))] := hD
  refine lv_aload_n hx hb dX5_lays_65 rfl (lv_at hl 0 rfl) ?_
  refine lv_aload_n hx hb dX5_lays_66 rfl (lv_at hl 0 rfl) ?_
  refine lv_iload_n hx hb dX5_lays_67 rfl (lv_at hl 2 rfl) ?_
  refine lv_iconst (v := 3) hx hb dX5_lays_68 (by decide) ?_
  refine z_VI (n := 2) (wn := (fun u : Unit => [(oM, .inr (5, [.ref mN, .ref mA, .ref mP, .int (nI ks), .ref mR, .ref mT, .int (nI ln), .long (((f (5 * ib + 0)) - (f (5 * ia + 0))).toInt64), .long (((f (5 * ib + 1)) - (f (5 * ia + 1))).toInt64), .long ((((f (5 * ib + 3)) * (vE (f (5 * ib + 2)))) - (ps * (vE ph))).toInt64), .long x4, .long y1, .long y2, .long y3, .long y4, .ref mL, .ref mB, .int od, .int spt, .int wa, .long hs])), (mN, .inl (cI, 39, .inl qn))])) (wr := []) (As := [.int (nI ib), .int 3]) (rest := [.ref oM]) ⟨hx, hb, hml, hown, hts⟩ hK hP hD hS hA hT (kX5_shipOf l D cI cB tE tN oM mN mA mP mR mT mL mB ks ln (((f (5 * ib + 0)) - (f (5 * ia + 0))).toInt64) (((f (5 * ib + 1)) - (f (5 * ia + 1))).toInt64) ((((f (5 * ib + 3)) * (vE (f (5 * ib + 2)))) - (ps * (vE ph))).toInt64) x4 y1 y2 y3 y4 od spt wa hs qn f N ib 3 _ (hR) (hI) (hNN) (by omega) (by omega)) gX5_lays_X5_shipOf rfl rfl rfl (by decide +kernel) ⟨Nat.le_of_ble_eq_true rfl, Nat.le_of_ble_eq_true rfl⟩ [0, 1] [] [0, 1] (by decide) rfl rfl (by decide) (by decide) (by decide) (fun u => rfl) 0 5 rfl rfl rfl rfl hl.1 rfl (Nat.le_of_ble_eq_true rfl) dX5_lays_69 ⟨Nat.le_of_ble_eq_true rfl, Nat.le_of_ble_eq_true rfl⟩ (fun r_17 u H locs hw_18 hP hD hS => ?_)
  try dsimp only at hw_18
  have hP : va_P D vwCl [(oM, .inr (5, [.ref mN, .ref mA, .ref mP, .int (nI ks), .ref mR, .ref mT, .int (nI ln), .long (((f (5 * ib + 0)) - (f (5 * ia + 0))).toInt64), .long (((f (5 * ib + 1)) - (f (5 * ia + 1))).toInt64), .long ((((f (5 * ib + 3)) * (vE (f (5 * ib + 2)))) - (ps * (vE ph))).toInt64), .long x4, .long y1, .long y2, .long y3, .long y4, .ref mL, .ref mB, .int od, .int spt, .int wa, .long hs])), (mN, .inl (cI, 39, .inl qn))] H := hP
  have hD : va_D A [(oM, .inr (5, [.ref mN, .ref mA, .ref mP, .int (nI ks), .ref mR, .ref mT, .int (nI ln), .long (((f (5 * ib + 0)) - (f (5 * ia + 0))).toInt64), .long (((f (5 * ib + 1)) - (f (5 * ia + 1))).toInt64), .long ((((f (5 * ib + 3)) * (vE (f (5 * ib + 2)))) - (ps * (vE ph))).toInt64), .long x4, .long y1, .long y2, .long y3, .long y4, .ref mL, .ref mB, .int od, .int spt, .int wa, .long hs])), (mN, .inl (cI, 39, .inl qn))] := hD
  subst r_17
  refine lv_aload_n hx hb dX5_lays_72 rfl (lv_at hl 0 rfl) ?_
  refine lv_iload_n hx hb dX5_lays_73 rfl (lv_at hl 2 rfl) ?_
  refine lv_iconst (v := 2) hx hb dX5_lays_74 (by decide) ?_
  refine z_VI (n := 2) (wn := (fun u : Unit => [(oM, .inr (5, [.ref mN, .ref mA, .ref mP, .int (nI ks), .ref mR, .ref mT, .int (nI ln), .long (((f (5 * ib + 0)) - (f (5 * ia + 0))).toInt64), .long (((f (5 * ib + 1)) - (f (5 * ia + 1))).toInt64), .long ((((f (5 * ib + 3)) * (vE (f (5 * ib + 2)))) - (ps * (vE ph))).toInt64), .long x4, .long y1, .long y2, .long y3, .long y4, .ref mL, .ref mB, .int od, .int spt, .int wa, .long hs])), (mN, .inl (cI, 39, .inl qn))])) (wr := []) (As := [.int (nI ib), .int 2]) (rest := [.int (f (5 * ib + 3)), .ref oM]) ⟨hx, hb, hml, hown, hts⟩ hK hP hD hS hA hT (kX5_shipOf l D cI cB tE tN oM mN mA mP mR mT mL mB ks ln (((f (5 * ib + 0)) - (f (5 * ia + 0))).toInt64) (((f (5 * ib + 1)) - (f (5 * ia + 1))).toInt64) ((((f (5 * ib + 3)) * (vE (f (5 * ib + 2)))) - (ps * (vE ph))).toInt64) x4 y1 y2 y3 y4 od spt wa hs qn f N ib 2 _ (hR) (hI) (hNN) (by omega) (by omega)) gX5_lays_X5_shipOf rfl rfl rfl (by decide +kernel) ⟨Nat.le_of_ble_eq_true rfl, Nat.le_of_ble_eq_true rfl⟩ [0, 1] [] [0, 1] (by decide) rfl rfl (by decide) (by decide) (by decide) (fun u => rfl) 0 5 rfl rfl rfl rfl hl.1 rfl (Nat.le_of_ble_eq_true rfl) dX5_lays_75 ⟨Nat.le_of_ble_eq_true rfl, Nat.le_of_ble_eq_true rfl⟩ (fun r_19 u H locs hw_20 hP hD hS => ?_)
  try dsimp only at hw_20
  have hP : va_P D vwCl [(oM, .inr (5, [.ref mN, .ref mA, .ref mP, .int (nI ks), .ref mR, .ref mT, .int (nI ln), .long (((f (5 * ib + 0)) - (f (5 * ia + 0))).toInt64), .long (((f (5 * ib + 1)) - (f (5 * ia + 1))).toInt64), .long ((((f (5 * ib + 3)) * (vE (f (5 * ib + 2)))) - (ps * (vE ph))).toInt64), .long x4, .long y1, .long y2, .long y3, .long y4, .ref mL, .ref mB, .int od, .int spt, .int wa, .long hs])), (mN, .inl (cI, 39, .inl qn))] H := hP
  have hD : va_D A [(oM, .inr (5, [.ref mN, .ref mA, .ref mP, .int (nI ks), .ref mR, .ref mT, .int (nI ln), .long (((f (5 * ib + 0)) - (f (5 * ia + 0))).toInt64), .long (((f (5 * ib + 1)) - (f (5 * ia + 1))).toInt64), .long ((((f (5 * ib + 3)) * (vE (f (5 * ib + 2)))) - (ps * (vE ph))).toInt64), .long x4, .long y1, .long y2, .long y3, .long y4, .ref mL, .ref mB, .int od, .int spt, .int wa, .long hs])), (mN, .inl (cI, 39, .inl qn))] := hD
  subst r_19
  refine z_SI (n := 1) (wn := (fun u : Unit => [(oM, .inr (5, [.ref mN, .ref mA, .ref mP, .int (nI ks), .ref mR, .ref mT, .int (nI ln), .long (((f (5 * ib + 0)) - (f (5 * ia + 0))).toInt64), .long (((f (5 * ib + 1)) - (f (5 * ia + 1))).toInt64), .long ((((f (5 * ib + 3)) * (vE (f (5 * ib + 2)))) - (ps * (vE ph))).toInt64), .long x4, .long y1, .long y2, .long y3, .long y4, .ref mL, .ref mB, .int od, .int spt, .int wa, .long hs])), (mN, .inl (cI, 39, .inl qn))])) (wr := [(oM, .inr (5, [.ref mN, .ref mA, .ref mP, .int (nI ks), .ref mR, .ref mT, .int (nI ln), .long (((f (5 * ib + 0)) - (f (5 * ia + 0))).toInt64), .long (((f (5 * ib + 1)) - (f (5 * ia + 1))).toInt64), .long ((((f (5 * ib + 3)) * (vE (f (5 * ib + 2)))) - (ps * (vE ph))).toInt64), .long x4, .long y1, .long y2, .long y3, .long y4, .ref mL, .ref mB, .int od, .int spt, .int wa, .long hs])), (mN, .inl (cI, 39, .inl qn))]) (As := [.int (f (5 * ib + 2))]) (rest := [.int (f (5 * ib + 3)), .ref oM]) ⟨hx, hb, hml, hown, hts⟩ hK hP hD hS hA hT (kX5_northOf l D cI cB tE tN (f (5 * ib + 2)) kb _ (hkb) (hkb15)) gX5_lays_X5_northOf rfl rfl rfl (by decide +kernel) ⟨Nat.le_of_ble_eq_true rfl, Nat.le_of_ble_eq_true rfl⟩ [] [0, 1] [0, 1] (by decide) rfl rfl (by decide) (by decide) (by decide) (fun u => rfl) rfl hl.1 rfl (Nat.le_of_ble_eq_true rfl) dX5_lays_78 ⟨Nat.le_of_ble_eq_true rfl, Nat.le_of_ble_eq_true rfl⟩ (fun r_21 u H locs hw_22 hP hD hS => ?_)
  try dsimp only at hw_22
  have hP : va_P D vwCl [(oM, .inr (5, [.ref mN, .ref mA, .ref mP, .int (nI ks), .ref mR, .ref mT, .int (nI ln), .long (((f (5 * ib + 0)) - (f (5 * ia + 0))).toInt64), .long (((f (5 * ib + 1)) - (f (5 * ia + 1))).toInt64), .long ((((f (5 * ib + 3)) * (vE (f (5 * ib + 2)))) - (ps * (vE ph))).toInt64), .long x4, .long y1, .long y2, .long y3, .long y4, .ref mL, .ref mB, .int od, .int spt, .int wa, .long hs])), (mN, .inl (cI, 39, .inl qn))] H := hP
  have hD : va_D A [(oM, .inr (5, [.ref mN, .ref mA, .ref mP, .int (nI ks), .ref mR, .ref mT, .int (nI ln), .long (((f (5 * ib + 0)) - (f (5 * ia + 0))).toInt64), .long (((f (5 * ib + 1)) - (f (5 * ia + 1))).toInt64), .long ((((f (5 * ib + 3)) * (vE (f (5 * ib + 2)))) - (ps * (vE ph))).toInt64), .long x4, .long y1, .long y2, .long y3, .long y4, .ref mL, .ref mB, .int od, .int spt, .int wa, .long hs])), (mN, .inl (cI, 39, .inl qn))] := hD
  subst r_21
  refine lv_imul hx hb dX5_lays_81 ?_
  refine lv_iload hx hb dX5_lays_82 (lv_at hl 4 rfl) ?_
  refine lv_iload_n hx hb dX5_lays_84 rfl (lv_at hl 3 rfl) ?_
  refine z_SI (n := 1) (wn := (fun u : Unit => [(oM, .inr (5, [.ref mN, .ref mA, .ref mP, .int (nI ks), .ref mR, .ref mT, .int (nI ln), .long (((f (5 * ib + 0)) - (f (5 * ia + 0))).toInt64), .long (((f (5 * ib + 1)) - (f (5 * ia + 1))).toInt64), .long ((((f (5 * ib + 3)) * (vE (f (5 * ib + 2)))) - (ps * (vE ph))).toInt64), .long x4, .long y1, .long y2, .long y3, .long y4, .ref mL, .ref mB, .int od, .int spt, .int wa, .long hs])), (mN, .inl (cI, 39, .inl qn))])) (wr := [(oM, .inr (5, [.ref mN, .ref mA, .ref mP, .int (nI ks), .ref mR, .ref mT, .int (nI ln), .long (((f (5 * ib + 0)) - (f (5 * ia + 0))).toInt64), .long (((f (5 * ib + 1)) - (f (5 * ia + 1))).toInt64), .long ((((f (5 * ib + 3)) * (vE (f (5 * ib + 2)))) - (ps * (vE ph))).toInt64), .long x4, .long y1, .long y2, .long y3, .long y4, .ref mL, .ref mB, .int od, .int spt, .int wa, .long hs])), (mN, .inl (cI, 39, .inl qn))]) (As := [.int ph]) (rest := [.int ps, .int ((f (5 * ib + 3)) * (vN (f (5 * ib + 2)))), .ref oM]) ⟨hx, hb, hml, hown, hts⟩ hK hP hD hS hA hT (kX5_northOf l D cI cB tE tN ph kh _ (hkh) (hkh15)) gX5_lays_X5_northOf rfl rfl rfl (by decide +kernel) ⟨Nat.le_of_ble_eq_true rfl, Nat.le_of_ble_eq_true rfl⟩ [] [0, 1] [0, 1] (by decide) rfl rfl (by decide) (by decide) (by decide) (fun u => rfl) rfl hl.1 rfl (Nat.le_of_ble_eq_true rfl) dX5_lays_85 ⟨Nat.le_of_ble_eq_true rfl, Nat.le_of_ble_eq_true rfl⟩ (fun r_23 u H locs hw_24 hP hD hS => ?_)
  try dsimp only at hw_24
  have hP : va_P D vwCl [(oM, .inr (5, [.ref mN, .ref mA, .ref mP, .int (nI ks), .ref mR, .ref mT, .int (nI ln), .long (((f (5 * ib + 0)) - (f (5 * ia + 0))).toInt64), .long (((f (5 * ib + 1)) - (f (5 * ia + 1))).toInt64), .long ((((f (5 * ib + 3)) * (vE (f (5 * ib + 2)))) - (ps * (vE ph))).toInt64), .long x4, .long y1, .long y2, .long y3, .long y4, .ref mL, .ref mB, .int od, .int spt, .int wa, .long hs])), (mN, .inl (cI, 39, .inl qn))] H := hP
  have hD : va_D A [(oM, .inr (5, [.ref mN, .ref mA, .ref mP, .int (nI ks), .ref mR, .ref mT, .int (nI ln), .long (((f (5 * ib + 0)) - (f (5 * ia + 0))).toInt64), .long (((f (5 * ib + 1)) - (f (5 * ia + 1))).toInt64), .long ((((f (5 * ib + 3)) * (vE (f (5 * ib + 2)))) - (ps * (vE ph))).toInt64), .long x4, .long y1, .long y2, .long y3, .long y4, .ref mL, .ref mB, .int od, .int spt, .int wa, .long hs])), (mN, .inl (cI, 39, .inl qn))] := hD
  subst r_23
  refine lv_imul hx hb dX5_lays_88 ?_
  refine lv_isub hx hb dX5_lays_89 ?_
  refine lv_i2l (v := (((f (5 * ib + 3)) * (vN (f (5 * ib + 2)))) - (ps * (vN ph))).toInt64) hx hb dX5_lays_90 rfl ?_
  refine va_put (D := D) (ci := 5) (v := .long ((((f (5 * ib + 3)) * (vN (f (5 * ib + 2)))) - (ps * (vN ph))).toInt64)) (ty := .long) (C := RX5) (T := TX5) (N := 21) hx hb hts N5 tyX5 tyX5_ok nmX5 hown hK hP hD hS 0 rfl rfl 10 (by decide) L70 (fun _ h9 => h9) rfl (by decide +kernel) rfl rfl (Nat.le_of_ble_eq_true rfl) dX5_lays_91 (fun H locs hP hD hS => ?_)
  have hP : va_P D vwCl [(oM, .inr (5, [.ref mN, .ref mA, .ref mP, .int (nI ks), .ref mR, .ref mT, .int (nI ln), .long (((f (5 * ib + 0)) - (f (5 * ia + 0))).toInt64), .long (((f (5 * ib + 1)) - (f (5 * ia + 1))).toInt64), .long ((((f (5 * ib + 3)) * (vE (f (5 * ib + 2)))) - (ps * (vE ph))).toInt64), .long ((((f (5 * ib + 3)) * (vN (f (5 * ib + 2)))) - (ps * (vN ph))).toInt64), .long y1, .long y2, .long y3, .long y4, .ref mL, .ref mB, .int od, .int spt, .int wa, .long hs])), (mN, .inl (cI, 39, .inl qn))] H := hP
  have hD : va_D A [(oM, .inr (5, [.ref mN, .ref mA, .ref mP, .int (nI ks), .ref mR, .ref mT, .int (nI ln), .long (((f (5 * ib + 0)) - (f (5 * ia + 0))).toInt64), .long (((f (5 * ib + 1)) - (f (5 * ia + 1))).toInt64), .long ((((f (5 * ib + 3)) * (vE (f (5 * ib + 2)))) - (ps * (vE ph))).toInt64), .long ((((f (5 * ib + 3)) * (vN (f (5 * ib + 2)))) - (ps * (vN ph))).toInt64), .long y1, .long y2, .long y3, .long y4, .ref mL, .ref mB, .int od, .int spt, .int wa, .long hs])), (mN, .inl (cI, 39, .inl qn))] := hD
  exact hQ () _ _ _ _ (trivial) hP hD hS dX5_lays_94

set_option maxHeartbeats 4000000 in
set_option maxRecDepth 100000 in
theorem kX5_laysAsTheyAre (l : Launch) (D : va_G) (cI cB : ClassId) (tE tN : Nat) (oM : Nat) (mN : Nat) (mA : Nat) (mP : Nat) (mR : Nat) (mT : Nat) (mL : Nat) (mB : Nat) (ks : Nat) (ln : Nat) (x1 : Int64) (x2 : Int64) (x3 : Int64) (x4 : Int64) (y1 : Int64) (y2 : Int64) (y3 : Int64) (y4 : Int64) (od : Int32) (spt : Int32) (wa : Int32) (hs : Int64) (qn : Nat → Int32) (f : Nat → Int32) (N : Nat) (ia : Nat) (ib : Nat) (sz : Nat) (hR : Rg N f qn) (hI : Iv f) (hNN : nN f = N) (ha : ia ≤ N) (hb6 : ib ≤ N) : zV l yX5_laysAsTheyAre wsX5_laysAsTheyAre ({ frames := 3, cells := 0, slots := 0, locals := 67 }) D cI cB tE tN [.ref oM, .int (nI ia), .int (nI ib)] [(oM, .inr (5, [.ref mN, .ref mA, .ref mP, .int (nI ks), .ref mR, .ref mT, .int (nI ln), .long x1, .long x2, .long x3, .long x4, .long y1, .long y2, .long y3, .long y4, .ref mL, .ref mB, .int od, .int spt, .int wa, .long hs])), (mN, .inl (cI, 39, .inl qn))] sz (fun u : Unit => [(oM, .inr (5, [.ref mN, .ref mA, .ref mP, .int (nI ks), .ref mR, .ref mT, .int (nI ln), .long (cRx f ia ib), .long (cRy f ia ib), .long (cVx f (f (5 * ia + 2)) (f (5 * ia + 3)) ib), .long (cVy f (f (5 * ia + 2)) (f (5 * ia + 3)) ib), .long y1, .long y2, .long y3, .long y4, .ref mL, .ref mB, .int od, .int spt, .int wa, .long hs])), (mN, .inl (cI, 39, .inl qn))]) (fun (u : Unit) => True) 0 0 := by
  refine zV_mk (cc := cX5_laysAsTheyAre) (maxL := 3) (by decide) rfl (Nat.le_of_ble_eq_true rfl) ?_
  intro p e s m below meth c A Q ls S0 hname hA hK hP hD hT hS hQ hl
  obtain ⟨hx, hb, hml, hown, hts⟩ := id S0
  have hl : lv_has ls 3 [(0, .ref oM), (1, .int (nI ia)), (2, .int (nI ib))] := hl
  have hN6 : N ≤ 6 := by rw [← hNN]; exact hI.1
  obtain ⟨ka, hka, hka15⟩ := inr_nat (hi := 15) (hI.2.2.1 ia (by omega)).2.2.1 (by decide)
  refine lv_aload_n hx hb dX5_laysAsTheyAre_0 rfl (lv_at hl 0 rfl) ?_
  refine lv_iload_n hx hb dX5_laysAsTheyAre_1 rfl (lv_at hl 1 rfl) ?_
  refine lv_iload_n hx hb dX5_laysAsTheyAre_2 rfl (lv_at hl 2 rfl) ?_
  refine lv_aload_n hx hb dX5_laysAsTheyAre_3 rfl (lv_at hl 0 rfl) ?_
  refine lv_iload_n hx hb dX5_laysAsTheyAre_4 rfl (lv_at hl 1 rfl) ?_
  refine lv_iconst (v := 2) hx hb dX5_laysAsTheyAre_5 (by decide) ?_
  refine z_VI (n := 2) (wn := (fun u : Unit => [(oM, .inr (5, [.ref mN, .ref mA, .ref mP, .int (nI ks), .ref mR, .ref mT, .int (nI ln), .long x1, .long x2, .long x3, .long x4, .long y1, .long y2, .long y3, .long y4, .ref mL, .ref mB, .int od, .int spt, .int wa, .long hs])), (mN, .inl (cI, 39, .inl qn))])) (wr := []) (As := [.int (nI ia), .int 2]) (rest := [.int (nI ib), .int (nI ia), .ref oM]) ⟨hx, hb, hml, hown, hts⟩ hK hP hD hS hA hT (kX5_shipOf l D cI cB tE tN oM mN mA mP mR mT mL mB ks ln x1 x2 x3 x4 y1 y2 y3 y4 od spt wa hs qn f N ia 2 _ (hR) (hI) (hNN) (by omega) (by omega)) gX5_laysAsTheyAre_X5_shipOf rfl rfl rfl (by decide +kernel) ⟨Nat.le_of_ble_eq_true rfl, Nat.le_of_ble_eq_true rfl⟩ [0, 1] [] [0, 1] (by decide) rfl rfl (by decide) (by decide) (by decide) (fun u => rfl) 0 5 rfl rfl rfl rfl hl.1 rfl (Nat.le_of_ble_eq_true rfl) dX5_laysAsTheyAre_6 ⟨Nat.le_of_ble_eq_true rfl, Nat.le_of_ble_eq_true rfl⟩ (fun r_1 u H locs hw_2 hP hD hS => ?_)
  try dsimp only at hw_2
  have hP : va_P D vwCl [(oM, .inr (5, [.ref mN, .ref mA, .ref mP, .int (nI ks), .ref mR, .ref mT, .int (nI ln), .long x1, .long x2, .long x3, .long x4, .long y1, .long y2, .long y3, .long y4, .ref mL, .ref mB, .int od, .int spt, .int wa, .long hs])), (mN, .inl (cI, 39, .inl qn))] H := hP
  have hD : va_D A [(oM, .inr (5, [.ref mN, .ref mA, .ref mP, .int (nI ks), .ref mR, .ref mT, .int (nI ln), .long x1, .long x2, .long x3, .long x4, .long y1, .long y2, .long y3, .long y4, .ref mL, .ref mB, .int od, .int spt, .int wa, .long hs])), (mN, .inl (cI, 39, .inl qn))] := hD
  subst r_1
  refine lv_aload_n hx hb dX5_laysAsTheyAre_9 rfl (lv_at hl 0 rfl) ?_
  refine lv_iload_n hx hb dX5_laysAsTheyAre_10 rfl (lv_at hl 1 rfl) ?_
  refine lv_iconst (v := 3) hx hb dX5_laysAsTheyAre_11 (by decide) ?_
  refine z_VI (n := 2) (wn := (fun u : Unit => [(oM, .inr (5, [.ref mN, .ref mA, .ref mP, .int (nI ks), .ref mR, .ref mT, .int (nI ln), .long x1, .long x2, .long x3, .long x4, .long y1, .long y2, .long y3, .long y4, .ref mL, .ref mB, .int od, .int spt, .int wa, .long hs])), (mN, .inl (cI, 39, .inl qn))])) (wr := []) (As := [.int (nI ia), .int 3]) (rest := [.int (f (5 * ia + 2)), .int (nI ib), .int (nI ia), .ref oM]) ⟨hx, hb, hml, hown, hts⟩ hK hP hD hS hA hT (kX5_shipOf l D cI cB tE tN oM mN mA mP mR mT mL mB ks ln x1 x2 x3 x4 y1 y2 y3 y4 od spt wa hs qn f N ia 3 _ (hR) (hI) (hNN) (by omega) (by omega)) gX5_laysAsTheyAre_X5_shipOf rfl rfl rfl (by decide +kernel) ⟨Nat.le_of_ble_eq_true rfl, Nat.le_of_ble_eq_true rfl⟩ [0, 1] [] [0, 1] (by decide) rfl rfl (by decide) (by decide) (by decide) (fun u => rfl) 0 5 rfl rfl rfl rfl hl.1 rfl (Nat.le_of_ble_eq_true rfl) dX5_laysAsTheyAre_12 ⟨Nat.le_of_ble_eq_true rfl, Nat.le_of_ble_eq_true rfl⟩ (fun r_3 u H locs hw_4 hP hD hS => ?_)
  try dsimp only at hw_4
  have hP : va_P D vwCl [(oM, .inr (5, [.ref mN, .ref mA, .ref mP, .int (nI ks), .ref mR, .ref mT, .int (nI ln), .long x1, .long x2, .long x3, .long x4, .long y1, .long y2, .long y3, .long y4, .ref mL, .ref mB, .int od, .int spt, .int wa, .long hs])), (mN, .inl (cI, 39, .inl qn))] H := hP
  have hD : va_D A [(oM, .inr (5, [.ref mN, .ref mA, .ref mP, .int (nI ks), .ref mR, .ref mT, .int (nI ln), .long x1, .long x2, .long x3, .long x4, .long y1, .long y2, .long y3, .long y4, .ref mL, .ref mB, .int od, .int spt, .int wa, .long hs])), (mN, .inl (cI, 39, .inl qn))] := hD
  subst r_3
  refine z_VV (n := 4) (wn := (fun u : Unit => [(oM, .inr (5, [.ref mN, .ref mA, .ref mP, .int (nI ks), .ref mR, .ref mT, .int (nI ln), .long (cRx f ia ib), .long (cRy f ia ib), .long (cVx f (f (5 * ia + 2)) (f (5 * ia + 3)) ib), .long (cVy f (f (5 * ia + 2)) (f (5 * ia + 3)) ib), .long y1, .long y2, .long y3, .long y4, .ref mL, .ref mB, .int od, .int spt, .int wa, .long hs])), (mN, .inl (cI, 39, .inl qn))])) (wr := []) (As := [.int (nI ia), .int (nI ib), .int (f (5 * ia + 2)), .int (f (5 * ia + 3))]) (rest := []) ⟨hx, hb, hml, hown, hts⟩ hK hP hD hS hA hT (kX5_lays l D cI cB tE tN oM mN mA mP mR mT mL mB ks ln x1 x2 x3 x4 y1 y2 y3 y4 od spt wa hs qn f N ia ib (f (5 * ia + 2)) (f (5 * ia + 3)) ka _ (hR) (hI) (hNN) (by omega) (by omega) (hka) (hka15)) gX5_laysAsTheyAre_X5_lays rfl rfl rfl (by decide +kernel) ⟨Nat.le_of_ble_eq_true rfl, Nat.le_of_ble_eq_true rfl⟩ [0, 1] [] [0, 1] (by decide) rfl rfl (by decide) (by decide) (by decide) (fun u => rfl) 0 5 rfl rfl rfl rfl hl.1 rfl (Nat.le_of_ble_eq_true rfl) dX5_laysAsTheyAre_15 ⟨Nat.le_of_ble_eq_true rfl, Nat.le_of_ble_eq_true rfl⟩ (fun u H locs hw_6 hP hD hS => ?_)
  try dsimp only at hw_6
  have hP : va_P D vwCl [(oM, .inr (5, [.ref mN, .ref mA, .ref mP, .int (nI ks), .ref mR, .ref mT, .int (nI ln), .long (cRx f ia ib), .long (cRy f ia ib), .long (cVx f (f (5 * ia + 2)) (f (5 * ia + 3)) ib), .long (cVy f (f (5 * ia + 2)) (f (5 * ia + 3)) ib), .long y1, .long y2, .long y3, .long y4, .ref mL, .ref mB, .int od, .int spt, .int wa, .long hs])), (mN, .inl (cI, 39, .inl qn))] H := hP
  have hD : va_D A [(oM, .inr (5, [.ref mN, .ref mA, .ref mP, .int (nI ks), .ref mR, .ref mT, .int (nI ln), .long (cRx f ia ib), .long (cRy f ia ib), .long (cVx f (f (5 * ia + 2)) (f (5 * ia + 3)) ib), .long (cVy f (f (5 * ia + 2)) (f (5 * ia + 3)) ib), .long y1, .long y2, .long y3, .long y4, .ref mL, .ref mB, .int od, .int spt, .int wa, .long hs])), (mN, .inl (cI, 39, .inl qn))] := hD
  exact hQ () _ _ _ _ (trivial) hP hD hS dX5_laysAsTheyAre_18

set_option maxHeartbeats 4000000 in
set_option maxRecDepth 100000 in
theorem kX5_towards (l : Launch) (D : va_G) (cI cB : ClassId) (tE tN : Nat) (oM : Nat) (mN : Nat) (mA : Nat) (mP : Nat) (mR : Nat) (mT : Nat) (mL : Nat) (mB : Nat) (ks : Nat) (ln : Nat) (x1 : Int64) (x2 : Int64) (x3 : Int64) (x4 : Int64) (y1 : Int64) (y2 : Int64) (y3 : Int64) (y4 : Int64) (od : Int32) (spt : Int32) (wa : Int32) (hs : Int64) (sz : Nat)  : zL l yX5_towards wsX5_towards ({ frames := 0, cells := 0, slots := 0, locals := 0 }) D cI cB tE tN [.ref oM] [(oM, .inr (5, [.ref mN, .ref mA, .ref mP, .int (nI ks), .ref mR, .ref mT, .int (nI ln), .long x1, .long x2, .long x3, .long x4, .long y1, .long y2, .long y3, .long y4, .ref mL, .ref mB, .int od, .int spt, .int wa, .long hs]))] sz (fun u : Unit => [(oM, .inr (5, [.ref mN, .ref mA, .ref mP, .int (nI ks), .ref mR, .ref mT, .int (nI ln), .long x1, .long x2, .long x3, .long x4, .long y1, .long y2, .long y3, .long y4, .ref mL, .ref mB, .int od, .int spt, .int wa, .long hs]))]) (fun (r : Int64) (u : Unit) => r = x1 * x3 + x2 * x4) 0 0 := by
  refine zL_mk (cc := cX5_towards) (maxL := 1) (by decide) rfl (Nat.le_of_ble_eq_true rfl) ?_
  intro p e s m below meth c A Q ls S0 hname hA hK hP hD hT hS hQ hl
  obtain ⟨hx, hb, hml, hown, hts⟩ := id S0
  have hl : lv_has ls 1 [(0, .ref oM)] := hl
  have L57 : (Cond.fieldLink RX5 57 "PastAndClearModel" "placeX" "J").before ([.ref oM] : List Value).toArray s = true := hts (.fieldLink RX5 57 "PastAndClearModel" "placeX" "J") (by decide +kernel)
  have N5 : ∀ w ∈ u_ws RX5 TX5 21, w ∈ wsX5_towards := by decide +kernel
  have L67 : (Cond.fieldLink RX5 67 "PastAndClearModel" "speedX" "J").before ([.ref oM] : List Value).toArray s = true := hts (.fieldLink RX5 67 "PastAndClearModel" "speedX" "J") (by decide +kernel)
  have L61 : (Cond.fieldLink RX5 61 "PastAndClearModel" "placeY" "J").before ([.ref oM] : List Value).toArray s = true := hts (.fieldLink RX5 61 "PastAndClearModel" "placeY" "J") (by decide +kernel)
  have L70 : (Cond.fieldLink RX5 70 "PastAndClearModel" "speedY" "J").before ([.ref oM] : List Value).toArray s = true := hts (.fieldLink RX5 70 "PastAndClearModel" "speedY" "J") (by decide +kernel)
  refine lv_aload_n hx hb dX5_towards_0 rfl (lv_at hl 0 rfl) ?_
  refine va_get (D := D) (ci := 5) (v := .long x1) (C := RX5) (T := TX5) (N := 21) hx hb hts N5 hown hK hP 0 rfl rfl 7 (by decide) L57 (fun _ h9 => h9) rfl dX5_towards_1 ?_
  refine lv_aload_n hx hb dX5_towards_4 rfl (lv_at hl 0 rfl) ?_
  refine va_get (D := D) (ci := 5) (v := .long x3) (C := RX5) (T := TX5) (N := 21) hx hb hts N5 hown hK hP 0 rfl rfl 9 (by decide) L67 (fun _ h9 => h9) rfl dX5_towards_5 ?_
  refine lv_lmul hx hb dX5_towards_8 ?_
  refine lv_aload_n hx hb dX5_towards_9 rfl (lv_at hl 0 rfl) ?_
  refine va_get (D := D) (ci := 5) (v := .long x2) (C := RX5) (T := TX5) (N := 21) hx hb hts N5 hown hK hP 0 rfl rfl 8 (by decide) L61 (fun _ h9 => h9) rfl dX5_towards_10 ?_
  refine lv_aload_n hx hb dX5_towards_13 rfl (lv_at hl 0 rfl) ?_
  refine va_get (D := D) (ci := 5) (v := .long x4) (C := RX5) (T := TX5) (N := 21) hx hb hts N5 hown hK hP 0 rfl rfl 10 (by decide) L70 (fun _ h9 => h9) rfl dX5_towards_14 ?_
  refine lv_lmul hx hb dX5_towards_17 ?_
  refine lv_ladd hx hb dX5_towards_18 ?_
  exact hQ ((x1 * x3) + (x2 * x4)) () _ _ _ _ (rfl) hP hD hS dX5_towards_19

set_option maxHeartbeats 4000000 in
set_option maxRecDepth 100000 in
theorem kX5_squareAway (l : Launch) (D : va_G) (cI cB : ClassId) (tE tN : Nat) (oM : Nat) (mN : Nat) (mA : Nat) (mP : Nat) (mR : Nat) (mT : Nat) (mL : Nat) (mB : Nat) (ks : Nat) (ln : Nat) (x1 : Int64) (x2 : Int64) (x3 : Int64) (x4 : Int64) (y1 : Int64) (y2 : Int64) (y3 : Int64) (y4 : Int64) (od : Int32) (spt : Int32) (wa : Int32) (hs : Int64) (sz : Nat)  : zL l yX5_squareAway wsX5_squareAway ({ frames := 0, cells := 0, slots := 0, locals := 0 }) D cI cB tE tN [.ref oM] [(oM, .inr (5, [.ref mN, .ref mA, .ref mP, .int (nI ks), .ref mR, .ref mT, .int (nI ln), .long x1, .long x2, .long x3, .long x4, .long y1, .long y2, .long y3, .long y4, .ref mL, .ref mB, .int od, .int spt, .int wa, .long hs]))] sz (fun u : Unit => [(oM, .inr (5, [.ref mN, .ref mA, .ref mP, .int (nI ks), .ref mR, .ref mT, .int (nI ln), .long x1, .long x2, .long x3, .long x4, .long y1, .long y2, .long y3, .long y4, .ref mL, .ref mB, .int od, .int spt, .int wa, .long hs]))]) (fun (r : Int64) (u : Unit) => r = x1 * x1 + x2 * x2) 0 0 := by
  refine zL_mk (cc := cX5_squareAway) (maxL := 1) (by decide) rfl (Nat.le_of_ble_eq_true rfl) ?_
  intro p e s m below meth c A Q ls S0 hname hA hK hP hD hT hS hQ hl
  obtain ⟨hx, hb, hml, hown, hts⟩ := id S0
  have hl : lv_has ls 1 [(0, .ref oM)] := hl
  have L57 : (Cond.fieldLink RX5 57 "PastAndClearModel" "placeX" "J").before ([.ref oM] : List Value).toArray s = true := hts (.fieldLink RX5 57 "PastAndClearModel" "placeX" "J") (by decide +kernel)
  have N5 : ∀ w ∈ u_ws RX5 TX5 21, w ∈ wsX5_squareAway := by decide +kernel
  have L61 : (Cond.fieldLink RX5 61 "PastAndClearModel" "placeY" "J").before ([.ref oM] : List Value).toArray s = true := hts (.fieldLink RX5 61 "PastAndClearModel" "placeY" "J") (by decide +kernel)
  refine lv_aload_n hx hb dX5_squareAway_0 rfl (lv_at hl 0 rfl) ?_
  refine va_get (D := D) (ci := 5) (v := .long x1) (C := RX5) (T := TX5) (N := 21) hx hb hts N5 hown hK hP 0 rfl rfl 7 (by decide) L57 (fun _ h9 => h9) rfl dX5_squareAway_1 ?_
  refine lv_aload_n hx hb dX5_squareAway_4 rfl (lv_at hl 0 rfl) ?_
  refine va_get (D := D) (ci := 5) (v := .long x1) (C := RX5) (T := TX5) (N := 21) hx hb hts N5 hown hK hP 0 rfl rfl 7 (by decide) L57 (fun _ h9 => h9) rfl dX5_squareAway_5 ?_
  refine lv_lmul hx hb dX5_squareAway_8 ?_
  refine lv_aload_n hx hb dX5_squareAway_9 rfl (lv_at hl 0 rfl) ?_
  refine va_get (D := D) (ci := 5) (v := .long x2) (C := RX5) (T := TX5) (N := 21) hx hb hts N5 hown hK hP 0 rfl rfl 8 (by decide) L61 (fun _ h9 => h9) rfl dX5_squareAway_10 ?_
  refine lv_aload_n hx hb dX5_squareAway_13 rfl (lv_at hl 0 rfl) ?_
  refine va_get (D := D) (ci := 5) (v := .long x2) (C := RX5) (T := TX5) (N := 21) hx hb hts N5 hown hK hP 0 rfl rfl 8 (by decide) L61 (fun _ h9 => h9) rfl dX5_squareAway_14 ?_
  refine lv_lmul hx hb dX5_squareAway_17 ?_
  refine lv_ladd hx hb dX5_squareAway_18 ?_
  exact hQ ((x1 * x1) + (x2 * x2)) () _ _ _ _ (rfl) hP hD hS dX5_squareAway_19

set_option maxHeartbeats 4000000 in
set_option maxRecDepth 100000 in
theorem kX5_common (l : Launch) (D : va_G) (cI cB : ClassId) (tE tN : Nat) (a0 : Int64) (b0 : Int64) (sz : Nat) (ha0 : 0 ≤ a0.toInt) (hb0 : 0 ≤ b0.toInt) : zL l yX5_common wsX5_common ({ frames := 0, cells := 0, slots := 0, locals := 0 }) D cI cB tE tN [.long a0, .long b0] [] sz (fun u : Unit => []) (fun (r : Int64) (u : Unit) => r.toInt = (gcN a0 b0 : Int)) 0 0 := by
  refine zL_mk (cc := cX5_common) (maxL := 10) (by decide) rfl (Nat.le_of_ble_eq_true rfl) ?_
  intro p e s m below meth c A Q ls S0 hname hA hK hP hD hT hS hQ hl
  obtain ⟨hx, hb, hml, hown, hts⟩ := id S0
  have hl : lv_has ls 10 [(0, .long a0), (2, .long b0)] := hl
  have lp6 : ∀ (k : Nat) (xa : Int64) (ya : Int64) (H : Heap) (locs : List Loc) (ls : Array Slot), ya.toInt.toNat = k → (0 ≤ xa.toInt) → (0 ≤ ya.toInt) → (gcN a0 b0 = gcN xa ya) → va_P D vwCl [] H → va_D A [] → va_S A s.heap H locs → lv_has ls 10 [(4, .long xa), (6, .long ya)] → W p l e ({ frames := 0, cells := 0, slots := 0, locals := 0 } : Room) s m ([.long a0, .long b0] : List Value).toArray below meth c H locs 0 0 Q (F0 m 6 ls []) := by
    intro k
    induction k using Nat.strongRecOn with
    | ind k ih =>
    intro xa ya H locs ls hk hxa hya hinv hP hD hS hl
    refine lv_lload hx hb dX5_common_6 (lv_at hl 1 rfl) ?_
    refine lv_lconst (v := 0) hx hb dX5_common_8 (by decide) ?_
    refine W.lcmp hx hb dX5_common_9 ?_
    refine lv_if_eq (tgt := 31) hx hb dX5_common_10 (by decide) (fun c_1 => ?_) (fun c_1 => ?_)
    · skip
      have c_1 := (lg_cmp_eq _ _).mp c_1
      refine lv_lload hx hb dX5_common_31 (lv_at hl 0 rfl) ?_
      exact hQ xa () _ _ _ _ (cm_end hxa c_1 hinv) hP hD hS dX5_common_33
    · skip
      have c_1 := mt (lg_cmp_eq _ _).mpr c_1
      refine lv_lload hx hb dX5_common_13 (lv_at hl 0 rfl) ?_
      refine lv_lload hx hb dX5_common_15 (lv_at hl 1 rfl) ?_
      refine lv_lrem hx hb dX5_common_17 (c_1) ?_
      refine lv_lstore (lv' := [(8, .long (xa - xa / ya * ya)), (4, .long xa), (6, .long ya)]) hx hb dX5_common_18 hl (by decide) rfl (fun ls hl => ?_)
      refine lv_lload hx hb dX5_common_20 (lv_at hl 2 rfl) ?_
      refine lv_lstore (lv' := [(4, .long ya), (8, .long (xa - xa / ya * ya)), (6, .long ya)]) hx hb dX5_common_22 hl (by decide) rfl (fun ls hl => ?_)
      refine lv_lload hx hb dX5_common_24 (lv_at hl 1 rfl) ?_
      refine lv_lstore (lv' := [(6, .long (xa - xa / ya * ya)), (4, .long ya), (8, .long (xa - xa / ya * ya))]) hx hb dX5_common_26 hl (by decide) rfl (fun ls hl => ?_)
      refine lv_goto (tgt := 6) hx hb dX5_common_28 (by decide) ?_
      exact ih _ (by rw [← hk]; exact cm_dec hxa hya c_1) ya (xa - xa / ya * ya) _ _ _ rfl hya (cm_nn hxa hya c_1) (by rw [hinv]; exact gcN_step hxa (cm_pos hya c_1)) hP hD hS (lv_sub hl [1, 0] rfl)
  refine lv_lload_n hx hb dX5_common_0 rfl (lv_at hl 0 rfl) ?_
  refine lv_lstore (lv' := [(4, .long a0), (0, .long a0), (2, .long b0)]) hx hb dX5_common_1 hl (by decide) rfl (fun ls hl => ?_)
  refine lv_lload_n hx hb dX5_common_3 rfl (lv_at hl 2 rfl) ?_
  refine lv_lstore (lv' := [(6, .long b0), (4, .long a0), (0, .long a0), (2, .long b0)]) hx hb dX5_common_4 hl (by decide) rfl (fun ls hl => ?_)
  exact lp6 _ a0 b0 _ _ _ rfl ha0 hb0 rfl hP hD hS (lv_sub hl [1, 0] rfl)

set_option maxHeartbeats 4000000 in
set_option maxRecDepth 100000 in
theorem kX5_findsClosest (l : Launch) (D : va_G) (cI cB : ClassId) (tE tN : Nat) (oM : Nat) (mN : Nat) (mA : Nat) (mP : Nat) (mR : Nat) (mT : Nat) (mL : Nat) (mB : Nat) (ks : Nat) (ln : Nat) (x1 : Int64) (x2 : Int64) (x3 : Int64) (x4 : Int64) (y1 : Int64) (y2 : Int64) (y3 : Int64) (y4 : Int64) (od : Int32) (spt : Int32) (wa : Int32) (hs : Int64) (sz : Nat) (hB : Bd x1 x2 x3 x4) : zV l yX5_findsClosest wsX5_findsClosest ({ frames := 1, cells := 0, slots := 0, locals := 29 }) D cI cB tE tN [.ref oM] [(oM, .inr (5, [.ref mN, .ref mA, .ref mP, .int (nI ks), .ref mR, .ref mT, .int (nI ln), .long x1, .long x2, .long x3, .long x4, .long y1, .long y2, .long y3, .long y4, .ref mL, .ref mB, .int od, .int spt, .int wa, .long hs]))] sz (fun u : Int64 × Int64 × Int64 × Int64 => [(oM, .inr (5, [.ref mN, .ref mA, .ref mP, .int (nI ks), .ref mR, .ref mT, .int (nI ln), .long x1, .long x2, .long x3, .long x4, .long u.1, .long u.2.1, .long u.2.2.1, .long u.2.2.2, .ref mL, .ref mB, .int od, .int spt, .int wa, .long hs]))]) (fun (u : Int64 × Int64 × Int64 × Int64) => (u.1, u.2.1, u.2.2.1, u.2.2.2) = mFr x1 x2 x3 x4) 0 0 := by
  refine zV_mk (cc := cX5_findsClosest) (maxL := 7) (by decide) rfl (Nat.le_of_ble_eq_true rfl) ?_
  intro p e s m below meth c A Q ls S0 hname hA hK hP hD hT hS hQ hl
  obtain ⟨hx, hb, hml, hown, hts⟩ := id S0
  have hl : lv_has ls 7 [(0, .ref oM)] := hl
  have L67 : (Cond.fieldLink RX5 67 "PastAndClearModel" "speedX" "J").before ([.ref oM] : List Value).toArray s = true := hts (.fieldLink RX5 67 "PastAndClearModel" "speedX" "J") (by decide +kernel)
  have N5 : ∀ w ∈ u_ws RX5 TX5 21, w ∈ wsX5_findsClosest := by decide +kernel
  have L70 : (Cond.fieldLink RX5 70 "PastAndClearModel" "speedY" "J").before ([.ref oM] : List Value).toArray s = true := hts (.fieldLink RX5 70 "PastAndClearModel" "speedY" "J") (by decide +kernel)
  have L57 : (Cond.fieldLink RX5 57 "PastAndClearModel" "placeX" "J").before ([.ref oM] : List Value).toArray s = true := hts (.fieldLink RX5 57 "PastAndClearModel" "placeX" "J") (by decide +kernel)
  have L61 : (Cond.fieldLink RX5 61 "PastAndClearModel" "placeY" "J").before ([.ref oM] : List Value).toArray s = true := hts (.fieldLink RX5 61 "PastAndClearModel" "placeY" "J") (by decide +kernel)
  have L81 : (Cond.fieldLink RX5 81 "PastAndClearModel" "timeAbove" "J").before ([.ref oM] : List Value).toArray s = true := hts (.fieldLink RX5 81 "PastAndClearModel" "timeAbove" "J") (by decide +kernel)
  have L84 : (Cond.fieldLink RX5 84 "PastAndClearModel" "timeBelow" "J").before ([.ref oM] : List Value).toArray s = true := hts (.fieldLink RX5 84 "PastAndClearModel" "timeBelow" "J") (by decide +kernel)
  have L90 : (Cond.fieldLink RX5 90 "PastAndClearModel" "farAbove" "J").before ([.ref oM] : List Value).toArray s = true := hts (.fieldLink RX5 90 "PastAndClearModel" "farAbove" "J") (by decide +kernel)
  have L93 : (Cond.fieldLink RX5 93 "PastAndClearModel" "farBelow" "J").before ([.ref oM] : List Value).toArray s = true := hts (.fieldLink RX5 93 "PastAndClearModel" "farBelow" "J") (by decide +kernel)
  refine lv_aload_n hx hb dX5_findsClosest_0 rfl (lv_at hl 0 rfl) ?_
  refine z_VL (n := 0) (wn := (fun u : Unit => [(oM, .inr (5, [.ref mN, .ref mA, .ref mP, .int (nI ks), .ref mR, .ref mT, .int (nI ln), .long x1, .long x2, .long x3, .long x4, .long y1, .long y2, .long y3, .long y4, .ref mL, .ref mB, .int od, .int spt, .int wa, .long hs]))])) (wr := []) (As := []) (rest := []) ⟨hx, hb, hml, hown, hts⟩ hK hP hD hS hA hT (kX5_towards l D cI cB tE tN oM mN mA mP mR mT mL mB ks ln x1 x2 x3 x4 y1 y2 y3 y4 od spt wa hs _ ) gX5_findsClosest_X5_towards rfl rfl rfl (by decide +kernel) ⟨Nat.le_of_ble_eq_true rfl, Nat.le_of_ble_eq_true rfl⟩ [0] [] [0] (by decide) rfl rfl (by decide) (by decide) (by decide) (fun u => rfl) 0 5 rfl rfl rfl rfl hl.1 rfl (Nat.le_of_ble_eq_true rfl) dX5_findsClosest_1 ⟨Nat.le_of_ble_eq_true rfl, Nat.le_of_ble_eq_true rfl⟩ (fun r_1 u H locs hw_2 hP hD hS => ?_)
  try dsimp only at hw_2
  have hP : va_P D vwCl [(oM, .inr (5, [.ref mN, .ref mA, .ref mP, .int (nI ks), .ref mR, .ref mT, .int (nI ln), .long x1, .long x2, .long x3, .long x4, .long y1, .long y2, .long y3, .long y4, .ref mL, .ref mB, .int od, .int spt, .int wa, .long hs]))] H := hP
  have hD : va_D A [(oM, .inr (5, [.ref mN, .ref mA, .ref mP, .int (nI ks), .ref mR, .ref mT, .int (nI ln), .long x1, .long x2, .long x3, .long x4, .long y1, .long y2, .long y3, .long y4, .ref mL, .ref mB, .int od, .int spt, .int wa, .long hs]))] := hD
  subst r_1
  refine lv_lconst (v := 0) hx hb dX5_findsClosest_4 (by decide) ?_
  refine W.lcmp hx hb dX5_findsClosest_5 ?_
  refine lv_if_lt (tgt := 33) hx hb dX5_findsClosest_6 (by decide) (fun c_3 => ?_) (fun c_3 => ?_)
  · skip
    have c_3 := (lg_cmp_lt _ _).mp c_3
    have hfr := fr_neg hB c_3
    refine lv_aload_n hx hb dX5_findsClosest_33 rfl (lv_at hl 0 rfl) ?_
    refine va_get (D := D) (ci := 5) (v := .long x3) (C := RX5) (T := TX5) (N := 21) hx hb hts N5 hown hK hP 0 rfl rfl 9 (by decide) L67 (fun _ h9 => h9) rfl dX5_findsClosest_34 ?_
    refine lv_aload_n hx hb dX5_findsClosest_37 rfl (lv_at hl 0 rfl) ?_
    refine va_get (D := D) (ci := 5) (v := .long x3) (C := RX5) (T := TX5) (N := 21) hx hb hts N5 hown hK hP 0 rfl rfl 9 (by decide) L67 (fun _ h9 => h9) rfl dX5_findsClosest_38 ?_
    refine lv_lmul hx hb dX5_findsClosest_41 ?_
    refine lv_aload_n hx hb dX5_findsClosest_42 rfl (lv_at hl 0 rfl) ?_
    refine va_get (D := D) (ci := 5) (v := .long x4) (C := RX5) (T := TX5) (N := 21) hx hb hts N5 hown hK hP 0 rfl rfl 10 (by decide) L70 (fun _ h9 => h9) rfl dX5_findsClosest_43 ?_
    refine lv_aload_n hx hb dX5_findsClosest_46 rfl (lv_at hl 0 rfl) ?_
    refine va_get (D := D) (ci := 5) (v := .long x4) (C := RX5) (T := TX5) (N := 21) hx hb hts N5 hown hK hP 0 rfl rfl 10 (by decide) L70 (fun _ h9 => h9) rfl dX5_findsClosest_47 ?_
    refine lv_lmul hx hb dX5_findsClosest_50 ?_
    refine lv_ladd hx hb dX5_findsClosest_51 ?_
    refine lv_lstore_n (lv' := [(1, .long ((x3 * x3) + (x4 * x4))), (0, .ref oM)]) hx hb dX5_findsClosest_52 rfl hl (by decide) rfl (fun ls hl => ?_)
    refine lv_aload_n hx hb dX5_findsClosest_53 rfl (lv_at hl 1 rfl) ?_
    refine va_get (D := D) (ci := 5) (v := .long x1) (C := RX5) (T := TX5) (N := 21) hx hb hts N5 hown hK hP 0 rfl rfl 7 (by decide) L57 (fun _ h9 => h9) rfl dX5_findsClosest_54 ?_
    refine lv_aload_n hx hb dX5_findsClosest_57 rfl (lv_at hl 1 rfl) ?_
    refine va_get (D := D) (ci := 5) (v := .long x4) (C := RX5) (T := TX5) (N := 21) hx hb hts N5 hown hK hP 0 rfl rfl 10 (by decide) L70 (fun _ h9 => h9) rfl dX5_findsClosest_58 ?_
    refine lv_lmul hx hb dX5_findsClosest_61 ?_
    refine lv_aload_n hx hb dX5_findsClosest_62 rfl (lv_at hl 1 rfl) ?_
    refine va_get (D := D) (ci := 5) (v := .long x2) (C := RX5) (T := TX5) (N := 21) hx hb hts N5 hown hK hP 0 rfl rfl 8 (by decide) L61 (fun _ h9 => h9) rfl dX5_findsClosest_63 ?_
    refine lv_aload_n hx hb dX5_findsClosest_66 rfl (lv_at hl 1 rfl) ?_
    refine va_get (D := D) (ci := 5) (v := .long x3) (C := RX5) (T := TX5) (N := 21) hx hb hts N5 hown hK hP 0 rfl rfl 9 (by decide) L67 (fun _ h9 => h9) rfl dX5_findsClosest_67 ?_
    refine lv_lmul hx hb dX5_findsClosest_70 ?_
    refine lv_lsub hx hb dX5_findsClosest_71 ?_
    refine lv_lstore_n (lv' := [(3, .long ((x1 * x4) - (x2 * x3))), (1, .long ((x3 * x3) + (x4 * x4))), (0, .ref oM)]) hx hb dX5_findsClosest_72 rfl hl (by decide) rfl (fun ls hl => ?_)
    refine lv_lload_n hx hb dX5_findsClosest_73 rfl (lv_at hl 1 rfl) ?_
    refine lv_aload_n hx hb dX5_findsClosest_74 rfl (lv_at hl 2 rfl) ?_
    refine z_VL (n := 0) (wn := (fun u : Unit => [(oM, .inr (5, [.ref mN, .ref mA, .ref mP, .int (nI ks), .ref mR, .ref mT, .int (nI ln), .long x1, .long x2, .long x3, .long x4, .long y1, .long y2, .long y3, .long y4, .ref mL, .ref mB, .int od, .int spt, .int wa, .long hs]))])) (wr := []) (As := []) (rest := [.long ((x3 * x3) + (x4 * x4))]) ⟨hx, hb, hml, hown, hts⟩ hK hP hD hS hA hT (kX5_towards l D cI cB tE tN oM mN mA mP mR mT mL mB ks ln x1 x2 x3 x4 y1 y2 y3 y4 od spt wa hs _ ) gX5_findsClosest_X5_towards rfl rfl rfl (by decide +kernel) ⟨Nat.le_of_ble_eq_true rfl, Nat.le_of_ble_eq_true rfl⟩ [0] [] [0] (by decide) rfl rfl (by decide) (by decide) (by decide) (fun u => rfl) 0 5 rfl rfl rfl rfl hl.1 rfl (Nat.le_of_ble_eq_true rfl) dX5_findsClosest_75 ⟨Nat.le_of_ble_eq_true rfl, Nat.le_of_ble_eq_true rfl⟩ (fun r_4 u H locs hw_5 hP hD hS => ?_)
    try dsimp only at hw_5
    have hP : va_P D vwCl [(oM, .inr (5, [.ref mN, .ref mA, .ref mP, .int (nI ks), .ref mR, .ref mT, .int (nI ln), .long x1, .long x2, .long x3, .long x4, .long y1, .long y2, .long y3, .long y4, .ref mL, .ref mB, .int od, .int spt, .int wa, .long hs]))] H := hP
    have hD : va_D A [(oM, .inr (5, [.ref mN, .ref mA, .ref mP, .int (nI ks), .ref mR, .ref mT, .int (nI ln), .long x1, .long x2, .long x3, .long x4, .long y1, .long y2, .long y3, .long y4, .ref mL, .ref mB, .int od, .int spt, .int wa, .long hs]))] := hD
    subst r_4
    refine lv_lneg hx hb dX5_findsClosest_78 ?_
    refine z_SL (n := 2) (wn := (fun u : Unit => [(oM, .inr (5, [.ref mN, .ref mA, .ref mP, .int (nI ks), .ref mR, .ref mT, .int (nI ln), .long x1, .long x2, .long x3, .long x4, .long y1, .long y2, .long y3, .long y4, .ref mL, .ref mB, .int od, .int spt, .int wa, .long hs]))])) (wr := [(oM, .inr (5, [.ref mN, .ref mA, .ref mP, .int (nI ks), .ref mR, .ref mT, .int (nI ln), .long x1, .long x2, .long x3, .long x4, .long y1, .long y2, .long y3, .long y4, .ref mL, .ref mB, .int od, .int spt, .int wa, .long hs]))]) (As := [.long ((x3 * x3) + (x4 * x4)), .long (-(x1 * x3 + x2 * x4))]) (rest := []) ⟨hx, hb, hml, hown, hts⟩ hK hP hD hS hA hT (kX5_common l D cI cB tE tN ((x3 * x3) + (x4 * x4)) (-(x1 * x3 + x2 * x4)) _ (hfr.2.2.2.2.2.1) (hfr.2.2.2.2.2.2.1)) gX5_findsClosest_X5_common rfl rfl rfl (by decide +kernel) ⟨Nat.le_of_ble_eq_true rfl, Nat.le_of_ble_eq_true rfl⟩ [] [0] [0] (by decide) rfl rfl (by decide) (by decide) (by decide) (fun u => rfl) rfl hl.1 rfl (Nat.le_of_ble_eq_true rfl) dX5_findsClosest_79 ⟨Nat.le_of_ble_eq_true rfl, Nat.le_of_ble_eq_true rfl⟩ (fun r_6 u H locs hw_7 hP hD hS => ?_)
    try dsimp only at hw_7
    have hP : va_P D vwCl [(oM, .inr (5, [.ref mN, .ref mA, .ref mP, .int (nI ks), .ref mR, .ref mT, .int (nI ln), .long x1, .long x2, .long x3, .long x4, .long y1, .long y2, .long y3, .long y4, .ref mL, .ref mB, .int od, .int spt, .int wa, .long hs]))] H := hP
    have hD : va_D A [(oM, .inr (5, [.ref mN, .ref mA, .ref mP, .int (nI ks), .ref mR, .ref mT, .int (nI ln), .long x1, .long x2, .long x3, .long x4, .long y1, .long y2, .long y3, .long y4, .ref mL, .ref mB, .int od, .int spt, .int wa, .long hs]))] := hD
    have hg : r_6 = sdF 100 (-(x1 * x3 + x2 * x4)) (x3 * x3 + x4 * x4) := hfr.2.1 _ hw_7
    subst r_6
    refine lv_lstore (lv' := [(5, .long (sdF 100 (-(x1 * x3 + x2 * x4)) (x3 * x3 + x4 * x4))), (3, .long ((x1 * x4) - (x2 * x3))), (1, .long ((x3 * x3) + (x4 * x4))), (0, .ref oM)]) hx hb dX5_findsClosest_82 hl (by decide) rfl (fun ls hl => ?_)
    refine lv_aload_n hx hb dX5_findsClosest_84 rfl (lv_at hl 3 rfl) ?_
    refine lv_aload_n hx hb dX5_findsClosest_85 rfl (lv_at hl 3 rfl) ?_
    refine z_VL (n := 0) (wn := (fun u : Unit => [(oM, .inr (5, [.ref mN, .ref mA, .ref mP, .int (nI ks), .ref mR, .ref mT, .int (nI ln), .long x1, .long x2, .long x3, .long x4, .long y1, .long y2, .long y3, .long y4, .ref mL, .ref mB, .int od, .int spt, .int wa, .long hs]))])) (wr := []) (As := []) (rest := [.ref oM]) ⟨hx, hb, hml, hown, hts⟩ hK hP hD hS hA hT (kX5_towards l D cI cB tE tN oM mN mA mP mR mT mL mB ks ln x1 x2 x3 x4 y1 y2 y3 y4 od spt wa hs _ ) gX5_findsClosest_X5_towards rfl rfl rfl (by decide +kernel) ⟨Nat.le_of_ble_eq_true rfl, Nat.le_of_ble_eq_true rfl⟩ [0] [] [0] (by decide) rfl rfl (by decide) (by decide) (by decide) (fun u => rfl) 0 5 rfl rfl rfl rfl hl.1 rfl (Nat.le_of_ble_eq_true rfl) dX5_findsClosest_86 ⟨Nat.le_of_ble_eq_true rfl, Nat.le_of_ble_eq_true rfl⟩ (fun r_8 u H locs hw_9 hP hD hS => ?_)
    try dsimp only at hw_9
    have hP : va_P D vwCl [(oM, .inr (5, [.ref mN, .ref mA, .ref mP, .int (nI ks), .ref mR, .ref mT, .int (nI ln), .long x1, .long x2, .long x3, .long x4, .long y1, .long y2, .long y3, .long y4, .ref mL, .ref mB, .int od, .int spt, .int wa, .long hs]))] H := hP
    have hD : va_D A [(oM, .inr (5, [.ref mN, .ref mA, .ref mP, .int (nI ks), .ref mR, .ref mT, .int (nI ln), .long x1, .long x2, .long x3, .long x4, .long y1, .long y2, .long y3, .long y4, .ref mL, .ref mB, .int od, .int spt, .int wa, .long hs]))] := hD
    subst r_8
    refine lv_lneg hx hb dX5_findsClosest_89 ?_
    refine lv_lload hx hb dX5_findsClosest_90 (lv_at hl 0 rfl) ?_
    refine lv_ldiv hx hb dX5_findsClosest_92 (hfr.2.2.2.1) ?_
    refine va_put (D := D) (ci := 5) (v := .long ((-(x1 * x3 + x2 * x4)) / (sdF 100 (-(x1 * x3 + x2 * x4)) (x3 * x3 + x4 * x4)))) (ty := .long) (C := RX5) (T := TX5) (N := 21) hx hb hts N5 tyX5 tyX5_ok nmX5 hown hK hP hD hS 0 rfl rfl 11 (by decide) L81 (fun _ h9 => h9) rfl (by decide +kernel) rfl rfl (Nat.le_of_ble_eq_true rfl) dX5_findsClosest_93 (fun H locs hP hD hS => ?_)
    have hP : va_P D vwCl [(oM, .inr (5, [.ref mN, .ref mA, .ref mP, .int (nI ks), .ref mR, .ref mT, .int (nI ln), .long x1, .long x2, .long x3, .long x4, .long ((-(x1 * x3 + x2 * x4)) / (sdF 100 (-(x1 * x3 + x2 * x4)) (x3 * x3 + x4 * x4))), .long y2, .long y3, .long y4, .ref mL, .ref mB, .int od, .int spt, .int wa, .long hs]))] H := hP
    have hD : va_D A [(oM, .inr (5, [.ref mN, .ref mA, .ref mP, .int (nI ks), .ref mR, .ref mT, .int (nI ln), .long x1, .long x2, .long x3, .long x4, .long ((-(x1 * x3 + x2 * x4)) / (sdF 100 (-(x1 * x3 + x2 * x4)) (x3 * x3 + x4 * x4))), .long y2, .long y3, .long y4, .ref mL, .ref mB, .int od, .int spt, .int wa, .long hs]))] := hD
    refine lv_aload_n hx hb dX5_findsClosest_96 rfl (lv_at hl 3 rfl) ?_
    refine lv_lload_n hx hb dX5_findsClosest_97 rfl (lv_at hl 2 rfl) ?_
    refine lv_lload hx hb dX5_findsClosest_98 (lv_at hl 0 rfl) ?_
    refine lv_ldiv hx hb dX5_findsClosest_100 (hfr.2.2.2.1) ?_
    refine va_put (D := D) (ci := 5) (v := .long (((x3 * x3) + (x4 * x4)) / (sdF 100 (-(x1 * x3 + x2 * x4)) (x3 * x3 + x4 * x4)))) (ty := .long) (C := RX5) (T := TX5) (N := 21) hx hb hts N5 tyX5 tyX5_ok nmX5 hown hK hP hD hS 0 rfl rfl 12 (by decide) L84 (fun _ h9 => h9) rfl (by decide +kernel) rfl rfl (Nat.le_of_ble_eq_true rfl) dX5_findsClosest_101 (fun H locs hP hD hS => ?_)
    have hP : va_P D vwCl [(oM, .inr (5, [.ref mN, .ref mA, .ref mP, .int (nI ks), .ref mR, .ref mT, .int (nI ln), .long x1, .long x2, .long x3, .long x4, .long ((-(x1 * x3 + x2 * x4)) / (sdF 100 (-(x1 * x3 + x2 * x4)) (x3 * x3 + x4 * x4))), .long (((x3 * x3) + (x4 * x4)) / (sdF 100 (-(x1 * x3 + x2 * x4)) (x3 * x3 + x4 * x4))), .long y3, .long y4, .ref mL, .ref mB, .int od, .int spt, .int wa, .long hs]))] H := hP
    have hD : va_D A [(oM, .inr (5, [.ref mN, .ref mA, .ref mP, .int (nI ks), .ref mR, .ref mT, .int (nI ln), .long x1, .long x2, .long x3, .long x4, .long ((-(x1 * x3 + x2 * x4)) / (sdF 100 (-(x1 * x3 + x2 * x4)) (x3 * x3 + x4 * x4))), .long (((x3 * x3) + (x4 * x4)) / (sdF 100 (-(x1 * x3 + x2 * x4)) (x3 * x3 + x4 * x4))), .long y3, .long y4, .ref mL, .ref mB, .int od, .int spt, .int wa, .long hs]))] := hD
    refine lv_lload_n hx hb dX5_findsClosest_104 rfl (lv_at hl 2 rfl) ?_
    refine lv_lload_n hx hb dX5_findsClosest_105 rfl (lv_at hl 1 rfl) ?_
    refine lv_lload_n hx hb dX5_findsClosest_106 rfl (lv_at hl 1 rfl) ?_
    refine lv_lmul hx hb dX5_findsClosest_107 ?_
    refine z_SL (n := 2) (wn := (fun u : Unit => [(oM, .inr (5, [.ref mN, .ref mA, .ref mP, .int (nI ks), .ref mR, .ref mT, .int (nI ln), .long x1, .long x2, .long x3, .long x4, .long ((-(x1 * x3 + x2 * x4)) / (sdF 100 (-(x1 * x3 + x2 * x4)) (x3 * x3 + x4 * x4))), .long (((x3 * x3) + (x4 * x4)) / (sdF 100 (-(x1 * x3 + x2 * x4)) (x3 * x3 + x4 * x4))), .long y3, .long y4, .ref mL, .ref mB, .int od, .int spt, .int wa, .long hs]))])) (wr := [(oM, .inr (5, [.ref mN, .ref mA, .ref mP, .int (nI ks), .ref mR, .ref mT, .int (nI ln), .long x1, .long x2, .long x3, .long x4, .long ((-(x1 * x3 + x2 * x4)) / (sdF 100 (-(x1 * x3 + x2 * x4)) (x3 * x3 + x4 * x4))), .long (((x3 * x3) + (x4 * x4)) / (sdF 100 (-(x1 * x3 + x2 * x4)) (x3 * x3 + x4 * x4))), .long y3, .long y4, .ref mL, .ref mB, .int od, .int spt, .int wa, .long hs]))]) (As := [.long ((x3 * x3) + (x4 * x4)), .long (((x1 * x4) - (x2 * x3)) * ((x1 * x4) - (x2 * x3)))]) (rest := []) ⟨hx, hb, hml, hown, hts⟩ hK hP hD hS hA hT (kX5_common l D cI cB tE tN ((x3 * x3) + (x4 * x4)) (((x1 * x4) - (x2 * x3)) * ((x1 * x4) - (x2 * x3))) _ (hfr.2.2.2.2.2.1) (hfr.2.2.2.2.2.2.2)) gX5_findsClosest_X5_common rfl rfl rfl (by decide +kernel) ⟨Nat.le_of_ble_eq_true rfl, Nat.le_of_ble_eq_true rfl⟩ [] [0] [0] (by decide) rfl rfl (by decide) (by decide) (by decide) (fun u => rfl) rfl hl.1 rfl (Nat.le_of_ble_eq_true rfl) dX5_findsClosest_108 ⟨Nat.le_of_ble_eq_true rfl, Nat.le_of_ble_eq_true rfl⟩ (fun r_10 u H locs hw_11 hP hD hS => ?_)
    try dsimp only at hw_11
    have hP : va_P D vwCl [(oM, .inr (5, [.ref mN, .ref mA, .ref mP, .int (nI ks), .ref mR, .ref mT, .int (nI ln), .long x1, .long x2, .long x3, .long x4, .long ((-(x1 * x3 + x2 * x4)) / (sdF 100 (-(x1 * x3 + x2 * x4)) (x3 * x3 + x4 * x4))), .long (((x3 * x3) + (x4 * x4)) / (sdF 100 (-(x1 * x3 + x2 * x4)) (x3 * x3 + x4 * x4))), .long y3, .long y4, .ref mL, .ref mB, .int od, .int spt, .int wa, .long hs]))] H := hP
    have hD : va_D A [(oM, .inr (5, [.ref mN, .ref mA, .ref mP, .int (nI ks), .ref mR, .ref mT, .int (nI ln), .long x1, .long x2, .long x3, .long x4, .long ((-(x1 * x3 + x2 * x4)) / (sdF 100 (-(x1 * x3 + x2 * x4)) (x3 * x3 + x4 * x4))), .long (((x3 * x3) + (x4 * x4)) / (sdF 100 (-(x1 * x3 + x2 * x4)) (x3 * x3 + x4 * x4))), .long y3, .long y4, .ref mL, .ref mB, .int od, .int spt, .int wa, .long hs]))] := hD
    have hg : r_10 = sdF 100 ((x1 * x4 - x2 * x3) * (x1 * x4 - x2 * x3)) (x3 * x3 + x4 * x4) := hfr.2.2.1 _ hw_11
    subst r_10
    refine lv_lstore (lv' := [(5, .long (sdF 100 ((x1 * x4 - x2 * x3) * (x1 * x4 - x2 * x3)) (x3 * x3 + x4 * x4))), (3, .long ((x1 * x4) - (x2 * x3))), (1, .long ((x3 * x3) + (x4 * x4))), (0, .ref oM)]) hx hb dX5_findsClosest_111 hl (by decide) rfl (fun ls hl => ?_)
    refine lv_aload_n hx hb dX5_findsClosest_113 rfl (lv_at hl 3 rfl) ?_
    refine lv_lload_n hx hb dX5_findsClosest_114 rfl (lv_at hl 1 rfl) ?_
    refine lv_lload_n hx hb dX5_findsClosest_115 rfl (lv_at hl 1 rfl) ?_
    refine lv_lmul hx hb dX5_findsClosest_116 ?_
    refine lv_lload hx hb dX5_findsClosest_117 (lv_at hl 0 rfl) ?_
    refine lv_ldiv hx hb dX5_findsClosest_119 (hfr.2.2.2.2.1) ?_
    refine va_put (D := D) (ci := 5) (v := .long ((((x1 * x4) - (x2 * x3)) * ((x1 * x4) - (x2 * x3))) / (sdF 100 ((x1 * x4 - x2 * x3) * (x1 * x4 - x2 * x3)) (x3 * x3 + x4 * x4)))) (ty := .long) (C := RX5) (T := TX5) (N := 21) hx hb hts N5 tyX5 tyX5_ok nmX5 hown hK hP hD hS 0 rfl rfl 13 (by decide) L90 (fun _ h9 => h9) rfl (by decide +kernel) rfl rfl (Nat.le_of_ble_eq_true rfl) dX5_findsClosest_120 (fun H locs hP hD hS => ?_)
    have hP : va_P D vwCl [(oM, .inr (5, [.ref mN, .ref mA, .ref mP, .int (nI ks), .ref mR, .ref mT, .int (nI ln), .long x1, .long x2, .long x3, .long x4, .long ((-(x1 * x3 + x2 * x4)) / (sdF 100 (-(x1 * x3 + x2 * x4)) (x3 * x3 + x4 * x4))), .long (((x3 * x3) + (x4 * x4)) / (sdF 100 (-(x1 * x3 + x2 * x4)) (x3 * x3 + x4 * x4))), .long ((((x1 * x4) - (x2 * x3)) * ((x1 * x4) - (x2 * x3))) / (sdF 100 ((x1 * x4 - x2 * x3) * (x1 * x4 - x2 * x3)) (x3 * x3 + x4 * x4))), .long y4, .ref mL, .ref mB, .int od, .int spt, .int wa, .long hs]))] H := hP
    have hD : va_D A [(oM, .inr (5, [.ref mN, .ref mA, .ref mP, .int (nI ks), .ref mR, .ref mT, .int (nI ln), .long x1, .long x2, .long x3, .long x4, .long ((-(x1 * x3 + x2 * x4)) / (sdF 100 (-(x1 * x3 + x2 * x4)) (x3 * x3 + x4 * x4))), .long (((x3 * x3) + (x4 * x4)) / (sdF 100 (-(x1 * x3 + x2 * x4)) (x3 * x3 + x4 * x4))), .long ((((x1 * x4) - (x2 * x3)) * ((x1 * x4) - (x2 * x3))) / (sdF 100 ((x1 * x4 - x2 * x3) * (x1 * x4 - x2 * x3)) (x3 * x3 + x4 * x4))), .long y4, .ref mL, .ref mB, .int od, .int spt, .int wa, .long hs]))] := hD
    refine lv_aload_n hx hb dX5_findsClosest_123 rfl (lv_at hl 3 rfl) ?_
    refine lv_lload_n hx hb dX5_findsClosest_124 rfl (lv_at hl 2 rfl) ?_
    refine lv_lload hx hb dX5_findsClosest_125 (lv_at hl 0 rfl) ?_
    refine lv_ldiv hx hb dX5_findsClosest_127 (hfr.2.2.2.2.1) ?_
    refine va_put (D := D) (ci := 5) (v := .long (((x3 * x3) + (x4 * x4)) / (sdF 100 ((x1 * x4 - x2 * x3) * (x1 * x4 - x2 * x3)) (x3 * x3 + x4 * x4)))) (ty := .long) (C := RX5) (T := TX5) (N := 21) hx hb hts N5 tyX5 tyX5_ok nmX5 hown hK hP hD hS 0 rfl rfl 14 (by decide) L93 (fun _ h9 => h9) rfl (by decide +kernel) rfl rfl (Nat.le_of_ble_eq_true rfl) dX5_findsClosest_128 (fun H locs hP hD hS => ?_)
    have hP : va_P D vwCl [(oM, .inr (5, [.ref mN, .ref mA, .ref mP, .int (nI ks), .ref mR, .ref mT, .int (nI ln), .long x1, .long x2, .long x3, .long x4, .long ((-(x1 * x3 + x2 * x4)) / (sdF 100 (-(x1 * x3 + x2 * x4)) (x3 * x3 + x4 * x4))), .long (((x3 * x3) + (x4 * x4)) / (sdF 100 (-(x1 * x3 + x2 * x4)) (x3 * x3 + x4 * x4))), .long ((((x1 * x4) - (x2 * x3)) * ((x1 * x4) - (x2 * x3))) / (sdF 100 ((x1 * x4 - x2 * x3) * (x1 * x4 - x2 * x3)) (x3 * x3 + x4 * x4))), .long (((x3 * x3) + (x4 * x4)) / (sdF 100 ((x1 * x4 - x2 * x3) * (x1 * x4 - x2 * x3)) (x3 * x3 + x4 * x4))), .ref mL, .ref mB, .int od, .int spt, .int wa, .long hs]))] H := hP
    have hD : va_D A [(oM, .inr (5, [.ref mN, .ref mA, .ref mP, .int (nI ks), .ref mR, .ref mT, .int (nI ln), .long x1, .long x2, .long x3, .long x4, .long ((-(x1 * x3 + x2 * x4)) / (sdF 100 (-(x1 * x3 + x2 * x4)) (x3 * x3 + x4 * x4))), .long (((x3 * x3) + (x4 * x4)) / (sdF 100 (-(x1 * x3 + x2 * x4)) (x3 * x3 + x4 * x4))), .long ((((x1 * x4) - (x2 * x3)) * ((x1 * x4) - (x2 * x3))) / (sdF 100 ((x1 * x4 - x2 * x3) * (x1 * x4 - x2 * x3)) (x3 * x3 + x4 * x4))), .long (((x3 * x3) + (x4 * x4)) / (sdF 100 ((x1 * x4 - x2 * x3) * (x1 * x4 - x2 * x3)) (x3 * x3 + x4 * x4))), .ref mL, .ref mB, .int od, .int spt, .int wa, .long hs]))] := hD
    exact hQ ((-(x1 * x3 + x2 * x4)) / (sdF 100 (-(x1 * x3 + x2 * x4)) (x3 * x3 + x4 * x4)), ((x3 * x3) + (x4 * x4)) / (sdF 100 (-(x1 * x3 + x2 * x4)) (x3 * x3 + x4 * x4)), (((x1 * x4) - (x2 * x3)) * ((x1 * x4) - (x2 * x3))) / (sdF 100 ((x1 * x4 - x2 * x3) * (x1 * x4 - x2 * x3)) (x3 * x3 + x4 * x4)), ((x3 * x3) + (x4 * x4)) / (sdF 100 ((x1 * x4 - x2 * x3) * (x1 * x4 - x2 * x3)) (x3 * x3 + x4 * x4))) _ _ _ _ (hfr.1) hP hD hS dX5_findsClosest_131
  · skip
    have c_3 := mt (lg_cmp_lt _ _).mpr c_3
    refine lv_aload_n hx hb dX5_findsClosest_9 rfl (lv_at hl 0 rfl) ?_
    refine lv_lconst (v := 0) hx hb dX5_findsClosest_10 (by decide) ?_
    refine va_put (D := D) (ci := 5) (v := .long 0) (ty := .long) (C := RX5) (T := TX5) (N := 21) hx hb hts N5 tyX5 tyX5_ok nmX5 hown hK hP hD hS 0 rfl rfl 11 (by decide) L81 (fun _ h9 => h9) rfl (by decide +kernel) rfl rfl (Nat.le_of_ble_eq_true rfl) dX5_findsClosest_11 (fun H locs hP hD hS => ?_)
    have hP : va_P D vwCl [(oM, .inr (5, [.ref mN, .ref mA, .ref mP, .int (nI ks), .ref mR, .ref mT, .int (nI ln), .long x1, .long x2, .long x3, .long x4, .long 0, .long y2, .long y3, .long y4, .ref mL, .ref mB, .int od, .int spt, .int wa, .long hs]))] H := hP
    have hD : va_D A [(oM, .inr (5, [.ref mN, .ref mA, .ref mP, .int (nI ks), .ref mR, .ref mT, .int (nI ln), .long x1, .long x2, .long x3, .long x4, .long 0, .long y2, .long y3, .long y4, .ref mL, .ref mB, .int od, .int spt, .int wa, .long hs]))] := hD
    refine lv_aload_n hx hb dX5_findsClosest_14 rfl (lv_at hl 0 rfl) ?_
    refine lv_lconst (v := 1) hx hb dX5_findsClosest_15 (by decide) ?_
    refine va_put (D := D) (ci := 5) (v := .long 1) (ty := .long) (C := RX5) (T := TX5) (N := 21) hx hb hts N5 tyX5 tyX5_ok nmX5 hown hK hP hD hS 0 rfl rfl 12 (by decide) L84 (fun _ h9 => h9) rfl (by decide +kernel) rfl rfl (Nat.le_of_ble_eq_true rfl) dX5_findsClosest_16 (fun H locs hP hD hS => ?_)
    have hP : va_P D vwCl [(oM, .inr (5, [.ref mN, .ref mA, .ref mP, .int (nI ks), .ref mR, .ref mT, .int (nI ln), .long x1, .long x2, .long x3, .long x4, .long 0, .long 1, .long y3, .long y4, .ref mL, .ref mB, .int od, .int spt, .int wa, .long hs]))] H := hP
    have hD : va_D A [(oM, .inr (5, [.ref mN, .ref mA, .ref mP, .int (nI ks), .ref mR, .ref mT, .int (nI ln), .long x1, .long x2, .long x3, .long x4, .long 0, .long 1, .long y3, .long y4, .ref mL, .ref mB, .int od, .int spt, .int wa, .long hs]))] := hD
    refine lv_aload_n hx hb dX5_findsClosest_19 rfl (lv_at hl 0 rfl) ?_
    refine lv_aload_n hx hb dX5_findsClosest_20 rfl (lv_at hl 0 rfl) ?_
    refine z_VL (n := 0) (wn := (fun u : Unit => [(oM, .inr (5, [.ref mN, .ref mA, .ref mP, .int (nI ks), .ref mR, .ref mT, .int (nI ln), .long x1, .long x2, .long x3, .long x4, .long 0, .long 1, .long y3, .long y4, .ref mL, .ref mB, .int od, .int spt, .int wa, .long hs]))])) (wr := []) (As := []) (rest := [.ref oM]) ⟨hx, hb, hml, hown, hts⟩ hK hP hD hS hA hT (kX5_squareAway l D cI cB tE tN oM mN mA mP mR mT mL mB ks ln x1 x2 x3 x4 0 1 y3 y4 od spt wa hs _ ) gX5_findsClosest_X5_squareAway rfl rfl rfl (by decide +kernel) ⟨Nat.le_of_ble_eq_true rfl, Nat.le_of_ble_eq_true rfl⟩ [0] [] [0] (by decide) rfl rfl (by decide) (by decide) (by decide) (fun u => rfl) 0 5 rfl rfl rfl rfl hl.1 rfl (Nat.le_of_ble_eq_true rfl) dX5_findsClosest_21 ⟨Nat.le_of_ble_eq_true rfl, Nat.le_of_ble_eq_true rfl⟩ (fun r_12 u H locs hw_13 hP hD hS => ?_)
    try dsimp only at hw_13
    have hP : va_P D vwCl [(oM, .inr (5, [.ref mN, .ref mA, .ref mP, .int (nI ks), .ref mR, .ref mT, .int (nI ln), .long x1, .long x2, .long x3, .long x4, .long 0, .long 1, .long y3, .long y4, .ref mL, .ref mB, .int od, .int spt, .int wa, .long hs]))] H := hP
    have hD : va_D A [(oM, .inr (5, [.ref mN, .ref mA, .ref mP, .int (nI ks), .ref mR, .ref mT, .int (nI ln), .long x1, .long x2, .long x3, .long x4, .long 0, .long 1, .long y3, .long y4, .ref mL, .ref mB, .int od, .int spt, .int wa, .long hs]))] := hD
    subst r_12
    refine va_put (D := D) (ci := 5) (v := .long (x1 * x1 + x2 * x2)) (ty := .long) (C := RX5) (T := TX5) (N := 21) hx hb hts N5 tyX5 tyX5_ok nmX5 hown hK hP hD hS 0 rfl rfl 13 (by decide) L90 (fun _ h9 => h9) rfl (by decide +kernel) rfl rfl (Nat.le_of_ble_eq_true rfl) dX5_findsClosest_24 (fun H locs hP hD hS => ?_)
    have hP : va_P D vwCl [(oM, .inr (5, [.ref mN, .ref mA, .ref mP, .int (nI ks), .ref mR, .ref mT, .int (nI ln), .long x1, .long x2, .long x3, .long x4, .long 0, .long 1, .long (x1 * x1 + x2 * x2), .long y4, .ref mL, .ref mB, .int od, .int spt, .int wa, .long hs]))] H := hP
    have hD : va_D A [(oM, .inr (5, [.ref mN, .ref mA, .ref mP, .int (nI ks), .ref mR, .ref mT, .int (nI ln), .long x1, .long x2, .long x3, .long x4, .long 0, .long 1, .long (x1 * x1 + x2 * x2), .long y4, .ref mL, .ref mB, .int od, .int spt, .int wa, .long hs]))] := hD
    refine lv_aload_n hx hb dX5_findsClosest_27 rfl (lv_at hl 0 rfl) ?_
    refine lv_lconst (v := 1) hx hb dX5_findsClosest_28 (by decide) ?_
    refine va_put (D := D) (ci := 5) (v := .long 1) (ty := .long) (C := RX5) (T := TX5) (N := 21) hx hb hts N5 tyX5 tyX5_ok nmX5 hown hK hP hD hS 0 rfl rfl 14 (by decide) L93 (fun _ h9 => h9) rfl (by decide +kernel) rfl rfl (Nat.le_of_ble_eq_true rfl) dX5_findsClosest_29 (fun H locs hP hD hS => ?_)
    have hP : va_P D vwCl [(oM, .inr (5, [.ref mN, .ref mA, .ref mP, .int (nI ks), .ref mR, .ref mT, .int (nI ln), .long x1, .long x2, .long x3, .long x4, .long 0, .long 1, .long (x1 * x1 + x2 * x2), .long 1, .ref mL, .ref mB, .int od, .int spt, .int wa, .long hs]))] H := hP
    have hD : va_D A [(oM, .inr (5, [.ref mN, .ref mA, .ref mP, .int (nI ks), .ref mR, .ref mT, .int (nI ln), .long x1, .long x2, .long x3, .long x4, .long 0, .long 1, .long (x1 * x1 + x2 * x2), .long 1, .ref mL, .ref mB, .int od, .int spt, .int wa, .long hs]))] := hD
    exact hQ (0, 1, x1 * x1 + x2 * x2, 1) _ _ _ _ (fr_pos c_3) hP hD hS dX5_findsClosest_32

set_option maxHeartbeats 4000000 in
set_option maxRecDepth 100000 in
theorem kX5_isRisk (l : Launch) (D : va_G) (cI cB : ClassId) (tE tN : Nat) (oM : Nat) (mN : Nat) (mA : Nat) (mP : Nat) (mR : Nat) (mT : Nat) (mL : Nat) (mB : Nat) (ks : Nat) (ln : Nat) (x1 : Int64) (x2 : Int64) (x3 : Int64) (x4 : Int64) (y1 : Int64) (y2 : Int64) (y3 : Int64) (y4 : Int64) (od : Int32) (spt : Int32) (wa : Int32) (hs : Int64) (qn : Nat → Int32) (f : Nat → Int32) (N : Nat) (sz : Nat) (hR : Rg N f qn) (hI : Iv f) (hNN : nN f = N) (hB : Bd x1 x2 x3 x4) : zI l yX5_isRisk wsX5_isRisk ({ frames := 2, cells := 0, slots := 0, locals := 55 }) D cI cB tE tN [.ref oM] [(oM, .inr (5, [.ref mN, .ref mA, .ref mP, .int (nI ks), .ref mR, .ref mT, .int (nI ln), .long x1, .long x2, .long x3, .long x4, .long y1, .long y2, .long y3, .long y4, .ref mL, .ref mB, .int od, .int spt, .int wa, .long hs])), (mN, .inl (cI, 39, .inl qn))] sz (fun u : Int64 × Int64 × Int64 × Int64 => [(oM, .inr (5, [.ref mN, .ref mA, .ref mP, .int (nI ks), .ref mR, .ref mT, .int (nI ln), .long x1, .long x2, .long x3, .long x4, .long u.1, .long u.2.1, .long u.2.2.1, .long u.2.2.2, .ref mL, .ref mB, .int od, .int spt, .int wa, .long hs])), (mN, .inl (cI, 39, .inl qn))]) (fun (r : Int32) (u : Int64 × Int64 × Int64 × Int64) => r = b2i (cRk (mS x1 x2 x3 x4).1 (mS x1 x2 x3 x4).2.1 (mS x1 x2 x3 x4).2.2.1 (mS x1 x2 x3 x4).2.2.2 (f 36).toInt64 (f 37).toInt64) ∧ ((u.1, u.2.1, u.2.2.1, u.2.2.2) = mFr x1 x2 x3 x4)) 0 0 := by
  refine zI_mk (cc := cX5_isRisk) (maxL := 3) (rt := .boolean) (by decide) rfl (Nat.le_of_ble_eq_true rfl) ?_
  intro p e s m below meth c A Q ls S0 hname hA hK hP hD hT hS hQ hl
  obtain ⟨hx, hb, hml, hown, hts⟩ := id S0
  have hl : lv_has ls 3 [(0, .ref oM)] := hl
  have L7 : (Cond.fieldLink RX5 7 "PastAndClearModel" "now" "[I").before ([.ref oM] : List Value).toArray s = true := hts (.fieldLink RX5 7 "PastAndClearModel" "now" "[I") (by decide +kernel)
  have N5 : ∀ w ∈ u_ws RX5 TX5 21, w ∈ wsX5_isRisk := by decide +kernel
  have L90 : (Cond.fieldLink RX5 90 "PastAndClearModel" "farAbove" "J").before ([.ref oM] : List Value).toArray s = true := hts (.fieldLink RX5 90 "PastAndClearModel" "farAbove" "J") (by decide +kernel)
  have L93 : (Cond.fieldLink RX5 93 "PastAndClearModel" "farBelow" "J").before ([.ref oM] : List Value).toArray s = true := hts (.fieldLink RX5 93 "PastAndClearModel" "farBelow" "J") (by decide +kernel)
  have L81 : (Cond.fieldLink RX5 81 "PastAndClearModel" "timeAbove" "J").before ([.ref oM] : List Value).toArray s = true := hts (.fieldLink RX5 81 "PastAndClearModel" "timeAbove" "J") (by decide +kernel)
  have L84 : (Cond.fieldLink RX5 84 "PastAndClearModel" "timeBelow" "J").before ([.ref oM] : List Value).toArray s = true := hts (.fieldLink RX5 84 "PastAndClearModel" "timeBelow" "J") (by decide +kernel)
  refine lv_aload_n hx hb dX5_isRisk_0 rfl (lv_at hl 0 rfl) ?_
  refine z_VV (n := 0) (wn := (fun u : Int64 × Int64 × Int64 × Int64 => [(oM, .inr (5, [.ref mN, .ref mA, .ref mP, .int (nI ks), .ref mR, .ref mT, .int (nI ln), .long x1, .long x2, .long x3, .long x4, .long u.1, .long u.2.1, .long u.2.2.1, .long u.2.2.2, .ref mL, .ref mB, .int od, .int spt, .int wa, .long hs])), (mN, .inl (cI, 39, .inl qn))])) (wr := [(mN, .inl (cI, 39, .inl qn))]) (As := []) (rest := []) ⟨hx, hb, hml, hown, hts⟩ hK hP hD hS hA hT (kX5_findsClosest l D cI cB tE tN oM mN mA mP mR mT mL mB ks ln x1 x2 x3 x4 y1 y2 y3 y4 od spt wa hs _ (by omega)) gX5_isRisk_X5_findsClosest rfl rfl rfl (by decide +kernel) ⟨Nat.le_of_ble_eq_true rfl, Nat.le_of_ble_eq_true rfl⟩ [0] [1] [1, 0] (by decide) rfl rfl (by decide) (by decide) (by decide) (fun u => rfl) 0 5 rfl rfl rfl rfl hl.1 rfl (Nat.le_of_ble_eq_true rfl) dX5_isRisk_1 ⟨Nat.le_of_ble_eq_true rfl, Nat.le_of_ble_eq_true rfl⟩ (fun u H locs hw_6 hP hD hS => ?_)
  obtain ⟨q1_1, q2_2, q3_3, q4_4⟩ := u
  try dsimp only at hw_6
  have hP : va_P D vwCl [(oM, .inr (5, [.ref mN, .ref mA, .ref mP, .int (nI ks), .ref mR, .ref mT, .int (nI ln), .long x1, .long x2, .long x3, .long x4, .long q1_1, .long q2_2, .long q3_3, .long q4_4, .ref mL, .ref mB, .int od, .int spt, .int wa, .long hs])), (mN, .inl (cI, 39, .inl qn))] H := hP
  have hD : va_D A [(oM, .inr (5, [.ref mN, .ref mA, .ref mP, .int (nI ks), .ref mR, .ref mT, .int (nI ln), .long x1, .long x2, .long x3, .long x4, .long q1_1, .long q2_2, .long q3_3, .long q4_4, .ref mL, .ref mB, .int od, .int spt, .int wa, .long hs])), (mN, .inl (cI, 39, .inl qn))] := hD
  have hm := hw_6
  refine lv_aload_n hx hb dX5_isRisk_4 rfl (lv_at hl 0 rfl) ?_
  refine va_get (D := D) (ci := 5) (v := .ref mN) (C := RX5) (T := TX5) (N := 21) hx hb hts N5 hown hK hP 0 rfl rfl 0 (by decide) L7 (fun _ h9 => h9) rfl dX5_isRisk_5 ?_
  refine lv_iconst (v := 1) hx hb dX5_isRisk_8 (by decide) ?_
  refine z_ild (v := f 36) (j := 1) hx hb hK hP 1 rfl rfl (by omega) (by decide) (hR.2.1) dX5_isRisk_9 ?_
  refine lv_i2l (v := (f 36).toInt64) hx hb dX5_isRisk_10 rfl ?_
  refine lv_lstore_n (lv' := [(1, .long ((f 36).toInt64)), (0, .ref oM)]) hx hb dX5_isRisk_11 rfl hl (by decide) rfl (fun ls hl => ?_)
  refine lv_aload_n hx hb dX5_isRisk_12 rfl (lv_at hl 1 rfl) ?_
  refine va_get (D := D) (ci := 5) (v := .long q3_3) (C := RX5) (T := TX5) (N := 21) hx hb hts N5 hown hK hP 0 rfl rfl 13 (by decide) L90 (fun _ h9 => h9) rfl dX5_isRisk_13 ?_
  refine lv_lload_n hx hb dX5_isRisk_16 rfl (lv_at hl 0 rfl) ?_
  refine lv_lload_n hx hb dX5_isRisk_17 rfl (lv_at hl 0 rfl) ?_
  refine lv_lmul hx hb dX5_isRisk_18 ?_
  refine lv_aload_n hx hb dX5_isRisk_19 rfl (lv_at hl 1 rfl) ?_
  refine va_get (D := D) (ci := 5) (v := .long q4_4) (C := RX5) (T := TX5) (N := 21) hx hb hts N5 hown hK hP 0 rfl rfl 14 (by decide) L93 (fun _ h9 => h9) rfl dX5_isRisk_20 ?_
  refine lv_lmul hx hb dX5_isRisk_23 ?_
  refine W.lcmp hx hb dX5_isRisk_24 ?_
  refine lv_if_ge (tgt := 52) hx hb dX5_isRisk_25 (by decide) (fun c_7 => ?_) (fun c_7 => ?_)
  · skip
    have c_7 := (lg_cmp_ge _ _).mp c_7
    refine lv_iconst (v := 0) hx hb dX5_isRisk_52 (by decide) ?_
    exact hQ 0 (q1_1, q2_2, q3_3, q4_4) _ _ _ _ (rfl) (⟨by rw [← risk_m hB hI hm]; simp [b2i, cRk, c_7], hm⟩) hP hD hS dX5_isRisk_53
  · skip
    have c_7 := mt (lg_cmp_ge _ _).mpr c_7
    refine lv_aload_n hx hb dX5_isRisk_28 rfl (lv_at hl 1 rfl) ?_
    refine va_get (D := D) (ci := 5) (v := .long q1_1) (C := RX5) (T := TX5) (N := 21) hx hb hts N5 hown hK hP 0 rfl rfl 11 (by decide) L81 (fun _ h9 => h9) rfl dX5_isRisk_29 ?_
    refine lv_aload_n hx hb dX5_isRisk_32 rfl (lv_at hl 1 rfl) ?_
    refine va_get (D := D) (ci := 5) (v := .ref mN) (C := RX5) (T := TX5) (N := 21) hx hb hts N5 hown hK hP 0 rfl rfl 0 (by decide) L7 (fun _ h9 => h9) rfl dX5_isRisk_33 ?_
    refine lv_iconst (v := 2) hx hb dX5_isRisk_36 (by decide) ?_
    refine z_ild (v := f 37) (j := 2) hx hb hK hP 1 rfl rfl (by omega) (by decide) (hR.2.2.1) dX5_isRisk_37 ?_
    refine lv_i2l (v := (f 37).toInt64) hx hb dX5_isRisk_38 rfl ?_
    refine lv_aload_n hx hb dX5_isRisk_39 rfl (lv_at hl 1 rfl) ?_
    refine va_get (D := D) (ci := 5) (v := .long q2_2) (C := RX5) (T := TX5) (N := 21) hx hb hts N5 hown hK hP 0 rfl rfl 12 (by decide) L84 (fun _ h9 => h9) rfl dX5_isRisk_40 ?_
    refine lv_lmul hx hb dX5_isRisk_43 ?_
    refine W.lcmp hx hb dX5_isRisk_44 ?_
    refine lv_if_gt (tgt := 52) hx hb dX5_isRisk_45 (by decide) (fun c_8 => ?_) (fun c_8 => ?_)
    · skip
      have c_8 := (lg_cmp_gt _ _).mp c_8
      refine lv_iconst (v := 0) hx hb dX5_isRisk_52 (by decide) ?_
      exact hQ 0 (q1_1, q2_2, q3_3, q4_4) _ _ _ _ (rfl) (⟨by rw [← risk_m hB hI hm]; simp [b2i, cRk, c_7, c_8], hm⟩) hP hD hS dX5_isRisk_53
    · skip
      have c_8 := mt (lg_cmp_gt _ _).mpr c_8
      refine lv_iconst (v := 1) hx hb dX5_isRisk_48 (by decide) ?_
      refine lv_goto (tgt := 53) hx hb dX5_isRisk_49 (by decide) ?_
      exact hQ 1 (q1_1, q2_2, q3_3, q4_4) _ _ _ _ (rfl) (⟨by rw [← risk_m hB hI hm]; simp [b2i, cRk, c_7, c_8], hm⟩) hP hD hS dX5_isRisk_53

set_option maxHeartbeats 4000000 in
set_option maxRecDepth 100000 in
theorem kX5_haveRisk (l : Launch) (D : va_G) (cI cB : ClassId) (tE tN : Nat) (oM : Nat) (mN : Nat) (mA : Nat) (mP : Nat) (mR : Nat) (mT : Nat) (mL : Nat) (mB : Nat) (ks : Nat) (ln : Nat) (x1 : Int64) (x2 : Int64) (x3 : Int64) (x4 : Int64) (y1 : Int64) (y2 : Int64) (y3 : Int64) (y4 : Int64) (od : Int32) (spt : Int32) (wa : Int32) (hs : Int64) (qn : Nat → Int32) (f : Nat → Int32) (N : Nat) (ia : Nat) (ib : Nat) (sz : Nat) (hR : Rg N f qn) (hI : Iv f) (hNN : nN f = N) (ha : ia ≤ N) (hb6 : ib ≤ N) : zI l yX5_haveRisk wsX5_haveRisk ({ frames := 4, cells := 0, slots := 0, locals := 89 }) D cI cB tE tN [.ref oM, .int (nI ia), .int (nI ib)] [(oM, .inr (5, [.ref mN, .ref mA, .ref mP, .int (nI ks), .ref mR, .ref mT, .int (nI ln), .long x1, .long x2, .long x3, .long x4, .long y1, .long y2, .long y3, .long y4, .ref mL, .ref mB, .int od, .int spt, .int wa, .long hs])), (mN, .inl (cI, 39, .inl qn))] sz (fun u : Int64 × Int64 × Int64 × Int64 => [(oM, .inr (5, [.ref mN, .ref mA, .ref mP, .int (nI ks), .ref mR, .ref mT, .int (nI ln), .long (cRx f ia ib), .long (cRy f ia ib), .long (cVx f (f (5 * ia + 2)) (f (5 * ia + 3)) ib), .long (cVy f (f (5 * ia + 2)) (f (5 * ia + 3)) ib), .long u.1, .long u.2.1, .long u.2.2.1, .long u.2.2.2, .ref mL, .ref mB, .int od, .int spt, .int wa, .long hs])), (mN, .inl (cI, 39, .inl qn))]) (fun (r : Int32) (u : Int64 × Int64 × Int64 × Int64) => r = b2i (cHR f ia ib) ∧ ((u.1, u.2.1, u.2.2.1, u.2.2.2) = rdF (cMh f ia ib))) 0 0 := by
  refine zI_mk (cc := cX5_haveRisk) (maxL := 3) (rt := .boolean) (by decide) rfl (Nat.le_of_ble_eq_true rfl) ?_
  intro p e s m below meth c A Q ls S0 hname hA hK hP hD hT hS hQ hl
  obtain ⟨hx, hb, hml, hown, hts⟩ := id S0
  have hl : lv_has ls 3 [(0, .ref oM), (1, .int (nI ia)), (2, .int (nI ib))] := hl
  refine lv_aload_n hx hb dX5_haveRisk_0 rfl (lv_at hl 0 rfl) ?_
  refine lv_iload_n hx hb dX5_haveRisk_1 rfl (lv_at hl 1 rfl) ?_
  refine lv_iload_n hx hb dX5_haveRisk_2 rfl (lv_at hl 2 rfl) ?_
  refine z_VV (n := 2) (wn := (fun u : Unit => [(oM, .inr (5, [.ref mN, .ref mA, .ref mP, .int (nI ks), .ref mR, .ref mT, .int (nI ln), .long (cRx f ia ib), .long (cRy f ia ib), .long (cVx f (f (5 * ia + 2)) (f (5 * ia + 3)) ib), .long (cVy f (f (5 * ia + 2)) (f (5 * ia + 3)) ib), .long y1, .long y2, .long y3, .long y4, .ref mL, .ref mB, .int od, .int spt, .int wa, .long hs])), (mN, .inl (cI, 39, .inl qn))])) (wr := []) (As := [.int (nI ia), .int (nI ib)]) (rest := []) ⟨hx, hb, hml, hown, hts⟩ hK hP hD hS hA hT (kX5_laysAsTheyAre l D cI cB tE tN oM mN mA mP mR mT mL mB ks ln x1 x2 x3 x4 y1 y2 y3 y4 od spt wa hs qn f N ia ib _ (hR) (hI) (hNN) (by omega) (by omega)) gX5_haveRisk_X5_laysAsTheyAre rfl rfl rfl (by decide +kernel) ⟨Nat.le_of_ble_eq_true rfl, Nat.le_of_ble_eq_true rfl⟩ [0, 1] [] [0, 1] (by decide) rfl rfl (by decide) (by decide) (by decide) (fun u => rfl) 0 5 rfl rfl rfl rfl hl.1 rfl (Nat.le_of_ble_eq_true rfl) dX5_haveRisk_3 ⟨Nat.le_of_ble_eq_true rfl, Nat.le_of_ble_eq_true rfl⟩ (fun u H locs hw_2 hP hD hS => ?_)
  try dsimp only at hw_2
  have hP : va_P D vwCl [(oM, .inr (5, [.ref mN, .ref mA, .ref mP, .int (nI ks), .ref mR, .ref mT, .int (nI ln), .long (cRx f ia ib), .long (cRy f ia ib), .long (cVx f (f (5 * ia + 2)) (f (5 * ia + 3)) ib), .long (cVy f (f (5 * ia + 2)) (f (5 * ia + 3)) ib), .long y1, .long y2, .long y3, .long y4, .ref mL, .ref mB, .int od, .int spt, .int wa, .long hs])), (mN, .inl (cI, 39, .inl qn))] H := hP
  have hD : va_D A [(oM, .inr (5, [.ref mN, .ref mA, .ref mP, .int (nI ks), .ref mR, .ref mT, .int (nI ln), .long (cRx f ia ib), .long (cRy f ia ib), .long (cVx f (f (5 * ia + 2)) (f (5 * ia + 3)) ib), .long (cVy f (f (5 * ia + 2)) (f (5 * ia + 3)) ib), .long y1, .long y2, .long y3, .long y4, .ref mL, .ref mB, .int od, .int spt, .int wa, .long hs])), (mN, .inl (cI, 39, .inl qn))] := hD
  refine lv_aload_n hx hb dX5_haveRisk_6 rfl (lv_at hl 0 rfl) ?_
  refine z_VI (n := 0) (wn := (fun u : Int64 × Int64 × Int64 × Int64 => [(oM, .inr (5, [.ref mN, .ref mA, .ref mP, .int (nI ks), .ref mR, .ref mT, .int (nI ln), .long (cRx f ia ib), .long (cRy f ia ib), .long (cVx f (f (5 * ia + 2)) (f (5 * ia + 3)) ib), .long (cVy f (f (5 * ia + 2)) (f (5 * ia + 3)) ib), .long u.1, .long u.2.1, .long u.2.2.1, .long u.2.2.2, .ref mL, .ref mB, .int od, .int spt, .int wa, .long hs])), (mN, .inl (cI, 39, .inl qn))])) (wr := []) (As := []) (rest := []) ⟨hx, hb, hml, hown, hts⟩ hK hP hD hS hA hT (kX5_isRisk l D cI cB tE tN oM mN mA mP mR mT mL mB ks ln (cRx f ia ib) (cRy f ia ib) (cVx f (f (5 * ia + 2)) (f (5 * ia + 3)) ib) (cVy f (f (5 * ia + 2)) (f (5 * ia + 3)) ib) y1 y2 y3 y4 od spt wa hs qn f N _ (hR) (hI) (hNN) (Bd_of hI (by omega) (by omega) (hI.2.2.1 ia (by omega)).2.2.2)) gX5_haveRisk_X5_isRisk rfl rfl rfl (by decide +kernel) ⟨Nat.le_of_ble_eq_true rfl, Nat.le_of_ble_eq_true rfl⟩ [0, 1] [] [0, 1] (by decide) rfl rfl (by decide) (by decide) (by decide) (fun u => rfl) 0 5 rfl rfl rfl rfl hl.1 rfl (Nat.le_of_ble_eq_true rfl) dX5_haveRisk_7 ⟨Nat.le_of_ble_eq_true rfl, Nat.le_of_ble_eq_true rfl⟩ (fun r_7 u H locs hw_8 hP hD hS => ?_)
  obtain ⟨q1_3, q2_4, q3_5, q4_6⟩ := u
  try dsimp only at hw_8
  have hP : va_P D vwCl [(oM, .inr (5, [.ref mN, .ref mA, .ref mP, .int (nI ks), .ref mR, .ref mT, .int (nI ln), .long (cRx f ia ib), .long (cRy f ia ib), .long (cVx f (f (5 * ia + 2)) (f (5 * ia + 3)) ib), .long (cVy f (f (5 * ia + 2)) (f (5 * ia + 3)) ib), .long q1_3, .long q2_4, .long q3_5, .long q4_6, .ref mL, .ref mB, .int od, .int spt, .int wa, .long hs])), (mN, .inl (cI, 39, .inl qn))] H := hP
  have hD : va_D A [(oM, .inr (5, [.ref mN, .ref mA, .ref mP, .int (nI ks), .ref mR, .ref mT, .int (nI ln), .long (cRx f ia ib), .long (cRy f ia ib), .long (cVx f (f (5 * ia + 2)) (f (5 * ia + 3)) ib), .long (cVy f (f (5 * ia + 2)) (f (5 * ia + 3)) ib), .long q1_3, .long q2_4, .long q3_5, .long q4_6, .ref mL, .ref mB, .int od, .int spt, .int wa, .long hs])), (mN, .inl (cI, 39, .inl qn))] := hD
  obtain ⟨hw_8, hq_9⟩ := hw_8
  subst r_7
  have hm := hq_9
  exact hQ (b2i (cRk (mS (cRx f ia ib) (cRy f ia ib) (cVx f (f (5 * ia + 2)) (f (5 * ia + 3)) ib) (cVy f (f (5 * ia + 2)) (f (5 * ia + 3)) ib)).1 (mS (cRx f ia ib) (cRy f ia ib) (cVx f (f (5 * ia + 2)) (f (5 * ia + 3)) ib) (cVy f (f (5 * ia + 2)) (f (5 * ia + 3)) ib)).2.1 (mS (cRx f ia ib) (cRy f ia ib) (cVx f (f (5 * ia + 2)) (f (5 * ia + 3)) ib) (cVy f (f (5 * ia + 2)) (f (5 * ia + 3)) ib)).2.2.1 (mS (cRx f ia ib) (cRy f ia ib) (cVx f (f (5 * ia + 2)) (f (5 * ia + 3)) ib) (cVy f (f (5 * ia + 2)) (f (5 * ia + 3)) ib)).2.2.2 (f 36).toInt64 (f 37).toInt64)) (q1_3, q2_4, q3_5, q4_6) _ _ _ _ (z_nb _) (⟨by rw [cHR, cWR, cMs_mS], by rw [cMh, cMs_mS, ← mFr_rd]; exact hm⟩) hP hD hS dX5_haveRisk_10

set_option maxHeartbeats 4000000 in
set_option maxRecDepth 100000 in
theorem kX5_sectorOf (l : Launch) (D : va_G) (cI cB : ClassId) (tE tN : Nat) (oM : Nat) (mN : Nat) (mA : Nat) (mP : Nat) (mR : Nat) (mT : Nat) (mL : Nat) (mB : Nat) (ks : Nat) (ln : Nat) (x1 : Int64) (x2 : Int64) (x3 : Int64) (x4 : Int64) (y1 : Int64) (y2 : Int64) (y3 : Int64) (y4 : Int64) (od : Int32) (spt : Int32) (wa : Int32) (hs : Int64) (qn : Nat → Int32) (f : Nat → Int32) (N : Nat) (ia : Nat) (ib : Nat) (sz : Nat) (hR : Rg N f qn) (hI : Iv f) (hNN : nN f = N) (ha : ia ≤ N) (hb6 : ib ≤ N) : zI l yX5_sectorOf wsX5_sectorOf ({ frames := 4, cells := 0, slots := 0, locals := 89 }) D cI cB tE tN [.ref oM, .int (nI ia), .int (nI ib)] [(oM, .inr (5, [.ref mN, .ref mA, .ref mP, .int (nI ks), .ref mR, .ref mT, .int (nI ln), .long x1, .long x2, .long x3, .long x4, .long y1, .long y2, .long y3, .long y4, .ref mL, .ref mB, .int od, .int spt, .int wa, .long hs])), (mN, .inl (cI, 39, .inl qn))] sz (fun u : Unit => [(oM, .inr (5, [.ref mN, .ref mA, .ref mP, .int (nI ks), .ref mR, .ref mT, .int (nI ln), .long (cRx f ia ib), .long (cRy f ia ib), .long (cVx f (f (5 * ia + 2)) (f (5 * ia + 3)) ib), .long (cVy f (f (5 * ia + 2)) (f (5 * ia + 3)) ib), .long y1, .long y2, .long y3, .long y4, .ref mL, .ref mB, .int od, .int spt, .int wa, .long hs])), (mN, .inl (cI, 39, .inl qn))]) (fun (r : Int32) (u : Unit) => r = cSec f ia ib) 0 0 := by
  refine zI_mk (cc := cX5_sectorOf) (maxL := 13) (rt := .int) (by decide) rfl (Nat.le_of_ble_eq_true rfl) ?_
  intro p e s m below meth c A Q ls S0 hname hA hK hP hD hT hS hQ hl
  obtain ⟨hx, hb, hml, hown, hts⟩ := id S0
  have hl : lv_has ls 13 [(0, .ref oM), (1, .int (nI ia)), (2, .int (nI ib))] := hl
  have L57 : (Cond.fieldLink RX5 57 "PastAndClearModel" "placeX" "J").before ([.ref oM, .int (nI ia), .int (nI ib)] : List Value).toArray s = true := hts (.fieldLink RX5 57 "PastAndClearModel" "placeX" "J") (by decide +kernel)
  have N5 : ∀ w ∈ u_ws RX5 TX5 21, w ∈ wsX5_sectorOf := by decide +kernel
  have L61 : (Cond.fieldLink RX5 61 "PastAndClearModel" "placeY" "J").before ([.ref oM, .int (nI ia), .int (nI ib)] : List Value).toArray s = true := hts (.fieldLink RX5 61 "PastAndClearModel" "placeY" "J") (by decide +kernel)
  have hN6 : N ≤ 6 := by rw [← hNN]; exact hI.1
  obtain ⟨ka, hka, hka15⟩ := inr_nat (hi := 15) (hI.2.2.1 ia (by omega)).2.2.1 (by decide)
  refine lv_aload_n hx hb dX5_sectorOf_0 rfl (lv_at hl 0 rfl) ?_
  refine lv_iload_n hx hb dX5_sectorOf_1 rfl (lv_at hl 1 rfl) ?_
  refine lv_iload_n hx hb dX5_sectorOf_2 rfl (lv_at hl 2 rfl) ?_
  refine z_VV (n := 2) (wn := (fun u : Unit => [(oM, .inr (5, [.ref mN, .ref mA, .ref mP, .int (nI ks), .ref mR, .ref mT, .int (nI ln), .long (cRx f ia ib), .long (cRy f ia ib), .long (cVx f (f (5 * ia + 2)) (f (5 * ia + 3)) ib), .long (cVy f (f (5 * ia + 2)) (f (5 * ia + 3)) ib), .long y1, .long y2, .long y3, .long y4, .ref mL, .ref mB, .int od, .int spt, .int wa, .long hs])), (mN, .inl (cI, 39, .inl qn))])) (wr := []) (As := [.int (nI ia), .int (nI ib)]) (rest := []) ⟨hx, hb, hml, hown, hts⟩ hK hP hD hS hA hT (kX5_laysAsTheyAre l D cI cB tE tN oM mN mA mP mR mT mL mB ks ln x1 x2 x3 x4 y1 y2 y3 y4 od spt wa hs qn f N ia ib _ (hR) (hI) (hNN) (by omega) (by omega)) gX5_sectorOf_X5_laysAsTheyAre rfl rfl rfl (by decide +kernel) ⟨Nat.le_of_ble_eq_true rfl, Nat.le_of_ble_eq_true rfl⟩ [0, 1] [] [0, 1] (by decide) rfl rfl (by decide) (by decide) (by decide) (fun u => rfl) 0 5 rfl rfl rfl rfl hl.1 rfl (Nat.le_of_ble_eq_true rfl) dX5_sectorOf_3 ⟨Nat.le_of_ble_eq_true rfl, Nat.le_of_ble_eq_true rfl⟩ (fun u H locs hw_2 hP hD hS => ?_)
  try dsimp only at hw_2
  have hP : va_P D vwCl [(oM, .inr (5, [.ref mN, .ref mA, .ref mP, .int (nI ks), .ref mR, .ref mT, .int (nI ln), .long (cRx f ia ib), .long (cRy f ia ib), .long (cVx f (f (5 * ia + 2)) (f (5 * ia + 3)) ib), .long (cVy f (f (5 * ia + 2)) (f (5 * ia + 3)) ib), .long y1, .long y2, .long y3, .long y4, .ref mL, .ref mB, .int od, .int spt, .int wa, .long hs])), (mN, .inl (cI, 39, .inl qn))] H := hP
  have hD : va_D A [(oM, .inr (5, [.ref mN, .ref mA, .ref mP, .int (nI ks), .ref mR, .ref mT, .int (nI ln), .long (cRx f ia ib), .long (cRy f ia ib), .long (cVx f (f (5 * ia + 2)) (f (5 * ia + 3)) ib), .long (cVy f (f (5 * ia + 2)) (f (5 * ia + 3)) ib), .long y1, .long y2, .long y3, .long y4, .ref mL, .ref mB, .int od, .int spt, .int wa, .long hs])), (mN, .inl (cI, 39, .inl qn))] := hD
  refine lv_aload_n hx hb dX5_sectorOf_6 rfl (lv_at hl 0 rfl) ?_
  refine lv_iload_n hx hb dX5_sectorOf_7 rfl (lv_at hl 1 rfl) ?_
  refine lv_iconst (v := 2) hx hb dX5_sectorOf_8 (by decide) ?_
  refine z_VI (n := 2) (wn := (fun u : Unit => [(oM, .inr (5, [.ref mN, .ref mA, .ref mP, .int (nI ks), .ref mR, .ref mT, .int (nI ln), .long (cRx f ia ib), .long (cRy f ia ib), .long (cVx f (f (5 * ia + 2)) (f (5 * ia + 3)) ib), .long (cVy f (f (5 * ia + 2)) (f (5 * ia + 3)) ib), .long y1, .long y2, .long y3, .long y4, .ref mL, .ref mB, .int od, .int spt, .int wa, .long hs])), (mN, .inl (cI, 39, .inl qn))])) (wr := []) (As := [.int (nI ia), .int 2]) (rest := []) ⟨hx, hb, hml, hown, hts⟩ hK hP hD hS hA hT (kX5_shipOf l D cI cB tE tN oM mN mA mP mR mT mL mB ks ln (cRx f ia ib) (cRy f ia ib) (cVx f (f (5 * ia + 2)) (f (5 * ia + 3)) ib) (cVy f (f (5 * ia + 2)) (f (5 * ia + 3)) ib) y1 y2 y3 y4 od spt wa hs qn f N ia 2 _ (hR) (hI) (hNN) (by omega) (by omega)) gX5_sectorOf_X5_shipOf rfl rfl rfl (by decide +kernel) ⟨Nat.le_of_ble_eq_true rfl, Nat.le_of_ble_eq_true rfl⟩ [0, 1] [] [0, 1] (by decide) rfl rfl (by decide) (by decide) (by decide) (fun u => rfl) 0 5 rfl rfl rfl rfl hl.1 rfl (Nat.le_of_ble_eq_true rfl) dX5_sectorOf_9 ⟨Nat.le_of_ble_eq_true rfl, Nat.le_of_ble_eq_true rfl⟩ (fun r_3 u H locs hw_4 hP hD hS => ?_)
  try dsimp only at hw_4
  have hP : va_P D vwCl [(oM, .inr (5, [.ref mN, .ref mA, .ref mP, .int (nI ks), .ref mR, .ref mT, .int (nI ln), .long (cRx f ia ib), .long (cRy f ia ib), .long (cVx f (f (5 * ia + 2)) (f (5 * ia + 3)) ib), .long (cVy f (f (5 * ia + 2)) (f (5 * ia + 3)) ib), .long y1, .long y2, .long y3, .long y4, .ref mL, .ref mB, .int od, .int spt, .int wa, .long hs])), (mN, .inl (cI, 39, .inl qn))] H := hP
  have hD : va_D A [(oM, .inr (5, [.ref mN, .ref mA, .ref mP, .int (nI ks), .ref mR, .ref mT, .int (nI ln), .long (cRx f ia ib), .long (cRy f ia ib), .long (cVx f (f (5 * ia + 2)) (f (5 * ia + 3)) ib), .long (cVy f (f (5 * ia + 2)) (f (5 * ia + 3)) ib), .long y1, .long y2, .long y3, .long y4, .ref mL, .ref mB, .int od, .int spt, .int wa, .long hs])), (mN, .inl (cI, 39, .inl qn))] := hD
  subst r_3
  refine z_SI (n := 1) (wn := (fun u : Unit => [(oM, .inr (5, [.ref mN, .ref mA, .ref mP, .int (nI ks), .ref mR, .ref mT, .int (nI ln), .long (cRx f ia ib), .long (cRy f ia ib), .long (cVx f (f (5 * ia + 2)) (f (5 * ia + 3)) ib), .long (cVy f (f (5 * ia + 2)) (f (5 * ia + 3)) ib), .long y1, .long y2, .long y3, .long y4, .ref mL, .ref mB, .int od, .int spt, .int wa, .long hs])), (mN, .inl (cI, 39, .inl qn))])) (wr := [(oM, .inr (5, [.ref mN, .ref mA, .ref mP, .int (nI ks), .ref mR, .ref mT, .int (nI ln), .long (cRx f ia ib), .long (cRy f ia ib), .long (cVx f (f (5 * ia + 2)) (f (5 * ia + 3)) ib), .long (cVy f (f (5 * ia + 2)) (f (5 * ia + 3)) ib), .long y1, .long y2, .long y3, .long y4, .ref mL, .ref mB, .int od, .int spt, .int wa, .long hs])), (mN, .inl (cI, 39, .inl qn))]) (As := [.int (f (5 * ia + 2))]) (rest := []) ⟨hx, hb, hml, hown, hts⟩ hK hP hD hS hA hT (kX5_eastOf l D cI cB tE tN (f (5 * ia + 2)) ka _ (hka) (hka15)) gX5_sectorOf_X5_eastOf rfl rfl rfl (by decide +kernel) ⟨Nat.le_of_ble_eq_true rfl, Nat.le_of_ble_eq_true rfl⟩ [] [0, 1] [0, 1] (by decide) rfl rfl (by decide) (by decide) (by decide) (fun u => rfl) rfl hl.1 rfl (Nat.le_of_ble_eq_true rfl) dX5_sectorOf_12 ⟨Nat.le_of_ble_eq_true rfl, Nat.le_of_ble_eq_true rfl⟩ (fun r_5 u H locs hw_6 hP hD hS => ?_)
  try dsimp only at hw_6
  have hP : va_P D vwCl [(oM, .inr (5, [.ref mN, .ref mA, .ref mP, .int (nI ks), .ref mR, .ref mT, .int (nI ln), .long (cRx f ia ib), .long (cRy f ia ib), .long (cVx f (f (5 * ia + 2)) (f (5 * ia + 3)) ib), .long (cVy f (f (5 * ia + 2)) (f (5 * ia + 3)) ib), .long y1, .long y2, .long y3, .long y4, .ref mL, .ref mB, .int od, .int spt, .int wa, .long hs])), (mN, .inl (cI, 39, .inl qn))] H := hP
  have hD : va_D A [(oM, .inr (5, [.ref mN, .ref mA, .ref mP, .int (nI ks), .ref mR, .ref mT, .int (nI ln), .long (cRx f ia ib), .long (cRy f ia ib), .long (cVx f (f (5 * ia + 2)) (f (5 * ia + 3)) ib), .long (cVy f (f (5 * ia + 2)) (f (5 * ia + 3)) ib), .long y1, .long y2, .long y3, .long y4, .ref mL, .ref mB, .int od, .int spt, .int wa, .long hs])), (mN, .inl (cI, 39, .inl qn))] := hD
  subst r_5
  refine lv_i2l (v := (vE (f (5 * ia + 2))).toInt64) hx hb dX5_sectorOf_15 rfl ?_
  refine lv_topl (fun ee eee => ?_)
  refine lv_lstore_n (lv' := [(3, .long ee), (0, .ref oM), (1, .int (nI ia)), (2, .int (nI ib))]) hx hb dX5_sectorOf_16 rfl hl (by decide) rfl (fun ls hl => ?_)
  refine lv_aload_n hx hb dX5_sectorOf_17 rfl (lv_at hl 1 rfl) ?_
  refine lv_iload_n hx hb dX5_sectorOf_18 rfl (lv_at hl 2 rfl) ?_
  refine lv_iconst (v := 2) hx hb dX5_sectorOf_19 (by decide) ?_
  refine z_VI (n := 2) (wn := (fun u : Unit => [(oM, .inr (5, [.ref mN, .ref mA, .ref mP, .int (nI ks), .ref mR, .ref mT, .int (nI ln), .long (cRx f ia ib), .long (cRy f ia ib), .long (cVx f (f (5 * ia + 2)) (f (5 * ia + 3)) ib), .long (cVy f (f (5 * ia + 2)) (f (5 * ia + 3)) ib), .long y1, .long y2, .long y3, .long y4, .ref mL, .ref mB, .int od, .int spt, .int wa, .long hs])), (mN, .inl (cI, 39, .inl qn))])) (wr := []) (As := [.int (nI ia), .int 2]) (rest := []) ⟨hx, hb, hml, hown, hts⟩ hK hP hD hS hA hT (kX5_shipOf l D cI cB tE tN oM mN mA mP mR mT mL mB ks ln (cRx f ia ib) (cRy f ia ib) (cVx f (f (5 * ia + 2)) (f (5 * ia + 3)) ib) (cVy f (f (5 * ia + 2)) (f (5 * ia + 3)) ib) y1 y2 y3 y4 od spt wa hs qn f N ia 2 _ (hR) (hI) (hNN) (by omega) (by omega)) gX5_sectorOf_X5_shipOf rfl rfl rfl (by decide +kernel) ⟨Nat.le_of_ble_eq_true rfl, Nat.le_of_ble_eq_true rfl⟩ [0, 1] [] [0, 1] (by decide) rfl rfl (by decide) (by decide) (by decide) (fun u => rfl) 0 5 rfl rfl rfl rfl hl.1 rfl (Nat.le_of_ble_eq_true rfl) dX5_sectorOf_20 ⟨Nat.le_of_ble_eq_true rfl, Nat.le_of_ble_eq_true rfl⟩ (fun r_7 u H locs hw_8 hP hD hS => ?_)
  try dsimp only at hw_8
  have hP : va_P D vwCl [(oM, .inr (5, [.ref mN, .ref mA, .ref mP, .int (nI ks), .ref mR, .ref mT, .int (nI ln), .long (cRx f ia ib), .long (cRy f ia ib), .long (cVx f (f (5 * ia + 2)) (f (5 * ia + 3)) ib), .long (cVy f (f (5 * ia + 2)) (f (5 * ia + 3)) ib), .long y1, .long y2, .long y3, .long y4, .ref mL, .ref mB, .int od, .int spt, .int wa, .long hs])), (mN, .inl (cI, 39, .inl qn))] H := hP
  have hD : va_D A [(oM, .inr (5, [.ref mN, .ref mA, .ref mP, .int (nI ks), .ref mR, .ref mT, .int (nI ln), .long (cRx f ia ib), .long (cRy f ia ib), .long (cVx f (f (5 * ia + 2)) (f (5 * ia + 3)) ib), .long (cVy f (f (5 * ia + 2)) (f (5 * ia + 3)) ib), .long y1, .long y2, .long y3, .long y4, .ref mL, .ref mB, .int od, .int spt, .int wa, .long hs])), (mN, .inl (cI, 39, .inl qn))] := hD
  subst r_7
  refine z_SI (n := 1) (wn := (fun u : Unit => [(oM, .inr (5, [.ref mN, .ref mA, .ref mP, .int (nI ks), .ref mR, .ref mT, .int (nI ln), .long (cRx f ia ib), .long (cRy f ia ib), .long (cVx f (f (5 * ia + 2)) (f (5 * ia + 3)) ib), .long (cVy f (f (5 * ia + 2)) (f (5 * ia + 3)) ib), .long y1, .long y2, .long y3, .long y4, .ref mL, .ref mB, .int od, .int spt, .int wa, .long hs])), (mN, .inl (cI, 39, .inl qn))])) (wr := [(oM, .inr (5, [.ref mN, .ref mA, .ref mP, .int (nI ks), .ref mR, .ref mT, .int (nI ln), .long (cRx f ia ib), .long (cRy f ia ib), .long (cVx f (f (5 * ia + 2)) (f (5 * ia + 3)) ib), .long (cVy f (f (5 * ia + 2)) (f (5 * ia + 3)) ib), .long y1, .long y2, .long y3, .long y4, .ref mL, .ref mB, .int od, .int spt, .int wa, .long hs])), (mN, .inl (cI, 39, .inl qn))]) (As := [.int (f (5 * ia + 2))]) (rest := []) ⟨hx, hb, hml, hown, hts⟩ hK hP hD hS hA hT (kX5_northOf l D cI cB tE tN (f (5 * ia + 2)) ka _ (hka) (hka15)) gX5_sectorOf_X5_northOf rfl rfl rfl (by decide +kernel) ⟨Nat.le_of_ble_eq_true rfl, Nat.le_of_ble_eq_true rfl⟩ [] [0, 1] [0, 1] (by decide) rfl rfl (by decide) (by decide) (by decide) (fun u => rfl) rfl hl.1 rfl (Nat.le_of_ble_eq_true rfl) dX5_sectorOf_23 ⟨Nat.le_of_ble_eq_true rfl, Nat.le_of_ble_eq_true rfl⟩ (fun r_9 u H locs hw_10 hP hD hS => ?_)
  try dsimp only at hw_10
  have hP : va_P D vwCl [(oM, .inr (5, [.ref mN, .ref mA, .ref mP, .int (nI ks), .ref mR, .ref mT, .int (nI ln), .long (cRx f ia ib), .long (cRy f ia ib), .long (cVx f (f (5 * ia + 2)) (f (5 * ia + 3)) ib), .long (cVy f (f (5 * ia + 2)) (f (5 * ia + 3)) ib), .long y1, .long y2, .long y3, .long y4, .ref mL, .ref mB, .int od, .int spt, .int wa, .long hs])), (mN, .inl (cI, 39, .inl qn))] H := hP
  have hD : va_D A [(oM, .inr (5, [.ref mN, .ref mA, .ref mP, .int (nI ks), .ref mR, .ref mT, .int (nI ln), .long (cRx f ia ib), .long (cRy f ia ib), .long (cVx f (f (5 * ia + 2)) (f (5 * ia + 3)) ib), .long (cVy f (f (5 * ia + 2)) (f (5 * ia + 3)) ib), .long y1, .long y2, .long y3, .long y4, .ref mL, .ref mB, .int od, .int spt, .int wa, .long hs])), (mN, .inl (cI, 39, .inl qn))] := hD
  subst r_9
  refine lv_i2l (v := (vN (f (5 * ia + 2))).toInt64) hx hb dX5_sectorOf_26 rfl ?_
  refine lv_topl (fun en een => ?_)
  refine lv_lstore (lv' := [(5, .long en), (3, .long ee), (0, .ref oM), (1, .int (nI ia)), (2, .int (nI ib))]) hx hb dX5_sectorOf_27 hl (by decide) rfl (fun ls hl => ?_)
  refine lv_lload_n hx hb dX5_sectorOf_29 rfl (lv_at hl 1 rfl) ?_
  refine lv_aload_n hx hb dX5_sectorOf_30 rfl (lv_at hl 2 rfl) ?_
  refine va_get (D := D) (ci := 5) (v := .long (cRx f ia ib)) (C := RX5) (T := TX5) (N := 21) hx hb hts N5 hown hK hP 0 rfl rfl 7 (by decide) L57 (fun _ h9 => h9) rfl dX5_sectorOf_31 ?_
  refine lv_lmul hx hb dX5_sectorOf_34 ?_
  refine lv_lload hx hb dX5_sectorOf_35 (lv_at hl 0 rfl) ?_
  refine lv_aload_n hx hb dX5_sectorOf_37 rfl (lv_at hl 2 rfl) ?_
  refine va_get (D := D) (ci := 5) (v := .long (cRy f ia ib)) (C := RX5) (T := TX5) (N := 21) hx hb hts N5 hown hK hP 0 rfl rfl 8 (by decide) L61 (fun _ h9 => h9) rfl dX5_sectorOf_38 ?_
  refine lv_lmul hx hb dX5_sectorOf_41 ?_
  refine lv_ladd hx hb dX5_sectorOf_42 ?_
  refine lv_topl (fun pp epp => ?_)
  refine lv_lstore (lv' := [(7, .long pp), (5, .long en), (3, .long ee), (0, .ref oM), (1, .int (nI ia)), (2, .int (nI ib))]) hx hb dX5_sectorOf_43 hl (by decide) rfl (fun ls hl => ?_)
  refine lv_lload_n hx hb dX5_sectorOf_45 rfl (lv_at hl 2 rfl) ?_
  refine lv_aload_n hx hb dX5_sectorOf_46 rfl (lv_at hl 3 rfl) ?_
  refine va_get (D := D) (ci := 5) (v := .long (cRy f ia ib)) (C := RX5) (T := TX5) (N := 21) hx hb hts N5 hown hK hP 0 rfl rfl 8 (by decide) L61 (fun _ h9 => h9) rfl dX5_sectorOf_47 ?_
  refine lv_lmul hx hb dX5_sectorOf_50 ?_
  refine lv_lload hx hb dX5_sectorOf_51 (lv_at hl 1 rfl) ?_
  refine lv_aload_n hx hb dX5_sectorOf_53 rfl (lv_at hl 3 rfl) ?_
  refine va_get (D := D) (ci := 5) (v := .long (cRx f ia ib)) (C := RX5) (T := TX5) (N := 21) hx hb hts N5 hown hK hP 0 rfl rfl 7 (by decide) L57 (fun _ h9 => h9) rfl dX5_sectorOf_54 ?_
  refine lv_lmul hx hb dX5_sectorOf_57 ?_
  refine lv_lsub hx hb dX5_sectorOf_58 ?_
  refine lv_topl (fun qq eqq => ?_)
  refine lv_lstore (lv' := [(9, .long qq), (7, .long pp), (5, .long en), (3, .long ee), (0, .ref oM), (1, .int (nI ia)), (2, .int (nI ib))]) hx hb dX5_sectorOf_59 hl (by decide) rfl (fun ls hl => ?_)
  refine lv_lload hx hb dX5_sectorOf_61 (lv_at hl 0 rfl) ?_
  refine lv_lconst (v := 0) hx hb dX5_sectorOf_63 (by decide) ?_
  refine W.lcmp hx hb dX5_sectorOf_64 ?_
  refine lv_if_ge (tgt := 74) hx hb dX5_sectorOf_65 (by decide) (fun c_11 => ?_) (fun c_11 => ?_)
  · skip
    have c_11 := (lg_cmp_ge _ _).mp c_11
    refine lv_lload hx hb dX5_sectorOf_74 (lv_at hl 0 rfl) ?_
    refine lv_topl (fun off eoff => ?_)
    refine lv_lstore (lv' := [(11, .long off), (9, .long qq), (7, .long pp), (5, .long en), (3, .long ee), (0, .ref oM), (1, .int (nI ia)), (2, .int (nI ib))]) hx hb dX5_sectorOf_76 hl (by decide) rfl (fun ls hl => ?_)
    have hof : off = (if 0 ≤ qq then qq else -qq) := by first | (rw [if_pos c_11]; exact eoff) | (rw [if_neg c_11]; exact eoff)
    have hsec : mSec ee en (cRx f ia ib) (cRy f ia ib) = if cRx f ia ib * cRx f ia ib + cRy f ia ib * cRy f ia ib = 0 then 0 else if ¬ pp ≤ 0 ∧ ¬ pp < 4 * off then 0 else if ¬ 0 ≤ pp ∧ ¬ (-2) * pp < off then 3 else if 0 ≤ qq then 2 else 1 := by
      rw [hof, eqq, epp, mSec]
    refine lv_aload_n hx hb dX5_sectorOf_78 rfl (lv_at hl 5 rfl) ?_
    refine z_VL (n := 0) (wn := (fun u : Unit => [(oM, .inr (5, [.ref mN, .ref mA, .ref mP, .int (nI ks), .ref mR, .ref mT, .int (nI ln), .long (cRx f ia ib), .long (cRy f ia ib), .long (cVx f (f (5 * ia + 2)) (f (5 * ia + 3)) ib), .long (cVy f (f (5 * ia + 2)) (f (5 * ia + 3)) ib), .long y1, .long y2, .long y3, .long y4, .ref mL, .ref mB, .int od, .int spt, .int wa, .long hs])), (mN, .inl (cI, 39, .inl qn))])) (wr := [(mN, .inl (cI, 39, .inl qn))]) (As := []) (rest := []) ⟨hx, hb, hml, hown, hts⟩ hK hP hD hS hA hT (kX5_squareAway l D cI cB tE tN oM mN mA mP mR mT mL mB ks ln (cRx f ia ib) (cRy f ia ib) (cVx f (f (5 * ia + 2)) (f (5 * ia + 3)) ib) (cVy f (f (5 * ia + 2)) (f (5 * ia + 3)) ib) y1 y2 y3 y4 od spt wa hs _ ) gX5_sectorOf_X5_squareAway rfl rfl rfl (by decide +kernel) ⟨Nat.le_of_ble_eq_true rfl, Nat.le_of_ble_eq_true rfl⟩ [0] [1] [1, 0] (by decide) rfl rfl (by decide) (by decide) (by decide) (fun u => rfl) 0 5 rfl rfl rfl rfl hl.1 rfl (Nat.le_of_ble_eq_true rfl) dX5_sectorOf_79 ⟨Nat.le_of_ble_eq_true rfl, Nat.le_of_ble_eq_true rfl⟩ (fun r_12 u H locs hw_13 hP hD hS => ?_)
    try dsimp only at hw_13
    have hP : va_P D vwCl [(oM, .inr (5, [.ref mN, .ref mA, .ref mP, .int (nI ks), .ref mR, .ref mT, .int (nI ln), .long (cRx f ia ib), .long (cRy f ia ib), .long (cVx f (f (5 * ia + 2)) (f (5 * ia + 3)) ib), .long (cVy f (f (5 * ia + 2)) (f (5 * ia + 3)) ib), .long y1, .long y2, .long y3, .long y4, .ref mL, .ref mB, .int od, .int spt, .int wa, .long hs])), (mN, .inl (cI, 39, .inl qn))] H := hP
    have hD : va_D A [(oM, .inr (5, [.ref mN, .ref mA, .ref mP, .int (nI ks), .ref mR, .ref mT, .int (nI ln), .long (cRx f ia ib), .long (cRy f ia ib), .long (cVx f (f (5 * ia + 2)) (f (5 * ia + 3)) ib), .long (cVy f (f (5 * ia + 2)) (f (5 * ia + 3)) ib), .long y1, .long y2, .long y3, .long y4, .ref mL, .ref mB, .int od, .int spt, .int wa, .long hs])), (mN, .inl (cI, 39, .inl qn))] := hD
    subst r_12
    refine lv_lconst (v := 0) hx hb dX5_sectorOf_82 (by decide) ?_
    refine W.lcmp hx hb dX5_sectorOf_83 ?_
    refine lv_if_eq (tgt := 106) hx hb dX5_sectorOf_84 (by decide) (fun c_14 => ?_) (fun c_14 => ?_)
    · skip
      have c_14 := (lg_cmp_eq _ _).mp c_14
      refine lv_iconst (v := 0) hx hb dX5_sectorOf_106 (by decide) ?_
      exact hQ 0 () _ _ _ _ (rfl) (by rw [cSec_long hI (by omega) (by omega), ← eee, ← een, hsec]; simp [c_11, c_14]) hP hD hS dX5_sectorOf_107
    · skip
      have c_14 := mt (lg_cmp_eq _ _).mpr c_14
      refine lv_lload hx hb dX5_sectorOf_87 (lv_at hl 2 rfl) ?_
      refine lv_lconst (v := 0) hx hb dX5_sectorOf_89 (by decide) ?_
      refine W.lcmp hx hb dX5_sectorOf_90 ?_
      refine lv_if_le (tgt := 108) hx hb dX5_sectorOf_91 (by decide) (fun c_15 => ?_) (fun c_15 => ?_)
      · skip
        have c_15 := (lg_cmp_le _ _).mp c_15
        refine lv_lload hx hb dX5_sectorOf_108 (lv_at hl 2 rfl) ?_
        refine lv_lconst (v := 0) hx hb dX5_sectorOf_110 (by decide) ?_
        refine W.lcmp hx hb dX5_sectorOf_111 ?_
        refine lv_if_ge (tgt := 129) hx hb dX5_sectorOf_112 (by decide) (fun c_16 => ?_) (fun c_16 => ?_)
        · skip
          have c_16 := (lg_cmp_ge _ _).mp c_16
          refine lv_lload hx hb dX5_sectorOf_129 (lv_at hl 1 rfl) ?_
          refine lv_lconst (v := 0) hx hb dX5_sectorOf_131 (by decide) ?_
          refine W.lcmp hx hb dX5_sectorOf_132 ?_
          refine lv_if_ge (tgt := 140) hx hb dX5_sectorOf_133 (by decide) (fun c_17 => ?_) (fun c_17 => ?_)
          · skip
            have c_17 := (lg_cmp_ge _ _).mp c_17
            skip
            refine lv_iconst (v := 2) hx hb dX5_sectorOf_140 (by decide) ?_
            exact hQ 2 () _ _ _ _ (rfl) (by rw [cSec_long hI (by omega) (by omega), ← eee, ← een, hsec]; simp [c_11, c_14, c_15, c_16, c_17]) hP hD hS dX5_sectorOf_141
          · skip
            have c_17 := mt (lg_cmp_ge _ _).mpr c_17
            exact absurd c_11 c_17
        · skip
          have c_16 := mt (lg_cmp_ge _ _).mpr c_16
          refine lv_lload hx hb dX5_sectorOf_115 (lv_at hl 0 rfl) ?_
          refine lv_ldc2 (v := (-2)) hx hb hown (hts (.constantLong RX5 113 (-2)) (by decide +kernel)) dX5_sectorOf_117 ?_
          refine lv_lload hx hb dX5_sectorOf_120 (lv_at hl 2 rfl) ?_
          refine lv_lmul hx hb dX5_sectorOf_122 ?_
          refine W.lcmp hx hb dX5_sectorOf_123 ?_
          refine lv_if_gt (tgt := 129) hx hb dX5_sectorOf_124 (by decide) (fun c_18 => ?_) (fun c_18 => ?_)
          · skip
            have c_18 := (lg_cmp_gt _ _).mp c_18
            refine lv_lload hx hb dX5_sectorOf_129 (lv_at hl 1 rfl) ?_
            refine lv_lconst (v := 0) hx hb dX5_sectorOf_131 (by decide) ?_
            refine W.lcmp hx hb dX5_sectorOf_132 ?_
            refine lv_if_ge (tgt := 140) hx hb dX5_sectorOf_133 (by decide) (fun c_19 => ?_) (fun c_19 => ?_)
            · skip
              have c_19 := (lg_cmp_ge _ _).mp c_19
              skip
              refine lv_iconst (v := 2) hx hb dX5_sectorOf_140 (by decide) ?_
              exact hQ 2 () _ _ _ _ (rfl) (by rw [cSec_long hI (by omega) (by omega), ← eee, ← een, hsec]; simp [c_11, c_14, c_15, c_16, c_18, c_19]) hP hD hS dX5_sectorOf_141
            · skip
              have c_19 := mt (lg_cmp_ge _ _).mpr c_19
              exact absurd c_11 c_19
          · skip
            have c_18 := mt (lg_cmp_gt _ _).mpr c_18
            refine lv_iconst (v := 3) hx hb dX5_sectorOf_127 (by decide) ?_
            exact hQ 3 () _ _ _ _ (rfl) (by rw [cSec_long hI (by omega) (by omega), ← eee, ← een, hsec]; simp [c_11, c_14, c_15, c_16, c_18]) hP hD hS dX5_sectorOf_128
      · skip
        have c_15 := mt (lg_cmp_le _ _).mpr c_15
        refine lv_ldc2 (v := 4) hx hb hown (hts (.constantLong RX5 111 4) (by decide +kernel)) dX5_sectorOf_94 ?_
        refine lv_lload hx hb dX5_sectorOf_97 (lv_at hl 0 rfl) ?_
        refine lv_lmul hx hb dX5_sectorOf_99 ?_
        refine lv_lload hx hb dX5_sectorOf_100 (lv_at hl 2 rfl) ?_
        refine W.lcmp hx hb dX5_sectorOf_102 ?_
        refine lv_if_gt (tgt := 108) hx hb dX5_sectorOf_103 (by decide) (fun c_20 => ?_) (fun c_20 => ?_)
        · skip
          have c_20 := (lg_cmp_gt _ _).mp c_20
          refine lv_lload hx hb dX5_sectorOf_108 (lv_at hl 2 rfl) ?_
          refine lv_lconst (v := 0) hx hb dX5_sectorOf_110 (by decide) ?_
          refine W.lcmp hx hb dX5_sectorOf_111 ?_
          refine lv_if_ge (tgt := 129) hx hb dX5_sectorOf_112 (by decide) (fun c_21 => ?_) (fun c_21 => ?_)
          · skip
            have c_21 := (lg_cmp_ge _ _).mp c_21
            refine lv_lload hx hb dX5_sectorOf_129 (lv_at hl 1 rfl) ?_
            refine lv_lconst (v := 0) hx hb dX5_sectorOf_131 (by decide) ?_
            refine W.lcmp hx hb dX5_sectorOf_132 ?_
            refine lv_if_ge (tgt := 140) hx hb dX5_sectorOf_133 (by decide) (fun c_22 => ?_) (fun c_22 => ?_)
            · skip
              have c_22 := (lg_cmp_ge _ _).mp c_22
              skip
              refine lv_iconst (v := 2) hx hb dX5_sectorOf_140 (by decide) ?_
              exact hQ 2 () _ _ _ _ (rfl) (by rw [cSec_long hI (by omega) (by omega), ← eee, ← een, hsec]; simp [c_11, c_14, c_15, c_20, c_21, c_22]) hP hD hS dX5_sectorOf_141
            · skip
              have c_22 := mt (lg_cmp_ge _ _).mpr c_22
              exact absurd c_11 c_22
          · skip
            have c_21 := mt (lg_cmp_ge _ _).mpr c_21
            refine lv_lload hx hb dX5_sectorOf_115 (lv_at hl 0 rfl) ?_
            refine lv_ldc2 (v := (-2)) hx hb hown (hts (.constantLong RX5 113 (-2)) (by decide +kernel)) dX5_sectorOf_117 ?_
            refine lv_lload hx hb dX5_sectorOf_120 (lv_at hl 2 rfl) ?_
            refine lv_lmul hx hb dX5_sectorOf_122 ?_
            refine W.lcmp hx hb dX5_sectorOf_123 ?_
            refine lv_if_gt (tgt := 129) hx hb dX5_sectorOf_124 (by decide) (fun c_23 => ?_) (fun c_23 => ?_)
            · skip
              have c_23 := (lg_cmp_gt _ _).mp c_23
              refine lv_lload hx hb dX5_sectorOf_129 (lv_at hl 1 rfl) ?_
              refine lv_lconst (v := 0) hx hb dX5_sectorOf_131 (by decide) ?_
              refine W.lcmp hx hb dX5_sectorOf_132 ?_
              refine lv_if_ge (tgt := 140) hx hb dX5_sectorOf_133 (by decide) (fun c_24 => ?_) (fun c_24 => ?_)
              · skip
                have c_24 := (lg_cmp_ge _ _).mp c_24
                skip
                refine lv_iconst (v := 2) hx hb dX5_sectorOf_140 (by decide) ?_
                exact hQ 2 () _ _ _ _ (rfl) (by rw [cSec_long hI (by omega) (by omega), ← eee, ← een, hsec]; simp [c_11, c_14, c_15, c_20, c_21, c_23, c_24]) hP hD hS dX5_sectorOf_141
              · skip
                have c_24 := mt (lg_cmp_ge _ _).mpr c_24
                exact absurd c_11 c_24
            · skip
              have c_23 := mt (lg_cmp_gt _ _).mpr c_23
              refine lv_iconst (v := 3) hx hb dX5_sectorOf_127 (by decide) ?_
              exact hQ 3 () _ _ _ _ (rfl) (by rw [cSec_long hI (by omega) (by omega), ← eee, ← een, hsec]; simp [c_11, c_14, c_15, c_20, c_21, c_23]) hP hD hS dX5_sectorOf_128
        · skip
          have c_20 := mt (lg_cmp_gt _ _).mpr c_20
          refine lv_iconst (v := 0) hx hb dX5_sectorOf_106 (by decide) ?_
          exact hQ 0 () _ _ _ _ (rfl) (by rw [cSec_long hI (by omega) (by omega), ← eee, ← een, hsec]; simp [c_11, c_14, c_15, c_20]) hP hD hS dX5_sectorOf_107
  · skip
    have c_11 := mt (lg_cmp_ge _ _).mpr c_11
    refine lv_lload hx hb dX5_sectorOf_68 (lv_at hl 0 rfl) ?_
    refine lv_lneg hx hb dX5_sectorOf_70 ?_
    refine lv_goto (tgt := 76) hx hb dX5_sectorOf_71 (by decide) ?_
    refine lv_topl (fun off eoff => ?_)
    refine lv_lstore (lv' := [(11, .long off), (9, .long qq), (7, .long pp), (5, .long en), (3, .long ee), (0, .ref oM), (1, .int (nI ia)), (2, .int (nI ib))]) hx hb dX5_sectorOf_76 hl (by decide) rfl (fun ls hl => ?_)
    have hof : off = (if 0 ≤ qq then qq else -qq) := by first | (rw [if_pos c_11]; exact eoff) | (rw [if_neg c_11]; exact eoff)
    have hsec : mSec ee en (cRx f ia ib) (cRy f ia ib) = if cRx f ia ib * cRx f ia ib + cRy f ia ib * cRy f ia ib = 0 then 0 else if ¬ pp ≤ 0 ∧ ¬ pp < 4 * off then 0 else if ¬ 0 ≤ pp ∧ ¬ (-2) * pp < off then 3 else if 0 ≤ qq then 2 else 1 := by
      rw [hof, eqq, epp, mSec]
    refine lv_aload_n hx hb dX5_sectorOf_78 rfl (lv_at hl 5 rfl) ?_
    refine z_VL (n := 0) (wn := (fun u : Unit => [(oM, .inr (5, [.ref mN, .ref mA, .ref mP, .int (nI ks), .ref mR, .ref mT, .int (nI ln), .long (cRx f ia ib), .long (cRy f ia ib), .long (cVx f (f (5 * ia + 2)) (f (5 * ia + 3)) ib), .long (cVy f (f (5 * ia + 2)) (f (5 * ia + 3)) ib), .long y1, .long y2, .long y3, .long y4, .ref mL, .ref mB, .int od, .int spt, .int wa, .long hs])), (mN, .inl (cI, 39, .inl qn))])) (wr := [(mN, .inl (cI, 39, .inl qn))]) (As := []) (rest := []) ⟨hx, hb, hml, hown, hts⟩ hK hP hD hS hA hT (kX5_squareAway l D cI cB tE tN oM mN mA mP mR mT mL mB ks ln (cRx f ia ib) (cRy f ia ib) (cVx f (f (5 * ia + 2)) (f (5 * ia + 3)) ib) (cVy f (f (5 * ia + 2)) (f (5 * ia + 3)) ib) y1 y2 y3 y4 od spt wa hs _ ) gX5_sectorOf_X5_squareAway rfl rfl rfl (by decide +kernel) ⟨Nat.le_of_ble_eq_true rfl, Nat.le_of_ble_eq_true rfl⟩ [0] [1] [1, 0] (by decide) rfl rfl (by decide) (by decide) (by decide) (fun u => rfl) 0 5 rfl rfl rfl rfl hl.1 rfl (Nat.le_of_ble_eq_true rfl) dX5_sectorOf_79 ⟨Nat.le_of_ble_eq_true rfl, Nat.le_of_ble_eq_true rfl⟩ (fun r_25 u H locs hw_26 hP hD hS => ?_)
    try dsimp only at hw_26
    have hP : va_P D vwCl [(oM, .inr (5, [.ref mN, .ref mA, .ref mP, .int (nI ks), .ref mR, .ref mT, .int (nI ln), .long (cRx f ia ib), .long (cRy f ia ib), .long (cVx f (f (5 * ia + 2)) (f (5 * ia + 3)) ib), .long (cVy f (f (5 * ia + 2)) (f (5 * ia + 3)) ib), .long y1, .long y2, .long y3, .long y4, .ref mL, .ref mB, .int od, .int spt, .int wa, .long hs])), (mN, .inl (cI, 39, .inl qn))] H := hP
    have hD : va_D A [(oM, .inr (5, [.ref mN, .ref mA, .ref mP, .int (nI ks), .ref mR, .ref mT, .int (nI ln), .long (cRx f ia ib), .long (cRy f ia ib), .long (cVx f (f (5 * ia + 2)) (f (5 * ia + 3)) ib), .long (cVy f (f (5 * ia + 2)) (f (5 * ia + 3)) ib), .long y1, .long y2, .long y3, .long y4, .ref mL, .ref mB, .int od, .int spt, .int wa, .long hs])), (mN, .inl (cI, 39, .inl qn))] := hD
    subst r_25
    refine lv_lconst (v := 0) hx hb dX5_sectorOf_82 (by decide) ?_
    refine W.lcmp hx hb dX5_sectorOf_83 ?_
    refine lv_if_eq (tgt := 106) hx hb dX5_sectorOf_84 (by decide) (fun c_27 => ?_) (fun c_27 => ?_)
    · skip
      have c_27 := (lg_cmp_eq _ _).mp c_27
      refine lv_iconst (v := 0) hx hb dX5_sectorOf_106 (by decide) ?_
      exact hQ 0 () _ _ _ _ (rfl) (by rw [cSec_long hI (by omega) (by omega), ← eee, ← een, hsec]; simp [c_11, c_27]) hP hD hS dX5_sectorOf_107
    · skip
      have c_27 := mt (lg_cmp_eq _ _).mpr c_27
      refine lv_lload hx hb dX5_sectorOf_87 (lv_at hl 2 rfl) ?_
      refine lv_lconst (v := 0) hx hb dX5_sectorOf_89 (by decide) ?_
      refine W.lcmp hx hb dX5_sectorOf_90 ?_
      refine lv_if_le (tgt := 108) hx hb dX5_sectorOf_91 (by decide) (fun c_28 => ?_) (fun c_28 => ?_)
      · skip
        have c_28 := (lg_cmp_le _ _).mp c_28
        refine lv_lload hx hb dX5_sectorOf_108 (lv_at hl 2 rfl) ?_
        refine lv_lconst (v := 0) hx hb dX5_sectorOf_110 (by decide) ?_
        refine W.lcmp hx hb dX5_sectorOf_111 ?_
        refine lv_if_ge (tgt := 129) hx hb dX5_sectorOf_112 (by decide) (fun c_29 => ?_) (fun c_29 => ?_)
        · skip
          have c_29 := (lg_cmp_ge _ _).mp c_29
          refine lv_lload hx hb dX5_sectorOf_129 (lv_at hl 1 rfl) ?_
          refine lv_lconst (v := 0) hx hb dX5_sectorOf_131 (by decide) ?_
          refine W.lcmp hx hb dX5_sectorOf_132 ?_
          refine lv_if_ge (tgt := 140) hx hb dX5_sectorOf_133 (by decide) (fun c_30 => ?_) (fun c_30 => ?_)
          · skip
            have c_30 := (lg_cmp_ge _ _).mp c_30
            exact absurd c_30 c_11
          · skip
            have c_30 := mt (lg_cmp_ge _ _).mpr c_30
            skip
            refine lv_iconst (v := 1) hx hb dX5_sectorOf_136 (by decide) ?_
            refine lv_goto (tgt := 141) hx hb dX5_sectorOf_137 (by decide) ?_
            exact hQ 1 () _ _ _ _ (rfl) (by rw [cSec_long hI (by omega) (by omega), ← eee, ← een, hsec]; simp [c_11, c_27, c_28, c_29, c_30]) hP hD hS dX5_sectorOf_141
        · skip
          have c_29 := mt (lg_cmp_ge _ _).mpr c_29
          refine lv_lload hx hb dX5_sectorOf_115 (lv_at hl 0 rfl) ?_
          refine lv_ldc2 (v := (-2)) hx hb hown (hts (.constantLong RX5 113 (-2)) (by decide +kernel)) dX5_sectorOf_117 ?_
          refine lv_lload hx hb dX5_sectorOf_120 (lv_at hl 2 rfl) ?_
          refine lv_lmul hx hb dX5_sectorOf_122 ?_
          refine W.lcmp hx hb dX5_sectorOf_123 ?_
          refine lv_if_gt (tgt := 129) hx hb dX5_sectorOf_124 (by decide) (fun c_31 => ?_) (fun c_31 => ?_)
          · skip
            have c_31 := (lg_cmp_gt _ _).mp c_31
            refine lv_lload hx hb dX5_sectorOf_129 (lv_at hl 1 rfl) ?_
            refine lv_lconst (v := 0) hx hb dX5_sectorOf_131 (by decide) ?_
            refine W.lcmp hx hb dX5_sectorOf_132 ?_
            refine lv_if_ge (tgt := 140) hx hb dX5_sectorOf_133 (by decide) (fun c_32 => ?_) (fun c_32 => ?_)
            · skip
              have c_32 := (lg_cmp_ge _ _).mp c_32
              exact absurd c_32 c_11
            · skip
              have c_32 := mt (lg_cmp_ge _ _).mpr c_32
              skip
              refine lv_iconst (v := 1) hx hb dX5_sectorOf_136 (by decide) ?_
              refine lv_goto (tgt := 141) hx hb dX5_sectorOf_137 (by decide) ?_
              exact hQ 1 () _ _ _ _ (rfl) (by rw [cSec_long hI (by omega) (by omega), ← eee, ← een, hsec]; simp [c_11, c_27, c_28, c_29, c_31, c_32]) hP hD hS dX5_sectorOf_141
          · skip
            have c_31 := mt (lg_cmp_gt _ _).mpr c_31
            refine lv_iconst (v := 3) hx hb dX5_sectorOf_127 (by decide) ?_
            exact hQ 3 () _ _ _ _ (rfl) (by rw [cSec_long hI (by omega) (by omega), ← eee, ← een, hsec]; simp [c_11, c_27, c_28, c_29, c_31]) hP hD hS dX5_sectorOf_128
      · skip
        have c_28 := mt (lg_cmp_le _ _).mpr c_28
        refine lv_ldc2 (v := 4) hx hb hown (hts (.constantLong RX5 111 4) (by decide +kernel)) dX5_sectorOf_94 ?_
        refine lv_lload hx hb dX5_sectorOf_97 (lv_at hl 0 rfl) ?_
        refine lv_lmul hx hb dX5_sectorOf_99 ?_
        refine lv_lload hx hb dX5_sectorOf_100 (lv_at hl 2 rfl) ?_
        refine W.lcmp hx hb dX5_sectorOf_102 ?_
        refine lv_if_gt (tgt := 108) hx hb dX5_sectorOf_103 (by decide) (fun c_33 => ?_) (fun c_33 => ?_)
        · skip
          have c_33 := (lg_cmp_gt _ _).mp c_33
          refine lv_lload hx hb dX5_sectorOf_108 (lv_at hl 2 rfl) ?_
          refine lv_lconst (v := 0) hx hb dX5_sectorOf_110 (by decide) ?_
          refine W.lcmp hx hb dX5_sectorOf_111 ?_
          refine lv_if_ge (tgt := 129) hx hb dX5_sectorOf_112 (by decide) (fun c_34 => ?_) (fun c_34 => ?_)
          · skip
            have c_34 := (lg_cmp_ge _ _).mp c_34
            refine lv_lload hx hb dX5_sectorOf_129 (lv_at hl 1 rfl) ?_
            refine lv_lconst (v := 0) hx hb dX5_sectorOf_131 (by decide) ?_
            refine W.lcmp hx hb dX5_sectorOf_132 ?_
            refine lv_if_ge (tgt := 140) hx hb dX5_sectorOf_133 (by decide) (fun c_35 => ?_) (fun c_35 => ?_)
            · skip
              have c_35 := (lg_cmp_ge _ _).mp c_35
              exact absurd c_35 c_11
            · skip
              have c_35 := mt (lg_cmp_ge _ _).mpr c_35
              skip
              refine lv_iconst (v := 1) hx hb dX5_sectorOf_136 (by decide) ?_
              refine lv_goto (tgt := 141) hx hb dX5_sectorOf_137 (by decide) ?_
              exact hQ 1 () _ _ _ _ (rfl) (by rw [cSec_long hI (by omega) (by omega), ← eee, ← een, hsec]; simp [c_11, c_27, c_28, c_33, c_34, c_35]) hP hD hS dX5_sectorOf_141
          · skip
            have c_34 := mt (lg_cmp_ge _ _).mpr c_34
            refine lv_lload hx hb dX5_sectorOf_115 (lv_at hl 0 rfl) ?_
            refine lv_ldc2 (v := (-2)) hx hb hown (hts (.constantLong RX5 113 (-2)) (by decide +kernel)) dX5_sectorOf_117 ?_
            refine lv_lload hx hb dX5_sectorOf_120 (lv_at hl 2 rfl) ?_
            refine lv_lmul hx hb dX5_sectorOf_122 ?_
            refine W.lcmp hx hb dX5_sectorOf_123 ?_
            refine lv_if_gt (tgt := 129) hx hb dX5_sectorOf_124 (by decide) (fun c_36 => ?_) (fun c_36 => ?_)
            · skip
              have c_36 := (lg_cmp_gt _ _).mp c_36
              refine lv_lload hx hb dX5_sectorOf_129 (lv_at hl 1 rfl) ?_
              refine lv_lconst (v := 0) hx hb dX5_sectorOf_131 (by decide) ?_
              refine W.lcmp hx hb dX5_sectorOf_132 ?_
              refine lv_if_ge (tgt := 140) hx hb dX5_sectorOf_133 (by decide) (fun c_37 => ?_) (fun c_37 => ?_)
              · skip
                have c_37 := (lg_cmp_ge _ _).mp c_37
                exact absurd c_37 c_11
              · skip
                have c_37 := mt (lg_cmp_ge _ _).mpr c_37
                skip
                refine lv_iconst (v := 1) hx hb dX5_sectorOf_136 (by decide) ?_
                refine lv_goto (tgt := 141) hx hb dX5_sectorOf_137 (by decide) ?_
                exact hQ 1 () _ _ _ _ (rfl) (by rw [cSec_long hI (by omega) (by omega), ← eee, ← een, hsec]; simp [c_11, c_27, c_28, c_33, c_34, c_36, c_37]) hP hD hS dX5_sectorOf_141
            · skip
              have c_36 := mt (lg_cmp_gt _ _).mpr c_36
              refine lv_iconst (v := 3) hx hb dX5_sectorOf_127 (by decide) ?_
              exact hQ 3 () _ _ _ _ (rfl) (by rw [cSec_long hI (by omega) (by omega), ← eee, ← een, hsec]; simp [c_11, c_27, c_28, c_33, c_34, c_36]) hP hD hS dX5_sectorOf_128
        · skip
          have c_33 := mt (lg_cmp_gt _ _).mpr c_33
          refine lv_iconst (v := 0) hx hb dX5_sectorOf_106 (by decide) ?_
          exact hQ 0 () _ _ _ _ (rfl) (by rw [cSec_long hI (by omega) (by omega), ← eee, ← een, hsec]; simp [c_11, c_27, c_28, c_33]) hP hD hS dX5_sectorOf_107
