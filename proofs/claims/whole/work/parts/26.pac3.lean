def gCt (ok : Bool) (cb cn cf : Int32) : Int32 × Int32 × Int32 := if ok = true then (cb, cn, cf) else (cb + 1, cn, cf)
theorem ct_bad {cb cn cf cb2 cn2 cf2 : Int32} (h : cb2 = cnt (-10002) cb (-10002) ∧ cn2 = cnt (-10003) cn (-10002) ∧ cf2 = cnt (-10004) cf (-10002)) : (cb2, cn2, cf2) = (cb + 1, cn, cf) := by
  obtain ⟨h1, h2, h3⟩ := h
  rw [h1, h2, h3, cnt, cnt, cnt, if_pos rfl, if_neg (by decide), if_neg (by decide)]
def vOf (f : Nat → Int32) (i w : Int32) : Bool := cShip f i && (decide (¬ w < 0) && decide (w ≤ 5))
def gOf (f : Nat → Int32) (i w : Int32) : Int32 := if vOf f i w = true then cPart f i.toNatClampNeg w.toNatClampNeg else -10002
def vCl (f : Nat → Int32) (i j w : Int32) : Bool := cPair f i j && (decide (¬ w < 0) && decide (w ≤ 3))
def gCl (f : Nat → Int32) (i j w : Int32) : Int64 := if vCl f i j w = true then cPt (cMh f i.toNatClampNeg j.toNatClampNeg).1 (cMh f i.toNatClampNeg j.toNatClampNeg).2.1 (cMh f i.toNatClampNeg j.toNatClampNeg).2.2.1 (cMh f i.toNatClampNeg j.toNatClampNeg).2.2.2 w.toNatClampNeg else (-10002 : Int32).toInt64
def gRi (f : Nat → Int32) (i j : Int32) : Int32 := if cPair f i j = true then b2i (cHR f i.toNatClampNeg j.toNatClampNeg) else -10002
def gSe (f : Nat → Int32) (i j : Int32) : Int32 := if cPair f i j = true then cSec f i.toNatClampNeg j.toNatClampNeg else -10002
def gTa (f : Nat → Int32) (i j : Int32) : Int32 := if cPair f i j = true then cTab f i.toNatClampNeg j.toNatClampNeg else -10002
def gDu (f : Nat → Int32) (i : Int32) : Int32 := if cOther f i = true then f (5 * i.toNatClampNeg + 4) else -10002
def gBl (f : Nat → Int32) (i : Int32) : Int32 := if cOther f i = true then blF f i.toNatClampNeg 16 else -10002
def gAd (f : Nat → Int32) (N : Nat) (i : Int32) : Int32 := if cShip f i = true then cAdv f N i.toNatClampNeg else -10002
def vCr (f : Nat → Int32) (i h s : Int32) : Bool := cShip f i && cCourse h s
def gCr (f : Nat → Int32) (N : Nat) (i h s : Int32) : Int32 := if vCr f i h s = true then b2i (cClr f N i.toNatClampNeg h s) else -10002
def vIn (w k : Int32) : Bool := decide (¬ w < 0) && decide (w ≤ k)
def gCo (f : Nat → Int32) (w : Int32) : Int32 := if vIn w 3 = true then f (35 + w.toNatClampNeg) else -10002
theorem cPair_1 {f : Nat → Int32} {a b : Int32} (h : cPair f a b = true) : cShip f a = true := by rw [cPair, Bool.and_eq_true] at h; exact h.1
theorem cPair_2 {f : Nat → Int32} {a b : Int32} (h : cPair f a b = true) : cShip f b = true := by rw [cPair, Bool.and_eq_true, Bool.and_eq_true] at h; exact h.2.1
set_option maxHeartbeats 4000000 in
set_option maxRecDepth 100000 in
theorem kX4_of (l : Launch) (D : va_G) (cI cB : ClassId) (tE tN : Nat) (oP : Nat) (hF : Nat) (hH : Nat) (hC : Nat) (cb : Int32) (cn : Int32) (cf : Int32) (cF : Nat) (aF : Nat) (wF : Nat) (f : Nat → Int32) (i : Int32) (w : Int32) (N : Nat) (sz : Nat) (hN : f 35 = nI N) (hN6 : N ≤ 6) : zI l yX4_of wsX4_of ({ frames := 2, cells := 0, slots := 0, locals := 43 }) D cI cB tE tN [.ref oP, .int i, .int w] [(oP, .inr (4, [.ref hF, .ref hH, .ref hC, .int cb, .int cn, .int cf])), (hF, .inr (1, [.ref cF, .ref aF, .ref wF])), (cF, .inl (cI, 39, .inl f))] sz (fun u : Int32 × Int32 × Int32 => [(oP, .inr (4, [.ref hF, .ref hH, .ref hC, .int u.1, .int u.2.1, .int u.2.2])), (hF, .inr (1, [.ref cF, .ref aF, .ref wF])), (cF, .inl (cI, 39, .inl f))]) (fun (r : Int32) (u : Int32 × Int32 × Int32) => r = gOf f i w ∧ (u.1, u.2.1, u.2.2) = gCt (vOf f i w) cb cn cf) 0 0 := by
  refine zI_mk (cc := cX4_of) (maxL := 3) (rt := .int) (by decide) rfl (Nat.le_of_ble_eq_true rfl) ?_
  intro p e s m below meth c A Q ls S0 hname hA hK hP hD hT hS hQ hl
  obtain ⟨hx, hb, hml, hown, hts⟩ := id S0
  have hl : lv_has ls 3 [(0, .ref oP), (1, .int i), (2, .int w)] := hl
  have L10 : (Cond.fieldLink RX4 10 "PastAndClear" "fleet" "LPastAndClear$Fleet;").before ([.ref oP, .int i, .int w] : List Value).toArray s = true := hts (.fieldLink RX4 10 "PastAndClear" "fleet" "LPastAndClear$Fleet;") (by decide +kernel)
  have N4 : ∀ w ∈ u_ws RX4 TX4 6, w ∈ wsX4_of := by decide +kernel
  refine lv_aload_n hx hb dX4_of_0 rfl (lv_at hl 0 rfl) ?_
  refine va_get (D := D) (ci := 4) (v := .ref hF) (C := RX4) (T := TX4) (N := 6) hx hb hts N4 hown hK hP 0 rfl rfl 0 (by decide) L10 (fun _ h9 => h9) rfl dX4_of_1 ?_
  refine lv_iload_n hx hb dX4_of_4 rfl (lv_at hl 1 rfl) ?_
  refine z_VI (n := 1) (wn := (fun u : Unit => [(oP, .inr (4, [.ref hF, .ref hH, .ref hC, .int cb, .int cn, .int cf])), (hF, .inr (1, [.ref cF, .ref aF, .ref wF])), (cF, .inl (cI, 39, .inl f))])) (wr := [(oP, .inr (4, [.ref hF, .ref hH, .ref hC, .int cb, .int cn, .int cf]))]) (As := [.int i]) (rest := []) ⟨hx, hb, hml, hown, hts⟩ hK hP hD hS hA hT (kX1_isShip l D cI cB tE tN hF cF aF wF f i _ ) gX4_of_X1_isShip rfl rfl rfl (by decide +kernel) ⟨Nat.le_of_ble_eq_true rfl, Nat.le_of_ble_eq_true rfl⟩ [1, 2] [0] [0, 1, 2] (by decide) rfl rfl (by decide) (by decide) (by decide) (fun u => rfl) 0 1 rfl rfl rfl rfl hl.1 rfl (Nat.le_of_ble_eq_true rfl) dX4_of_5 ⟨Nat.le_of_ble_eq_true rfl, Nat.le_of_ble_eq_true rfl⟩ (fun r_1 u H locs hw_2 hP hD hS => ?_)
  try dsimp only at hw_2
  have hP : va_P D vwCl [(oP, .inr (4, [.ref hF, .ref hH, .ref hC, .int cb, .int cn, .int cf])), (hF, .inr (1, [.ref cF, .ref aF, .ref wF])), (cF, .inl (cI, 39, .inl f))] H := hP
  have hD : va_D A [(oP, .inr (4, [.ref hF, .ref hH, .ref hC, .int cb, .int cn, .int cf])), (hF, .inr (1, [.ref cF, .ref aF, .ref wF])), (cF, .inl (cI, 39, .inl f))] := hD
  subst r_1
  refine lv_if_eq (tgt := 20) hx hb dX4_of_8 (by decide) (fun c_3 => ?_) (fun c_3 => ?_)
  · skip
    have c_3 := z_b0 c_3
    refine lv_aload_n hx hb dX4_of_20 rfl (lv_at hl 0 rfl) ?_
    refine lv_sipush (v := (-10002)) hx hb dX4_of_21 (by decide) ?_
    refine z_VI (n := 1) (wn := (fun u : Int32 × Int32 × Int32 => [(oP, .inr (4, [.ref hF, .ref hH, .ref hC, .int u.1, .int u.2.1, .int u.2.2])), (hF, .inr (1, [.ref cF, .ref aF, .ref wF])), (cF, .inl (cI, 39, .inl f))])) (wr := [(hF, .inr (1, [.ref cF, .ref aF, .ref wF])), (cF, .inl (cI, 39, .inl f))]) (As := [.int (-10002)]) (rest := []) ⟨hx, hb, hml, hown, hts⟩ hK hP hD hS hA hT (kX4_answered l D cI cB tE tN oP hF hH hC cb cn cf (-10002) _ ) gX4_of_X4_answered rfl rfl rfl (by decide +kernel) ⟨Nat.le_of_ble_eq_true rfl, Nat.le_of_ble_eq_true rfl⟩ [0] [1, 2] [2, 0, 1] (by decide) rfl rfl (by decide) (by decide) (by decide) (fun u => rfl) 0 4 rfl rfl rfl rfl hl.1 rfl (Nat.le_of_ble_eq_true rfl) dX4_of_24 ⟨Nat.le_of_ble_eq_true rfl, Nat.le_of_ble_eq_true rfl⟩ (fun r_7 u H locs hw_8 hP hD hS => ?_)
    obtain ⟨cb2_4, cn2_5, cf2_6⟩ := u
    try dsimp only at hw_8
    have hP : va_P D vwCl [(oP, .inr (4, [.ref hF, .ref hH, .ref hC, .int cb2_4, .int cn2_5, .int cf2_6])), (hF, .inr (1, [.ref cF, .ref aF, .ref wF])), (cF, .inl (cI, 39, .inl f))] H := hP
    have hD : va_D A [(oP, .inr (4, [.ref hF, .ref hH, .ref hC, .int cb2_4, .int cn2_5, .int cf2_6])), (hF, .inr (1, [.ref cF, .ref aF, .ref wF])), (cF, .inl (cI, 39, .inl f))] := hD
    obtain ⟨hw_8, hq_9⟩ := hw_8
    subst r_7
    exact hQ (-10002) (cb2_4, cn2_5, cf2_6) _ _ _ _ (rfl) (⟨by simp [gOf, vOf, c_3], by rw [ct_bad hq_9]; simp [gCt, vOf, c_3]⟩) hP hD hS dX4_of_27
  · skip
    have c_3 := z_b1 c_3
    refine lv_iload_n hx hb dX4_of_11 rfl (lv_at hl 2 rfl) ?_
    refine lv_if_lt (tgt := 20) hx hb dX4_of_12 (by decide) (fun c_10 => ?_) (fun c_10 => ?_)
    · skip
      refine lv_aload_n hx hb dX4_of_20 rfl (lv_at hl 0 rfl) ?_
      refine lv_sipush (v := (-10002)) hx hb dX4_of_21 (by decide) ?_
      refine z_VI (n := 1) (wn := (fun u : Int32 × Int32 × Int32 => [(oP, .inr (4, [.ref hF, .ref hH, .ref hC, .int u.1, .int u.2.1, .int u.2.2])), (hF, .inr (1, [.ref cF, .ref aF, .ref wF])), (cF, .inl (cI, 39, .inl f))])) (wr := [(hF, .inr (1, [.ref cF, .ref aF, .ref wF])), (cF, .inl (cI, 39, .inl f))]) (As := [.int (-10002)]) (rest := []) ⟨hx, hb, hml, hown, hts⟩ hK hP hD hS hA hT (kX4_answered l D cI cB tE tN oP hF hH hC cb cn cf (-10002) _ ) gX4_of_X4_answered rfl rfl rfl (by decide +kernel) ⟨Nat.le_of_ble_eq_true rfl, Nat.le_of_ble_eq_true rfl⟩ [0] [1, 2] [2, 0, 1] (by decide) rfl rfl (by decide) (by decide) (by decide) (fun u => rfl) 0 4 rfl rfl rfl rfl hl.1 rfl (Nat.le_of_ble_eq_true rfl) dX4_of_24 ⟨Nat.le_of_ble_eq_true rfl, Nat.le_of_ble_eq_true rfl⟩ (fun r_14 u H locs hw_15 hP hD hS => ?_)
      obtain ⟨cb2_11, cn2_12, cf2_13⟩ := u
      try dsimp only at hw_15
      have hP : va_P D vwCl [(oP, .inr (4, [.ref hF, .ref hH, .ref hC, .int cb2_11, .int cn2_12, .int cf2_13])), (hF, .inr (1, [.ref cF, .ref aF, .ref wF])), (cF, .inl (cI, 39, .inl f))] H := hP
      have hD : va_D A [(oP, .inr (4, [.ref hF, .ref hH, .ref hC, .int cb2_11, .int cn2_12, .int cf2_13])), (hF, .inr (1, [.ref cF, .ref aF, .ref wF])), (cF, .inl (cI, 39, .inl f))] := hD
      obtain ⟨hw_15, hq_16⟩ := hw_15
      subst r_14
      exact hQ (-10002) (cb2_11, cn2_12, cf2_13) _ _ _ _ (rfl) (⟨by simp [gOf, vOf, c_3, c_10], by rw [ct_bad hq_16]; simp [gCt, vOf, c_3, c_10]⟩) hP hD hS dX4_of_27
    · skip
      refine lv_iload_n hx hb dX4_of_15 rfl (lv_at hl 2 rfl) ?_
      refine lv_iconst (v := 5) hx hb dX4_of_16 (by decide) ?_
      refine lv_icmp_le (tgt := 28) hx hb dX4_of_17 (by decide) (fun c_17 => ?_) (fun c_17 => ?_)
      · skip
        obtain ⟨n, rfl, hn⟩ := cShip_n hN hN6 c_3
        have hcn : (nI n).toNatClampNeg = n := nI_clamp (by omega)
        obtain ⟨q, rfl, hq⟩ := z_nat (b := 5) (Int32.not_lt.mp c_10) c_17 (by decide)
        have hcq : (nI q).toNatClampNeg = q := nI_clamp (by omega)
        refine lv_aload_n hx hb dX4_of_28 rfl (lv_at hl 0 rfl) ?_
        refine va_get (D := D) (ci := 4) (v := .ref hF) (C := RX4) (T := TX4) (N := 6) hx hb hts N4 hown hK hP 0 rfl rfl 0 (by decide) L10 (fun _ h9 => h9) rfl dX4_of_29 ?_
        refine lv_iload_n hx hb dX4_of_32 rfl (lv_at hl 1 rfl) ?_
        refine lv_iload_n hx hb dX4_of_33 rfl (lv_at hl 2 rfl) ?_
        refine z_VI (n := 2) (wn := (fun u : Unit => [(oP, .inr (4, [.ref hF, .ref hH, .ref hC, .int cb, .int cn, .int cf])), (hF, .inr (1, [.ref cF, .ref aF, .ref wF])), (cF, .inl (cI, 39, .inl f))])) (wr := [(oP, .inr (4, [.ref hF, .ref hH, .ref hC, .int cb, .int cn, .int cf]))]) (As := [.int (nI n), .int (nI q)]) (rest := []) ⟨hx, hb, hml, hown, hts⟩ hK hP hD hS hA hT (kX1_partOf l D cI cB tE tN hF cF aF wF f n q _ (by omega) (by omega)) gX4_of_X1_partOf rfl rfl rfl (by decide +kernel) ⟨Nat.le_of_ble_eq_true rfl, Nat.le_of_ble_eq_true rfl⟩ [1, 2] [0] [0, 1, 2] (by decide) rfl rfl (by decide) (by decide) (by decide) (fun u => rfl) 0 1 rfl rfl rfl rfl hl.1 rfl (Nat.le_of_ble_eq_true rfl) dX4_of_34 ⟨Nat.le_of_ble_eq_true rfl, Nat.le_of_ble_eq_true rfl⟩ (fun r_18 u H locs hw_19 hP hD hS => ?_)
        try dsimp only at hw_19
        have hP : va_P D vwCl [(oP, .inr (4, [.ref hF, .ref hH, .ref hC, .int cb, .int cn, .int cf])), (hF, .inr (1, [.ref cF, .ref aF, .ref wF])), (cF, .inl (cI, 39, .inl f))] H := hP
        have hD : va_D A [(oP, .inr (4, [.ref hF, .ref hH, .ref hC, .int cb, .int cn, .int cf])), (hF, .inr (1, [.ref cF, .ref aF, .ref wF])), (cF, .inl (cI, 39, .inl f))] := hD
        subst r_18
        exact hQ (cPart f n q) (cb, cn, cf) _ _ _ _ (rfl) (⟨by simp [gOf, vOf, c_3, c_10, c_17, b2i, hcn, hcq], by simp [gCt, vOf, c_3, c_10, c_17]⟩) hP hD hS dX4_of_37
      · skip
        refine lv_aload_n hx hb dX4_of_20 rfl (lv_at hl 0 rfl) ?_
        refine lv_sipush (v := (-10002)) hx hb dX4_of_21 (by decide) ?_
        refine z_VI (n := 1) (wn := (fun u : Int32 × Int32 × Int32 => [(oP, .inr (4, [.ref hF, .ref hH, .ref hC, .int u.1, .int u.2.1, .int u.2.2])), (hF, .inr (1, [.ref cF, .ref aF, .ref wF])), (cF, .inl (cI, 39, .inl f))])) (wr := [(hF, .inr (1, [.ref cF, .ref aF, .ref wF])), (cF, .inl (cI, 39, .inl f))]) (As := [.int (-10002)]) (rest := []) ⟨hx, hb, hml, hown, hts⟩ hK hP hD hS hA hT (kX4_answered l D cI cB tE tN oP hF hH hC cb cn cf (-10002) _ ) gX4_of_X4_answered rfl rfl rfl (by decide +kernel) ⟨Nat.le_of_ble_eq_true rfl, Nat.le_of_ble_eq_true rfl⟩ [0] [1, 2] [2, 0, 1] (by decide) rfl rfl (by decide) (by decide) (by decide) (fun u => rfl) 0 4 rfl rfl rfl rfl hl.1 rfl (Nat.le_of_ble_eq_true rfl) dX4_of_24 ⟨Nat.le_of_ble_eq_true rfl, Nat.le_of_ble_eq_true rfl⟩ (fun r_23 u H locs hw_24 hP hD hS => ?_)
        obtain ⟨cb2_20, cn2_21, cf2_22⟩ := u
        try dsimp only at hw_24
        have hP : va_P D vwCl [(oP, .inr (4, [.ref hF, .ref hH, .ref hC, .int cb2_20, .int cn2_21, .int cf2_22])), (hF, .inr (1, [.ref cF, .ref aF, .ref wF])), (cF, .inl (cI, 39, .inl f))] H := hP
        have hD : va_D A [(oP, .inr (4, [.ref hF, .ref hH, .ref hC, .int cb2_20, .int cn2_21, .int cf2_22])), (hF, .inr (1, [.ref cF, .ref aF, .ref wF])), (cF, .inl (cI, 39, .inl f))] := hD
        obtain ⟨hw_24, hq_25⟩ := hw_24
        subst r_23
        exact hQ (-10002) (cb2_20, cn2_21, cf2_22) _ _ _ _ (rfl) (⟨by simp [gOf, vOf, c_3, c_10, c_17], by rw [ct_bad hq_25]; simp [gCt, vOf, c_3, c_10, c_17]⟩) hP hD hS dX4_of_27

set_option maxHeartbeats 4000000 in
set_option maxRecDepth 100000 in
theorem kX4_closest (l : Launch) (D : va_G) (cI cB : ClassId) (tE tN : Nat) (oP : Nat) (hF : Nat) (hH : Nat) (hC : Nat) (cb : Int32) (cn : Int32) (cf : Int32) (cF : Nat) (aF : Nat) (wF : Nat) (f : Nat → Int32) (t1 : Int64) (t2 : Int64) (t3 : Int64) (t4 : Int64) (i : Int32) (j : Int32) (w : Int32) (N : Nat) (sz : Nat) (hN : f 35 = nI N) (hN6 : N ≤ 6) : zL l yX4_closest wsX4_closest ({ frames := 3, cells := 0, slots := 0, locals := 73 }) D cI cB tE tN [.ref oP, .int i, .int j, .int w] [(oP, .inr (4, [.ref hF, .ref hH, .ref hC, .int cb, .int cn, .int cf])), (hF, .inr (1, [.ref cF, .ref aF, .ref wF])), (cF, .inl (cI, 39, .inl f)), (aF, .inr (0, [.long t1, .long t2, .long t3, .long t4]))] sz (fun u : Int64 × Int64 × Int64 × Int64 × Int32 × Int32 × Int32 => [(oP, .inr (4, [.ref hF, .ref hH, .ref hC, .int u.2.2.2.2.1, .int u.2.2.2.2.2.1, .int u.2.2.2.2.2.2])), (hF, .inr (1, [.ref cF, .ref aF, .ref wF])), (cF, .inl (cI, 39, .inl f)), (aF, .inr (0, [.long u.1, .long u.2.1, .long u.2.2.1, .long u.2.2.2.1]))]) (fun (r : Int64) (u : Int64 × Int64 × Int64 × Int64 × Int32 × Int32 × Int32) => r = gCl f i j w ∧ (u.2.2.2.2.1, u.2.2.2.2.2.1, u.2.2.2.2.2.2) = gCt (vCl f i j w) cb cn cf) 0 0 := by
  refine zL_mk (cc := cX4_closest) (maxL := 4) (by decide) rfl (Nat.le_of_ble_eq_true rfl) ?_
  intro p e s m below meth c A Q ls S0 hname hA hK hP hD hT hS hQ hl
  obtain ⟨hx, hb, hml, hown, hts⟩ := id S0
  have hl : lv_has ls 4 [(0, .ref oP), (1, .int i), (2, .int j), (3, .int w)] := hl
  have L10 : (Cond.fieldLink RX4 10 "PastAndClear" "fleet" "LPastAndClear$Fleet;").before ([.ref oP, .int i, .int j, .int w] : List Value).toArray s = true := hts (.fieldLink RX4 10 "PastAndClear" "fleet" "LPastAndClear$Fleet;") (by decide +kernel)
  have N4 : ∀ w ∈ u_ws RX4 TX4 6, w ∈ wsX4_closest := by decide +kernel
  refine lv_aload_n hx hb dX4_closest_0 rfl (lv_at hl 0 rfl) ?_
  refine va_get (D := D) (ci := 4) (v := .ref hF) (C := RX4) (T := TX4) (N := 6) hx hb hts N4 hown hK hP 0 rfl rfl 0 (by decide) L10 (fun _ h9 => h9) rfl dX4_closest_1 ?_
  refine lv_iload_n hx hb dX4_closest_4 rfl (lv_at hl 1 rfl) ?_
  refine lv_iload_n hx hb dX4_closest_5 rfl (lv_at hl 2 rfl) ?_
  refine z_VI (n := 2) (wn := (fun u : Unit => [(oP, .inr (4, [.ref hF, .ref hH, .ref hC, .int cb, .int cn, .int cf])), (hF, .inr (1, [.ref cF, .ref aF, .ref wF])), (cF, .inl (cI, 39, .inl f)), (aF, .inr (0, [.long t1, .long t2, .long t3, .long t4]))])) (wr := [(oP, .inr (4, [.ref hF, .ref hH, .ref hC, .int cb, .int cn, .int cf])), (aF, .inr (0, [.long t1, .long t2, .long t3, .long t4]))]) (As := [.int i, .int j]) (rest := []) ⟨hx, hb, hml, hown, hts⟩ hK hP hD hS hA hT (kX1_isPair l D cI cB tE tN hF cF aF wF f i j _ ) gX4_closest_X1_isPair rfl rfl rfl (by decide +kernel) ⟨Nat.le_of_ble_eq_true rfl, Nat.le_of_ble_eq_true rfl⟩ [1, 2] [0, 3] [0, 2, 3, 1] (by decide) rfl rfl (by decide) (by decide) (by decide) (fun u => rfl) 0 1 rfl rfl rfl rfl hl.1 rfl (Nat.le_of_ble_eq_true rfl) dX4_closest_6 ⟨Nat.le_of_ble_eq_true rfl, Nat.le_of_ble_eq_true rfl⟩ (fun r_1 u H locs hw_2 hP hD hS => ?_)
  try dsimp only at hw_2
  have hP : va_P D vwCl [(oP, .inr (4, [.ref hF, .ref hH, .ref hC, .int cb, .int cn, .int cf])), (hF, .inr (1, [.ref cF, .ref aF, .ref wF])), (cF, .inl (cI, 39, .inl f)), (aF, .inr (0, [.long t1, .long t2, .long t3, .long t4]))] H := hP
  have hD : va_D A [(oP, .inr (4, [.ref hF, .ref hH, .ref hC, .int cb, .int cn, .int cf])), (hF, .inr (1, [.ref cF, .ref aF, .ref wF])), (cF, .inl (cI, 39, .inl f)), (aF, .inr (0, [.long t1, .long t2, .long t3, .long t4]))] := hD
  subst r_1
  refine lv_if_eq (tgt := 21) hx hb dX4_closest_9 (by decide) (fun c_3 => ?_) (fun c_3 => ?_)
  · skip
    have c_3 := z_b0 c_3
    refine lv_aload_n hx hb dX4_closest_21 rfl (lv_at hl 0 rfl) ?_
    refine lv_sipush (v := (-10002)) hx hb dX4_closest_22 (by decide) ?_
    refine z_VI (n := 1) (wn := (fun u : Int32 × Int32 × Int32 => [(oP, .inr (4, [.ref hF, .ref hH, .ref hC, .int u.1, .int u.2.1, .int u.2.2])), (hF, .inr (1, [.ref cF, .ref aF, .ref wF])), (cF, .inl (cI, 39, .inl f)), (aF, .inr (0, [.long t1, .long t2, .long t3, .long t4]))])) (wr := [(hF, .inr (1, [.ref cF, .ref aF, .ref wF])), (cF, .inl (cI, 39, .inl f)), (aF, .inr (0, [.long t1, .long t2, .long t3, .long t4]))]) (As := [.int (-10002)]) (rest := []) ⟨hx, hb, hml, hown, hts⟩ hK hP hD hS hA hT (kX4_answered l D cI cB tE tN oP hF hH hC cb cn cf (-10002) _ ) gX4_closest_X4_answered rfl rfl rfl (by decide +kernel) ⟨Nat.le_of_ble_eq_true rfl, Nat.le_of_ble_eq_true rfl⟩ [0] [1, 2, 3] [3, 0, 1, 2] (by decide) rfl rfl (by decide) (by decide) (by decide) (fun u => rfl) 0 4 rfl rfl rfl rfl hl.1 rfl (Nat.le_of_ble_eq_true rfl) dX4_closest_25 ⟨Nat.le_of_ble_eq_true rfl, Nat.le_of_ble_eq_true rfl⟩ (fun r_7 u H locs hw_8 hP hD hS => ?_)
    obtain ⟨cb2_4, cn2_5, cf2_6⟩ := u
    try dsimp only at hw_8
    have hP : va_P D vwCl [(oP, .inr (4, [.ref hF, .ref hH, .ref hC, .int cb2_4, .int cn2_5, .int cf2_6])), (hF, .inr (1, [.ref cF, .ref aF, .ref wF])), (cF, .inl (cI, 39, .inl f)), (aF, .inr (0, [.long t1, .long t2, .long t3, .long t4]))] H := hP
    have hD : va_D A [(oP, .inr (4, [.ref hF, .ref hH, .ref hC, .int cb2_4, .int cn2_5, .int cf2_6])), (hF, .inr (1, [.ref cF, .ref aF, .ref wF])), (cF, .inl (cI, 39, .inl f)), (aF, .inr (0, [.long t1, .long t2, .long t3, .long t4]))] := hD
    obtain ⟨hw_8, hq_9⟩ := hw_8
    subst r_7
    refine lv_i2l (v := (-10002).toInt64) hx hb dX4_closest_28 rfl ?_
    exact hQ ((-10002).toInt64) (t1, t2, t3, t4, cb2_4, cn2_5, cf2_6) _ _ _ _ (⟨by simp [gCl, vCl, c_3], by rw [ct_bad hq_9]; simp [gCt, vCl, c_3]⟩) hP hD hS dX4_closest_29
  · skip
    have c_3 := z_b1 c_3
    refine lv_iload_n hx hb dX4_closest_12 rfl (lv_at hl 3 rfl) ?_
    refine lv_if_lt (tgt := 21) hx hb dX4_closest_13 (by decide) (fun c_10 => ?_) (fun c_10 => ?_)
    · skip
      refine lv_aload_n hx hb dX4_closest_21 rfl (lv_at hl 0 rfl) ?_
      refine lv_sipush (v := (-10002)) hx hb dX4_closest_22 (by decide) ?_
      refine z_VI (n := 1) (wn := (fun u : Int32 × Int32 × Int32 => [(oP, .inr (4, [.ref hF, .ref hH, .ref hC, .int u.1, .int u.2.1, .int u.2.2])), (hF, .inr (1, [.ref cF, .ref aF, .ref wF])), (cF, .inl (cI, 39, .inl f)), (aF, .inr (0, [.long t1, .long t2, .long t3, .long t4]))])) (wr := [(hF, .inr (1, [.ref cF, .ref aF, .ref wF])), (cF, .inl (cI, 39, .inl f)), (aF, .inr (0, [.long t1, .long t2, .long t3, .long t4]))]) (As := [.int (-10002)]) (rest := []) ⟨hx, hb, hml, hown, hts⟩ hK hP hD hS hA hT (kX4_answered l D cI cB tE tN oP hF hH hC cb cn cf (-10002) _ ) gX4_closest_X4_answered rfl rfl rfl (by decide +kernel) ⟨Nat.le_of_ble_eq_true rfl, Nat.le_of_ble_eq_true rfl⟩ [0] [1, 2, 3] [3, 0, 1, 2] (by decide) rfl rfl (by decide) (by decide) (by decide) (fun u => rfl) 0 4 rfl rfl rfl rfl hl.1 rfl (Nat.le_of_ble_eq_true rfl) dX4_closest_25 ⟨Nat.le_of_ble_eq_true rfl, Nat.le_of_ble_eq_true rfl⟩ (fun r_14 u H locs hw_15 hP hD hS => ?_)
      obtain ⟨cb2_11, cn2_12, cf2_13⟩ := u
      try dsimp only at hw_15
      have hP : va_P D vwCl [(oP, .inr (4, [.ref hF, .ref hH, .ref hC, .int cb2_11, .int cn2_12, .int cf2_13])), (hF, .inr (1, [.ref cF, .ref aF, .ref wF])), (cF, .inl (cI, 39, .inl f)), (aF, .inr (0, [.long t1, .long t2, .long t3, .long t4]))] H := hP
      have hD : va_D A [(oP, .inr (4, [.ref hF, .ref hH, .ref hC, .int cb2_11, .int cn2_12, .int cf2_13])), (hF, .inr (1, [.ref cF, .ref aF, .ref wF])), (cF, .inl (cI, 39, .inl f)), (aF, .inr (0, [.long t1, .long t2, .long t3, .long t4]))] := hD
      obtain ⟨hw_15, hq_16⟩ := hw_15
      subst r_14
      refine lv_i2l (v := (-10002).toInt64) hx hb dX4_closest_28 rfl ?_
      exact hQ ((-10002).toInt64) (t1, t2, t3, t4, cb2_11, cn2_12, cf2_13) _ _ _ _ (⟨by simp [gCl, vCl, c_3, c_10], by rw [ct_bad hq_16]; simp [gCt, vCl, c_3, c_10]⟩) hP hD hS dX4_closest_29
    · skip
      refine lv_iload_n hx hb dX4_closest_16 rfl (lv_at hl 3 rfl) ?_
      refine lv_iconst (v := 3) hx hb dX4_closest_17 (by decide) ?_
      refine lv_icmp_le (tgt := 30) hx hb dX4_closest_18 (by decide) (fun c_17 => ?_) (fun c_17 => ?_)
      · skip
        obtain ⟨k, rfl, hk⟩ := z_nat (b := 3) (Int32.not_lt.mp c_10) c_17 (by decide)
        have hck : (nI k).toNatClampNeg = k := nI_clamp (by omega)
        obtain ⟨n, rfl, hn⟩ := cShip_n hN hN6 (cPair_1 c_3)
        have hcn : (nI n).toNatClampNeg = n := nI_clamp (by omega)
        obtain ⟨q, rfl, hq⟩ := cShip_n hN hN6 (cPair_2 c_3)
        have hcq : (nI q).toNatClampNeg = q := nI_clamp (by omega)
        refine lv_aload_n hx hb dX4_closest_30 rfl (lv_at hl 0 rfl) ?_
        refine va_get (D := D) (ci := 4) (v := .ref hF) (C := RX4) (T := TX4) (N := 6) hx hb hts N4 hown hK hP 0 rfl rfl 0 (by decide) L10 (fun _ h9 => h9) rfl dX4_closest_31 ?_
        refine lv_iload_n hx hb dX4_closest_34 rfl (lv_at hl 1 rfl) ?_
        refine lv_iload_n hx hb dX4_closest_35 rfl (lv_at hl 2 rfl) ?_
        refine z_VR (n := 2) (wn := (fun u : Int64 × Int64 × Int64 × Int64 => [(oP, .inr (4, [.ref hF, .ref hH, .ref hC, .int cb, .int cn, .int cf])), (hF, .inr (1, [.ref cF, .ref aF, .ref wF])), (cF, .inl (cI, 39, .inl f)), (aF, .inr (0, [.long u.1, .long u.2.1, .long u.2.2.1, .long u.2.2.2]))])) (wr := [(oP, .inr (4, [.ref hF, .ref hH, .ref hC, .int cb, .int cn, .int cf]))]) (As := [.int (nI n), .int (nI q)]) (rest := []) ⟨hx, hb, hml, hown, hts⟩ hK hP hD hS hA hT (kX1_approachOf l D cI cB tE tN hF cF aF wF f t1 t2 t3 t4 n q _ (by omega) (by omega)) gX4_closest_X1_approachOf rfl rfl rfl (by decide +kernel) ⟨Nat.le_of_ble_eq_true rfl, Nat.le_of_ble_eq_true rfl⟩ [1, 2, 3] [0] [0, 1, 2, 3] (by decide) rfl rfl (by decide) (by decide) (by decide) (fun u => rfl) 0 1 rfl rfl rfl rfl hl.1 rfl (Nat.le_of_ble_eq_true rfl) dX4_closest_36 ⟨Nat.le_of_ble_eq_true rfl, Nat.le_of_ble_eq_true rfl⟩ (fun r_22 u H locs hw_23 hP hD hS => ?_)
        obtain ⟨b1_18, b2_19, b3_20, b4_21⟩ := u
        try dsimp only at hw_23
        have hP : va_P D vwCl [(oP, .inr (4, [.ref hF, .ref hH, .ref hC, .int cb, .int cn, .int cf])), (hF, .inr (1, [.ref cF, .ref aF, .ref wF])), (cF, .inl (cI, 39, .inl f)), (aF, .inr (0, [.long b1_18, .long b2_19, .long b3_20, .long b4_21]))] H := hP
        have hD : va_D A [(oP, .inr (4, [.ref hF, .ref hH, .ref hC, .int cb, .int cn, .int cf])), (hF, .inr (1, [.ref cF, .ref aF, .ref wF])), (cF, .inl (cI, 39, .inl f)), (aF, .inr (0, [.long b1_18, .long b2_19, .long b3_20, .long b4_21]))] := hD
        obtain ⟨hw_23, hq_24⟩ := hw_23
        subst r_22
        have hm := hq_24
        refine lv_iload_n hx hb dX4_closest_39 rfl (lv_at hl 3 rfl) ?_
        refine z_VL (n := 1) (wn := (fun u : Unit => [(oP, .inr (4, [.ref hF, .ref hH, .ref hC, .int cb, .int cn, .int cf])), (hF, .inr (1, [.ref cF, .ref aF, .ref wF])), (cF, .inl (cI, 39, .inl f)), (aF, .inr (0, [.long b1_18, .long b2_19, .long b3_20, .long b4_21]))])) (wr := [(oP, .inr (4, [.ref hF, .ref hH, .ref hC, .int cb, .int cn, .int cf])), (hF, .inr (1, [.ref cF, .ref aF, .ref wF])), (cF, .inl (cI, 39, .inl f))]) (As := [.int (nI k)]) (rest := []) ⟨hx, hb, hml, hown, hts⟩ hK hP hD hS hA hT (kX0_part l D cI cB tE tN aF b1_18 b2_19 b3_20 b4_21 k _ (by omega)) gX4_closest_X0_part rfl rfl rfl (by decide +kernel) ⟨Nat.le_of_ble_eq_true rfl, Nat.le_of_ble_eq_true rfl⟩ [3] [0, 1, 2] [0, 1, 2, 3] (by decide) rfl rfl (by decide) (by decide) (by decide) (fun u => rfl) 0 0 rfl rfl rfl rfl hl.1 rfl (Nat.le_of_ble_eq_true rfl) dX4_closest_40 ⟨Nat.le_of_ble_eq_true rfl, Nat.le_of_ble_eq_true rfl⟩ (fun r_25 u H locs hw_26 hP hD hS => ?_)
        try dsimp only at hw_26
        have hP : va_P D vwCl [(oP, .inr (4, [.ref hF, .ref hH, .ref hC, .int cb, .int cn, .int cf])), (hF, .inr (1, [.ref cF, .ref aF, .ref wF])), (cF, .inl (cI, 39, .inl f)), (aF, .inr (0, [.long b1_18, .long b2_19, .long b3_20, .long b4_21]))] H := hP
        have hD : va_D A [(oP, .inr (4, [.ref hF, .ref hH, .ref hC, .int cb, .int cn, .int cf])), (hF, .inr (1, [.ref cF, .ref aF, .ref wF])), (cF, .inl (cI, 39, .inl f)), (aF, .inr (0, [.long b1_18, .long b2_19, .long b3_20, .long b4_21]))] := hD
        subst r_25
        exact hQ (cPt b1_18 b2_19 b3_20 b4_21 k) (b1_18, b2_19, b3_20, b4_21, cb, cn, cf) _ _ _ _ (⟨by rw [gCl, if_pos (by simp [vCl, c_3, c_10, c_17]), hcn, hcq, hck, ← hm], by simp [gCt, vCl, c_3, c_10, c_17]⟩) hP hD hS dX4_closest_43
      · skip
        refine lv_aload_n hx hb dX4_closest_21 rfl (lv_at hl 0 rfl) ?_
        refine lv_sipush (v := (-10002)) hx hb dX4_closest_22 (by decide) ?_
        refine z_VI (n := 1) (wn := (fun u : Int32 × Int32 × Int32 => [(oP, .inr (4, [.ref hF, .ref hH, .ref hC, .int u.1, .int u.2.1, .int u.2.2])), (hF, .inr (1, [.ref cF, .ref aF, .ref wF])), (cF, .inl (cI, 39, .inl f)), (aF, .inr (0, [.long t1, .long t2, .long t3, .long t4]))])) (wr := [(hF, .inr (1, [.ref cF, .ref aF, .ref wF])), (cF, .inl (cI, 39, .inl f)), (aF, .inr (0, [.long t1, .long t2, .long t3, .long t4]))]) (As := [.int (-10002)]) (rest := []) ⟨hx, hb, hml, hown, hts⟩ hK hP hD hS hA hT (kX4_answered l D cI cB tE tN oP hF hH hC cb cn cf (-10002) _ ) gX4_closest_X4_answered rfl rfl rfl (by decide +kernel) ⟨Nat.le_of_ble_eq_true rfl, Nat.le_of_ble_eq_true rfl⟩ [0] [1, 2, 3] [3, 0, 1, 2] (by decide) rfl rfl (by decide) (by decide) (by decide) (fun u => rfl) 0 4 rfl rfl rfl rfl hl.1 rfl (Nat.le_of_ble_eq_true rfl) dX4_closest_25 ⟨Nat.le_of_ble_eq_true rfl, Nat.le_of_ble_eq_true rfl⟩ (fun r_30 u H locs hw_31 hP hD hS => ?_)
        obtain ⟨cb2_27, cn2_28, cf2_29⟩ := u
        try dsimp only at hw_31
        have hP : va_P D vwCl [(oP, .inr (4, [.ref hF, .ref hH, .ref hC, .int cb2_27, .int cn2_28, .int cf2_29])), (hF, .inr (1, [.ref cF, .ref aF, .ref wF])), (cF, .inl (cI, 39, .inl f)), (aF, .inr (0, [.long t1, .long t2, .long t3, .long t4]))] H := hP
        have hD : va_D A [(oP, .inr (4, [.ref hF, .ref hH, .ref hC, .int cb2_27, .int cn2_28, .int cf2_29])), (hF, .inr (1, [.ref cF, .ref aF, .ref wF])), (cF, .inl (cI, 39, .inl f)), (aF, .inr (0, [.long t1, .long t2, .long t3, .long t4]))] := hD
        obtain ⟨hw_31, hq_32⟩ := hw_31
        subst r_30
        refine lv_i2l (v := (-10002).toInt64) hx hb dX4_closest_28 rfl ?_
        exact hQ ((-10002).toInt64) (t1, t2, t3, t4, cb2_27, cn2_28, cf2_29) _ _ _ _ (⟨by simp [gCl, vCl, c_3, c_10, c_17], by rw [ct_bad hq_32]; simp [gCt, vCl, c_3, c_10, c_17]⟩) hP hD hS dX4_closest_29

set_option maxHeartbeats 4000000 in
set_option maxRecDepth 100000 in
theorem kX4_risk (l : Launch) (D : va_G) (cI cB : ClassId) (tE tN : Nat) (oP : Nat) (hF : Nat) (hH : Nat) (hC : Nat) (cb : Int32) (cn : Int32) (cf : Int32) (cF : Nat) (aF : Nat) (wF : Nat) (f : Nat → Int32) (t1 : Int64) (t2 : Int64) (t3 : Int64) (t4 : Int64) (i : Int32) (j : Int32) (N : Nat) (sz : Nat) (hN : f 35 = nI N) (hN6 : N ≤ 6) : zI l yX4_risk wsX4_risk ({ frames := 2, cells := 0, slots := 0, locals := 60 }) D cI cB tE tN [.ref oP, .int i, .int j] [(oP, .inr (4, [.ref hF, .ref hH, .ref hC, .int cb, .int cn, .int cf])), (hF, .inr (1, [.ref cF, .ref aF, .ref wF])), (cF, .inl (cI, 39, .inl f)), (aF, .inr (0, [.long t1, .long t2, .long t3, .long t4]))] sz (fun u : Int64 × Int64 × Int64 × Int64 × Int32 × Int32 × Int32 => [(oP, .inr (4, [.ref hF, .ref hH, .ref hC, .int u.2.2.2.2.1, .int u.2.2.2.2.2.1, .int u.2.2.2.2.2.2])), (hF, .inr (1, [.ref cF, .ref aF, .ref wF])), (cF, .inl (cI, 39, .inl f)), (aF, .inr (0, [.long u.1, .long u.2.1, .long u.2.2.1, .long u.2.2.2.1]))]) (fun (r : Int32) (u : Int64 × Int64 × Int64 × Int64 × Int32 × Int32 × Int32) => r = gRi f i j ∧ (u.2.2.2.2.1, u.2.2.2.2.2.1, u.2.2.2.2.2.2) = gCt (cPair f i j) cb cn cf) 0 0 := by
  refine zI_mk (cc := cX4_risk) (maxL := 3) (rt := .int) (by decide) rfl (Nat.le_of_ble_eq_true rfl) ?_
  intro p e s m below meth c A Q ls S0 hname hA hK hP hD hT hS hQ hl
  obtain ⟨hx, hb, hml, hown, hts⟩ := id S0
  have hl : lv_has ls 3 [(0, .ref oP), (1, .int i), (2, .int j)] := hl
  have L10 : (Cond.fieldLink RX4 10 "PastAndClear" "fleet" "LPastAndClear$Fleet;").before ([.ref oP, .int i, .int j] : List Value).toArray s = true := hts (.fieldLink RX4 10 "PastAndClear" "fleet" "LPastAndClear$Fleet;") (by decide +kernel)
  have N4 : ∀ w ∈ u_ws RX4 TX4 6, w ∈ wsX4_risk := by decide +kernel
  refine lv_aload_n hx hb dX4_risk_0 rfl (lv_at hl 0 rfl) ?_
  refine va_get (D := D) (ci := 4) (v := .ref hF) (C := RX4) (T := TX4) (N := 6) hx hb hts N4 hown hK hP 0 rfl rfl 0 (by decide) L10 (fun _ h9 => h9) rfl dX4_risk_1 ?_
  refine lv_iload_n hx hb dX4_risk_4 rfl (lv_at hl 1 rfl) ?_
  refine lv_iload_n hx hb dX4_risk_5 rfl (lv_at hl 2 rfl) ?_
  refine z_VI (n := 2) (wn := (fun u : Unit => [(oP, .inr (4, [.ref hF, .ref hH, .ref hC, .int cb, .int cn, .int cf])), (hF, .inr (1, [.ref cF, .ref aF, .ref wF])), (cF, .inl (cI, 39, .inl f)), (aF, .inr (0, [.long t1, .long t2, .long t3, .long t4]))])) (wr := [(oP, .inr (4, [.ref hF, .ref hH, .ref hC, .int cb, .int cn, .int cf])), (aF, .inr (0, [.long t1, .long t2, .long t3, .long t4]))]) (As := [.int i, .int j]) (rest := []) ⟨hx, hb, hml, hown, hts⟩ hK hP hD hS hA hT (kX1_isPair l D cI cB tE tN hF cF aF wF f i j _ ) gX4_risk_X1_isPair rfl rfl rfl (by decide +kernel) ⟨Nat.le_of_ble_eq_true rfl, Nat.le_of_ble_eq_true rfl⟩ [1, 2] [0, 3] [0, 2, 3, 1] (by decide) rfl rfl (by decide) (by decide) (by decide) (fun u => rfl) 0 1 rfl rfl rfl rfl hl.1 rfl (Nat.le_of_ble_eq_true rfl) dX4_risk_6 ⟨Nat.le_of_ble_eq_true rfl, Nat.le_of_ble_eq_true rfl⟩ (fun r_1 u H locs hw_2 hP hD hS => ?_)
  try dsimp only at hw_2
  have hP : va_P D vwCl [(oP, .inr (4, [.ref hF, .ref hH, .ref hC, .int cb, .int cn, .int cf])), (hF, .inr (1, [.ref cF, .ref aF, .ref wF])), (cF, .inl (cI, 39, .inl f)), (aF, .inr (0, [.long t1, .long t2, .long t3, .long t4]))] H := hP
  have hD : va_D A [(oP, .inr (4, [.ref hF, .ref hH, .ref hC, .int cb, .int cn, .int cf])), (hF, .inr (1, [.ref cF, .ref aF, .ref wF])), (cF, .inl (cI, 39, .inl f)), (aF, .inr (0, [.long t1, .long t2, .long t3, .long t4]))] := hD
  subst r_1
  refine lv_if_ne (tgt := 20) hx hb dX4_risk_9 (by decide) (fun c_3 => ?_) (fun c_3 => ?_)
  · skip
    have c_3 := z_b1 c_3
    obtain ⟨n, rfl, hn⟩ := cShip_n hN hN6 (cPair_1 c_3)
    have hcn : (nI n).toNatClampNeg = n := nI_clamp (by omega)
    obtain ⟨q, rfl, hq⟩ := cShip_n hN hN6 (cPair_2 c_3)
    have hcq : (nI q).toNatClampNeg = q := nI_clamp (by omega)
    refine lv_aload_n hx hb dX4_risk_20 rfl (lv_at hl 0 rfl) ?_
    refine va_get (D := D) (ci := 4) (v := .ref hF) (C := RX4) (T := TX4) (N := 6) hx hb hts N4 hown hK hP 0 rfl rfl 0 (by decide) L10 (fun _ h9 => h9) rfl dX4_risk_21 ?_
    refine lv_iload_n hx hb dX4_risk_24 rfl (lv_at hl 1 rfl) ?_
    refine lv_iload_n hx hb dX4_risk_25 rfl (lv_at hl 2 rfl) ?_
    refine z_VI (n := 2) (wn := (fun u : Int64 × Int64 × Int64 × Int64 => [(oP, .inr (4, [.ref hF, .ref hH, .ref hC, .int cb, .int cn, .int cf])), (hF, .inr (1, [.ref cF, .ref aF, .ref wF])), (cF, .inl (cI, 39, .inl f)), (aF, .inr (0, [.long u.1, .long u.2.1, .long u.2.2.1, .long u.2.2.2]))])) (wr := [(oP, .inr (4, [.ref hF, .ref hH, .ref hC, .int cb, .int cn, .int cf]))]) (As := [.int (nI n), .int (nI q)]) (rest := []) ⟨hx, hb, hml, hown, hts⟩ hK hP hD hS hA hT (kX1_haveRisk l D cI cB tE tN hF cF aF wF f t1 t2 t3 t4 n q _ (by omega) (by omega)) gX4_risk_X1_haveRisk rfl rfl rfl (by decide +kernel) ⟨Nat.le_of_ble_eq_true rfl, Nat.le_of_ble_eq_true rfl⟩ [1, 2, 3] [0] [0, 1, 2, 3] (by decide) rfl rfl (by decide) (by decide) (by decide) (fun u => rfl) 0 1 rfl rfl rfl rfl hl.1 rfl (Nat.le_of_ble_eq_true rfl) dX4_risk_26 ⟨Nat.le_of_ble_eq_true rfl, Nat.le_of_ble_eq_true rfl⟩ (fun r_8 u H locs hw_9 hP hD hS => ?_)
    obtain ⟨b1_4, b2_5, b3_6, b4_7⟩ := u
    try dsimp only at hw_9
    have hP : va_P D vwCl [(oP, .inr (4, [.ref hF, .ref hH, .ref hC, .int cb, .int cn, .int cf])), (hF, .inr (1, [.ref cF, .ref aF, .ref wF])), (cF, .inl (cI, 39, .inl f)), (aF, .inr (0, [.long b1_4, .long b2_5, .long b3_6, .long b4_7]))] H := hP
    have hD : va_D A [(oP, .inr (4, [.ref hF, .ref hH, .ref hC, .int cb, .int cn, .int cf])), (hF, .inr (1, [.ref cF, .ref aF, .ref wF])), (cF, .inl (cI, 39, .inl f)), (aF, .inr (0, [.long b1_4, .long b2_5, .long b3_6, .long b4_7]))] := hD
    obtain ⟨hw_9, hq_10⟩ := hw_9
    subst r_8
    refine lv_if_eq (tgt := 36) hx hb dX4_risk_29 (by decide) (fun c_11 => ?_) (fun c_11 => ?_)
    · skip
      have c_11 := z_b0 c_11
      refine lv_iconst (v := 0) hx hb dX4_risk_36 (by decide) ?_
      exact hQ 0 (b1_4, b2_5, b3_6, b4_7, cb, cn, cf) _ _ _ _ (rfl) (⟨by simp [gRi, c_3, c_11, b2i, hcn, hcq], by simp [gCt, c_3, c_11]⟩) hP hD hS dX4_risk_37
    · skip
      have c_11 := z_b1 c_11
      refine lv_iconst (v := 1) hx hb dX4_risk_32 (by decide) ?_
      refine lv_goto (tgt := 37) hx hb dX4_risk_33 (by decide) ?_
      exact hQ 1 (b1_4, b2_5, b3_6, b4_7, cb, cn, cf) _ _ _ _ (rfl) (⟨by simp [gRi, c_3, c_11, b2i, hcn, hcq], by simp [gCt, c_3, c_11]⟩) hP hD hS dX4_risk_37
  · skip
    have c_3 := z_b0 c_3
    refine lv_aload_n hx hb dX4_risk_12 rfl (lv_at hl 0 rfl) ?_
    refine lv_sipush (v := (-10002)) hx hb dX4_risk_13 (by decide) ?_
    refine z_VI (n := 1) (wn := (fun u : Int32 × Int32 × Int32 => [(oP, .inr (4, [.ref hF, .ref hH, .ref hC, .int u.1, .int u.2.1, .int u.2.2])), (hF, .inr (1, [.ref cF, .ref aF, .ref wF])), (cF, .inl (cI, 39, .inl f)), (aF, .inr (0, [.long t1, .long t2, .long t3, .long t4]))])) (wr := [(hF, .inr (1, [.ref cF, .ref aF, .ref wF])), (cF, .inl (cI, 39, .inl f)), (aF, .inr (0, [.long t1, .long t2, .long t3, .long t4]))]) (As := [.int (-10002)]) (rest := []) ⟨hx, hb, hml, hown, hts⟩ hK hP hD hS hA hT (kX4_answered l D cI cB tE tN oP hF hH hC cb cn cf (-10002) _ ) gX4_risk_X4_answered rfl rfl rfl (by decide +kernel) ⟨Nat.le_of_ble_eq_true rfl, Nat.le_of_ble_eq_true rfl⟩ [0] [1, 2, 3] [3, 0, 1, 2] (by decide) rfl rfl (by decide) (by decide) (by decide) (fun u => rfl) 0 4 rfl rfl rfl rfl hl.1 rfl (Nat.le_of_ble_eq_true rfl) dX4_risk_16 ⟨Nat.le_of_ble_eq_true rfl, Nat.le_of_ble_eq_true rfl⟩ (fun r_15 u H locs hw_16 hP hD hS => ?_)
    obtain ⟨cb2_12, cn2_13, cf2_14⟩ := u
    try dsimp only at hw_16
    have hP : va_P D vwCl [(oP, .inr (4, [.ref hF, .ref hH, .ref hC, .int cb2_12, .int cn2_13, .int cf2_14])), (hF, .inr (1, [.ref cF, .ref aF, .ref wF])), (cF, .inl (cI, 39, .inl f)), (aF, .inr (0, [.long t1, .long t2, .long t3, .long t4]))] H := hP
    have hD : va_D A [(oP, .inr (4, [.ref hF, .ref hH, .ref hC, .int cb2_12, .int cn2_13, .int cf2_14])), (hF, .inr (1, [.ref cF, .ref aF, .ref wF])), (cF, .inl (cI, 39, .inl f)), (aF, .inr (0, [.long t1, .long t2, .long t3, .long t4]))] := hD
    obtain ⟨hw_16, hq_17⟩ := hw_16
    subst r_15
    exact hQ (-10002) (t1, t2, t3, t4, cb2_12, cn2_13, cf2_14) _ _ _ _ (rfl) (⟨by simp [gRi, c_3], by rw [ct_bad hq_17]; simp [gCt, c_3]⟩) hP hD hS dX4_risk_19

set_option maxHeartbeats 4000000 in
set_option maxRecDepth 100000 in
theorem kX4_sector (l : Launch) (D : va_G) (cI cB : ClassId) (tE tN : Nat) (oP : Nat) (hF : Nat) (hH : Nat) (hC : Nat) (cb : Int32) (cn : Int32) (cf : Int32) (cF : Nat) (aF : Nat) (wF : Nat) (f : Nat → Int32) (i : Int32) (j : Int32) (N : Nat) (sz : Nat) (hN : f 35 = nI N) (hN6 : N ≤ 6) : zI l yX4_sector wsX4_sector ({ frames := 2, cells := 0, slots := 0, locals := 43 }) D cI cB tE tN [.ref oP, .int i, .int j] [(oP, .inr (4, [.ref hF, .ref hH, .ref hC, .int cb, .int cn, .int cf])), (hF, .inr (1, [.ref cF, .ref aF, .ref wF])), (cF, .inl (cI, 39, .inl f))] sz (fun u : Int32 × Int32 × Int32 => [(oP, .inr (4, [.ref hF, .ref hH, .ref hC, .int u.1, .int u.2.1, .int u.2.2])), (hF, .inr (1, [.ref cF, .ref aF, .ref wF])), (cF, .inl (cI, 39, .inl f))]) (fun (r : Int32) (u : Int32 × Int32 × Int32) => r = gSe f i j ∧ (u.1, u.2.1, u.2.2) = gCt (cPair f i j) cb cn cf) 0 0 := by
  refine zI_mk (cc := cX4_sector) (maxL := 3) (rt := .int) (by decide) rfl (Nat.le_of_ble_eq_true rfl) ?_
  intro p e s m below meth c A Q ls S0 hname hA hK hP hD hT hS hQ hl
  obtain ⟨hx, hb, hml, hown, hts⟩ := id S0
  have hl : lv_has ls 3 [(0, .ref oP), (1, .int i), (2, .int j)] := hl
  have L10 : (Cond.fieldLink RX4 10 "PastAndClear" "fleet" "LPastAndClear$Fleet;").before ([.ref oP, .int i, .int j] : List Value).toArray s = true := hts (.fieldLink RX4 10 "PastAndClear" "fleet" "LPastAndClear$Fleet;") (by decide +kernel)
  have N4 : ∀ w ∈ u_ws RX4 TX4 6, w ∈ wsX4_sector := by decide +kernel
  refine lv_aload_n hx hb dX4_sector_0 rfl (lv_at hl 0 rfl) ?_
  refine va_get (D := D) (ci := 4) (v := .ref hF) (C := RX4) (T := TX4) (N := 6) hx hb hts N4 hown hK hP 0 rfl rfl 0 (by decide) L10 (fun _ h9 => h9) rfl dX4_sector_1 ?_
  refine lv_iload_n hx hb dX4_sector_4 rfl (lv_at hl 1 rfl) ?_
  refine lv_iload_n hx hb dX4_sector_5 rfl (lv_at hl 2 rfl) ?_
  refine z_VI (n := 2) (wn := (fun u : Unit => [(oP, .inr (4, [.ref hF, .ref hH, .ref hC, .int cb, .int cn, .int cf])), (hF, .inr (1, [.ref cF, .ref aF, .ref wF])), (cF, .inl (cI, 39, .inl f))])) (wr := [(oP, .inr (4, [.ref hF, .ref hH, .ref hC, .int cb, .int cn, .int cf]))]) (As := [.int i, .int j]) (rest := []) ⟨hx, hb, hml, hown, hts⟩ hK hP hD hS hA hT (kX1_isPair l D cI cB tE tN hF cF aF wF f i j _ ) gX4_sector_X1_isPair rfl rfl rfl (by decide +kernel) ⟨Nat.le_of_ble_eq_true rfl, Nat.le_of_ble_eq_true rfl⟩ [1, 2] [0] [0, 1, 2] (by decide) rfl rfl (by decide) (by decide) (by decide) (fun u => rfl) 0 1 rfl rfl rfl rfl hl.1 rfl (Nat.le_of_ble_eq_true rfl) dX4_sector_6 ⟨Nat.le_of_ble_eq_true rfl, Nat.le_of_ble_eq_true rfl⟩ (fun r_1 u H locs hw_2 hP hD hS => ?_)
  try dsimp only at hw_2
  have hP : va_P D vwCl [(oP, .inr (4, [.ref hF, .ref hH, .ref hC, .int cb, .int cn, .int cf])), (hF, .inr (1, [.ref cF, .ref aF, .ref wF])), (cF, .inl (cI, 39, .inl f))] H := hP
  have hD : va_D A [(oP, .inr (4, [.ref hF, .ref hH, .ref hC, .int cb, .int cn, .int cf])), (hF, .inr (1, [.ref cF, .ref aF, .ref wF])), (cF, .inl (cI, 39, .inl f))] := hD
  subst r_1
  refine lv_if_ne (tgt := 20) hx hb dX4_sector_9 (by decide) (fun c_3 => ?_) (fun c_3 => ?_)
  · skip
    have c_3 := z_b1 c_3
    obtain ⟨n, rfl, hn⟩ := cShip_n hN hN6 (cPair_1 c_3)
    have hcn : (nI n).toNatClampNeg = n := nI_clamp (by omega)
    obtain ⟨q, rfl, hq⟩ := cShip_n hN hN6 (cPair_2 c_3)
    have hcq : (nI q).toNatClampNeg = q := nI_clamp (by omega)
    refine lv_aload_n hx hb dX4_sector_20 rfl (lv_at hl 0 rfl) ?_
    refine va_get (D := D) (ci := 4) (v := .ref hF) (C := RX4) (T := TX4) (N := 6) hx hb hts N4 hown hK hP 0 rfl rfl 0 (by decide) L10 (fun _ h9 => h9) rfl dX4_sector_21 ?_
    refine lv_iload_n hx hb dX4_sector_24 rfl (lv_at hl 1 rfl) ?_
    refine lv_iload_n hx hb dX4_sector_25 rfl (lv_at hl 2 rfl) ?_
    refine z_VI (n := 2) (wn := (fun u : Unit => [(oP, .inr (4, [.ref hF, .ref hH, .ref hC, .int cb, .int cn, .int cf])), (hF, .inr (1, [.ref cF, .ref aF, .ref wF])), (cF, .inl (cI, 39, .inl f))])) (wr := [(oP, .inr (4, [.ref hF, .ref hH, .ref hC, .int cb, .int cn, .int cf]))]) (As := [.int (nI n), .int (nI q)]) (rest := []) ⟨hx, hb, hml, hown, hts⟩ hK hP hD hS hA hT (kX1_sectorOf l D cI cB tE tN hF cF aF wF f n q _ (by omega) (by omega)) gX4_sector_X1_sectorOf rfl rfl rfl (by decide +kernel) ⟨Nat.le_of_ble_eq_true rfl, Nat.le_of_ble_eq_true rfl⟩ [1, 2] [0] [0, 1, 2] (by decide) rfl rfl (by decide) (by decide) (by decide) (fun u => rfl) 0 1 rfl rfl rfl rfl hl.1 rfl (Nat.le_of_ble_eq_true rfl) dX4_sector_26 ⟨Nat.le_of_ble_eq_true rfl, Nat.le_of_ble_eq_true rfl⟩ (fun r_4 u H locs hw_5 hP hD hS => ?_)
    try dsimp only at hw_5
    have hP : va_P D vwCl [(oP, .inr (4, [.ref hF, .ref hH, .ref hC, .int cb, .int cn, .int cf])), (hF, .inr (1, [.ref cF, .ref aF, .ref wF])), (cF, .inl (cI, 39, .inl f))] H := hP
    have hD : va_D A [(oP, .inr (4, [.ref hF, .ref hH, .ref hC, .int cb, .int cn, .int cf])), (hF, .inr (1, [.ref cF, .ref aF, .ref wF])), (cF, .inl (cI, 39, .inl f))] := hD
    subst r_4
    exact hQ (cSec f n q) (cb, cn, cf) _ _ _ _ (rfl) (⟨by simp [gSe, c_3, hcn, hcq], by simp [gCt, c_3]⟩) hP hD hS dX4_sector_29
  · skip
    have c_3 := z_b0 c_3
    refine lv_aload_n hx hb dX4_sector_12 rfl (lv_at hl 0 rfl) ?_
    refine lv_sipush (v := (-10002)) hx hb dX4_sector_13 (by decide) ?_
    refine z_VI (n := 1) (wn := (fun u : Int32 × Int32 × Int32 => [(oP, .inr (4, [.ref hF, .ref hH, .ref hC, .int u.1, .int u.2.1, .int u.2.2])), (hF, .inr (1, [.ref cF, .ref aF, .ref wF])), (cF, .inl (cI, 39, .inl f))])) (wr := [(hF, .inr (1, [.ref cF, .ref aF, .ref wF])), (cF, .inl (cI, 39, .inl f))]) (As := [.int (-10002)]) (rest := []) ⟨hx, hb, hml, hown, hts⟩ hK hP hD hS hA hT (kX4_answered l D cI cB tE tN oP hF hH hC cb cn cf (-10002) _ ) gX4_sector_X4_answered rfl rfl rfl (by decide +kernel) ⟨Nat.le_of_ble_eq_true rfl, Nat.le_of_ble_eq_true rfl⟩ [0] [1, 2] [2, 0, 1] (by decide) rfl rfl (by decide) (by decide) (by decide) (fun u => rfl) 0 4 rfl rfl rfl rfl hl.1 rfl (Nat.le_of_ble_eq_true rfl) dX4_sector_16 ⟨Nat.le_of_ble_eq_true rfl, Nat.le_of_ble_eq_true rfl⟩ (fun r_9 u H locs hw_10 hP hD hS => ?_)
    obtain ⟨cb2_6, cn2_7, cf2_8⟩ := u
    try dsimp only at hw_10
    have hP : va_P D vwCl [(oP, .inr (4, [.ref hF, .ref hH, .ref hC, .int cb2_6, .int cn2_7, .int cf2_8])), (hF, .inr (1, [.ref cF, .ref aF, .ref wF])), (cF, .inl (cI, 39, .inl f))] H := hP
    have hD : va_D A [(oP, .inr (4, [.ref hF, .ref hH, .ref hC, .int cb2_6, .int cn2_7, .int cf2_8])), (hF, .inr (1, [.ref cF, .ref aF, .ref wF])), (cF, .inl (cI, 39, .inl f))] := hD
    obtain ⟨hw_10, hq_11⟩ := hw_10
    subst r_9
    exact hQ (-10002) (cb2_6, cn2_7, cf2_8) _ _ _ _ (rfl) (⟨by simp [gSe, c_3], by rw [ct_bad hq_11]; simp [gCt, c_3]⟩) hP hD hS dX4_sector_19

set_option maxHeartbeats 4000000 in
set_option maxRecDepth 100000 in
theorem kX4_table (l : Launch) (D : va_G) (cI cB : ClassId) (tE tN : Nat) (oP : Nat) (hF : Nat) (hH : Nat) (hC : Nat) (cb : Int32) (cn : Int32) (cf : Int32) (cF : Nat) (aF : Nat) (wF : Nat) (f : Nat → Int32) (t1 : Int64) (t2 : Int64) (t3 : Int64) (t4 : Int64) (i : Int32) (j : Int32) (N : Nat) (sz : Nat) (hN : f 35 = nI N) (hN6 : N ≤ 6) : zI l yX4_table wsX4_table ({ frames := 3, cells := 0, slots := 0, locals := 84 }) D cI cB tE tN [.ref oP, .int i, .int j] [(oP, .inr (4, [.ref hF, .ref hH, .ref hC, .int cb, .int cn, .int cf])), (hF, .inr (1, [.ref cF, .ref aF, .ref wF])), (cF, .inl (cI, 39, .inl f)), (aF, .inr (0, [.long t1, .long t2, .long t3, .long t4]))] sz (fun u : Int64 × Int64 × Int64 × Int64 × Int32 × Int32 × Int32 => [(oP, .inr (4, [.ref hF, .ref hH, .ref hC, .int u.2.2.2.2.1, .int u.2.2.2.2.2.1, .int u.2.2.2.2.2.2])), (hF, .inr (1, [.ref cF, .ref aF, .ref wF])), (cF, .inl (cI, 39, .inl f)), (aF, .inr (0, [.long u.1, .long u.2.1, .long u.2.2.1, .long u.2.2.2.1]))]) (fun (r : Int32) (u : Int64 × Int64 × Int64 × Int64 × Int32 × Int32 × Int32) => r = gTa f i j ∧ (u.2.2.2.2.1, u.2.2.2.2.2.1, u.2.2.2.2.2.2) = gCt (cPair f i j) cb cn cf) 0 0 := by
  refine zI_mk (cc := cX4_table) (maxL := 3) (rt := .int) (by decide) rfl (Nat.le_of_ble_eq_true rfl) ?_
  intro p e s m below meth c A Q ls S0 hname hA hK hP hD hT hS hQ hl
  obtain ⟨hx, hb, hml, hown, hts⟩ := id S0
  have hl : lv_has ls 3 [(0, .ref oP), (1, .int i), (2, .int j)] := hl
  have L10 : (Cond.fieldLink RX4 10 "PastAndClear" "fleet" "LPastAndClear$Fleet;").before ([.ref oP, .int i, .int j] : List Value).toArray s = true := hts (.fieldLink RX4 10 "PastAndClear" "fleet" "LPastAndClear$Fleet;") (by decide +kernel)
  have N4 : ∀ w ∈ u_ws RX4 TX4 6, w ∈ wsX4_table := by decide +kernel
  refine lv_aload_n hx hb dX4_table_0 rfl (lv_at hl 0 rfl) ?_
  refine va_get (D := D) (ci := 4) (v := .ref hF) (C := RX4) (T := TX4) (N := 6) hx hb hts N4 hown hK hP 0 rfl rfl 0 (by decide) L10 (fun _ h9 => h9) rfl dX4_table_1 ?_
  refine lv_iload_n hx hb dX4_table_4 rfl (lv_at hl 1 rfl) ?_
  refine lv_iload_n hx hb dX4_table_5 rfl (lv_at hl 2 rfl) ?_
  refine z_VI (n := 2) (wn := (fun u : Unit => [(oP, .inr (4, [.ref hF, .ref hH, .ref hC, .int cb, .int cn, .int cf])), (hF, .inr (1, [.ref cF, .ref aF, .ref wF])), (cF, .inl (cI, 39, .inl f)), (aF, .inr (0, [.long t1, .long t2, .long t3, .long t4]))])) (wr := [(oP, .inr (4, [.ref hF, .ref hH, .ref hC, .int cb, .int cn, .int cf])), (aF, .inr (0, [.long t1, .long t2, .long t3, .long t4]))]) (As := [.int i, .int j]) (rest := []) ⟨hx, hb, hml, hown, hts⟩ hK hP hD hS hA hT (kX1_isPair l D cI cB tE tN hF cF aF wF f i j _ ) gX4_table_X1_isPair rfl rfl rfl (by decide +kernel) ⟨Nat.le_of_ble_eq_true rfl, Nat.le_of_ble_eq_true rfl⟩ [1, 2] [0, 3] [0, 2, 3, 1] (by decide) rfl rfl (by decide) (by decide) (by decide) (fun u => rfl) 0 1 rfl rfl rfl rfl hl.1 rfl (Nat.le_of_ble_eq_true rfl) dX4_table_6 ⟨Nat.le_of_ble_eq_true rfl, Nat.le_of_ble_eq_true rfl⟩ (fun r_1 u H locs hw_2 hP hD hS => ?_)
  try dsimp only at hw_2
  have hP : va_P D vwCl [(oP, .inr (4, [.ref hF, .ref hH, .ref hC, .int cb, .int cn, .int cf])), (hF, .inr (1, [.ref cF, .ref aF, .ref wF])), (cF, .inl (cI, 39, .inl f)), (aF, .inr (0, [.long t1, .long t2, .long t3, .long t4]))] H := hP
  have hD : va_D A [(oP, .inr (4, [.ref hF, .ref hH, .ref hC, .int cb, .int cn, .int cf])), (hF, .inr (1, [.ref cF, .ref aF, .ref wF])), (cF, .inl (cI, 39, .inl f)), (aF, .inr (0, [.long t1, .long t2, .long t3, .long t4]))] := hD
  subst r_1
  refine lv_if_ne (tgt := 20) hx hb dX4_table_9 (by decide) (fun c_3 => ?_) (fun c_3 => ?_)
  · skip
    have c_3 := z_b1 c_3
    obtain ⟨n, rfl, hn⟩ := cShip_n hN hN6 (cPair_1 c_3)
    have hcn : (nI n).toNatClampNeg = n := nI_clamp (by omega)
    obtain ⟨q, rfl, hq⟩ := cShip_n hN hN6 (cPair_2 c_3)
    have hcq : (nI q).toNatClampNeg = q := nI_clamp (by omega)
    refine lv_aload_n hx hb dX4_table_20 rfl (lv_at hl 0 rfl) ?_
    refine va_get (D := D) (ci := 4) (v := .ref hF) (C := RX4) (T := TX4) (N := 6) hx hb hts N4 hown hK hP 0 rfl rfl 0 (by decide) L10 (fun _ h9 => h9) rfl dX4_table_21 ?_
    refine lv_iload_n hx hb dX4_table_24 rfl (lv_at hl 1 rfl) ?_
    refine lv_iload_n hx hb dX4_table_25 rfl (lv_at hl 2 rfl) ?_
    refine z_VI (n := 2) (wn := (fun u : Int64 × Int64 × Int64 × Int64 => [(oP, .inr (4, [.ref hF, .ref hH, .ref hC, .int cb, .int cn, .int cf])), (hF, .inr (1, [.ref cF, .ref aF, .ref wF])), (cF, .inl (cI, 39, .inl f)), (aF, .inr (0, [.long u.1, .long u.2.1, .long u.2.2.1, .long u.2.2.2]))])) (wr := [(oP, .inr (4, [.ref hF, .ref hH, .ref hC, .int cb, .int cn, .int cf]))]) (As := [.int (nI n), .int (nI q)]) (rest := []) ⟨hx, hb, hml, hown, hts⟩ hK hP hD hS hA hT (kX1_tableOf l D cI cB tE tN hF cF aF wF f t1 t2 t3 t4 n q _ (by omega) (by omega)) gX4_table_X1_tableOf rfl rfl rfl (by decide +kernel) ⟨Nat.le_of_ble_eq_true rfl, Nat.le_of_ble_eq_true rfl⟩ [1, 2, 3] [0] [0, 1, 2, 3] (by decide) rfl rfl (by decide) (by decide) (by decide) (fun u => rfl) 0 1 rfl rfl rfl rfl hl.1 rfl (Nat.le_of_ble_eq_true rfl) dX4_table_26 ⟨Nat.le_of_ble_eq_true rfl, Nat.le_of_ble_eq_true rfl⟩ (fun r_8 u H locs hw_9 hP hD hS => ?_)
    obtain ⟨b1_4, b2_5, b3_6, b4_7⟩ := u
    try dsimp only at hw_9
    have hP : va_P D vwCl [(oP, .inr (4, [.ref hF, .ref hH, .ref hC, .int cb, .int cn, .int cf])), (hF, .inr (1, [.ref cF, .ref aF, .ref wF])), (cF, .inl (cI, 39, .inl f)), (aF, .inr (0, [.long b1_4, .long b2_5, .long b3_6, .long b4_7]))] H := hP
    have hD : va_D A [(oP, .inr (4, [.ref hF, .ref hH, .ref hC, .int cb, .int cn, .int cf])), (hF, .inr (1, [.ref cF, .ref aF, .ref wF])), (cF, .inl (cI, 39, .inl f)), (aF, .inr (0, [.long b1_4, .long b2_5, .long b3_6, .long b4_7]))] := hD
    subst r_8
    exact hQ (cTab f n q) (b1_4, b2_5, b3_6, b4_7, cb, cn, cf) _ _ _ _ (rfl) (⟨by simp [gTa, c_3, hcn, hcq], by simp [gCt, c_3]⟩) hP hD hS dX4_table_29
  · skip
    have c_3 := z_b0 c_3
    refine lv_aload_n hx hb dX4_table_12 rfl (lv_at hl 0 rfl) ?_
    refine lv_sipush (v := (-10002)) hx hb dX4_table_13 (by decide) ?_
    refine z_VI (n := 1) (wn := (fun u : Int32 × Int32 × Int32 => [(oP, .inr (4, [.ref hF, .ref hH, .ref hC, .int u.1, .int u.2.1, .int u.2.2])), (hF, .inr (1, [.ref cF, .ref aF, .ref wF])), (cF, .inl (cI, 39, .inl f)), (aF, .inr (0, [.long t1, .long t2, .long t3, .long t4]))])) (wr := [(hF, .inr (1, [.ref cF, .ref aF, .ref wF])), (cF, .inl (cI, 39, .inl f)), (aF, .inr (0, [.long t1, .long t2, .long t3, .long t4]))]) (As := [.int (-10002)]) (rest := []) ⟨hx, hb, hml, hown, hts⟩ hK hP hD hS hA hT (kX4_answered l D cI cB tE tN oP hF hH hC cb cn cf (-10002) _ ) gX4_table_X4_answered rfl rfl rfl (by decide +kernel) ⟨Nat.le_of_ble_eq_true rfl, Nat.le_of_ble_eq_true rfl⟩ [0] [1, 2, 3] [3, 0, 1, 2] (by decide) rfl rfl (by decide) (by decide) (by decide) (fun u => rfl) 0 4 rfl rfl rfl rfl hl.1 rfl (Nat.le_of_ble_eq_true rfl) dX4_table_16 ⟨Nat.le_of_ble_eq_true rfl, Nat.le_of_ble_eq_true rfl⟩ (fun r_13 u H locs hw_14 hP hD hS => ?_)
    obtain ⟨cb2_10, cn2_11, cf2_12⟩ := u
    try dsimp only at hw_14
    have hP : va_P D vwCl [(oP, .inr (4, [.ref hF, .ref hH, .ref hC, .int cb2_10, .int cn2_11, .int cf2_12])), (hF, .inr (1, [.ref cF, .ref aF, .ref wF])), (cF, .inl (cI, 39, .inl f)), (aF, .inr (0, [.long t1, .long t2, .long t3, .long t4]))] H := hP
    have hD : va_D A [(oP, .inr (4, [.ref hF, .ref hH, .ref hC, .int cb2_10, .int cn2_11, .int cf2_12])), (hF, .inr (1, [.ref cF, .ref aF, .ref wF])), (cF, .inl (cI, 39, .inl f)), (aF, .inr (0, [.long t1, .long t2, .long t3, .long t4]))] := hD
    obtain ⟨hw_14, hq_15⟩ := hw_14
    subst r_13
    exact hQ (-10002) (t1, t2, t3, t4, cb2_10, cn2_11, cf2_12) _ _ _ _ (rfl) (⟨by simp [gTa, c_3], by rw [ct_bad hq_15]; simp [gCt, c_3]⟩) hP hD hS dX4_table_19

set_option maxHeartbeats 4000000 in
set_option maxRecDepth 100000 in
theorem kX4_duty (l : Launch) (D : va_G) (cI cB : ClassId) (tE tN : Nat) (oP : Nat) (hF : Nat) (hH : Nat) (hC : Nat) (cb : Int32) (cn : Int32) (cf : Int32) (cF : Nat) (aF : Nat) (wF : Nat) (f : Nat → Int32) (i : Int32) (N : Nat) (sz : Nat) (hN : f 35 = nI N) (hN6 : N ≤ 6) : zI l yX4_duty wsX4_duty ({ frames := 1, cells := 0, slots := 0, locals := 21 }) D cI cB tE tN [.ref oP, .int i] [(oP, .inr (4, [.ref hF, .ref hH, .ref hC, .int cb, .int cn, .int cf])), (hF, .inr (1, [.ref cF, .ref aF, .ref wF])), (cF, .inl (cI, 39, .inl f))] sz (fun u : Int32 × Int32 × Int32 => [(oP, .inr (4, [.ref hF, .ref hH, .ref hC, .int u.1, .int u.2.1, .int u.2.2])), (hF, .inr (1, [.ref cF, .ref aF, .ref wF])), (cF, .inl (cI, 39, .inl f))]) (fun (r : Int32) (u : Int32 × Int32 × Int32) => r = gDu f i ∧ (u.1, u.2.1, u.2.2) = gCt (cOther f i) cb cn cf) 0 0 := by
  refine zI_mk (cc := cX4_duty) (maxL := 2) (rt := .int) (by decide) rfl (Nat.le_of_ble_eq_true rfl) ?_
  intro p e s m below meth c A Q ls S0 hname hA hK hP hD hT hS hQ hl
  obtain ⟨hx, hb, hml, hown, hts⟩ := id S0
  have hl : lv_has ls 2 [(0, .ref oP), (1, .int i)] := hl
  have L10 : (Cond.fieldLink RX4 10 "PastAndClear" "fleet" "LPastAndClear$Fleet;").before ([.ref oP, .int i] : List Value).toArray s = true := hts (.fieldLink RX4 10 "PastAndClear" "fleet" "LPastAndClear$Fleet;") (by decide +kernel)
  have N4 : ∀ w ∈ u_ws RX4 TX4 6, w ∈ wsX4_duty := by decide +kernel
  refine lv_aload_n hx hb dX4_duty_0 rfl (lv_at hl 0 rfl) ?_
  refine va_get (D := D) (ci := 4) (v := .ref hF) (C := RX4) (T := TX4) (N := 6) hx hb hts N4 hown hK hP 0 rfl rfl 0 (by decide) L10 (fun _ h9 => h9) rfl dX4_duty_1 ?_
  refine lv_iload_n hx hb dX4_duty_4 rfl (lv_at hl 1 rfl) ?_
  refine z_VI (n := 1) (wn := (fun u : Unit => [(oP, .inr (4, [.ref hF, .ref hH, .ref hC, .int cb, .int cn, .int cf])), (hF, .inr (1, [.ref cF, .ref aF, .ref wF])), (cF, .inl (cI, 39, .inl f))])) (wr := [(oP, .inr (4, [.ref hF, .ref hH, .ref hC, .int cb, .int cn, .int cf]))]) (As := [.int i]) (rest := []) ⟨hx, hb, hml, hown, hts⟩ hK hP hD hS hA hT (kX1_isOther l D cI cB tE tN hF cF aF wF f i _ ) gX4_duty_X1_isOther rfl rfl rfl (by decide +kernel) ⟨Nat.le_of_ble_eq_true rfl, Nat.le_of_ble_eq_true rfl⟩ [1, 2] [0] [0, 1, 2] (by decide) rfl rfl (by decide) (by decide) (by decide) (fun u => rfl) 0 1 rfl rfl rfl rfl hl.1 rfl (Nat.le_of_ble_eq_true rfl) dX4_duty_5 ⟨Nat.le_of_ble_eq_true rfl, Nat.le_of_ble_eq_true rfl⟩ (fun r_1 u H locs hw_2 hP hD hS => ?_)
  try dsimp only at hw_2
  have hP : va_P D vwCl [(oP, .inr (4, [.ref hF, .ref hH, .ref hC, .int cb, .int cn, .int cf])), (hF, .inr (1, [.ref cF, .ref aF, .ref wF])), (cF, .inl (cI, 39, .inl f))] H := hP
  have hD : va_D A [(oP, .inr (4, [.ref hF, .ref hH, .ref hC, .int cb, .int cn, .int cf])), (hF, .inr (1, [.ref cF, .ref aF, .ref wF])), (cF, .inl (cI, 39, .inl f))] := hD
  subst r_1
  refine lv_if_ne (tgt := 19) hx hb dX4_duty_8 (by decide) (fun c_3 => ?_) (fun c_3 => ?_)
  · skip
    have c_3 := z_b1 c_3
    obtain ⟨n, rfl, hn1, hn⟩ := cOther_n hN hN6 c_3
    have hcn : (nI n).toNatClampNeg = n := nI_clamp (by omega)
    refine lv_aload_n hx hb dX4_duty_19 rfl (lv_at hl 0 rfl) ?_
    refine va_get (D := D) (ci := 4) (v := .ref hF) (C := RX4) (T := TX4) (N := 6) hx hb hts N4 hown hK hP 0 rfl rfl 0 (by decide) L10 (fun _ h9 => h9) rfl dX4_duty_20 ?_
    refine lv_iload_n hx hb dX4_duty_23 rfl (lv_at hl 1 rfl) ?_
    refine z_VI (n := 1) (wn := (fun u : Unit => [(oP, .inr (4, [.ref hF, .ref hH, .ref hC, .int cb, .int cn, .int cf])), (hF, .inr (1, [.ref cF, .ref aF, .ref wF])), (cF, .inl (cI, 39, .inl f))])) (wr := [(oP, .inr (4, [.ref hF, .ref hH, .ref hC, .int cb, .int cn, .int cf]))]) (As := [.int (nI n)]) (rest := []) ⟨hx, hb, hml, hown, hts⟩ hK hP hD hS hA hT (kX1_dutyTo l D cI cB tE tN hF cF aF wF f n _ (by omega)) gX4_duty_X1_dutyTo rfl rfl rfl (by decide +kernel) ⟨Nat.le_of_ble_eq_true rfl, Nat.le_of_ble_eq_true rfl⟩ [1, 2] [0] [0, 1, 2] (by decide) rfl rfl (by decide) (by decide) (by decide) (fun u => rfl) 0 1 rfl rfl rfl rfl hl.1 rfl (Nat.le_of_ble_eq_true rfl) dX4_duty_24 ⟨Nat.le_of_ble_eq_true rfl, Nat.le_of_ble_eq_true rfl⟩ (fun r_4 u H locs hw_5 hP hD hS => ?_)
    try dsimp only at hw_5
    have hP : va_P D vwCl [(oP, .inr (4, [.ref hF, .ref hH, .ref hC, .int cb, .int cn, .int cf])), (hF, .inr (1, [.ref cF, .ref aF, .ref wF])), (cF, .inl (cI, 39, .inl f))] H := hP
    have hD : va_D A [(oP, .inr (4, [.ref hF, .ref hH, .ref hC, .int cb, .int cn, .int cf])), (hF, .inr (1, [.ref cF, .ref aF, .ref wF])), (cF, .inl (cI, 39, .inl f))] := hD
    subst r_4
    exact hQ (f (5 * n + 4)) (cb, cn, cf) _ _ _ _ (rfl) (⟨by simp [gDu, c_3, hcn], by simp [gCt, c_3]⟩) hP hD hS dX4_duty_27
  · skip
    have c_3 := z_b0 c_3
    refine lv_aload_n hx hb dX4_duty_11 rfl (lv_at hl 0 rfl) ?_
    refine lv_sipush (v := (-10002)) hx hb dX4_duty_12 (by decide) ?_
    refine z_VI (n := 1) (wn := (fun u : Int32 × Int32 × Int32 => [(oP, .inr (4, [.ref hF, .ref hH, .ref hC, .int u.1, .int u.2.1, .int u.2.2])), (hF, .inr (1, [.ref cF, .ref aF, .ref wF])), (cF, .inl (cI, 39, .inl f))])) (wr := [(hF, .inr (1, [.ref cF, .ref aF, .ref wF])), (cF, .inl (cI, 39, .inl f))]) (As := [.int (-10002)]) (rest := []) ⟨hx, hb, hml, hown, hts⟩ hK hP hD hS hA hT (kX4_answered l D cI cB tE tN oP hF hH hC cb cn cf (-10002) _ ) gX4_duty_X4_answered rfl rfl rfl (by decide +kernel) ⟨Nat.le_of_ble_eq_true rfl, Nat.le_of_ble_eq_true rfl⟩ [0] [1, 2] [2, 0, 1] (by decide) rfl rfl (by decide) (by decide) (by decide) (fun u => rfl) 0 4 rfl rfl rfl rfl hl.1 rfl (Nat.le_of_ble_eq_true rfl) dX4_duty_15 ⟨Nat.le_of_ble_eq_true rfl, Nat.le_of_ble_eq_true rfl⟩ (fun r_9 u H locs hw_10 hP hD hS => ?_)
    obtain ⟨cb2_6, cn2_7, cf2_8⟩ := u
    try dsimp only at hw_10
    have hP : va_P D vwCl [(oP, .inr (4, [.ref hF, .ref hH, .ref hC, .int cb2_6, .int cn2_7, .int cf2_8])), (hF, .inr (1, [.ref cF, .ref aF, .ref wF])), (cF, .inl (cI, 39, .inl f))] H := hP
    have hD : va_D A [(oP, .inr (4, [.ref hF, .ref hH, .ref hC, .int cb2_6, .int cn2_7, .int cf2_8])), (hF, .inr (1, [.ref cF, .ref aF, .ref wF])), (cF, .inl (cI, 39, .inl f))] := hD
    obtain ⟨hw_10, hq_11⟩ := hw_10
    subst r_9
    exact hQ (-10002) (cb2_6, cn2_7, cf2_8) _ _ _ _ (rfl) (⟨by simp [gDu, c_3], by rw [ct_bad hq_11]; simp [gCt, c_3]⟩) hP hD hS dX4_duty_18

set_option maxHeartbeats 4000000 in
set_option maxRecDepth 100000 in
theorem kX4_blocked (l : Launch) (D : va_G) (cI cB : ClassId) (tE tN : Nat) (oP : Nat) (hF : Nat) (hH : Nat) (hC : Nat) (cb : Int32) (cn : Int32) (cf : Int32) (cF : Nat) (aF : Nat) (wF : Nat) (f : Nat → Int32) (t1 : Int64) (t2 : Int64) (t3 : Int64) (t4 : Int64) (i : Int32) (N : Nat) (sz : Nat) (hN : f 35 = nI N) (hN6 : N ≤ 6) : zI l yX4_blocked wsX4_blocked ({ frames := 3, cells := 0, slots := 0, locals := 85 }) D cI cB tE tN [.ref oP, .int i] [(oP, .inr (4, [.ref hF, .ref hH, .ref hC, .int cb, .int cn, .int cf])), (hF, .inr (1, [.ref cF, .ref aF, .ref wF])), (cF, .inl (cI, 39, .inl f)), (aF, .inr (0, [.long t1, .long t2, .long t3, .long t4]))] sz (fun u : Int64 × Int64 × Int64 × Int64 × Int32 × Int32 × Int32 => [(oP, .inr (4, [.ref hF, .ref hH, .ref hC, .int u.2.2.2.2.1, .int u.2.2.2.2.2.1, .int u.2.2.2.2.2.2])), (hF, .inr (1, [.ref cF, .ref aF, .ref wF])), (cF, .inl (cI, 39, .inl f)), (aF, .inr (0, [.long u.1, .long u.2.1, .long u.2.2.1, .long u.2.2.2.1]))]) (fun (r : Int32) (u : Int64 × Int64 × Int64 × Int64 × Int32 × Int32 × Int32) => r = gBl f i ∧ (u.2.2.2.2.1, u.2.2.2.2.2.1, u.2.2.2.2.2.2) = gCt (cOther f i) cb cn cf) 0 0 := by
  refine zI_mk (cc := cX4_blocked) (maxL := 2) (rt := .int) (by decide) rfl (Nat.le_of_ble_eq_true rfl) ?_
  intro p e s m below meth c A Q ls S0 hname hA hK hP hD hT hS hQ hl
  obtain ⟨hx, hb, hml, hown, hts⟩ := id S0
  have hl : lv_has ls 2 [(0, .ref oP), (1, .int i)] := hl
  have L10 : (Cond.fieldLink RX4 10 "PastAndClear" "fleet" "LPastAndClear$Fleet;").before ([.ref oP, .int i] : List Value).toArray s = true := hts (.fieldLink RX4 10 "PastAndClear" "fleet" "LPastAndClear$Fleet;") (by decide +kernel)
  have N4 : ∀ w ∈ u_ws RX4 TX4 6, w ∈ wsX4_blocked := by decide +kernel
  refine lv_aload_n hx hb dX4_blocked_0 rfl (lv_at hl 0 rfl) ?_
  refine va_get (D := D) (ci := 4) (v := .ref hF) (C := RX4) (T := TX4) (N := 6) hx hb hts N4 hown hK hP 0 rfl rfl 0 (by decide) L10 (fun _ h9 => h9) rfl dX4_blocked_1 ?_
  refine lv_iload_n hx hb dX4_blocked_4 rfl (lv_at hl 1 rfl) ?_
  refine z_VI (n := 1) (wn := (fun u : Unit => [(oP, .inr (4, [.ref hF, .ref hH, .ref hC, .int cb, .int cn, .int cf])), (hF, .inr (1, [.ref cF, .ref aF, .ref wF])), (cF, .inl (cI, 39, .inl f)), (aF, .inr (0, [.long t1, .long t2, .long t3, .long t4]))])) (wr := [(oP, .inr (4, [.ref hF, .ref hH, .ref hC, .int cb, .int cn, .int cf])), (aF, .inr (0, [.long t1, .long t2, .long t3, .long t4]))]) (As := [.int i]) (rest := []) ⟨hx, hb, hml, hown, hts⟩ hK hP hD hS hA hT (kX1_isOther l D cI cB tE tN hF cF aF wF f i _ ) gX4_blocked_X1_isOther rfl rfl rfl (by decide +kernel) ⟨Nat.le_of_ble_eq_true rfl, Nat.le_of_ble_eq_true rfl⟩ [1, 2] [0, 3] [0, 2, 3, 1] (by decide) rfl rfl (by decide) (by decide) (by decide) (fun u => rfl) 0 1 rfl rfl rfl rfl hl.1 rfl (Nat.le_of_ble_eq_true rfl) dX4_blocked_5 ⟨Nat.le_of_ble_eq_true rfl, Nat.le_of_ble_eq_true rfl⟩ (fun r_1 u H locs hw_2 hP hD hS => ?_)
  try dsimp only at hw_2
  have hP : va_P D vwCl [(oP, .inr (4, [.ref hF, .ref hH, .ref hC, .int cb, .int cn, .int cf])), (hF, .inr (1, [.ref cF, .ref aF, .ref wF])), (cF, .inl (cI, 39, .inl f)), (aF, .inr (0, [.long t1, .long t2, .long t3, .long t4]))] H := hP
  have hD : va_D A [(oP, .inr (4, [.ref hF, .ref hH, .ref hC, .int cb, .int cn, .int cf])), (hF, .inr (1, [.ref cF, .ref aF, .ref wF])), (cF, .inl (cI, 39, .inl f)), (aF, .inr (0, [.long t1, .long t2, .long t3, .long t4]))] := hD
  subst r_1
  refine lv_if_ne (tgt := 19) hx hb dX4_blocked_8 (by decide) (fun c_3 => ?_) (fun c_3 => ?_)
  · skip
    have c_3 := z_b1 c_3
    obtain ⟨n, rfl, hn1, hn⟩ := cOther_n hN hN6 c_3
    have hcn : (nI n).toNatClampNeg = n := nI_clamp (by omega)
    refine lv_aload_n hx hb dX4_blocked_19 rfl (lv_at hl 0 rfl) ?_
    refine va_get (D := D) (ci := 4) (v := .ref hF) (C := RX4) (T := TX4) (N := 6) hx hb hts N4 hown hK hP 0 rfl rfl 0 (by decide) L10 (fun _ h9 => h9) rfl dX4_blocked_20 ?_
    refine lv_iload_n hx hb dX4_blocked_23 rfl (lv_at hl 1 rfl) ?_
    refine z_VI (n := 1) (wn := (fun u : Int64 × Int64 × Int64 × Int64 => [(oP, .inr (4, [.ref hF, .ref hH, .ref hC, .int cb, .int cn, .int cf])), (hF, .inr (1, [.ref cF, .ref aF, .ref wF])), (cF, .inl (cI, 39, .inl f)), (aF, .inr (0, [.long u.1, .long u.2.1, .long u.2.2.1, .long u.2.2.2]))])) (wr := [(oP, .inr (4, [.ref hF, .ref hH, .ref hC, .int cb, .int cn, .int cf]))]) (As := [.int (nI n)]) (rest := []) ⟨hx, hb, hml, hown, hts⟩ hK hP hD hS hA hT (kX1_blockedBy l D cI cB tE tN hF cF aF wF f t1 t2 t3 t4 n _ (by omega)) gX4_blocked_X1_blockedBy rfl rfl rfl (by decide +kernel) ⟨Nat.le_of_ble_eq_true rfl, Nat.le_of_ble_eq_true rfl⟩ [1, 2, 3] [0] [0, 1, 2, 3] (by decide) rfl rfl (by decide) (by decide) (by decide) (fun u => rfl) 0 1 rfl rfl rfl rfl hl.1 rfl (Nat.le_of_ble_eq_true rfl) dX4_blocked_24 ⟨Nat.le_of_ble_eq_true rfl, Nat.le_of_ble_eq_true rfl⟩ (fun r_8 u H locs hw_9 hP hD hS => ?_)
    obtain ⟨b1_4, b2_5, b3_6, b4_7⟩ := u
    try dsimp only at hw_9
    have hP : va_P D vwCl [(oP, .inr (4, [.ref hF, .ref hH, .ref hC, .int cb, .int cn, .int cf])), (hF, .inr (1, [.ref cF, .ref aF, .ref wF])), (cF, .inl (cI, 39, .inl f)), (aF, .inr (0, [.long b1_4, .long b2_5, .long b3_6, .long b4_7]))] H := hP
    have hD : va_D A [(oP, .inr (4, [.ref hF, .ref hH, .ref hC, .int cb, .int cn, .int cf])), (hF, .inr (1, [.ref cF, .ref aF, .ref wF])), (cF, .inl (cI, 39, .inl f)), (aF, .inr (0, [.long b1_4, .long b2_5, .long b3_6, .long b4_7]))] := hD
    subst r_8
    exact hQ (blF f n 16) (b1_4, b2_5, b3_6, b4_7, cb, cn, cf) _ _ _ _ (rfl) (⟨by simp [gBl, c_3, hcn], by simp [gCt, c_3]⟩) hP hD hS dX4_blocked_27
  · skip
    have c_3 := z_b0 c_3
    refine lv_aload_n hx hb dX4_blocked_11 rfl (lv_at hl 0 rfl) ?_
    refine lv_sipush (v := (-10002)) hx hb dX4_blocked_12 (by decide) ?_
    refine z_VI (n := 1) (wn := (fun u : Int32 × Int32 × Int32 => [(oP, .inr (4, [.ref hF, .ref hH, .ref hC, .int u.1, .int u.2.1, .int u.2.2])), (hF, .inr (1, [.ref cF, .ref aF, .ref wF])), (cF, .inl (cI, 39, .inl f)), (aF, .inr (0, [.long t1, .long t2, .long t3, .long t4]))])) (wr := [(hF, .inr (1, [.ref cF, .ref aF, .ref wF])), (cF, .inl (cI, 39, .inl f)), (aF, .inr (0, [.long t1, .long t2, .long t3, .long t4]))]) (As := [.int (-10002)]) (rest := []) ⟨hx, hb, hml, hown, hts⟩ hK hP hD hS hA hT (kX4_answered l D cI cB tE tN oP hF hH hC cb cn cf (-10002) _ ) gX4_blocked_X4_answered rfl rfl rfl (by decide +kernel) ⟨Nat.le_of_ble_eq_true rfl, Nat.le_of_ble_eq_true rfl⟩ [0] [1, 2, 3] [3, 0, 1, 2] (by decide) rfl rfl (by decide) (by decide) (by decide) (fun u => rfl) 0 4 rfl rfl rfl rfl hl.1 rfl (Nat.le_of_ble_eq_true rfl) dX4_blocked_15 ⟨Nat.le_of_ble_eq_true rfl, Nat.le_of_ble_eq_true rfl⟩ (fun r_13 u H locs hw_14 hP hD hS => ?_)
    obtain ⟨cb2_10, cn2_11, cf2_12⟩ := u
    try dsimp only at hw_14
    have hP : va_P D vwCl [(oP, .inr (4, [.ref hF, .ref hH, .ref hC, .int cb2_10, .int cn2_11, .int cf2_12])), (hF, .inr (1, [.ref cF, .ref aF, .ref wF])), (cF, .inl (cI, 39, .inl f)), (aF, .inr (0, [.long t1, .long t2, .long t3, .long t4]))] H := hP
    have hD : va_D A [(oP, .inr (4, [.ref hF, .ref hH, .ref hC, .int cb2_10, .int cn2_11, .int cf2_12])), (hF, .inr (1, [.ref cF, .ref aF, .ref wF])), (cF, .inl (cI, 39, .inl f)), (aF, .inr (0, [.long t1, .long t2, .long t3, .long t4]))] := hD
    obtain ⟨hw_14, hq_15⟩ := hw_14
    subst r_13
    exact hQ (-10002) (t1, t2, t3, t4, cb2_10, cn2_11, cf2_12) _ _ _ _ (rfl) (⟨by simp [gBl, c_3], by rw [ct_bad hq_15]; simp [gCt, c_3]⟩) hP hD hS dX4_blocked_18

set_option maxHeartbeats 4000000 in
set_option maxRecDepth 100000 in
theorem kX4_advice (l : Launch) (D : va_G) (cI cB : ClassId) (tE tN : Nat) (oP : Nat) (hF : Nat) (hH : Nat) (hC : Nat) (cb : Int32) (cn : Int32) (cf : Int32) (cF : Nat) (aF : Nat) (wF : Nat) (f : Nat → Int32) (t1 : Int64) (t2 : Int64) (t3 : Int64) (t4 : Int64) (i : Int32) (N : Nat) (sz : Nat) (hN : f 35 = nI N) (hN6 : N ≤ 6) : zI l yX4_advice wsX4_advice ({ frames := 5, cells := 0, slots := 0, locals := 132 }) D cI cB tE tN [.ref oP, .int i] [(oP, .inr (4, [.ref hF, .ref hH, .ref hC, .int cb, .int cn, .int cf])), (hF, .inr (1, [.ref cF, .ref aF, .ref wF])), (cF, .inl (cI, 39, .inl f)), (aF, .inr (0, [.long t1, .long t2, .long t3, .long t4]))] sz (fun u : Int64 × Int64 × Int64 × Int64 × Int32 × Int32 × Int32 => [(oP, .inr (4, [.ref hF, .ref hH, .ref hC, .int u.2.2.2.2.1, .int u.2.2.2.2.2.1, .int u.2.2.2.2.2.2])), (hF, .inr (1, [.ref cF, .ref aF, .ref wF])), (cF, .inl (cI, 39, .inl f)), (aF, .inr (0, [.long u.1, .long u.2.1, .long u.2.2.1, .long u.2.2.2.1]))]) (fun (r : Int32) (u : Int64 × Int64 × Int64 × Int64 × Int32 × Int32 × Int32) => r = gAd f N i ∧ (u.2.2.2.2.1, u.2.2.2.2.2.1, u.2.2.2.2.2.2) = gCt (cShip f i) cb cn cf) 0 0 := by
  refine zI_mk (cc := cX4_advice) (maxL := 2) (rt := .int) (by decide) rfl (Nat.le_of_ble_eq_true rfl) ?_
  intro p e s m below meth c A Q ls S0 hname hA hK hP hD hT hS hQ hl
  obtain ⟨hx, hb, hml, hown, hts⟩ := id S0
  have hl : lv_has ls 2 [(0, .ref oP), (1, .int i)] := hl
  have L10 : (Cond.fieldLink RX4 10 "PastAndClear" "fleet" "LPastAndClear$Fleet;").before ([.ref oP, .int i] : List Value).toArray s = true := hts (.fieldLink RX4 10 "PastAndClear" "fleet" "LPastAndClear$Fleet;") (by decide +kernel)
  have N4 : ∀ w ∈ u_ws RX4 TX4 6, w ∈ wsX4_advice := by decide +kernel
  refine lv_aload_n hx hb dX4_advice_0 rfl (lv_at hl 0 rfl) ?_
  refine va_get (D := D) (ci := 4) (v := .ref hF) (C := RX4) (T := TX4) (N := 6) hx hb hts N4 hown hK hP 0 rfl rfl 0 (by decide) L10 (fun _ h9 => h9) rfl dX4_advice_1 ?_
  refine lv_iload_n hx hb dX4_advice_4 rfl (lv_at hl 1 rfl) ?_
  refine z_VI (n := 1) (wn := (fun u : Unit => [(oP, .inr (4, [.ref hF, .ref hH, .ref hC, .int cb, .int cn, .int cf])), (hF, .inr (1, [.ref cF, .ref aF, .ref wF])), (cF, .inl (cI, 39, .inl f)), (aF, .inr (0, [.long t1, .long t2, .long t3, .long t4]))])) (wr := [(oP, .inr (4, [.ref hF, .ref hH, .ref hC, .int cb, .int cn, .int cf])), (aF, .inr (0, [.long t1, .long t2, .long t3, .long t4]))]) (As := [.int i]) (rest := []) ⟨hx, hb, hml, hown, hts⟩ hK hP hD hS hA hT (kX1_isShip l D cI cB tE tN hF cF aF wF f i _ ) gX4_advice_X1_isShip rfl rfl rfl (by decide +kernel) ⟨Nat.le_of_ble_eq_true rfl, Nat.le_of_ble_eq_true rfl⟩ [1, 2] [0, 3] [0, 2, 3, 1] (by decide) rfl rfl (by decide) (by decide) (by decide) (fun u => rfl) 0 1 rfl rfl rfl rfl hl.1 rfl (Nat.le_of_ble_eq_true rfl) dX4_advice_5 ⟨Nat.le_of_ble_eq_true rfl, Nat.le_of_ble_eq_true rfl⟩ (fun r_1 u H locs hw_2 hP hD hS => ?_)
  try dsimp only at hw_2
  have hP : va_P D vwCl [(oP, .inr (4, [.ref hF, .ref hH, .ref hC, .int cb, .int cn, .int cf])), (hF, .inr (1, [.ref cF, .ref aF, .ref wF])), (cF, .inl (cI, 39, .inl f)), (aF, .inr (0, [.long t1, .long t2, .long t3, .long t4]))] H := hP
  have hD : va_D A [(oP, .inr (4, [.ref hF, .ref hH, .ref hC, .int cb, .int cn, .int cf])), (hF, .inr (1, [.ref cF, .ref aF, .ref wF])), (cF, .inl (cI, 39, .inl f)), (aF, .inr (0, [.long t1, .long t2, .long t3, .long t4]))] := hD
  subst r_1
  refine lv_if_ne (tgt := 19) hx hb dX4_advice_8 (by decide) (fun c_3 => ?_) (fun c_3 => ?_)
  · skip
    have c_3 := z_b1 c_3
    obtain ⟨n, rfl, hn⟩ := cShip_n hN hN6 c_3
    have hcn : (nI n).toNatClampNeg = n := nI_clamp (by omega)
    refine lv_aload_n hx hb dX4_advice_19 rfl (lv_at hl 0 rfl) ?_
    refine va_get (D := D) (ci := 4) (v := .ref hF) (C := RX4) (T := TX4) (N := 6) hx hb hts N4 hown hK hP 0 rfl rfl 0 (by decide) L10 (fun _ h9 => h9) rfl dX4_advice_20 ?_
    refine lv_iload_n hx hb dX4_advice_23 rfl (lv_at hl 1 rfl) ?_
    refine z_VI (n := 1) (wn := (fun u : Int64 × Int64 × Int64 × Int64 => [(oP, .inr (4, [.ref hF, .ref hH, .ref hC, .int cb, .int cn, .int cf])), (hF, .inr (1, [.ref cF, .ref aF, .ref wF])), (cF, .inl (cI, 39, .inl f)), (aF, .inr (0, [.long u.1, .long u.2.1, .long u.2.2.1, .long u.2.2.2]))])) (wr := [(oP, .inr (4, [.ref hF, .ref hH, .ref hC, .int cb, .int cn, .int cf]))]) (As := [.int (nI n)]) (rest := []) ⟨hx, hb, hml, hown, hts⟩ hK hP hD hS hA hT (kX1_adviceFor l D cI cB tE tN hF cF aF wF f t1 t2 t3 t4 n N _ (by omega) (by omega) (by omega)) gX4_advice_X1_adviceFor rfl rfl rfl (by decide +kernel) ⟨Nat.le_of_ble_eq_true rfl, Nat.le_of_ble_eq_true rfl⟩ [1, 2, 3] [0] [0, 1, 2, 3] (by decide) rfl rfl (by decide) (by decide) (by decide) (fun u => rfl) 0 1 rfl rfl rfl rfl hl.1 rfl (Nat.le_of_ble_eq_true rfl) dX4_advice_24 ⟨Nat.le_of_ble_eq_true rfl, Nat.le_of_ble_eq_true rfl⟩ (fun r_8 u H locs hw_9 hP hD hS => ?_)
    obtain ⟨b1_4, b2_5, b3_6, b4_7⟩ := u
    try dsimp only at hw_9
    have hP : va_P D vwCl [(oP, .inr (4, [.ref hF, .ref hH, .ref hC, .int cb, .int cn, .int cf])), (hF, .inr (1, [.ref cF, .ref aF, .ref wF])), (cF, .inl (cI, 39, .inl f)), (aF, .inr (0, [.long b1_4, .long b2_5, .long b3_6, .long b4_7]))] H := hP
    have hD : va_D A [(oP, .inr (4, [.ref hF, .ref hH, .ref hC, .int cb, .int cn, .int cf])), (hF, .inr (1, [.ref cF, .ref aF, .ref wF])), (cF, .inl (cI, 39, .inl f)), (aF, .inr (0, [.long b1_4, .long b2_5, .long b3_6, .long b4_7]))] := hD
    subst r_8
    exact hQ (cAdv f N n) (b1_4, b2_5, b3_6, b4_7, cb, cn, cf) _ _ _ _ (rfl) (⟨by simp [gAd, c_3, hcn], by simp [gCt, c_3]⟩) hP hD hS dX4_advice_27
  · skip
    have c_3 := z_b0 c_3
    refine lv_aload_n hx hb dX4_advice_11 rfl (lv_at hl 0 rfl) ?_
    refine lv_sipush (v := (-10002)) hx hb dX4_advice_12 (by decide) ?_
    refine z_VI (n := 1) (wn := (fun u : Int32 × Int32 × Int32 => [(oP, .inr (4, [.ref hF, .ref hH, .ref hC, .int u.1, .int u.2.1, .int u.2.2])), (hF, .inr (1, [.ref cF, .ref aF, .ref wF])), (cF, .inl (cI, 39, .inl f)), (aF, .inr (0, [.long t1, .long t2, .long t3, .long t4]))])) (wr := [(hF, .inr (1, [.ref cF, .ref aF, .ref wF])), (cF, .inl (cI, 39, .inl f)), (aF, .inr (0, [.long t1, .long t2, .long t3, .long t4]))]) (As := [.int (-10002)]) (rest := []) ⟨hx, hb, hml, hown, hts⟩ hK hP hD hS hA hT (kX4_answered l D cI cB tE tN oP hF hH hC cb cn cf (-10002) _ ) gX4_advice_X4_answered rfl rfl rfl (by decide +kernel) ⟨Nat.le_of_ble_eq_true rfl, Nat.le_of_ble_eq_true rfl⟩ [0] [1, 2, 3] [3, 0, 1, 2] (by decide) rfl rfl (by decide) (by decide) (by decide) (fun u => rfl) 0 4 rfl rfl rfl rfl hl.1 rfl (Nat.le_of_ble_eq_true rfl) dX4_advice_15 ⟨Nat.le_of_ble_eq_true rfl, Nat.le_of_ble_eq_true rfl⟩ (fun r_13 u H locs hw_14 hP hD hS => ?_)
    obtain ⟨cb2_10, cn2_11, cf2_12⟩ := u
    try dsimp only at hw_14
    have hP : va_P D vwCl [(oP, .inr (4, [.ref hF, .ref hH, .ref hC, .int cb2_10, .int cn2_11, .int cf2_12])), (hF, .inr (1, [.ref cF, .ref aF, .ref wF])), (cF, .inl (cI, 39, .inl f)), (aF, .inr (0, [.long t1, .long t2, .long t3, .long t4]))] H := hP
    have hD : va_D A [(oP, .inr (4, [.ref hF, .ref hH, .ref hC, .int cb2_10, .int cn2_11, .int cf2_12])), (hF, .inr (1, [.ref cF, .ref aF, .ref wF])), (cF, .inl (cI, 39, .inl f)), (aF, .inr (0, [.long t1, .long t2, .long t3, .long t4]))] := hD
    obtain ⟨hw_14, hq_15⟩ := hw_14
    subst r_13
    exact hQ (-10002) (t1, t2, t3, t4, cb2_10, cn2_11, cf2_12) _ _ _ _ (rfl) (⟨by simp [gAd, c_3], by rw [ct_bad hq_15]; simp [gCt, c_3]⟩) hP hD hS dX4_advice_18

set_option maxHeartbeats 4000000 in
set_option maxRecDepth 100000 in
theorem kX4_clear (l : Launch) (D : va_G) (cI cB : ClassId) (tE tN : Nat) (oP : Nat) (hF : Nat) (hH : Nat) (hC : Nat) (cb : Int32) (cn : Int32) (cf : Int32) (cF : Nat) (aF : Nat) (wF : Nat) (f : Nat → Int32) (t1 : Int64) (t2 : Int64) (t3 : Int64) (t4 : Int64) (i : Int32) (ph : Int32) (ps : Int32) (N : Nat) (sz : Nat) (hN : f 35 = nI N) (hN6 : N ≤ 6) : zI l yX4_clear wsX4_clear ({ frames := 3, cells := 0, slots := 0, locals := 86 }) D cI cB tE tN [.ref oP, .int i, .int ph, .int ps] [(oP, .inr (4, [.ref hF, .ref hH, .ref hC, .int cb, .int cn, .int cf])), (hF, .inr (1, [.ref cF, .ref aF, .ref wF])), (cF, .inl (cI, 39, .inl f)), (aF, .inr (0, [.long t1, .long t2, .long t3, .long t4]))] sz (fun u : Int64 × Int64 × Int64 × Int64 × Int32 × Int32 × Int32 => [(oP, .inr (4, [.ref hF, .ref hH, .ref hC, .int u.2.2.2.2.1, .int u.2.2.2.2.2.1, .int u.2.2.2.2.2.2])), (hF, .inr (1, [.ref cF, .ref aF, .ref wF])), (cF, .inl (cI, 39, .inl f)), (aF, .inr (0, [.long u.1, .long u.2.1, .long u.2.2.1, .long u.2.2.2.1]))]) (fun (r : Int32) (u : Int64 × Int64 × Int64 × Int64 × Int32 × Int32 × Int32) => r = gCr f N i ph ps ∧ (u.2.2.2.2.1, u.2.2.2.2.2.1, u.2.2.2.2.2.2) = gCt (vCr f i ph ps) cb cn cf) 0 0 := by
  refine zI_mk (cc := cX4_clear) (maxL := 4) (rt := .int) (by decide) rfl (Nat.le_of_ble_eq_true rfl) ?_
  intro p e s m below meth c A Q ls S0 hname hA hK hP hD hT hS hQ hl
  obtain ⟨hx, hb, hml, hown, hts⟩ := id S0
  have hl : lv_has ls 4 [(0, .ref oP), (1, .int i), (2, .int ph), (3, .int ps)] := hl
  have L10 : (Cond.fieldLink RX4 10 "PastAndClear" "fleet" "LPastAndClear$Fleet;").before ([.ref oP, .int i, .int ph, .int ps] : List Value).toArray s = true := hts (.fieldLink RX4 10 "PastAndClear" "fleet" "LPastAndClear$Fleet;") (by decide +kernel)
  have N4 : ∀ w ∈ u_ws RX4 TX4 6, w ∈ wsX4_clear := by decide +kernel
  refine lv_aload_n hx hb dX4_clear_0 rfl (lv_at hl 0 rfl) ?_
  refine va_get (D := D) (ci := 4) (v := .ref hF) (C := RX4) (T := TX4) (N := 6) hx hb hts N4 hown hK hP 0 rfl rfl 0 (by decide) L10 (fun _ h9 => h9) rfl dX4_clear_1 ?_
  refine lv_iload_n hx hb dX4_clear_4 rfl (lv_at hl 1 rfl) ?_
  refine z_VI (n := 1) (wn := (fun u : Unit => [(oP, .inr (4, [.ref hF, .ref hH, .ref hC, .int cb, .int cn, .int cf])), (hF, .inr (1, [.ref cF, .ref aF, .ref wF])), (cF, .inl (cI, 39, .inl f)), (aF, .inr (0, [.long t1, .long t2, .long t3, .long t4]))])) (wr := [(oP, .inr (4, [.ref hF, .ref hH, .ref hC, .int cb, .int cn, .int cf])), (aF, .inr (0, [.long t1, .long t2, .long t3, .long t4]))]) (As := [.int i]) (rest := []) ⟨hx, hb, hml, hown, hts⟩ hK hP hD hS hA hT (kX1_isShip l D cI cB tE tN hF cF aF wF f i _ ) gX4_clear_X1_isShip rfl rfl rfl (by decide +kernel) ⟨Nat.le_of_ble_eq_true rfl, Nat.le_of_ble_eq_true rfl⟩ [1, 2] [0, 3] [0, 2, 3, 1] (by decide) rfl rfl (by decide) (by decide) (by decide) (fun u => rfl) 0 1 rfl rfl rfl rfl hl.1 rfl (Nat.le_of_ble_eq_true rfl) dX4_clear_5 ⟨Nat.le_of_ble_eq_true rfl, Nat.le_of_ble_eq_true rfl⟩ (fun r_1 u H locs hw_2 hP hD hS => ?_)
  try dsimp only at hw_2
  have hP : va_P D vwCl [(oP, .inr (4, [.ref hF, .ref hH, .ref hC, .int cb, .int cn, .int cf])), (hF, .inr (1, [.ref cF, .ref aF, .ref wF])), (cF, .inl (cI, 39, .inl f)), (aF, .inr (0, [.long t1, .long t2, .long t3, .long t4]))] H := hP
  have hD : va_D A [(oP, .inr (4, [.ref hF, .ref hH, .ref hC, .int cb, .int cn, .int cf])), (hF, .inr (1, [.ref cF, .ref aF, .ref wF])), (cF, .inl (cI, 39, .inl f)), (aF, .inr (0, [.long t1, .long t2, .long t3, .long t4]))] := hD
  subst r_1
  refine lv_if_eq (tgt := 19) hx hb dX4_clear_8 (by decide) (fun c_3 => ?_) (fun c_3 => ?_)
  · skip
    have c_3 := z_b0 c_3
    refine lv_aload_n hx hb dX4_clear_19 rfl (lv_at hl 0 rfl) ?_
    refine lv_sipush (v := (-10002)) hx hb dX4_clear_20 (by decide) ?_
    refine z_VI (n := 1) (wn := (fun u : Int32 × Int32 × Int32 => [(oP, .inr (4, [.ref hF, .ref hH, .ref hC, .int u.1, .int u.2.1, .int u.2.2])), (hF, .inr (1, [.ref cF, .ref aF, .ref wF])), (cF, .inl (cI, 39, .inl f)), (aF, .inr (0, [.long t1, .long t2, .long t3, .long t4]))])) (wr := [(hF, .inr (1, [.ref cF, .ref aF, .ref wF])), (cF, .inl (cI, 39, .inl f)), (aF, .inr (0, [.long t1, .long t2, .long t3, .long t4]))]) (As := [.int (-10002)]) (rest := []) ⟨hx, hb, hml, hown, hts⟩ hK hP hD hS hA hT (kX4_answered l D cI cB tE tN oP hF hH hC cb cn cf (-10002) _ ) gX4_clear_X4_answered rfl rfl rfl (by decide +kernel) ⟨Nat.le_of_ble_eq_true rfl, Nat.le_of_ble_eq_true rfl⟩ [0] [1, 2, 3] [3, 0, 1, 2] (by decide) rfl rfl (by decide) (by decide) (by decide) (fun u => rfl) 0 4 rfl rfl rfl rfl hl.1 rfl (Nat.le_of_ble_eq_true rfl) dX4_clear_23 ⟨Nat.le_of_ble_eq_true rfl, Nat.le_of_ble_eq_true rfl⟩ (fun r_7 u H locs hw_8 hP hD hS => ?_)
    obtain ⟨cb2_4, cn2_5, cf2_6⟩ := u
    try dsimp only at hw_8
    have hP : va_P D vwCl [(oP, .inr (4, [.ref hF, .ref hH, .ref hC, .int cb2_4, .int cn2_5, .int cf2_6])), (hF, .inr (1, [.ref cF, .ref aF, .ref wF])), (cF, .inl (cI, 39, .inl f)), (aF, .inr (0, [.long t1, .long t2, .long t3, .long t4]))] H := hP
    have hD : va_D A [(oP, .inr (4, [.ref hF, .ref hH, .ref hC, .int cb2_4, .int cn2_5, .int cf2_6])), (hF, .inr (1, [.ref cF, .ref aF, .ref wF])), (cF, .inl (cI, 39, .inl f)), (aF, .inr (0, [.long t1, .long t2, .long t3, .long t4]))] := hD
    obtain ⟨hw_8, hq_9⟩ := hw_8
    subst r_7
    exact hQ (-10002) (t1, t2, t3, t4, cb2_4, cn2_5, cf2_6) _ _ _ _ (rfl) (⟨by simp [gCr, vCr, c_3], by rw [ct_bad hq_9]; simp [gCt, vCr, c_3]⟩) hP hD hS dX4_clear_26
  · skip
    have c_3 := z_b1 c_3
    refine lv_iload_n hx hb dX4_clear_11 rfl (lv_at hl 2 rfl) ?_
    refine lv_iload_n hx hb dX4_clear_12 rfl (lv_at hl 3 rfl) ?_
    refine z_SI (n := 2) (wn := (fun u : Unit => [(oP, .inr (4, [.ref hF, .ref hH, .ref hC, .int cb, .int cn, .int cf])), (hF, .inr (1, [.ref cF, .ref aF, .ref wF])), (cF, .inl (cI, 39, .inl f)), (aF, .inr (0, [.long t1, .long t2, .long t3, .long t4]))])) (wr := [(oP, .inr (4, [.ref hF, .ref hH, .ref hC, .int cb, .int cn, .int cf])), (hF, .inr (1, [.ref cF, .ref aF, .ref wF])), (cF, .inl (cI, 39, .inl f)), (aF, .inr (0, [.long t1, .long t2, .long t3, .long t4]))]) (As := [.int ph, .int ps]) (rest := []) ⟨hx, hb, hml, hown, hts⟩ hK hP hD hS hA hT (kX4_isCourse l D cI cB tE tN ph ps _ ) gX4_clear_X4_isCourse rfl rfl rfl (by decide +kernel) ⟨Nat.le_of_ble_eq_true rfl, Nat.le_of_ble_eq_true rfl⟩ [] [0, 1, 2, 3] [0, 1, 2, 3] (by decide) rfl rfl (by decide) (by decide) (by decide) (fun u => rfl) rfl hl.1 rfl (Nat.le_of_ble_eq_true rfl) dX4_clear_13 ⟨Nat.le_of_ble_eq_true rfl, Nat.le_of_ble_eq_true rfl⟩ (fun r_10 u H locs hw_11 hP hD hS => ?_)
    try dsimp only at hw_11
    have hP : va_P D vwCl [(oP, .inr (4, [.ref hF, .ref hH, .ref hC, .int cb, .int cn, .int cf])), (hF, .inr (1, [.ref cF, .ref aF, .ref wF])), (cF, .inl (cI, 39, .inl f)), (aF, .inr (0, [.long t1, .long t2, .long t3, .long t4]))] H := hP
    have hD : va_D A [(oP, .inr (4, [.ref hF, .ref hH, .ref hC, .int cb, .int cn, .int cf])), (hF, .inr (1, [.ref cF, .ref aF, .ref wF])), (cF, .inl (cI, 39, .inl f)), (aF, .inr (0, [.long t1, .long t2, .long t3, .long t4]))] := hD
    subst r_10
    refine lv_if_ne (tgt := 27) hx hb dX4_clear_16 (by decide) (fun c_12 => ?_) (fun c_12 => ?_)
    · skip
      have c_12 := z_b1 c_12
      obtain ⟨n, rfl, hn⟩ := cShip_n hN hN6 c_3
      have hcn : (nI n).toNatClampNeg = n := nI_clamp (by omega)
      refine lv_aload_n hx hb dX4_clear_27 rfl (lv_at hl 0 rfl) ?_
      refine va_get (D := D) (ci := 4) (v := .ref hF) (C := RX4) (T := TX4) (N := 6) hx hb hts N4 hown hK hP 0 rfl rfl 0 (by decide) L10 (fun _ h9 => h9) rfl dX4_clear_28 ?_
      refine lv_iload_n hx hb dX4_clear_31 rfl (lv_at hl 1 rfl) ?_
      refine lv_iload_n hx hb dX4_clear_32 rfl (lv_at hl 2 rfl) ?_
      refine lv_iload_n hx hb dX4_clear_33 rfl (lv_at hl 3 rfl) ?_
      refine z_VI (n := 3) (wn := (fun u : Int64 × Int64 × Int64 × Int64 => [(oP, .inr (4, [.ref hF, .ref hH, .ref hC, .int cb, .int cn, .int cf])), (hF, .inr (1, [.ref cF, .ref aF, .ref wF])), (cF, .inl (cI, 39, .inl f)), (aF, .inr (0, [.long u.1, .long u.2.1, .long u.2.2.1, .long u.2.2.2]))])) (wr := [(oP, .inr (4, [.ref hF, .ref hH, .ref hC, .int cb, .int cn, .int cf]))]) (As := [.int (nI n), .int ph, .int ps]) (rest := []) ⟨hx, hb, hml, hown, hts⟩ hK hP hD hS hA hT (kX1_isClear l D cI cB tE tN hF cF aF wF f t1 t2 t3 t4 n ph ps N _ (by omega) (by omega) (by omega)) gX4_clear_X1_isClear rfl rfl rfl (by decide +kernel) ⟨Nat.le_of_ble_eq_true rfl, Nat.le_of_ble_eq_true rfl⟩ [1, 2, 3] [0] [0, 1, 2, 3] (by decide) rfl rfl (by decide) (by decide) (by decide) (fun u => rfl) 0 1 rfl rfl rfl rfl hl.1 rfl (Nat.le_of_ble_eq_true rfl) dX4_clear_34 ⟨Nat.le_of_ble_eq_true rfl, Nat.le_of_ble_eq_true rfl⟩ (fun r_17 u H locs hw_18 hP hD hS => ?_)
      obtain ⟨b1_13, b2_14, b3_15, b4_16⟩ := u
      try dsimp only at hw_18
      have hP : va_P D vwCl [(oP, .inr (4, [.ref hF, .ref hH, .ref hC, .int cb, .int cn, .int cf])), (hF, .inr (1, [.ref cF, .ref aF, .ref wF])), (cF, .inl (cI, 39, .inl f)), (aF, .inr (0, [.long b1_13, .long b2_14, .long b3_15, .long b4_16]))] H := hP
      have hD : va_D A [(oP, .inr (4, [.ref hF, .ref hH, .ref hC, .int cb, .int cn, .int cf])), (hF, .inr (1, [.ref cF, .ref aF, .ref wF])), (cF, .inl (cI, 39, .inl f)), (aF, .inr (0, [.long b1_13, .long b2_14, .long b3_15, .long b4_16]))] := hD
      subst r_17
      refine lv_if_eq (tgt := 44) hx hb dX4_clear_37 (by decide) (fun c_19 => ?_) (fun c_19 => ?_)
      · skip
        have c_19 := z_b0 c_19
        refine lv_iconst (v := 0) hx hb dX4_clear_44 (by decide) ?_
        exact hQ 0 (b1_13, b2_14, b3_15, b4_16, cb, cn, cf) _ _ _ _ (rfl) (⟨by simp [gCr, vCr, c_3, c_12, c_19, b2i, hcn], by simp [gCt, vCr, c_3, c_12, c_19]⟩) hP hD hS dX4_clear_45
      · skip
        have c_19 := z_b1 c_19
        refine lv_iconst (v := 1) hx hb dX4_clear_40 (by decide) ?_
        refine lv_goto (tgt := 45) hx hb dX4_clear_41 (by decide) ?_
        exact hQ 1 (b1_13, b2_14, b3_15, b4_16, cb, cn, cf) _ _ _ _ (rfl) (⟨by simp [gCr, vCr, c_3, c_12, c_19, b2i, hcn], by simp [gCt, vCr, c_3, c_12, c_19]⟩) hP hD hS dX4_clear_45
    · skip
      have c_12 := z_b0 c_12
      refine lv_aload_n hx hb dX4_clear_19 rfl (lv_at hl 0 rfl) ?_
      refine lv_sipush (v := (-10002)) hx hb dX4_clear_20 (by decide) ?_
      refine z_VI (n := 1) (wn := (fun u : Int32 × Int32 × Int32 => [(oP, .inr (4, [.ref hF, .ref hH, .ref hC, .int u.1, .int u.2.1, .int u.2.2])), (hF, .inr (1, [.ref cF, .ref aF, .ref wF])), (cF, .inl (cI, 39, .inl f)), (aF, .inr (0, [.long t1, .long t2, .long t3, .long t4]))])) (wr := [(hF, .inr (1, [.ref cF, .ref aF, .ref wF])), (cF, .inl (cI, 39, .inl f)), (aF, .inr (0, [.long t1, .long t2, .long t3, .long t4]))]) (As := [.int (-10002)]) (rest := []) ⟨hx, hb, hml, hown, hts⟩ hK hP hD hS hA hT (kX4_answered l D cI cB tE tN oP hF hH hC cb cn cf (-10002) _ ) gX4_clear_X4_answered rfl rfl rfl (by decide +kernel) ⟨Nat.le_of_ble_eq_true rfl, Nat.le_of_ble_eq_true rfl⟩ [0] [1, 2, 3] [3, 0, 1, 2] (by decide) rfl rfl (by decide) (by decide) (by decide) (fun u => rfl) 0 4 rfl rfl rfl rfl hl.1 rfl (Nat.le_of_ble_eq_true rfl) dX4_clear_23 ⟨Nat.le_of_ble_eq_true rfl, Nat.le_of_ble_eq_true rfl⟩ (fun r_23 u H locs hw_24 hP hD hS => ?_)
      obtain ⟨cb2_20, cn2_21, cf2_22⟩ := u
      try dsimp only at hw_24
      have hP : va_P D vwCl [(oP, .inr (4, [.ref hF, .ref hH, .ref hC, .int cb2_20, .int cn2_21, .int cf2_22])), (hF, .inr (1, [.ref cF, .ref aF, .ref wF])), (cF, .inl (cI, 39, .inl f)), (aF, .inr (0, [.long t1, .long t2, .long t3, .long t4]))] H := hP
      have hD : va_D A [(oP, .inr (4, [.ref hF, .ref hH, .ref hC, .int cb2_20, .int cn2_21, .int cf2_22])), (hF, .inr (1, [.ref cF, .ref aF, .ref wF])), (cF, .inl (cI, 39, .inl f)), (aF, .inr (0, [.long t1, .long t2, .long t3, .long t4]))] := hD
      obtain ⟨hw_24, hq_25⟩ := hw_24
      subst r_23
      exact hQ (-10002) (t1, t2, t3, t4, cb2_20, cn2_21, cf2_22) _ _ _ _ (rfl) (⟨by simp [gCr, vCr, c_3, c_12], by rw [ct_bad hq_25]; simp [gCt, vCr, c_3, c_12]⟩) hP hD hS dX4_clear_26

set_option maxHeartbeats 4000000 in
set_option maxRecDepth 100000 in
theorem kX4_count (l : Launch) (D : va_G) (cI cB : ClassId) (tE tN : Nat) (oP : Nat) (hF : Nat) (hH : Nat) (hC : Nat) (cb : Int32) (cn : Int32) (cf : Int32) (cF : Nat) (aF : Nat) (wF : Nat) (f : Nat → Int32) (w : Int32) (N : Nat) (sz : Nat) (hN : f 35 = nI N) (hN6 : N ≤ 6) : zI l yX4_count wsX4_count ({ frames := 1, cells := 0, slots := 0, locals := 21 }) D cI cB tE tN [.ref oP, .int w] [(oP, .inr (4, [.ref hF, .ref hH, .ref hC, .int cb, .int cn, .int cf])), (hF, .inr (1, [.ref cF, .ref aF, .ref wF])), (cF, .inl (cI, 39, .inl f))] sz (fun u : Int32 × Int32 × Int32 => [(oP, .inr (4, [.ref hF, .ref hH, .ref hC, .int u.1, .int u.2.1, .int u.2.2])), (hF, .inr (1, [.ref cF, .ref aF, .ref wF])), (cF, .inl (cI, 39, .inl f))]) (fun (r : Int32) (u : Int32 × Int32 × Int32) => r = gCo f w ∧ (u.1, u.2.1, u.2.2) = gCt (vIn w 3) cb cn cf) 0 0 := by
  refine zI_mk (cc := cX4_count) (maxL := 2) (rt := .int) (by decide) rfl (Nat.le_of_ble_eq_true rfl) ?_
  intro p e s m below meth c A Q ls S0 hname hA hK hP hD hT hS hQ hl
  obtain ⟨hx, hb, hml, hown, hts⟩ := id S0
  have hl : lv_has ls 2 [(0, .ref oP), (1, .int w)] := hl
  have L10 : (Cond.fieldLink RX4 10 "PastAndClear" "fleet" "LPastAndClear$Fleet;").before ([.ref oP, .int w] : List Value).toArray s = true := hts (.fieldLink RX4 10 "PastAndClear" "fleet" "LPastAndClear$Fleet;") (by decide +kernel)
  have N4 : ∀ w ∈ u_ws RX4 TX4 6, w ∈ wsX4_count := by decide +kernel
  refine lv_iload_n hx hb dX4_count_0 rfl (lv_at hl 1 rfl) ?_
  refine lv_if_lt (tgt := 9) hx hb dX4_count_1 (by decide) (fun c_1 => ?_) (fun c_1 => ?_)
  · skip
    refine lv_aload_n hx hb dX4_count_9 rfl (lv_at hl 0 rfl) ?_
    refine lv_sipush (v := (-10002)) hx hb dX4_count_10 (by decide) ?_
    refine z_VI (n := 1) (wn := (fun u : Int32 × Int32 × Int32 => [(oP, .inr (4, [.ref hF, .ref hH, .ref hC, .int u.1, .int u.2.1, .int u.2.2])), (hF, .inr (1, [.ref cF, .ref aF, .ref wF])), (cF, .inl (cI, 39, .inl f))])) (wr := [(hF, .inr (1, [.ref cF, .ref aF, .ref wF])), (cF, .inl (cI, 39, .inl f))]) (As := [.int (-10002)]) (rest := []) ⟨hx, hb, hml, hown, hts⟩ hK hP hD hS hA hT (kX4_answered l D cI cB tE tN oP hF hH hC cb cn cf (-10002) _ ) gX4_count_X4_answered rfl rfl rfl (by decide +kernel) ⟨Nat.le_of_ble_eq_true rfl, Nat.le_of_ble_eq_true rfl⟩ [0] [1, 2] [2, 0, 1] (by decide) rfl rfl (by decide) (by decide) (by decide) (fun u => rfl) 0 4 rfl rfl rfl rfl hl.1 rfl (Nat.le_of_ble_eq_true rfl) dX4_count_13 ⟨Nat.le_of_ble_eq_true rfl, Nat.le_of_ble_eq_true rfl⟩ (fun r_5 u H locs hw_6 hP hD hS => ?_)
    obtain ⟨cb2_2, cn2_3, cf2_4⟩ := u
    try dsimp only at hw_6
    have hP : va_P D vwCl [(oP, .inr (4, [.ref hF, .ref hH, .ref hC, .int cb2_2, .int cn2_3, .int cf2_4])), (hF, .inr (1, [.ref cF, .ref aF, .ref wF])), (cF, .inl (cI, 39, .inl f))] H := hP
    have hD : va_D A [(oP, .inr (4, [.ref hF, .ref hH, .ref hC, .int cb2_2, .int cn2_3, .int cf2_4])), (hF, .inr (1, [.ref cF, .ref aF, .ref wF])), (cF, .inl (cI, 39, .inl f))] := hD
    obtain ⟨hw_6, hq_7⟩ := hw_6
    subst r_5
    exact hQ (-10002) (cb2_2, cn2_3, cf2_4) _ _ _ _ (rfl) (⟨by simp [gCo, vIn, c_1], by rw [ct_bad hq_7]; simp [gCt, vIn, c_1]⟩) hP hD hS dX4_count_16
  · skip
    refine lv_iload_n hx hb dX4_count_4 rfl (lv_at hl 1 rfl) ?_
    refine lv_iconst (v := 3) hx hb dX4_count_5 (by decide) ?_
    refine lv_icmp_le (tgt := 17) hx hb dX4_count_6 (by decide) (fun c_8 => ?_) (fun c_8 => ?_)
    · skip
      obtain ⟨q, rfl, hq⟩ := z_nat (b := 3) (Int32.not_lt.mp c_1) c_8 (by decide)
      have hcq : (nI q).toNatClampNeg = q := nI_clamp (by omega)
      refine lv_aload_n hx hb dX4_count_17 rfl (lv_at hl 0 rfl) ?_
      refine va_get (D := D) (ci := 4) (v := .ref hF) (C := RX4) (T := TX4) (N := 6) hx hb hts N4 hown hK hP 0 rfl rfl 0 (by decide) L10 (fun _ h9 => h9) rfl dX4_count_18 ?_
      refine lv_iload_n hx hb dX4_count_21 rfl (lv_at hl 1 rfl) ?_
      refine z_VI (n := 1) (wn := (fun u : Unit => [(oP, .inr (4, [.ref hF, .ref hH, .ref hC, .int cb, .int cn, .int cf])), (hF, .inr (1, [.ref cF, .ref aF, .ref wF])), (cF, .inl (cI, 39, .inl f))])) (wr := [(oP, .inr (4, [.ref hF, .ref hH, .ref hC, .int cb, .int cn, .int cf]))]) (As := [.int (nI q)]) (rest := []) ⟨hx, hb, hml, hown, hts⟩ hK hP hD hS hA hT (kX1_countOf l D cI cB tE tN hF cF aF wF f q _ (by omega)) gX4_count_X1_countOf rfl rfl rfl (by decide +kernel) ⟨Nat.le_of_ble_eq_true rfl, Nat.le_of_ble_eq_true rfl⟩ [1, 2] [0] [0, 1, 2] (by decide) rfl rfl (by decide) (by decide) (by decide) (fun u => rfl) 0 1 rfl rfl rfl rfl hl.1 rfl (Nat.le_of_ble_eq_true rfl) dX4_count_22 ⟨Nat.le_of_ble_eq_true rfl, Nat.le_of_ble_eq_true rfl⟩ (fun r_9 u H locs hw_10 hP hD hS => ?_)
      try dsimp only at hw_10
      have hP : va_P D vwCl [(oP, .inr (4, [.ref hF, .ref hH, .ref hC, .int cb, .int cn, .int cf])), (hF, .inr (1, [.ref cF, .ref aF, .ref wF])), (cF, .inl (cI, 39, .inl f))] H := hP
      have hD : va_D A [(oP, .inr (4, [.ref hF, .ref hH, .ref hC, .int cb, .int cn, .int cf])), (hF, .inr (1, [.ref cF, .ref aF, .ref wF])), (cF, .inl (cI, 39, .inl f))] := hD
      subst r_9
      exact hQ (f (35 + q)) (cb, cn, cf) _ _ _ _ (rfl) (⟨by simp [gCo, vIn, c_1, c_8, b2i, hcq], by simp [gCt, vIn, c_1, c_8]⟩) hP hD hS dX4_count_25
    · skip
      refine lv_aload_n hx hb dX4_count_9 rfl (lv_at hl 0 rfl) ?_
      refine lv_sipush (v := (-10002)) hx hb dX4_count_10 (by decide) ?_
      refine z_VI (n := 1) (wn := (fun u : Int32 × Int32 × Int32 => [(oP, .inr (4, [.ref hF, .ref hH, .ref hC, .int u.1, .int u.2.1, .int u.2.2])), (hF, .inr (1, [.ref cF, .ref aF, .ref wF])), (cF, .inl (cI, 39, .inl f))])) (wr := [(hF, .inr (1, [.ref cF, .ref aF, .ref wF])), (cF, .inl (cI, 39, .inl f))]) (As := [.int (-10002)]) (rest := []) ⟨hx, hb, hml, hown, hts⟩ hK hP hD hS hA hT (kX4_answered l D cI cB tE tN oP hF hH hC cb cn cf (-10002) _ ) gX4_count_X4_answered rfl rfl rfl (by decide +kernel) ⟨Nat.le_of_ble_eq_true rfl, Nat.le_of_ble_eq_true rfl⟩ [0] [1, 2] [2, 0, 1] (by decide) rfl rfl (by decide) (by decide) (by decide) (fun u => rfl) 0 4 rfl rfl rfl rfl hl.1 rfl (Nat.le_of_ble_eq_true rfl) dX4_count_13 ⟨Nat.le_of_ble_eq_true rfl, Nat.le_of_ble_eq_true rfl⟩ (fun r_14 u H locs hw_15 hP hD hS => ?_)
      obtain ⟨cb2_11, cn2_12, cf2_13⟩ := u
      try dsimp only at hw_15
      have hP : va_P D vwCl [(oP, .inr (4, [.ref hF, .ref hH, .ref hC, .int cb2_11, .int cn2_12, .int cf2_13])), (hF, .inr (1, [.ref cF, .ref aF, .ref wF])), (cF, .inl (cI, 39, .inl f))] H := hP
      have hD : va_D A [(oP, .inr (4, [.ref hF, .ref hH, .ref hC, .int cb2_11, .int cn2_12, .int cf2_13])), (hF, .inr (1, [.ref cF, .ref aF, .ref wF])), (cF, .inl (cI, 39, .inl f))] := hD
      obtain ⟨hw_15, hq_16⟩ := hw_15
      subst r_14
      exact hQ (-10002) (cb2_11, cn2_12, cf2_13) _ _ _ _ (rfl) (⟨by simp [gCo, vIn, c_1, c_8], by rw [ct_bad hq_16]; simp [gCt, vIn, c_1, c_8]⟩) hP hD hS dX4_count_16

set_option maxHeartbeats 4000000 in
set_option maxRecDepth 100000 in
theorem kX4_worst (l : Launch) (D : va_G) (cI cB : ClassId) (tE tN : Nat) (oP : Nat) (hF : Nat) (hH : Nat) (hC : Nat) (cb : Int32) (cn : Int32) (cf : Int32) (cF : Nat) (aF : Nat) (wF : Nat) (f : Nat → Int32) (t1 : Int64) (t2 : Int64) (t3 : Int64) (t4 : Int64) (w1 : Int64) (w2 : Int64) (w3 : Int64) (w4 : Int64) (N : Nat) (sz : Nat) (hN : f 35 = nI N) (hN6 : N ≤ 6) : zI l yX4_worst wsX4_worst ({ frames := 3, cells := 0, slots := 0, locals := 82 }) D cI cB tE tN [.ref oP] [(oP, .inr (4, [.ref hF, .ref hH, .ref hC, .int cb, .int cn, .int cf])), (hF, .inr (1, [.ref cF, .ref aF, .ref wF])), (cF, .inl (cI, 39, .inl f)), (aF, .inr (0, [.long t1, .long t2, .long t3, .long t4])), (wF, .inr (0, [.long w1, .long w2, .long w3, .long w4]))] sz (fun u : Int64 × Int64 × Int64 × Int64 × Int64 × Int64 × Int64 × Int64 => [(oP, .inr (4, [.ref hF, .ref hH, .ref hC, .int cb, .int cn, .int cf])), (hF, .inr (1, [.ref cF, .ref aF, .ref wF])), (cF, .inl (cI, 39, .inl f)), (aF, .inr (0, [.long u.1, .long u.2.1, .long u.2.2.1, .long u.2.2.2.1])), (wF, .inr (0, [.long u.2.2.2.2.1, .long u.2.2.2.2.2.1, .long u.2.2.2.2.2.2.1, .long u.2.2.2.2.2.2.2]))]) (fun (r : Int32) (u : Int64 × Int64 × Int64 × Int64 × Int64 × Int64 × Int64 × Int64) => r = (wsF f (w1, w2, w3, w4) N).1) 0 0 := by
  refine zI_mk (cc := cX4_worst) (maxL := 1) (rt := .int) (by decide) rfl (Nat.le_of_ble_eq_true rfl) ?_
  intro p e s m below meth c A Q ls S0 hname hA hK hP hD hT hS hQ hl
  obtain ⟨hx, hb, hml, hown, hts⟩ := id S0
  have hl : lv_has ls 1 [(0, .ref oP)] := hl
  have L10 : (Cond.fieldLink RX4 10 "PastAndClear" "fleet" "LPastAndClear$Fleet;").before ([.ref oP] : List Value).toArray s = true := hts (.fieldLink RX4 10 "PastAndClear" "fleet" "LPastAndClear$Fleet;") (by decide +kernel)
  have N4 : ∀ w ∈ u_ws RX4 TX4 6, w ∈ wsX4_worst := by decide +kernel
  refine lv_aload_n hx hb dX4_worst_0 rfl (lv_at hl 0 rfl) ?_
  refine va_get (D := D) (ci := 4) (v := .ref hF) (C := RX4) (T := TX4) (N := 6) hx hb hts N4 hown hK hP 0 rfl rfl 0 (by decide) L10 (fun _ h9 => h9) rfl dX4_worst_1 ?_
  refine z_VI (n := 0) (wn := (fun u : Int64 × Int64 × Int64 × Int64 × Int64 × Int64 × Int64 × Int64 => [(oP, .inr (4, [.ref hF, .ref hH, .ref hC, .int cb, .int cn, .int cf])), (hF, .inr (1, [.ref cF, .ref aF, .ref wF])), (cF, .inl (cI, 39, .inl f)), (aF, .inr (0, [.long u.1, .long u.2.1, .long u.2.2.1, .long u.2.2.2.1])), (wF, .inr (0, [.long u.2.2.2.2.1, .long u.2.2.2.2.2.1, .long u.2.2.2.2.2.2.1, .long u.2.2.2.2.2.2.2]))])) (wr := [(oP, .inr (4, [.ref hF, .ref hH, .ref hC, .int cb, .int cn, .int cf]))]) (As := []) (rest := []) ⟨hx, hb, hml, hown, hts⟩ hK hP hD hS hA hT (kX1_worstOther l D cI cB tE tN hF cF aF wF f t1 t2 t3 t4 w1 w2 w3 w4 N _ (by omega) (by omega)) gX4_worst_X1_worstOther rfl rfl rfl (by decide +kernel) ⟨Nat.le_of_ble_eq_true rfl, Nat.le_of_ble_eq_true rfl⟩ [1, 2, 3, 4] [0] [0, 1, 2, 3, 4] (by decide) rfl rfl (by decide) (by decide) (by decide) (fun u => rfl) 0 1 rfl rfl rfl rfl hl.1 rfl (Nat.le_of_ble_eq_true rfl) dX4_worst_4 ⟨Nat.le_of_ble_eq_true rfl, Nat.le_of_ble_eq_true rfl⟩ (fun r_9 u H locs hw_10 hP hD hS => ?_)
  obtain ⟨b1_1, b2_2, b3_3, b4_4, v1_5, v2_6, v3_7, v4_8⟩ := u
  try dsimp only at hw_10
  have hP : va_P D vwCl [(oP, .inr (4, [.ref hF, .ref hH, .ref hC, .int cb, .int cn, .int cf])), (hF, .inr (1, [.ref cF, .ref aF, .ref wF])), (cF, .inl (cI, 39, .inl f)), (aF, .inr (0, [.long b1_1, .long b2_2, .long b3_3, .long b4_4])), (wF, .inr (0, [.long v1_5, .long v2_6, .long v3_7, .long v4_8]))] H := hP
  have hD : va_D A [(oP, .inr (4, [.ref hF, .ref hH, .ref hC, .int cb, .int cn, .int cf])), (hF, .inr (1, [.ref cF, .ref aF, .ref wF])), (cF, .inl (cI, 39, .inl f)), (aF, .inr (0, [.long b1_1, .long b2_2, .long b3_3, .long b4_4])), (wF, .inr (0, [.long v1_5, .long v2_6, .long v3_7, .long v4_8]))] := hD
  subst r_9
  exact hQ ((wsF f (w1, w2, w3, w4) N).1) (b1_1, b2_2, b3_3, b4_4, v1_5, v2_6, v3_7, v4_8) _ _ _ _ (rfl) (rfl) hP hD hS dX4_worst_7
