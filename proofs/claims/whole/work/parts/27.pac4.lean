def cBack (kp : Nat) (f g : Nat → Int32) : Int32 × Nat × (Nat → Int32) := if kp = 0 then (-10003, kp, f) else (nI (kp - 1), kp - 1, va_cpy g f ((kp - 1) * 39) 0 39)
theorem ct_no {cb cn cf cb2 cn2 cf2 : Int32} (h : cb2 = cnt (-10002) cb (-10003) ∧ cn2 = cnt (-10003) cn (-10003) ∧ cf2 = cnt (-10004) cf (-10003)) : (cb2, cn2, cf2) = (cb, cn + 1, cf) := by
  obtain ⟨h1, h2, h3⟩ := h
  rw [h1, h2, h3, cnt, cnt, cnt, if_pos rfl, if_neg (by decide), if_neg (by decide)]
def tlF (cb cn cf : Int32) (ln kp : Nat) (w : Int32) : Int32 := if w = 0 then cb else if w = 1 then cn else if w = 2 then cf else if w = 3 then nI ln else nI kp
theorem tal_out {w : Nat} (hw : w ≤ 4) (h0 : ¬ nI w = 0) (h1 : ¬ nI w = 1) (h2 : ¬ nI w = 2) (h3 : ¬ nI w = 3) : 3 < (nI w).toInt := by
  rcases (show w = 0 ∨ w = 1 ∨ w = 2 ∨ w = 3 ∨ w = 4 by omega) with rfl | rfl | rfl | rfl | rfl
  · exact absurd rfl h0
  · exact absurd rfl h1
  · exact absurd rfl h2
  · exact absurd rfl h3
  · decide
def gTo (cb cn cf : Int32) (ln kp : Nat) (w : Int32) : Int32 := if vIn w 4 = true then tlF cb cn cf ln kp w else -10002
def d1F (tl : Int32 → Int32) : Nat → Int64
  | 0 => 1934
  | k + 1 => 31 * d1F tl k + (tl (nI k)).toInt64
def d2F (f : Nat → Int32) (h : Int64) : Nat → Int64
  | 0 => h
  | k + 1 => 31 * d2F f h k + (f (35 + k)).toInt64
def d3F (f : Nat → Int32) (N : Nat) (h : Int64) : Nat → Int64
  | 0 => h
  | k + 1 => cFs f N k (d3F f N h k)
def d4F (f : Nat → Int32) (h : Int64) : Nat → Int64
  | 0 => h
  | k + 1 => cFo f (k + 1) (d4F f h k)
set_option maxHeartbeats 4000000 in
set_option maxRecDepth 100000 in
theorem kX4_type (l : Launch) (D : va_G) (cI cB : ClassId) (tE tN : Nat) (oP : Nat) (hF : Nat) (hH : Nat) (hC : Nat) (cb : Int32) (cn : Int32) (cf : Int32) (bF : Nat) (nF : Nat) (ln : Nat) (xat : Int32) (kd : Int32) (bt : Nat → Int32) (v : Int32) (sz : Nat) (hln : ln ≤ 150) : zI l yX4_type wsX4_type ({ frames := 1, cells := 0, slots := 0, locals := 21 }) D cI cB tE tN [.ref oP, .int v] [(oP, .inr (4, [.ref hF, .ref hH, .ref hC, .int cb, .int cn, .int cf])), (hC, .inr (3, [.ref bF, .int (nI ln), .int xat, .int kd, .ref nF])), (bF, .inl (cB, 150, .inl bt))] sz (fun u : Int32 × Int32 × Int32 × Nat × (Nat → Int32) => [(oP, .inr (4, [.ref hF, .ref hH, .ref hC, .int u.1, .int u.2.1, .int u.2.2.1])), (hC, .inr (3, [.ref bF, .int (nI u.2.2.2.1), .int xat, .int kd, .ref nF])), (bF, .inl (cB, 150, .inl u.2.2.2.2))]) (fun (r : Int32) (u : Int32 × Int32 × Int32 × Nat × (Nat → Int32)) => (r, u.2.2.2.1, u.2.2.2.2) = cApp ln bt v ∧ u.1 = cnt (-10002) cb r ∧ u.2.1 = cnt (-10003) cn r ∧ u.2.2.1 = cnt (-10004) cf r) 0 0 := by
  refine zI_mk (cc := cX4_type) (maxL := 2) (rt := .int) (by decide) rfl (Nat.le_of_ble_eq_true rfl) ?_
  intro p e s m below meth c A Q ls S0 hname hA hK hP hD hT hS hQ hl
  obtain ⟨hx, hb, hml, hown, hts⟩ := id S0
  have hl : lv_has ls 2 [(0, .ref oP), (1, .int v)] := hl
  have L26 : (Cond.fieldLink RX4 26 "PastAndClear" "script" "LPastAndClear$Script;").before ([.ref oP, .int v] : List Value).toArray s = true := hts (.fieldLink RX4 26 "PastAndClear" "script" "LPastAndClear$Script;") (by decide +kernel)
  have N4 : ∀ w ∈ u_ws RX4 TX4 6, w ∈ wsX4_type := by decide +kernel
  refine lv_aload_n hx hb dX4_type_0 rfl (lv_at hl 0 rfl) ?_
  refine lv_aload_n hx hb dX4_type_1 rfl (lv_at hl 0 rfl) ?_
  refine va_get (D := D) (ci := 4) (v := .ref hC) (C := RX4) (T := TX4) (N := 6) hx hb hts N4 hown hK hP 0 rfl rfl 2 (by decide) L26 (fun _ h9 => h9) rfl dX4_type_2 ?_
  refine lv_iload_n hx hb dX4_type_5 rfl (lv_at hl 1 rfl) ?_
  refine z_VI (n := 1) (wn := (fun u : Nat × (Nat → Int32) => [(oP, .inr (4, [.ref hF, .ref hH, .ref hC, .int cb, .int cn, .int cf])), (hC, .inr (3, [.ref bF, .int (nI u.1), .int xat, .int kd, .ref nF])), (bF, .inl (cB, 150, .inl u.2))])) (wr := [(oP, .inr (4, [.ref hF, .ref hH, .ref hC, .int cb, .int cn, .int cf]))]) (As := [.int v]) (rest := [.ref oP]) ⟨hx, hb, hml, hown, hts⟩ hK hP hD hS hA hT (kX3_append l D cI cB tE tN hC bF nF ln xat kd bt v _ (by omega)) gX4_type_X3_append rfl rfl rfl (by decide +kernel) ⟨Nat.le_of_ble_eq_true rfl, Nat.le_of_ble_eq_true rfl⟩ [1, 2] [0] [0, 1, 2] (by decide) rfl rfl (by decide) (by decide) (by decide) (fun u => rfl) 0 3 rfl rfl rfl rfl hl.1 rfl (Nat.le_of_ble_eq_true rfl) dX4_type_6 ⟨Nat.le_of_ble_eq_true rfl, Nat.le_of_ble_eq_true rfl⟩ (fun r_3 u H locs hw_4 hP hD hS => ?_)
  obtain ⟨ln2_1, bt2_2⟩ := u
  try dsimp only at hw_4
  have hP : va_P D vwCl [(oP, .inr (4, [.ref hF, .ref hH, .ref hC, .int cb, .int cn, .int cf])), (hC, .inr (3, [.ref bF, .int (nI ln2_1), .int xat, .int kd, .ref nF])), (bF, .inl (cB, 150, .inl bt2_2))] H := hP
  have hD : va_D A [(oP, .inr (4, [.ref hF, .ref hH, .ref hC, .int cb, .int cn, .int cf])), (hC, .inr (3, [.ref bF, .int (nI ln2_1), .int xat, .int kd, .ref nF])), (bF, .inl (cB, 150, .inl bt2_2))] := hD
  have hj := hw_4
  refine z_VI (n := 1) (wn := (fun u : Int32 × Int32 × Int32 => [(oP, .inr (4, [.ref hF, .ref hH, .ref hC, .int u.1, .int u.2.1, .int u.2.2])), (hC, .inr (3, [.ref bF, .int (nI ln2_1), .int xat, .int kd, .ref nF])), (bF, .inl (cB, 150, .inl bt2_2))])) (wr := [(hC, .inr (3, [.ref bF, .int (nI ln2_1), .int xat, .int kd, .ref nF])), (bF, .inl (cB, 150, .inl bt2_2))]) (As := [.int r_3]) (rest := []) ⟨hx, hb, hml, hown, hts⟩ hK hP hD hS hA hT (kX4_answered l D cI cB tE tN oP hF hH hC cb cn cf r_3 _ ) gX4_type_X4_answered rfl rfl rfl (by decide +kernel) ⟨Nat.le_of_ble_eq_true rfl, Nat.le_of_ble_eq_true rfl⟩ [0] [1, 2] [2, 0, 1] (by decide) rfl rfl (by decide) (by decide) (by decide) (fun u => rfl) 0 4 rfl rfl rfl rfl hl.1 rfl (Nat.le_of_ble_eq_true rfl) dX4_type_9 ⟨Nat.le_of_ble_eq_true rfl, Nat.le_of_ble_eq_true rfl⟩ (fun r_8 u H locs hw_9 hP hD hS => ?_)
  obtain ⟨cb2_5, cn2_6, cf2_7⟩ := u
  try dsimp only at hw_9
  have hP : va_P D vwCl [(oP, .inr (4, [.ref hF, .ref hH, .ref hC, .int cb2_5, .int cn2_6, .int cf2_7])), (hC, .inr (3, [.ref bF, .int (nI ln2_1), .int xat, .int kd, .ref nF])), (bF, .inl (cB, 150, .inl bt2_2))] H := hP
  have hD : va_D A [(oP, .inr (4, [.ref hF, .ref hH, .ref hC, .int cb2_5, .int cn2_6, .int cf2_7])), (hC, .inr (3, [.ref bF, .int (nI ln2_1), .int xat, .int kd, .ref nF])), (bF, .inl (cB, 150, .inl bt2_2))] := hD
  obtain ⟨hw_9, hq_10⟩ := hw_9
  subst r_8
  exact hQ r_3 (cb2_5, cn2_6, cf2_7, ln2_1, bt2_2) _ _ _ _ (rfl) (⟨hj, hq_10⟩) hP hD hS dX4_type_12

set_option maxHeartbeats 4000000 in
set_option maxRecDepth 100000 in
theorem kX4_wipes (l : Launch) (D : va_G) (cI cB : ClassId) (tE tN : Nat) (oP : Nat) (hF : Nat) (hH : Nat) (hC : Nat) (cb : Int32) (cn : Int32) (cf : Int32) (bF : Nat) (nF : Nat) (ln : Nat) (xat : Int32) (kd : Int32) (sz : Nat)  : zI l yX4_wipes wsX4_wipes ({ frames := 1, cells := 0, slots := 0, locals := 21 }) D cI cB tE tN [.ref oP] [(oP, .inr (4, [.ref hF, .ref hH, .ref hC, .int cb, .int cn, .int cf])), (hC, .inr (3, [.ref bF, .int (nI ln), .int xat, .int kd, .ref nF]))] sz (fun u : Unit => [(oP, .inr (4, [.ref hF, .ref hH, .ref hC, .int cb, .int cn, .int cf])), (hC, .inr (3, [.ref bF, .int (nI 0), .int xat, .int kd, .ref nF]))]) (fun (r : Int32) (u : Unit) => r = nI ln) 0 0 := by
  refine zI_mk (cc := cX4_wipes) (maxL := 1) (rt := .int) (by decide) rfl (Nat.le_of_ble_eq_true rfl) ?_
  intro p e s m below meth c A Q ls S0 hname hA hK hP hD hT hS hQ hl
  obtain ⟨hx, hb, hml, hown, hts⟩ := id S0
  have hl : lv_has ls 1 [(0, .ref oP)] := hl
  have L26 : (Cond.fieldLink RX4 26 "PastAndClear" "script" "LPastAndClear$Script;").before ([.ref oP] : List Value).toArray s = true := hts (.fieldLink RX4 26 "PastAndClear" "script" "LPastAndClear$Script;") (by decide +kernel)
  have N4 : ∀ w ∈ u_ws RX4 TX4 6, w ∈ wsX4_wipes := by decide +kernel
  refine lv_aload_n hx hb dX4_wipes_0 rfl (lv_at hl 0 rfl) ?_
  refine va_get (D := D) (ci := 4) (v := .ref hC) (C := RX4) (T := TX4) (N := 6) hx hb hts N4 hown hK hP 0 rfl rfl 2 (by decide) L26 (fun _ h9 => h9) rfl dX4_wipes_1 ?_
  refine z_VI (n := 0) (wn := (fun u : Unit => [(oP, .inr (4, [.ref hF, .ref hH, .ref hC, .int cb, .int cn, .int cf])), (hC, .inr (3, [.ref bF, .int (nI 0), .int xat, .int kd, .ref nF]))])) (wr := [(oP, .inr (4, [.ref hF, .ref hH, .ref hC, .int cb, .int cn, .int cf]))]) (As := []) (rest := []) ⟨hx, hb, hml, hown, hts⟩ hK hP hD hS hA hT (kX3_empty l D cI cB tE tN hC bF nF ln xat kd _ ) gX4_wipes_X3_empty rfl rfl rfl (by decide +kernel) ⟨Nat.le_of_ble_eq_true rfl, Nat.le_of_ble_eq_true rfl⟩ [1] [0] [0, 1] (by decide) rfl rfl (by decide) (by decide) (by decide) (fun u => rfl) 0 3 rfl rfl rfl rfl hl.1 rfl (Nat.le_of_ble_eq_true rfl) dX4_wipes_4 ⟨Nat.le_of_ble_eq_true rfl, Nat.le_of_ble_eq_true rfl⟩ (fun r_1 u H locs hw_2 hP hD hS => ?_)
  try dsimp only at hw_2
  have hP : va_P D vwCl [(oP, .inr (4, [.ref hF, .ref hH, .ref hC, .int cb, .int cn, .int cf])), (hC, .inr (3, [.ref bF, .int (nI 0), .int xat, .int kd, .ref nF]))] H := hP
  have hD : va_D A [(oP, .inr (4, [.ref hF, .ref hH, .ref hC, .int cb, .int cn, .int cf])), (hC, .inr (3, [.ref bF, .int (nI 0), .int xat, .int kd, .ref nF]))] := hD
  subst r_1
  exact hQ (nI ln) () _ _ _ _ (rfl) (rfl) hP hD hS dX4_wipes_7

set_option maxHeartbeats 4000000 in
set_option maxRecDepth 100000 in
theorem kX4_back (l : Launch) (D : va_G) (cI cB : ClassId) (tE tN : Nat) (oP : Nat) (hF : Nat) (hH : Nat) (hC : Nat) (cb : Int32) (cn : Int32) (cf : Int32) (cF : Nat) (aF : Nat) (wF : Nat) (f : Nat → Int32) (rF : Nat) (kp : Nat) (g : Nat → Int32) (sz : Nat) (hkp : kp ≤ 5) : zI l yX4_back wsX4_back ({ frames := 3, cells := 0, slots := 0, locals := 60 }) D cI cB tE tN [.ref oP] [(oP, .inr (4, [.ref hF, .ref hH, .ref hC, .int cb, .int cn, .int cf])), (hF, .inr (1, [.ref cF, .ref aF, .ref wF])), (cF, .inl (cI, 39, .inl f)), (hH, .inr (2, [.ref rF, .int (nI kp)])), (rF, .inl (cI, 234, .inl g))] sz (fun u : Int32 × Int32 × Int32 × (Nat → Int32) × Nat => [(oP, .inr (4, [.ref hF, .ref hH, .ref hC, .int u.1, .int u.2.1, .int u.2.2.1])), (hF, .inr (1, [.ref cF, .ref aF, .ref wF])), (cF, .inl (cI, 39, .inl u.2.2.2.1)), (hH, .inr (2, [.ref rF, .int (nI u.2.2.2.2)])), (rF, .inl (cI, 234, .inl g))]) (fun (r : Int32) (u : Int32 × Int32 × Int32 × (Nat → Int32) × Nat) => (r, u.2.2.2.2, u.2.2.2.1) = cBack kp f g ∧ (u.1, u.2.1, u.2.2.1) = (if kp = 0 then (cb, cn + 1, cf) else (cb, cn, cf))) 0 0 := by
  refine zI_mk (cc := cX4_back) (maxL := 1) (rt := .int) (by decide) rfl (Nat.le_of_ble_eq_true rfl) ?_
  intro p e s m below meth c A Q ls S0 hname hA hK hP hD hT hS hQ hl
  obtain ⟨hx, hb, hml, hown, hts⟩ := id S0
  have hl : lv_has ls 1 [(0, .ref oP)] := hl
  have L19 : (Cond.fieldLink RX4 19 "PastAndClear" "history" "LPastAndClear$History;").before ([.ref oP] : List Value).toArray s = true := hts (.fieldLink RX4 19 "PastAndClear" "history" "LPastAndClear$History;") (by decide +kernel)
  have N4 : ∀ w ∈ u_ws RX4 TX4 6, w ∈ wsX4_back := by decide +kernel
  have L162 : (Cond.fieldLink RX4 162 "PastAndClear$History" "kept" "I").before ([.ref oP] : List Value).toArray s = true := hts (.fieldLink RX4 162 "PastAndClear$History" "kept" "I") (by decide +kernel)
  have N2 : ∀ w ∈ u_ws RX2 TX2 2, w ∈ wsX4_back := by decide +kernel
  have L10 : (Cond.fieldLink RX4 10 "PastAndClear" "fleet" "LPastAndClear$Fleet;").before ([.ref oP] : List Value).toArray s = true := hts (.fieldLink RX4 10 "PastAndClear" "fleet" "LPastAndClear$Fleet;") (by decide +kernel)
  have L30 : (Cond.fieldLink RX4 30 "PastAndClear$Fleet" "cells" "[I").before ([.ref oP] : List Value).toArray s = true := hts (.fieldLink RX4 30 "PastAndClear$Fleet" "cells" "[I") (by decide +kernel)
  have N1 : ∀ w ∈ u_ws RX1 TX1 3, w ∈ wsX4_back := by decide +kernel
  refine lv_aload_n hx hb dX4_back_0 rfl (lv_at hl 0 rfl) ?_
  refine va_get (D := D) (ci := 4) (v := .ref hH) (C := RX4) (T := TX4) (N := 6) hx hb hts N4 hown hK hP 0 rfl rfl 1 (by decide) L19 (fun _ h9 => h9) rfl dX4_back_1 ?_
  refine va_get (D := D) (ci := 2) (v := .int (nI kp)) (C := RX2) (T := TX2) (N := 2) hx hb hts N2 hown hK hP 3 rfl rfl 1 (by decide) L162 (fun _ h9 => h9) rfl dX4_back_4 ?_
  refine lv_if_ne (tgt := 18) hx hb dX4_back_7 (by decide) (fun c_1 => ?_) (fun c_1 => ?_)
  · skip
    have c_1 := (z_eqn (a := kp) (b := 0) rfl rfl (by omega) (by omega)).mp c_1
    refine lv_aload_n hx hb dX4_back_18 rfl (lv_at hl 0 rfl) ?_
    refine va_get (D := D) (ci := 4) (v := .ref hH) (C := RX4) (T := TX4) (N := 6) hx hb hts N4 hown hK hP 0 rfl rfl 1 (by decide) L19 (fun _ h9 => h9) rfl dX4_back_19 ?_
    refine lv_aload_n hx hb dX4_back_22 rfl (lv_at hl 0 rfl) ?_
    refine va_get (D := D) (ci := 4) (v := .ref hF) (C := RX4) (T := TX4) (N := 6) hx hb hts N4 hown hK hP 0 rfl rfl 0 (by decide) L10 (fun _ h9 => h9) rfl dX4_back_23 ?_
    refine va_get (D := D) (ci := 1) (v := .ref cF) (C := RX1) (T := TX1) (N := 3) hx hb hts N1 hown hK hP 1 rfl rfl 0 (by decide) L30 (fun _ h9 => h9) rfl dX4_back_26 ?_
    refine z_VV (n := 1) (wn := (fun u : Unit => [(oP, .inr (4, [.ref hF, .ref hH, .ref hC, .int cb, .int cn, .int cf])), (hF, .inr (1, [.ref cF, .ref aF, .ref wF])), (cF, .inl (cI, 39, .inl (va_cpy g f ((kp - 1) * 39) 0 39))), (hH, .inr (2, [.ref rF, .int (nI (kp - 1))])), (rF, .inl (cI, 234, .inl g))])) (wr := [(oP, .inr (4, [.ref hF, .ref hH, .ref hC, .int cb, .int cn, .int cf])), (hF, .inr (1, [.ref cF, .ref aF, .ref wF]))]) (As := [.ref cF]) (rest := []) ⟨hx, hb, hml, hown, hts⟩ hK hP hD hS hA hT (kX2_takeBack l D cI cB tE tN hH rF kp g cF f _ (by omega) (by omega)) gX4_back_X2_takeBack rfl rfl rfl (by decide +kernel) ⟨Nat.le_of_ble_eq_true rfl, Nat.le_of_ble_eq_true rfl⟩ [3, 4, 2] [0, 1] [0, 1, 4, 2, 3] (by decide) rfl rfl (by decide) (by decide) (by decide) (fun u => rfl) 0 2 rfl rfl rfl rfl hl.1 rfl (Nat.le_of_ble_eq_true rfl) dX4_back_29 ⟨Nat.le_of_ble_eq_true rfl, Nat.le_of_ble_eq_true rfl⟩ (fun u H locs hw_3 hP hD hS => ?_)
    try dsimp only at hw_3
    have hP : va_P D vwCl [(oP, .inr (4, [.ref hF, .ref hH, .ref hC, .int cb, .int cn, .int cf])), (hF, .inr (1, [.ref cF, .ref aF, .ref wF])), (cF, .inl (cI, 39, .inl (va_cpy g f ((kp - 1) * 39) 0 39))), (hH, .inr (2, [.ref rF, .int (nI (kp - 1))])), (rF, .inl (cI, 234, .inl g))] H := hP
    have hD : va_D A [(oP, .inr (4, [.ref hF, .ref hH, .ref hC, .int cb, .int cn, .int cf])), (hF, .inr (1, [.ref cF, .ref aF, .ref wF])), (cF, .inl (cI, 39, .inl (va_cpy g f ((kp - 1) * 39) 0 39))), (hH, .inr (2, [.ref rF, .int (nI (kp - 1))])), (rF, .inl (cI, 234, .inl g))] := hD
    refine lv_aload_n hx hb dX4_back_32 rfl (lv_at hl 0 rfl) ?_
    refine va_get (D := D) (ci := 4) (v := .ref hH) (C := RX4) (T := TX4) (N := 6) hx hb hts N4 hown hK hP 0 rfl rfl 1 (by decide) L19 (fun _ h9 => h9) rfl dX4_back_33 ?_
    refine va_get (D := D) (ci := 2) (v := .int (nI (kp - 1))) (C := RX2) (T := TX2) (N := 2) hx hb hts N2 hown hK hP 3 rfl rfl 1 (by decide) L162 (fun _ h9 => h9) rfl dX4_back_36 ?_
    exact hQ (nI (kp - 1)) (cb, cn, cf, va_cpy g f ((kp - 1) * 39) 0 39, kp - 1) _ _ _ _ (rfl) (⟨by simp [cBack, c_1], by simp [c_1]⟩) hP hD hS dX4_back_39
  · skip
    have c_1 := (z_eq (a := kp) (b := 0) rfl rfl (by omega) (by omega)).mp c_1
    refine lv_aload_n hx hb dX4_back_10 rfl (lv_at hl 0 rfl) ?_
    refine lv_sipush (v := (-10003)) hx hb dX4_back_11 (by decide) ?_
    refine z_VI (n := 1) (wn := (fun u : Int32 × Int32 × Int32 => [(oP, .inr (4, [.ref hF, .ref hH, .ref hC, .int u.1, .int u.2.1, .int u.2.2])), (hF, .inr (1, [.ref cF, .ref aF, .ref wF])), (cF, .inl (cI, 39, .inl f)), (hH, .inr (2, [.ref rF, .int (nI kp)])), (rF, .inl (cI, 234, .inl g))])) (wr := [(hF, .inr (1, [.ref cF, .ref aF, .ref wF])), (cF, .inl (cI, 39, .inl f)), (hH, .inr (2, [.ref rF, .int (nI kp)])), (rF, .inl (cI, 234, .inl g))]) (As := [.int (-10003)]) (rest := []) ⟨hx, hb, hml, hown, hts⟩ hK hP hD hS hA hT (kX4_answered l D cI cB tE tN oP hF hH hC cb cn cf (-10003) _ ) gX4_back_X4_answered rfl rfl rfl (by decide +kernel) ⟨Nat.le_of_ble_eq_true rfl, Nat.le_of_ble_eq_true rfl⟩ [0] [1, 2, 3, 4] [4, 0, 1, 2, 3] (by decide) rfl rfl (by decide) (by decide) (by decide) (fun u => rfl) 0 4 rfl rfl rfl rfl hl.1 rfl (Nat.le_of_ble_eq_true rfl) dX4_back_14 ⟨Nat.le_of_ble_eq_true rfl, Nat.le_of_ble_eq_true rfl⟩ (fun r_7 u H locs hw_8 hP hD hS => ?_)
    obtain ⟨cb2_4, cn2_5, cf2_6⟩ := u
    try dsimp only at hw_8
    have hP : va_P D vwCl [(oP, .inr (4, [.ref hF, .ref hH, .ref hC, .int cb2_4, .int cn2_5, .int cf2_6])), (hF, .inr (1, [.ref cF, .ref aF, .ref wF])), (cF, .inl (cI, 39, .inl f)), (hH, .inr (2, [.ref rF, .int (nI kp)])), (rF, .inl (cI, 234, .inl g))] H := hP
    have hD : va_D A [(oP, .inr (4, [.ref hF, .ref hH, .ref hC, .int cb2_4, .int cn2_5, .int cf2_6])), (hF, .inr (1, [.ref cF, .ref aF, .ref wF])), (cF, .inl (cI, 39, .inl f)), (hH, .inr (2, [.ref rF, .int (nI kp)])), (rF, .inl (cI, 234, .inl g))] := hD
    obtain ⟨hw_8, hq_9⟩ := hw_8
    subst r_7
    exact hQ (-10003) (cb2_4, cn2_5, cf2_6, f, kp) _ _ _ _ (rfl) (⟨by simp [cBack, c_1], by rw [ct_no hq_9]; simp [c_1]⟩) hP hD hS dX4_back_17

set_option maxHeartbeats 4000000 in
set_option maxRecDepth 100000 in
theorem kX4_tally (l : Launch) (D : va_G) (cI cB : ClassId) (tE tN : Nat) (oP : Nat) (hF : Nat) (hH : Nat) (hC : Nat) (cb : Int32) (cn : Int32) (cf : Int32) (rF : Nat) (kp : Nat) (bF : Nat) (nF : Nat) (ln : Nat) (xat : Int32) (kd : Int32) (w : Nat) (sz : Nat) (hw : w ≤ 4) : zI l yX4_tally wsX4_tally ({ frames := 0, cells := 0, slots := 0, locals := 0 }) D cI cB tE tN [.ref oP, .int (nI w)] [(oP, .inr (4, [.ref hF, .ref hH, .ref hC, .int cb, .int cn, .int cf])), (hH, .inr (2, [.ref rF, .int (nI kp)])), (hC, .inr (3, [.ref bF, .int (nI ln), .int xat, .int kd, .ref nF]))] sz (fun u : Unit => [(oP, .inr (4, [.ref hF, .ref hH, .ref hC, .int cb, .int cn, .int cf])), (hH, .inr (2, [.ref rF, .int (nI kp)])), (hC, .inr (3, [.ref bF, .int (nI ln), .int xat, .int kd, .ref nF]))]) (fun (r : Int32) (u : Unit) => r = tlF cb cn cf ln kp (nI w)) 0 0 := by
  refine zI_mk (cc := cX4_tally) (maxL := 2) (rt := .int) (by decide) rfl (Nat.le_of_ble_eq_true rfl) ?_
  intro p e s m below meth c A Q ls S0 hname hA hK hP hD hT hS hQ hl
  obtain ⟨hx, hb, hml, hown, hts⟩ := id S0
  have hl : lv_has ls 2 [(0, .ref oP), (1, .int (nI w))] := hl
  have L192 : (Cond.fieldLink RX4 192 "PastAndClear" "bads" "I").before ([.ref oP, .int (nI w)] : List Value).toArray s = true := hts (.fieldLink RX4 192 "PastAndClear" "bads" "I") (by decide +kernel)
  have N4 : ∀ w ∈ u_ws RX4 TX4 6, w ∈ wsX4_tally := by decide +kernel
  have L195 : (Cond.fieldLink RX4 195 "PastAndClear" "noes" "I").before ([.ref oP, .int (nI w)] : List Value).toArray s = true := hts (.fieldLink RX4 195 "PastAndClear" "noes" "I") (by decide +kernel)
  have L198 : (Cond.fieldLink RX4 198 "PastAndClear" "fulls" "I").before ([.ref oP, .int (nI w)] : List Value).toArray s = true := hts (.fieldLink RX4 198 "PastAndClear" "fulls" "I") (by decide +kernel)
  have L26 : (Cond.fieldLink RX4 26 "PastAndClear" "script" "LPastAndClear$Script;").before ([.ref oP, .int (nI w)] : List Value).toArray s = true := hts (.fieldLink RX4 26 "PastAndClear" "script" "LPastAndClear$Script;") (by decide +kernel)
  have L201 : (Cond.fieldLink RX4 201 "PastAndClear$Script" "length" "I").before ([.ref oP, .int (nI w)] : List Value).toArray s = true := hts (.fieldLink RX4 201 "PastAndClear$Script" "length" "I") (by decide +kernel)
  have N3 : ∀ w ∈ u_ws RX3 TX3 5, w ∈ wsX4_tally := by decide +kernel
  have L19 : (Cond.fieldLink RX4 19 "PastAndClear" "history" "LPastAndClear$History;").before ([.ref oP, .int (nI w)] : List Value).toArray s = true := hts (.fieldLink RX4 19 "PastAndClear" "history" "LPastAndClear$History;") (by decide +kernel)
  have L162 : (Cond.fieldLink RX4 162 "PastAndClear$History" "kept" "I").before ([.ref oP, .int (nI w)] : List Value).toArray s = true := hts (.fieldLink RX4 162 "PastAndClear$History" "kept" "I") (by decide +kernel)
  have N2 : ∀ w ∈ u_ws RX2 TX2 2, w ∈ wsX4_tally := by decide +kernel
  refine lv_iload_n hx hb dX4_tally_0 rfl (lv_at hl 1 rfl) ?_
  by_cases w_1 : (nI w) = 0
  · skip
    refine lv_tableIn (tgt := 32) (off := 31) hx hb dX4_tally_1 (by rw [w_1]; decide) (by rw [w_1]; decide) (by rw [w_1]; decide) (by decide) ?_
    refine lv_aload_n hx hb dX4_tally_32 rfl (lv_at hl 0 rfl) ?_
    refine va_get (D := D) (ci := 4) (v := .int cb) (C := RX4) (T := TX4) (N := 6) hx hb hts N4 hown hK hP 0 rfl rfl 3 (by decide) L192 (fun _ h9 => h9) rfl dX4_tally_33 ?_
    exact hQ cb () _ _ _ _ (rfl) (by rw [tlF, if_pos w_1]) hP hD hS dX4_tally_36
  · skip
    by_cases w_2 : (nI w) = 1
    · skip
      refine lv_tableIn (tgt := 37) (off := 36) hx hb dX4_tally_1 (by rw [w_2]; decide) (by rw [w_2]; decide) (by rw [w_2]; decide) (by decide) ?_
      refine lv_aload_n hx hb dX4_tally_37 rfl (lv_at hl 0 rfl) ?_
      refine va_get (D := D) (ci := 4) (v := .int cn) (C := RX4) (T := TX4) (N := 6) hx hb hts N4 hown hK hP 0 rfl rfl 4 (by decide) L195 (fun _ h9 => h9) rfl dX4_tally_38 ?_
      exact hQ cn () _ _ _ _ (rfl) (by rw [tlF, if_neg w_1, if_pos w_2]) hP hD hS dX4_tally_41
    · skip
      by_cases w_3 : (nI w) = 2
      · skip
        refine lv_tableIn (tgt := 42) (off := 41) hx hb dX4_tally_1 (by rw [w_3]; decide) (by rw [w_3]; decide) (by rw [w_3]; decide) (by decide) ?_
        refine lv_aload_n hx hb dX4_tally_42 rfl (lv_at hl 0 rfl) ?_
        refine va_get (D := D) (ci := 4) (v := .int cf) (C := RX4) (T := TX4) (N := 6) hx hb hts N4 hown hK hP 0 rfl rfl 5 (by decide) L198 (fun _ h9 => h9) rfl dX4_tally_43 ?_
        exact hQ cf () _ _ _ _ (rfl) (by rw [tlF, if_neg w_1, if_neg w_2, if_pos w_3]) hP hD hS dX4_tally_46
      · skip
        by_cases w_4 : (nI w) = 3
        · skip
          refine lv_tableIn (tgt := 47) (off := 46) hx hb dX4_tally_1 (by rw [w_4]; decide) (by rw [w_4]; decide) (by rw [w_4]; decide) (by decide) ?_
          refine lv_aload_n hx hb dX4_tally_47 rfl (lv_at hl 0 rfl) ?_
          refine va_get (D := D) (ci := 4) (v := .ref hC) (C := RX4) (T := TX4) (N := 6) hx hb hts N4 hown hK hP 0 rfl rfl 2 (by decide) L26 (fun _ h9 => h9) rfl dX4_tally_48 ?_
          refine va_get (D := D) (ci := 3) (v := .int (nI ln)) (C := RX3) (T := TX3) (N := 5) hx hb hts N3 hown hK hP 2 rfl rfl 1 (by decide) L201 (fun _ h9 => h9) rfl dX4_tally_51 ?_
          exact hQ (nI ln) () _ _ _ _ (rfl) (by rw [tlF, if_neg w_1, if_neg w_2, if_neg w_3, if_pos w_4]) hP hD hS dX4_tally_54
        · skip
          refine lv_tableOut (tgt := 55) hx hb dX4_tally_1 (Or.inr (tal_out hw w_1 w_2 w_3 w_4)) (by decide) ?_
          refine lv_aload_n hx hb dX4_tally_55 rfl (lv_at hl 0 rfl) ?_
          refine va_get (D := D) (ci := 4) (v := .ref hH) (C := RX4) (T := TX4) (N := 6) hx hb hts N4 hown hK hP 0 rfl rfl 1 (by decide) L19 (fun _ h9 => h9) rfl dX4_tally_56 ?_
          refine va_get (D := D) (ci := 2) (v := .int (nI kp)) (C := RX2) (T := TX2) (N := 2) hx hb hts N2 hown hK hP 1 rfl rfl 1 (by decide) L162 (fun _ h9 => h9) rfl dX4_tally_59 ?_
          exact hQ (nI kp) () _ _ _ _ (rfl) (by rw [tlF, if_neg w_1, if_neg w_2, if_neg w_3, if_neg w_4]) hP hD hS dX4_tally_62

set_option maxHeartbeats 4000000 in
set_option maxRecDepth 100000 in
theorem kX4_told (l : Launch) (D : va_G) (cI cB : ClassId) (tE tN : Nat) (oP : Nat) (hF : Nat) (hH : Nat) (hC : Nat) (cb : Int32) (cn : Int32) (cf : Int32) (rF : Nat) (kp : Nat) (bF : Nat) (nF : Nat) (ln : Nat) (xat : Int32) (kd : Int32) (w : Int32) (sz : Nat)  : zI l yX4_told wsX4_told ({ frames := 1, cells := 0, slots := 0, locals := 21 }) D cI cB tE tN [.ref oP, .int w] [(oP, .inr (4, [.ref hF, .ref hH, .ref hC, .int cb, .int cn, .int cf])), (hH, .inr (2, [.ref rF, .int (nI kp)])), (hC, .inr (3, [.ref bF, .int (nI ln), .int xat, .int kd, .ref nF]))] sz (fun u : Int32 × Int32 × Int32 => [(oP, .inr (4, [.ref hF, .ref hH, .ref hC, .int u.1, .int u.2.1, .int u.2.2])), (hH, .inr (2, [.ref rF, .int (nI kp)])), (hC, .inr (3, [.ref bF, .int (nI ln), .int xat, .int kd, .ref nF]))]) (fun (r : Int32) (u : Int32 × Int32 × Int32) => r = gTo cb cn cf ln kp w ∧ (u.1, u.2.1, u.2.2) = gCt (vIn w 4) cb cn cf) 0 0 := by
  refine zI_mk (cc := cX4_told) (maxL := 2) (rt := .int) (by decide) rfl (Nat.le_of_ble_eq_true rfl) ?_
  intro p e s m below meth c A Q ls S0 hname hA hK hP hD hT hS hQ hl
  obtain ⟨hx, hb, hml, hown, hts⟩ := id S0
  have hl : lv_has ls 2 [(0, .ref oP), (1, .int w)] := hl
  refine lv_iload_n hx hb dX4_told_0 rfl (lv_at hl 1 rfl) ?_
  refine lv_if_lt (tgt := 9) hx hb dX4_told_1 (by decide) (fun c_1 => ?_) (fun c_1 => ?_)
  · skip
    refine lv_aload_n hx hb dX4_told_9 rfl (lv_at hl 0 rfl) ?_
    refine lv_sipush (v := (-10002)) hx hb dX4_told_10 (by decide) ?_
    refine z_VI (n := 1) (wn := (fun u : Int32 × Int32 × Int32 => [(oP, .inr (4, [.ref hF, .ref hH, .ref hC, .int u.1, .int u.2.1, .int u.2.2])), (hH, .inr (2, [.ref rF, .int (nI kp)])), (hC, .inr (3, [.ref bF, .int (nI ln), .int xat, .int kd, .ref nF]))])) (wr := [(hH, .inr (2, [.ref rF, .int (nI kp)])), (hC, .inr (3, [.ref bF, .int (nI ln), .int xat, .int kd, .ref nF]))]) (As := [.int (-10002)]) (rest := []) ⟨hx, hb, hml, hown, hts⟩ hK hP hD hS hA hT (kX4_answered l D cI cB tE tN oP hF hH hC cb cn cf (-10002) _ ) gX4_told_X4_answered rfl rfl rfl (by decide +kernel) ⟨Nat.le_of_ble_eq_true rfl, Nat.le_of_ble_eq_true rfl⟩ [0] [1, 2] [2, 0, 1] (by decide) rfl rfl (by decide) (by decide) (by decide) (fun u => rfl) 0 4 rfl rfl rfl rfl hl.1 rfl (Nat.le_of_ble_eq_true rfl) dX4_told_13 ⟨Nat.le_of_ble_eq_true rfl, Nat.le_of_ble_eq_true rfl⟩ (fun r_5 u H locs hw_6 hP hD hS => ?_)
    obtain ⟨cb2_2, cn2_3, cf2_4⟩ := u
    try dsimp only at hw_6
    have hP : va_P D vwCl [(oP, .inr (4, [.ref hF, .ref hH, .ref hC, .int cb2_2, .int cn2_3, .int cf2_4])), (hH, .inr (2, [.ref rF, .int (nI kp)])), (hC, .inr (3, [.ref bF, .int (nI ln), .int xat, .int kd, .ref nF]))] H := hP
    have hD : va_D A [(oP, .inr (4, [.ref hF, .ref hH, .ref hC, .int cb2_2, .int cn2_3, .int cf2_4])), (hH, .inr (2, [.ref rF, .int (nI kp)])), (hC, .inr (3, [.ref bF, .int (nI ln), .int xat, .int kd, .ref nF]))] := hD
    obtain ⟨hw_6, hq_7⟩ := hw_6
    subst r_5
    exact hQ (-10002) (cb2_2, cn2_3, cf2_4) _ _ _ _ (rfl) (⟨by simp [gTo, vIn, c_1], by rw [ct_bad hq_7]; simp [gCt, vIn, c_1]⟩) hP hD hS dX4_told_16
  · skip
    refine lv_iload_n hx hb dX4_told_4 rfl (lv_at hl 1 rfl) ?_
    refine lv_iconst (v := 4) hx hb dX4_told_5 (by decide) ?_
    refine lv_icmp_le (tgt := 17) hx hb dX4_told_6 (by decide) (fun c_8 => ?_) (fun c_8 => ?_)
    · skip
      obtain ⟨q, rfl, hq⟩ := z_nat (b := 4) (Int32.not_lt.mp c_1) c_8 (by decide)
      have hcq : (nI q).toNatClampNeg = q := nI_clamp (by omega)
      refine lv_aload_n hx hb dX4_told_17 rfl (lv_at hl 0 rfl) ?_
      refine lv_iload_n hx hb dX4_told_18 rfl (lv_at hl 1 rfl) ?_
      refine z_VI (n := 1) (wn := (fun u : Unit => [(oP, .inr (4, [.ref hF, .ref hH, .ref hC, .int cb, .int cn, .int cf])), (hH, .inr (2, [.ref rF, .int (nI kp)])), (hC, .inr (3, [.ref bF, .int (nI ln), .int xat, .int kd, .ref nF]))])) (wr := []) (As := [.int (nI q)]) (rest := []) ⟨hx, hb, hml, hown, hts⟩ hK hP hD hS hA hT (kX4_tally l D cI cB tE tN oP hF hH hC cb cn cf rF kp bF nF ln xat kd q _ (by omega)) gX4_told_X4_tally rfl rfl rfl (by decide +kernel) ⟨Nat.le_of_ble_eq_true rfl, Nat.le_of_ble_eq_true rfl⟩ [0, 1, 2] [] [0, 1, 2] (by decide) rfl rfl (by decide) (by decide) (by decide) (fun u => rfl) 0 4 rfl rfl rfl rfl hl.1 rfl (Nat.le_of_ble_eq_true rfl) dX4_told_19 ⟨Nat.le_of_ble_eq_true rfl, Nat.le_of_ble_eq_true rfl⟩ (fun r_9 u H locs hw_10 hP hD hS => ?_)
      try dsimp only at hw_10
      have hP : va_P D vwCl [(oP, .inr (4, [.ref hF, .ref hH, .ref hC, .int cb, .int cn, .int cf])), (hH, .inr (2, [.ref rF, .int (nI kp)])), (hC, .inr (3, [.ref bF, .int (nI ln), .int xat, .int kd, .ref nF]))] H := hP
      have hD : va_D A [(oP, .inr (4, [.ref hF, .ref hH, .ref hC, .int cb, .int cn, .int cf])), (hH, .inr (2, [.ref rF, .int (nI kp)])), (hC, .inr (3, [.ref bF, .int (nI ln), .int xat, .int kd, .ref nF]))] := hD
      subst r_9
      exact hQ (tlF cb cn cf ln kp (nI q)) (cb, cn, cf) _ _ _ _ (rfl) (⟨by simp [gTo, vIn, c_1, c_8, b2i], by simp [gCt, vIn, c_1, c_8]⟩) hP hD hS dX4_told_22
    · skip
      refine lv_aload_n hx hb dX4_told_9 rfl (lv_at hl 0 rfl) ?_
      refine lv_sipush (v := (-10002)) hx hb dX4_told_10 (by decide) ?_
      refine z_VI (n := 1) (wn := (fun u : Int32 × Int32 × Int32 => [(oP, .inr (4, [.ref hF, .ref hH, .ref hC, .int u.1, .int u.2.1, .int u.2.2])), (hH, .inr (2, [.ref rF, .int (nI kp)])), (hC, .inr (3, [.ref bF, .int (nI ln), .int xat, .int kd, .ref nF]))])) (wr := [(hH, .inr (2, [.ref rF, .int (nI kp)])), (hC, .inr (3, [.ref bF, .int (nI ln), .int xat, .int kd, .ref nF]))]) (As := [.int (-10002)]) (rest := []) ⟨hx, hb, hml, hown, hts⟩ hK hP hD hS hA hT (kX4_answered l D cI cB tE tN oP hF hH hC cb cn cf (-10002) _ ) gX4_told_X4_answered rfl rfl rfl (by decide +kernel) ⟨Nat.le_of_ble_eq_true rfl, Nat.le_of_ble_eq_true rfl⟩ [0] [1, 2] [2, 0, 1] (by decide) rfl rfl (by decide) (by decide) (by decide) (fun u => rfl) 0 4 rfl rfl rfl rfl hl.1 rfl (Nat.le_of_ble_eq_true rfl) dX4_told_13 ⟨Nat.le_of_ble_eq_true rfl, Nat.le_of_ble_eq_true rfl⟩ (fun r_14 u H locs hw_15 hP hD hS => ?_)
      obtain ⟨cb2_11, cn2_12, cf2_13⟩ := u
      try dsimp only at hw_15
      have hP : va_P D vwCl [(oP, .inr (4, [.ref hF, .ref hH, .ref hC, .int cb2_11, .int cn2_12, .int cf2_13])), (hH, .inr (2, [.ref rF, .int (nI kp)])), (hC, .inr (3, [.ref bF, .int (nI ln), .int xat, .int kd, .ref nF]))] H := hP
      have hD : va_D A [(oP, .inr (4, [.ref hF, .ref hH, .ref hC, .int cb2_11, .int cn2_12, .int cf2_13])), (hH, .inr (2, [.ref rF, .int (nI kp)])), (hC, .inr (3, [.ref bF, .int (nI ln), .int xat, .int kd, .ref nF]))] := hD
      obtain ⟨hw_15, hq_16⟩ := hw_15
      subst r_14
      exact hQ (-10002) (cb2_11, cn2_12, cf2_13) _ _ _ _ (rfl) (⟨by simp [gTo, vIn, c_1, c_8], by rw [ct_bad hq_16]; simp [gCt, vIn, c_1, c_8]⟩) hP hD hS dX4_told_16

set_option maxHeartbeats 4000000 in
set_option maxRecDepth 100000 in
theorem kX4_digest (l : Launch) (D : va_G) (cI cB : ClassId) (tE tN : Nat) (oP : Nat) (hF : Nat) (hH : Nat) (hC : Nat) (cb : Int32) (cn : Int32) (cf : Int32) (cF : Nat) (aF : Nat) (wF : Nat) (f : Nat → Int32) (t1 : Int64) (t2 : Int64) (t3 : Int64) (t4 : Int64) (w1 : Int64) (w2 : Int64) (w3 : Int64) (w4 : Int64) (rF : Nat) (kp : Nat) (bF : Nat) (nF : Nat) (ln : Nat) (xat : Int32) (kd : Int32) (N : Nat) (sz : Nat) (hN : f 35 = nI N) (hN6 : N ≤ 6) : zL l yX4_digest wsX4_digest ({ frames := 6, cells := 0, slots := 0, locals := 156 }) D cI cB tE tN [.ref oP] [(oP, .inr (4, [.ref hF, .ref hH, .ref hC, .int cb, .int cn, .int cf])), (hF, .inr (1, [.ref cF, .ref aF, .ref wF])), (cF, .inl (cI, 39, .inl f)), (aF, .inr (0, [.long t1, .long t2, .long t3, .long t4])), (wF, .inr (0, [.long w1, .long w2, .long w3, .long w4])), (hH, .inr (2, [.ref rF, .int (nI kp)])), (hC, .inr (3, [.ref bF, .int (nI ln), .int xat, .int kd, .ref nF]))] sz (fun u : Int64 × Int64 × Int64 × Int64 × Int64 × Int64 × Int64 × Int64 => [(oP, .inr (4, [.ref hF, .ref hH, .ref hC, .int cb, .int cn, .int cf])), (hF, .inr (1, [.ref cF, .ref aF, .ref wF])), (cF, .inl (cI, 39, .inl f)), (aF, .inr (0, [.long u.1, .long u.2.1, .long u.2.2.1, .long u.2.2.2.1])), (wF, .inr (0, [.long u.2.2.2.2.1, .long u.2.2.2.2.2.1, .long u.2.2.2.2.2.2.1, .long u.2.2.2.2.2.2.2])), (hH, .inr (2, [.ref rF, .int (nI kp)])), (hC, .inr (3, [.ref bF, .int (nI ln), .int xat, .int kd, .ref nF]))]) (fun (r : Int64) (u : Int64 × Int64 × Int64 × Int64 × Int64 × Int64 × Int64 × Int64) => r = 31 * d4F f (d3F f N (d2F f (d1F (tlF cb cn cf ln kp) 5) 4) (N + 1)) N + (wsF f (w1, w2, w3, w4) N).1.toInt64) 0 0 := by
  refine zL_mk (cc := cX4_digest) (maxL := 4) (by decide) rfl (Nat.le_of_ble_eq_true rfl) ?_
  intro p e s m below meth c A Q ls S0 hname hA hK hP hD hT hS hQ hl
  obtain ⟨hx, hb, hml, hown, hts⟩ := id S0
  have hl : lv_has ls 4 [(0, .ref oP)] := hl
  have L10 : (Cond.fieldLink RX4 10 "PastAndClear" "fleet" "LPastAndClear$Fleet;").before ([.ref oP] : List Value).toArray s = true := hts (.fieldLink RX4 10 "PastAndClear" "fleet" "LPastAndClear$Fleet;") (by decide +kernel)
  have N4 : ∀ w ∈ u_ws RX4 TX4 6, w ∈ wsX4_digest := by decide +kernel
  have lp90 : ∀ (k : Nat) (n : Nat) (x : Int64) (b1 : Int64) (b2 : Int64) (b3 : Int64) (b4 : Int64) (H : Heap) (locs : List Loc) (ls : Array Slot), N - n = k → (n ≤ N) → (x = d4F f (d3F f N (d2F f (d1F (tlF cb cn cf ln kp) 5) 4) (N + 1)) n) → va_P D vwCl [(oP, .inr (4, [.ref hF, .ref hH, .ref hC, .int cb, .int cn, .int cf])), (hF, .inr (1, [.ref cF, .ref aF, .ref wF])), (cF, .inl (cI, 39, .inl f)), (aF, .inr (0, [.long b1, .long b2, .long b3, .long b4])), (wF, .inr (0, [.long w1, .long w2, .long w3, .long w4])), (hH, .inr (2, [.ref rF, .int (nI kp)])), (hC, .inr (3, [.ref bF, .int (nI ln), .int xat, .int kd, .ref nF]))] H → va_D A [(oP, .inr (4, [.ref hF, .ref hH, .ref hC, .int cb, .int cn, .int cf])), (hF, .inr (1, [.ref cF, .ref aF, .ref wF])), (cF, .inl (cI, 39, .inl f)), (aF, .inr (0, [.long b1, .long b2, .long b3, .long b4])), (wF, .inr (0, [.long w1, .long w2, .long w3, .long w4])), (hH, .inr (2, [.ref rF, .int (nI kp)])), (hC, .inr (3, [.ref bF, .int (nI ln), .int xat, .int kd, .ref nF]))] → va_S A s.heap H locs → lv_has ls 4 [(3, .int (nI (n + 1))), (1, .long x), (0, .ref oP)] → W p l e ({ frames := 6, cells := 0, slots := 0, locals := 156 } : Room) s m ([.ref oP] : List Value).toArray below meth c H locs 0 0 Q (F0 m 90 ls []) := by
    intro k
    induction k using Nat.strongRecOn with
    | ind k ih =>
    intro n x b1 b2 b3 b4 H locs ls hk hn hxx hP hD hS hl
    refine lv_iload_n hx hb dX4_digest_90 rfl (lv_at hl 0 rfl) ?_
    refine lv_aload_n hx hb dX4_digest_91 rfl (lv_at hl 2 rfl) ?_
    refine va_get (D := D) (ci := 4) (v := .ref hF) (C := RX4) (T := TX4) (N := 6) hx hb hts N4 hown hK hP 0 rfl rfl 0 (by decide) L10 (fun _ h9 => h9) rfl dX4_digest_92 ?_
    refine z_VI (n := 0) (wn := (fun u : Unit => [(oP, .inr (4, [.ref hF, .ref hH, .ref hC, .int cb, .int cn, .int cf])), (hF, .inr (1, [.ref cF, .ref aF, .ref wF])), (cF, .inl (cI, 39, .inl f)), (aF, .inr (0, [.long b1, .long b2, .long b3, .long b4])), (wF, .inr (0, [.long w1, .long w2, .long w3, .long w4])), (hH, .inr (2, [.ref rF, .int (nI kp)])), (hC, .inr (3, [.ref bF, .int (nI ln), .int xat, .int kd, .ref nF]))])) (wr := [(oP, .inr (4, [.ref hF, .ref hH, .ref hC, .int cb, .int cn, .int cf])), (aF, .inr (0, [.long b1, .long b2, .long b3, .long b4])), (wF, .inr (0, [.long w1, .long w2, .long w3, .long w4])), (hH, .inr (2, [.ref rF, .int (nI kp)])), (hC, .inr (3, [.ref bF, .int (nI ln), .int xat, .int kd, .ref nF]))]) (As := []) (rest := [.int (nI (n + 1))]) ⟨hx, hb, hml, hown, hts⟩ hK hP hD hS hA hT (kX1_others l D cI cB tE tN hF cF aF wF f _ ) gX4_digest_X1_others rfl rfl rfl (by decide +kernel) ⟨Nat.le_of_ble_eq_true rfl, Nat.le_of_ble_eq_true rfl⟩ [1, 2] [0, 3, 4, 5, 6] [0, 5, 6, 1, 2, 3, 4] (by decide) rfl rfl (by decide) (by decide) (by decide) (fun u => rfl) 0 1 rfl rfl rfl rfl hl.1 rfl (Nat.le_of_ble_eq_true rfl) dX4_digest_95 ⟨Nat.le_of_ble_eq_true rfl, Nat.le_of_ble_eq_true rfl⟩ (fun r_1 u H locs hw_2 hP hD hS => ?_)
    try dsimp only at hw_2
    have hP : va_P D vwCl [(oP, .inr (4, [.ref hF, .ref hH, .ref hC, .int cb, .int cn, .int cf])), (hF, .inr (1, [.ref cF, .ref aF, .ref wF])), (cF, .inl (cI, 39, .inl f)), (aF, .inr (0, [.long b1, .long b2, .long b3, .long b4])), (wF, .inr (0, [.long w1, .long w2, .long w3, .long w4])), (hH, .inr (2, [.ref rF, .int (nI kp)])), (hC, .inr (3, [.ref bF, .int (nI ln), .int xat, .int kd, .ref nF]))] H := hP
    have hD : va_D A [(oP, .inr (4, [.ref hF, .ref hH, .ref hC, .int cb, .int cn, .int cf])), (hF, .inr (1, [.ref cF, .ref aF, .ref wF])), (cF, .inl (cI, 39, .inl f)), (aF, .inr (0, [.long b1, .long b2, .long b3, .long b4])), (wF, .inr (0, [.long w1, .long w2, .long w3, .long w4])), (hH, .inr (2, [.ref rF, .int (nI kp)])), (hC, .inr (3, [.ref bF, .int (nI ln), .int xat, .int kd, .ref nF]))] := hD
    subst r_1
    refine z_topi (x := f 35) (y := nI N) (hN) ?_
    refine lv_icmp_gt (tgt := 117) hx hb dX4_digest_98 (by decide) (fun c_3 => ?_) (fun c_3 => ?_)
    · skip
      have c_3 := (z_lt (a := N) (b := n + 1) rfl rfl (by omega) (by omega)).mp c_3
      refine lv_ldc2 (v := 31) hx hb hown (hts (.constantLong RX4 174 31) (by decide +kernel)) dX4_digest_117 ?_
      refine lv_lload_n hx hb dX4_digest_120 rfl (lv_at hl 1 rfl) ?_
      refine lv_lmul hx hb dX4_digest_121 ?_
      refine lv_aload_n hx hb dX4_digest_122 rfl (lv_at hl 2 rfl) ?_
      refine va_get (D := D) (ci := 4) (v := .ref hF) (C := RX4) (T := TX4) (N := 6) hx hb hts N4 hown hK hP 0 rfl rfl 0 (by decide) L10 (fun _ h9 => h9) rfl dX4_digest_123 ?_
      refine z_VI (n := 0) (wn := (fun u : Int64 × Int64 × Int64 × Int64 × Int64 × Int64 × Int64 × Int64 => [(oP, .inr (4, [.ref hF, .ref hH, .ref hC, .int cb, .int cn, .int cf])), (hF, .inr (1, [.ref cF, .ref aF, .ref wF])), (cF, .inl (cI, 39, .inl f)), (aF, .inr (0, [.long u.1, .long u.2.1, .long u.2.2.1, .long u.2.2.2.1])), (wF, .inr (0, [.long u.2.2.2.2.1, .long u.2.2.2.2.2.1, .long u.2.2.2.2.2.2.1, .long u.2.2.2.2.2.2.2])), (hH, .inr (2, [.ref rF, .int (nI kp)])), (hC, .inr (3, [.ref bF, .int (nI ln), .int xat, .int kd, .ref nF]))])) (wr := [(oP, .inr (4, [.ref hF, .ref hH, .ref hC, .int cb, .int cn, .int cf])), (hH, .inr (2, [.ref rF, .int (nI kp)])), (hC, .inr (3, [.ref bF, .int (nI ln), .int xat, .int kd, .ref nF]))]) (As := []) (rest := [.long (31 * x)]) ⟨hx, hb, hml, hown, hts⟩ hK hP hD hS hA hT (kX1_worstOther l D cI cB tE tN hF cF aF wF f b1 b2 b3 b4 w1 w2 w3 w4 N _ (by omega) (by omega)) gX4_digest_X1_worstOther rfl rfl rfl (by decide +kernel) ⟨Nat.le_of_ble_eq_true rfl, Nat.le_of_ble_eq_true rfl⟩ [1, 2, 3, 4] [0, 5, 6] [0, 3, 4, 5, 6, 1, 2] (by decide) rfl rfl (by decide) (by decide) (by decide) (fun u => rfl) 0 1 rfl rfl rfl rfl hl.1 rfl (Nat.le_of_ble_eq_true rfl) dX4_digest_126 ⟨Nat.le_of_ble_eq_true rfl, Nat.le_of_ble_eq_true rfl⟩ (fun r_12 u H locs hw_13 hP hD hS => ?_)
      obtain ⟨b1_4, b2_5, b3_6, b4_7, v1_8, v2_9, v3_10, v4_11⟩ := u
      try dsimp only at hw_13
      have hP : va_P D vwCl [(oP, .inr (4, [.ref hF, .ref hH, .ref hC, .int cb, .int cn, .int cf])), (hF, .inr (1, [.ref cF, .ref aF, .ref wF])), (cF, .inl (cI, 39, .inl f)), (aF, .inr (0, [.long b1_4, .long b2_5, .long b3_6, .long b4_7])), (wF, .inr (0, [.long v1_8, .long v2_9, .long v3_10, .long v4_11])), (hH, .inr (2, [.ref rF, .int (nI kp)])), (hC, .inr (3, [.ref bF, .int (nI ln), .int xat, .int kd, .ref nF]))] H := hP
      have hD : va_D A [(oP, .inr (4, [.ref hF, .ref hH, .ref hC, .int cb, .int cn, .int cf])), (hF, .inr (1, [.ref cF, .ref aF, .ref wF])), (cF, .inl (cI, 39, .inl f)), (aF, .inr (0, [.long b1_4, .long b2_5, .long b3_6, .long b4_7])), (wF, .inr (0, [.long v1_8, .long v2_9, .long v3_10, .long v4_11])), (hH, .inr (2, [.ref rF, .int (nI kp)])), (hC, .inr (3, [.ref bF, .int (nI ln), .int xat, .int kd, .ref nF]))] := hD
      subst r_12
      refine lv_i2l (v := ((wsF f (w1, w2, w3, w4) N).1).toInt64) hx hb dX4_digest_129 rfl ?_
      refine lv_ladd hx hb dX4_digest_130 ?_
      exact hQ ((31 * x) + (((wsF f (w1, w2, w3, w4) N).1).toInt64)) (b1_4, b2_5, b3_6, b4_7, v1_8, v2_9, v3_10, v4_11) _ _ _ _ (by rw [hxx, show n = N by omega]) hP hD hS dX4_digest_131
    · skip
      have c_3 := (z_ltn (a := N) (b := n + 1) rfl rfl (by omega) (by omega)).mp c_3
      refine lv_aload_n hx hb dX4_digest_101 rfl (lv_at hl 2 rfl) ?_
      refine va_get (D := D) (ci := 4) (v := .ref hF) (C := RX4) (T := TX4) (N := 6) hx hb hts N4 hown hK hP 0 rfl rfl 0 (by decide) L10 (fun _ h9 => h9) rfl dX4_digest_102 ?_
      refine lv_lload_n hx hb dX4_digest_105 rfl (lv_at hl 1 rfl) ?_
      refine lv_iload_n hx hb dX4_digest_106 rfl (lv_at hl 0 rfl) ?_
      refine z_VL (n := 2) (wn := (fun u : Int64 × Int64 × Int64 × Int64 => [(oP, .inr (4, [.ref hF, .ref hH, .ref hC, .int cb, .int cn, .int cf])), (hF, .inr (1, [.ref cF, .ref aF, .ref wF])), (cF, .inl (cI, 39, .inl f)), (aF, .inr (0, [.long u.1, .long u.2.1, .long u.2.2.1, .long u.2.2.2])), (wF, .inr (0, [.long w1, .long w2, .long w3, .long w4])), (hH, .inr (2, [.ref rF, .int (nI kp)])), (hC, .inr (3, [.ref bF, .int (nI ln), .int xat, .int kd, .ref nF]))])) (wr := [(oP, .inr (4, [.ref hF, .ref hH, .ref hC, .int cb, .int cn, .int cf])), (wF, .inr (0, [.long w1, .long w2, .long w3, .long w4])), (hH, .inr (2, [.ref rF, .int (nI kp)])), (hC, .inr (3, [.ref bF, .int (nI ln), .int xat, .int kd, .ref nF]))]) (As := [.long x, .int (nI (n + 1))]) (rest := []) ⟨hx, hb, hml, hown, hts⟩ hK hP hD hS hA hT (kX1_foldOther l D cI cB tE tN hF cF aF wF f b1 b2 b3 b4 x (n + 1) _ (by omega)) gX4_digest_X1_foldOther rfl rfl rfl (by decide +kernel) ⟨Nat.le_of_ble_eq_true rfl, Nat.le_of_ble_eq_true rfl⟩ [1, 2, 3] [0, 4, 5, 6] [0, 4, 5, 6, 1, 2, 3] (by decide) rfl rfl (by decide) (by decide) (by decide) (fun u => rfl) 0 1 rfl rfl rfl rfl hl.1 rfl (Nat.le_of_ble_eq_true rfl) dX4_digest_107 ⟨Nat.le_of_ble_eq_true rfl, Nat.le_of_ble_eq_true rfl⟩ (fun r_18 u H locs hw_19 hP hD hS => ?_)
      obtain ⟨b1_14, b2_15, b3_16, b4_17⟩ := u
      try dsimp only at hw_19
      have hP : va_P D vwCl [(oP, .inr (4, [.ref hF, .ref hH, .ref hC, .int cb, .int cn, .int cf])), (hF, .inr (1, [.ref cF, .ref aF, .ref wF])), (cF, .inl (cI, 39, .inl f)), (aF, .inr (0, [.long b1_14, .long b2_15, .long b3_16, .long b4_17])), (wF, .inr (0, [.long w1, .long w2, .long w3, .long w4])), (hH, .inr (2, [.ref rF, .int (nI kp)])), (hC, .inr (3, [.ref bF, .int (nI ln), .int xat, .int kd, .ref nF]))] H := hP
      have hD : va_D A [(oP, .inr (4, [.ref hF, .ref hH, .ref hC, .int cb, .int cn, .int cf])), (hF, .inr (1, [.ref cF, .ref aF, .ref wF])), (cF, .inl (cI, 39, .inl f)), (aF, .inr (0, [.long b1_14, .long b2_15, .long b3_16, .long b4_17])), (wF, .inr (0, [.long w1, .long w2, .long w3, .long w4])), (hH, .inr (2, [.ref rF, .int (nI kp)])), (hC, .inr (3, [.ref bF, .int (nI ln), .int xat, .int kd, .ref nF]))] := hD
      subst r_18
      refine lv_lstore_n (lv' := [(1, .long (cFo f (n + 1) x)), (3, .int (nI (n + 1))), (0, .ref oP)]) hx hb dX4_digest_110 rfl hl (by decide) rfl (fun ls hl => ?_)
      refine lv_iinc (v := nI (n + 1 + 1)) (lv' := [(3, .int (nI (n + 1 + 1))), (1, .long (cFo f (n + 1) x)), (0, .ref oP)]) hx hb dX4_digest_111 hl (k := 1) rfl (z_add rfl rfl) (by decide) rfl (fun ls hl => ?_)
      refine lv_goto (tgt := 90) hx hb dX4_digest_114 (by decide) ?_
      exact ih _ (by omega) (n + 1) (cFo f (n + 1) x) b1_14 b2_15 b3_16 b4_17 _ _ _ rfl (by omega) (by rw [hxx]; rfl) hP hD hS (lv_sub hl [0, 1, 2] rfl)
  have lp61 : ∀ (k : Nat) (n : Nat) (x : Int64) (b1 : Int64) (b2 : Int64) (b3 : Int64) (b4 : Int64) (H : Heap) (locs : List Loc) (ls : Array Slot), N + 1 - n = k → (n ≤ N + 1) → (x = d3F f N (d2F f (d1F (tlF cb cn cf ln kp) 5) 4) n) → va_P D vwCl [(oP, .inr (4, [.ref hF, .ref hH, .ref hC, .int cb, .int cn, .int cf])), (hF, .inr (1, [.ref cF, .ref aF, .ref wF])), (cF, .inl (cI, 39, .inl f)), (aF, .inr (0, [.long b1, .long b2, .long b3, .long b4])), (wF, .inr (0, [.long w1, .long w2, .long w3, .long w4])), (hH, .inr (2, [.ref rF, .int (nI kp)])), (hC, .inr (3, [.ref bF, .int (nI ln), .int xat, .int kd, .ref nF]))] H → va_D A [(oP, .inr (4, [.ref hF, .ref hH, .ref hC, .int cb, .int cn, .int cf])), (hF, .inr (1, [.ref cF, .ref aF, .ref wF])), (cF, .inl (cI, 39, .inl f)), (aF, .inr (0, [.long b1, .long b2, .long b3, .long b4])), (wF, .inr (0, [.long w1, .long w2, .long w3, .long w4])), (hH, .inr (2, [.ref rF, .int (nI kp)])), (hC, .inr (3, [.ref bF, .int (nI ln), .int xat, .int kd, .ref nF]))] → va_S A s.heap H locs → lv_has ls 4 [(3, .int (nI n)), (1, .long x), (0, .ref oP)] → W p l e ({ frames := 6, cells := 0, slots := 0, locals := 156 } : Room) s m ([.ref oP] : List Value).toArray below meth c H locs 0 0 Q (F0 m 61 ls []) := by
    intro k
    induction k using Nat.strongRecOn with
    | ind k ih =>
    intro n x b1 b2 b3 b4 H locs ls hk hn hxx hP hD hS hl
    refine lv_iload_n hx hb dX4_digest_61 rfl (lv_at hl 0 rfl) ?_
    refine lv_aload_n hx hb dX4_digest_62 rfl (lv_at hl 2 rfl) ?_
    refine va_get (D := D) (ci := 4) (v := .ref hF) (C := RX4) (T := TX4) (N := 6) hx hb hts N4 hown hK hP 0 rfl rfl 0 (by decide) L10 (fun _ h9 => h9) rfl dX4_digest_63 ?_
    refine z_VI (n := 0) (wn := (fun u : Unit => [(oP, .inr (4, [.ref hF, .ref hH, .ref hC, .int cb, .int cn, .int cf])), (hF, .inr (1, [.ref cF, .ref aF, .ref wF])), (cF, .inl (cI, 39, .inl f)), (aF, .inr (0, [.long b1, .long b2, .long b3, .long b4])), (wF, .inr (0, [.long w1, .long w2, .long w3, .long w4])), (hH, .inr (2, [.ref rF, .int (nI kp)])), (hC, .inr (3, [.ref bF, .int (nI ln), .int xat, .int kd, .ref nF]))])) (wr := [(oP, .inr (4, [.ref hF, .ref hH, .ref hC, .int cb, .int cn, .int cf])), (aF, .inr (0, [.long b1, .long b2, .long b3, .long b4])), (wF, .inr (0, [.long w1, .long w2, .long w3, .long w4])), (hH, .inr (2, [.ref rF, .int (nI kp)])), (hC, .inr (3, [.ref bF, .int (nI ln), .int xat, .int kd, .ref nF]))]) (As := []) (rest := [.int (nI n)]) ⟨hx, hb, hml, hown, hts⟩ hK hP hD hS hA hT (kX1_others l D cI cB tE tN hF cF aF wF f _ ) gX4_digest_X1_others rfl rfl rfl (by decide +kernel) ⟨Nat.le_of_ble_eq_true rfl, Nat.le_of_ble_eq_true rfl⟩ [1, 2] [0, 3, 4, 5, 6] [0, 5, 6, 1, 2, 3, 4] (by decide) rfl rfl (by decide) (by decide) (by decide) (fun u => rfl) 0 1 rfl rfl rfl rfl hl.1 rfl (Nat.le_of_ble_eq_true rfl) dX4_digest_66 ⟨Nat.le_of_ble_eq_true rfl, Nat.le_of_ble_eq_true rfl⟩ (fun r_20 u H locs hw_21 hP hD hS => ?_)
    try dsimp only at hw_21
    have hP : va_P D vwCl [(oP, .inr (4, [.ref hF, .ref hH, .ref hC, .int cb, .int cn, .int cf])), (hF, .inr (1, [.ref cF, .ref aF, .ref wF])), (cF, .inl (cI, 39, .inl f)), (aF, .inr (0, [.long b1, .long b2, .long b3, .long b4])), (wF, .inr (0, [.long w1, .long w2, .long w3, .long w4])), (hH, .inr (2, [.ref rF, .int (nI kp)])), (hC, .inr (3, [.ref bF, .int (nI ln), .int xat, .int kd, .ref nF]))] H := hP
    have hD : va_D A [(oP, .inr (4, [.ref hF, .ref hH, .ref hC, .int cb, .int cn, .int cf])), (hF, .inr (1, [.ref cF, .ref aF, .ref wF])), (cF, .inl (cI, 39, .inl f)), (aF, .inr (0, [.long b1, .long b2, .long b3, .long b4])), (wF, .inr (0, [.long w1, .long w2, .long w3, .long w4])), (hH, .inr (2, [.ref rF, .int (nI kp)])), (hC, .inr (3, [.ref bF, .int (nI ln), .int xat, .int kd, .ref nF]))] := hD
    subst r_20
    refine z_topi (x := f 35) (y := nI N) (hN) ?_
    refine lv_icmp_gt (tgt := 88) hx hb dX4_digest_69 (by decide) (fun c_22 => ?_) (fun c_22 => ?_)
    · skip
      have c_22 := (z_lt (a := N) (b := n) rfl rfl (by omega) (by omega)).mp c_22
      refine lv_iconst (v := 1) hx hb dX4_digest_88 (by decide) ?_
      refine lv_istore_n (lv' := [(3, .int 1), (1, .long x), (0, .ref oP)]) hx hb dX4_digest_89 rfl hl (by decide) rfl (fun ls hl => ?_)
      exact lp90 _ 0 x b1 b2 b3 b4 _ _ _ rfl (by omega) (by rw [hxx, show n = N + 1 by omega]; rfl) hP hD hS (lv_sub hl [0, 1, 2] rfl)
    · skip
      have c_22 := (z_ltn (a := N) (b := n) rfl rfl (by omega) (by omega)).mp c_22
      refine lv_aload_n hx hb dX4_digest_72 rfl (lv_at hl 2 rfl) ?_
      refine va_get (D := D) (ci := 4) (v := .ref hF) (C := RX4) (T := TX4) (N := 6) hx hb hts N4 hown hK hP 0 rfl rfl 0 (by decide) L10 (fun _ h9 => h9) rfl dX4_digest_73 ?_
      refine lv_lload_n hx hb dX4_digest_76 rfl (lv_at hl 1 rfl) ?_
      refine lv_iload_n hx hb dX4_digest_77 rfl (lv_at hl 0 rfl) ?_
      refine z_VL (n := 2) (wn := (fun u : Int64 × Int64 × Int64 × Int64 => [(oP, .inr (4, [.ref hF, .ref hH, .ref hC, .int cb, .int cn, .int cf])), (hF, .inr (1, [.ref cF, .ref aF, .ref wF])), (cF, .inl (cI, 39, .inl f)), (aF, .inr (0, [.long u.1, .long u.2.1, .long u.2.2.1, .long u.2.2.2])), (wF, .inr (0, [.long w1, .long w2, .long w3, .long w4])), (hH, .inr (2, [.ref rF, .int (nI kp)])), (hC, .inr (3, [.ref bF, .int (nI ln), .int xat, .int kd, .ref nF]))])) (wr := [(oP, .inr (4, [.ref hF, .ref hH, .ref hC, .int cb, .int cn, .int cf])), (wF, .inr (0, [.long w1, .long w2, .long w3, .long w4])), (hH, .inr (2, [.ref rF, .int (nI kp)])), (hC, .inr (3, [.ref bF, .int (nI ln), .int xat, .int kd, .ref nF]))]) (As := [.long x, .int (nI n)]) (rest := []) ⟨hx, hb, hml, hown, hts⟩ hK hP hD hS hA hT (kX1_foldShip l D cI cB tE tN hF cF aF wF f b1 b2 b3 b4 x n N _ (by omega) (by omega) (by omega)) gX4_digest_X1_foldShip rfl rfl rfl (by decide +kernel) ⟨Nat.le_of_ble_eq_true rfl, Nat.le_of_ble_eq_true rfl⟩ [1, 2, 3] [0, 4, 5, 6] [0, 4, 5, 6, 1, 2, 3] (by decide) rfl rfl (by decide) (by decide) (by decide) (fun u => rfl) 0 1 rfl rfl rfl rfl hl.1 rfl (Nat.le_of_ble_eq_true rfl) dX4_digest_78 ⟨Nat.le_of_ble_eq_true rfl, Nat.le_of_ble_eq_true rfl⟩ (fun r_27 u H locs hw_28 hP hD hS => ?_)
      obtain ⟨b1_23, b2_24, b3_25, b4_26⟩ := u
      try dsimp only at hw_28
      have hP : va_P D vwCl [(oP, .inr (4, [.ref hF, .ref hH, .ref hC, .int cb, .int cn, .int cf])), (hF, .inr (1, [.ref cF, .ref aF, .ref wF])), (cF, .inl (cI, 39, .inl f)), (aF, .inr (0, [.long b1_23, .long b2_24, .long b3_25, .long b4_26])), (wF, .inr (0, [.long w1, .long w2, .long w3, .long w4])), (hH, .inr (2, [.ref rF, .int (nI kp)])), (hC, .inr (3, [.ref bF, .int (nI ln), .int xat, .int kd, .ref nF]))] H := hP
      have hD : va_D A [(oP, .inr (4, [.ref hF, .ref hH, .ref hC, .int cb, .int cn, .int cf])), (hF, .inr (1, [.ref cF, .ref aF, .ref wF])), (cF, .inl (cI, 39, .inl f)), (aF, .inr (0, [.long b1_23, .long b2_24, .long b3_25, .long b4_26])), (wF, .inr (0, [.long w1, .long w2, .long w3, .long w4])), (hH, .inr (2, [.ref rF, .int (nI kp)])), (hC, .inr (3, [.ref bF, .int (nI ln), .int xat, .int kd, .ref nF]))] := hD
      subst r_27
      refine lv_lstore_n (lv' := [(1, .long (cFs f N n x)), (3, .int (nI n)), (0, .ref oP)]) hx hb dX4_digest_81 rfl hl (by decide) rfl (fun ls hl => ?_)
      refine lv_iinc (v := nI (n + 1)) (lv' := [(3, .int (nI (n + 1))), (1, .long (cFs f N n x)), (0, .ref oP)]) hx hb dX4_digest_82 hl (k := 1) rfl (z_add rfl rfl) (by decide) rfl (fun ls hl => ?_)
      refine lv_goto (tgt := 61) hx hb dX4_digest_85 (by decide) ?_
      exact ih _ (by omega) (n + 1) (cFs f N n x) b1_23 b2_24 b3_25 b4_26 _ _ _ rfl (by omega) (by rw [hxx]; rfl) hP hD hS (lv_sub hl [0, 1, 2] rfl)
  have lp32 : ∀ (k : Nat) (n : Nat) (x : Int64) (H : Heap) (locs : List Loc) (ls : Array Slot), 4 - n = k → (n ≤ 4) → (x = d2F f (d1F (tlF cb cn cf ln kp) 5) n) → va_P D vwCl [(oP, .inr (4, [.ref hF, .ref hH, .ref hC, .int cb, .int cn, .int cf])), (hF, .inr (1, [.ref cF, .ref aF, .ref wF])), (cF, .inl (cI, 39, .inl f)), (aF, .inr (0, [.long t1, .long t2, .long t3, .long t4])), (wF, .inr (0, [.long w1, .long w2, .long w3, .long w4])), (hH, .inr (2, [.ref rF, .int (nI kp)])), (hC, .inr (3, [.ref bF, .int (nI ln), .int xat, .int kd, .ref nF]))] H → va_D A [(oP, .inr (4, [.ref hF, .ref hH, .ref hC, .int cb, .int cn, .int cf])), (hF, .inr (1, [.ref cF, .ref aF, .ref wF])), (cF, .inl (cI, 39, .inl f)), (aF, .inr (0, [.long t1, .long t2, .long t3, .long t4])), (wF, .inr (0, [.long w1, .long w2, .long w3, .long w4])), (hH, .inr (2, [.ref rF, .int (nI kp)])), (hC, .inr (3, [.ref bF, .int (nI ln), .int xat, .int kd, .ref nF]))] → va_S A s.heap H locs → lv_has ls 4 [(3, .int (nI n)), (1, .long x), (0, .ref oP)] → W p l e ({ frames := 6, cells := 0, slots := 0, locals := 156 } : Room) s m ([.ref oP] : List Value).toArray below meth c H locs 0 0 Q (F0 m 32 ls []) := by
    intro k
    induction k using Nat.strongRecOn with
    | ind k ih =>
    intro n x H locs ls hk hn hxx hP hD hS hl
    refine lv_iload_n hx hb dX4_digest_32 rfl (lv_at hl 0 rfl) ?_
    refine lv_iconst (v := 3) hx hb dX4_digest_33 (by decide) ?_
    refine lv_icmp_gt (tgt := 59) hx hb dX4_digest_34 (by decide) (fun c_29 => ?_) (fun c_29 => ?_)
    · skip
      have c_29 := (z_lt (a := 3) (b := n) rfl rfl (by omega) (by omega)).mp c_29
      refine lv_iconst (v := 0) hx hb dX4_digest_59 (by decide) ?_
      refine lv_istore_n (lv' := [(3, .int 0), (1, .long x), (0, .ref oP)]) hx hb dX4_digest_60 rfl hl (by decide) rfl (fun ls hl => ?_)
      exact lp61 _ 0 x t1 t2 t3 t4 _ _ _ rfl (by omega) (by rw [hxx, show n = 4 by omega]; rfl) hP hD hS (lv_sub hl [0, 1, 2] rfl)
    · skip
      have c_29 := (z_ltn (a := 3) (b := n) rfl rfl (by omega) (by omega)).mp c_29
      refine lv_ldc2 (v := 31) hx hb hown (hts (.constantLong RX4 174 31) (by decide +kernel)) dX4_digest_37 ?_
      refine lv_lload_n hx hb dX4_digest_40 rfl (lv_at hl 1 rfl) ?_
      refine lv_lmul hx hb dX4_digest_41 ?_
      refine lv_aload_n hx hb dX4_digest_42 rfl (lv_at hl 2 rfl) ?_
      refine va_get (D := D) (ci := 4) (v := .ref hF) (C := RX4) (T := TX4) (N := 6) hx hb hts N4 hown hK hP 0 rfl rfl 0 (by decide) L10 (fun _ h9 => h9) rfl dX4_digest_43 ?_
      refine lv_iload_n hx hb dX4_digest_46 rfl (lv_at hl 0 rfl) ?_
      refine z_VI (n := 1) (wn := (fun u : Unit => [(oP, .inr (4, [.ref hF, .ref hH, .ref hC, .int cb, .int cn, .int cf])), (hF, .inr (1, [.ref cF, .ref aF, .ref wF])), (cF, .inl (cI, 39, .inl f)), (aF, .inr (0, [.long t1, .long t2, .long t3, .long t4])), (wF, .inr (0, [.long w1, .long w2, .long w3, .long w4])), (hH, .inr (2, [.ref rF, .int (nI kp)])), (hC, .inr (3, [.ref bF, .int (nI ln), .int xat, .int kd, .ref nF]))])) (wr := [(oP, .inr (4, [.ref hF, .ref hH, .ref hC, .int cb, .int cn, .int cf])), (aF, .inr (0, [.long t1, .long t2, .long t3, .long t4])), (wF, .inr (0, [.long w1, .long w2, .long w3, .long w4])), (hH, .inr (2, [.ref rF, .int (nI kp)])), (hC, .inr (3, [.ref bF, .int (nI ln), .int xat, .int kd, .ref nF]))]) (As := [.int (nI n)]) (rest := [.long (31 * x)]) ⟨hx, hb, hml, hown, hts⟩ hK hP hD hS hA hT (kX1_countOf l D cI cB tE tN hF cF aF wF f n _ (by omega)) gX4_digest_X1_countOf rfl rfl rfl (by decide +kernel) ⟨Nat.le_of_ble_eq_true rfl, Nat.le_of_ble_eq_true rfl⟩ [1, 2] [0, 3, 4, 5, 6] [0, 5, 6, 1, 2, 3, 4] (by decide) rfl rfl (by decide) (by decide) (by decide) (fun u => rfl) 0 1 rfl rfl rfl rfl hl.1 rfl (Nat.le_of_ble_eq_true rfl) dX4_digest_47 ⟨Nat.le_of_ble_eq_true rfl, Nat.le_of_ble_eq_true rfl⟩ (fun r_30 u H locs hw_31 hP hD hS => ?_)
      try dsimp only at hw_31
      have hP : va_P D vwCl [(oP, .inr (4, [.ref hF, .ref hH, .ref hC, .int cb, .int cn, .int cf])), (hF, .inr (1, [.ref cF, .ref aF, .ref wF])), (cF, .inl (cI, 39, .inl f)), (aF, .inr (0, [.long t1, .long t2, .long t3, .long t4])), (wF, .inr (0, [.long w1, .long w2, .long w3, .long w4])), (hH, .inr (2, [.ref rF, .int (nI kp)])), (hC, .inr (3, [.ref bF, .int (nI ln), .int xat, .int kd, .ref nF]))] H := hP
      have hD : va_D A [(oP, .inr (4, [.ref hF, .ref hH, .ref hC, .int cb, .int cn, .int cf])), (hF, .inr (1, [.ref cF, .ref aF, .ref wF])), (cF, .inl (cI, 39, .inl f)), (aF, .inr (0, [.long t1, .long t2, .long t3, .long t4])), (wF, .inr (0, [.long w1, .long w2, .long w3, .long w4])), (hH, .inr (2, [.ref rF, .int (nI kp)])), (hC, .inr (3, [.ref bF, .int (nI ln), .int xat, .int kd, .ref nF]))] := hD
      subst r_30
      refine lv_i2l (v := (f (35 + n)).toInt64) hx hb dX4_digest_50 rfl ?_
      refine lv_ladd hx hb dX4_digest_51 ?_
      refine lv_lstore_n (lv' := [(1, .long ((31 * x) + ((f (35 + n)).toInt64))), (3, .int (nI n)), (0, .ref oP)]) hx hb dX4_digest_52 rfl hl (by decide) rfl (fun ls hl => ?_)
      refine lv_iinc (v := nI (n + 1)) (lv' := [(3, .int (nI (n + 1))), (1, .long ((31 * x) + ((f (35 + n)).toInt64))), (0, .ref oP)]) hx hb dX4_digest_53 hl (k := 1) rfl (z_add rfl rfl) (by decide) rfl (fun ls hl => ?_)
      refine lv_goto (tgt := 32) hx hb dX4_digest_56 (by decide) ?_
      exact ih _ (by omega) (n + 1) ((31 * x) + ((f (35 + n)).toInt64)) _ _ _ rfl (by omega) (by rw [hxx]; rfl) hP hD hS (lv_sub hl [0, 1, 2] rfl)
  have lp6 : ∀ (k : Nat) (n : Nat) (x : Int64) (H : Heap) (locs : List Loc) (ls : Array Slot), 5 - n = k → (n ≤ 5) → (x = d1F (tlF cb cn cf ln kp) n) → va_P D vwCl [(oP, .inr (4, [.ref hF, .ref hH, .ref hC, .int cb, .int cn, .int cf])), (hF, .inr (1, [.ref cF, .ref aF, .ref wF])), (cF, .inl (cI, 39, .inl f)), (aF, .inr (0, [.long t1, .long t2, .long t3, .long t4])), (wF, .inr (0, [.long w1, .long w2, .long w3, .long w4])), (hH, .inr (2, [.ref rF, .int (nI kp)])), (hC, .inr (3, [.ref bF, .int (nI ln), .int xat, .int kd, .ref nF]))] H → va_D A [(oP, .inr (4, [.ref hF, .ref hH, .ref hC, .int cb, .int cn, .int cf])), (hF, .inr (1, [.ref cF, .ref aF, .ref wF])), (cF, .inl (cI, 39, .inl f)), (aF, .inr (0, [.long t1, .long t2, .long t3, .long t4])), (wF, .inr (0, [.long w1, .long w2, .long w3, .long w4])), (hH, .inr (2, [.ref rF, .int (nI kp)])), (hC, .inr (3, [.ref bF, .int (nI ln), .int xat, .int kd, .ref nF]))] → va_S A s.heap H locs → lv_has ls 4 [(3, .int (nI n)), (1, .long x), (0, .ref oP)] → W p l e ({ frames := 6, cells := 0, slots := 0, locals := 156 } : Room) s m ([.ref oP] : List Value).toArray below meth c H locs 0 0 Q (F0 m 6 ls []) := by
    intro k
    induction k using Nat.strongRecOn with
    | ind k ih =>
    intro n x H locs ls hk hn hxx hP hD hS hl
    refine lv_iload_n hx hb dX4_digest_6 rfl (lv_at hl 0 rfl) ?_
    refine lv_iconst (v := 4) hx hb dX4_digest_7 (by decide) ?_
    refine lv_icmp_gt (tgt := 30) hx hb dX4_digest_8 (by decide) (fun c_32 => ?_) (fun c_32 => ?_)
    · skip
      have c_32 := (z_lt (a := 4) (b := n) rfl rfl (by omega) (by omega)).mp c_32
      refine lv_iconst (v := 0) hx hb dX4_digest_30 (by decide) ?_
      refine lv_istore_n (lv' := [(3, .int 0), (1, .long x), (0, .ref oP)]) hx hb dX4_digest_31 rfl hl (by decide) rfl (fun ls hl => ?_)
      exact lp32 _ 0 x _ _ _ rfl (by omega) (by rw [hxx, show n = 5 by omega]; rfl) hP hD hS (lv_sub hl [0, 1, 2] rfl)
    · skip
      have c_32 := (z_ltn (a := 4) (b := n) rfl rfl (by omega) (by omega)).mp c_32
      refine lv_ldc2 (v := 31) hx hb hown (hts (.constantLong RX4 174 31) (by decide +kernel)) dX4_digest_11 ?_
      refine lv_lload_n hx hb dX4_digest_14 rfl (lv_at hl 1 rfl) ?_
      refine lv_lmul hx hb dX4_digest_15 ?_
      refine lv_aload_n hx hb dX4_digest_16 rfl (lv_at hl 2 rfl) ?_
      refine lv_iload_n hx hb dX4_digest_17 rfl (lv_at hl 0 rfl) ?_
      refine z_VI (n := 1) (wn := (fun u : Unit => [(oP, .inr (4, [.ref hF, .ref hH, .ref hC, .int cb, .int cn, .int cf])), (hF, .inr (1, [.ref cF, .ref aF, .ref wF])), (cF, .inl (cI, 39, .inl f)), (aF, .inr (0, [.long t1, .long t2, .long t3, .long t4])), (wF, .inr (0, [.long w1, .long w2, .long w3, .long w4])), (hH, .inr (2, [.ref rF, .int (nI kp)])), (hC, .inr (3, [.ref bF, .int (nI ln), .int xat, .int kd, .ref nF]))])) (wr := [(hF, .inr (1, [.ref cF, .ref aF, .ref wF])), (cF, .inl (cI, 39, .inl f)), (aF, .inr (0, [.long t1, .long t2, .long t3, .long t4])), (wF, .inr (0, [.long w1, .long w2, .long w3, .long w4]))]) (As := [.int (nI n)]) (rest := [.long (31 * x)]) ⟨hx, hb, hml, hown, hts⟩ hK hP hD hS hA hT (kX4_tally l D cI cB tE tN oP hF hH hC cb cn cf rF kp bF nF ln xat kd n _ (by omega)) gX4_digest_X4_tally rfl rfl rfl (by decide +kernel) ⟨Nat.le_of_ble_eq_true rfl, Nat.le_of_ble_eq_true rfl⟩ [0, 5, 6] [1, 2, 3, 4] [4, 0, 1, 2, 3, 5, 6] (by decide) rfl rfl (by decide) (by decide) (by decide) (fun u => rfl) 0 4 rfl rfl rfl rfl hl.1 rfl (Nat.le_of_ble_eq_true rfl) dX4_digest_18 ⟨Nat.le_of_ble_eq_true rfl, Nat.le_of_ble_eq_true rfl⟩ (fun r_33 u H locs hw_34 hP hD hS => ?_)
      try dsimp only at hw_34
      have hP : va_P D vwCl [(oP, .inr (4, [.ref hF, .ref hH, .ref hC, .int cb, .int cn, .int cf])), (hF, .inr (1, [.ref cF, .ref aF, .ref wF])), (cF, .inl (cI, 39, .inl f)), (aF, .inr (0, [.long t1, .long t2, .long t3, .long t4])), (wF, .inr (0, [.long w1, .long w2, .long w3, .long w4])), (hH, .inr (2, [.ref rF, .int (nI kp)])), (hC, .inr (3, [.ref bF, .int (nI ln), .int xat, .int kd, .ref nF]))] H := hP
      have hD : va_D A [(oP, .inr (4, [.ref hF, .ref hH, .ref hC, .int cb, .int cn, .int cf])), (hF, .inr (1, [.ref cF, .ref aF, .ref wF])), (cF, .inl (cI, 39, .inl f)), (aF, .inr (0, [.long t1, .long t2, .long t3, .long t4])), (wF, .inr (0, [.long w1, .long w2, .long w3, .long w4])), (hH, .inr (2, [.ref rF, .int (nI kp)])), (hC, .inr (3, [.ref bF, .int (nI ln), .int xat, .int kd, .ref nF]))] := hD
      subst r_33
      refine lv_i2l (v := (tlF cb cn cf ln kp (nI n)).toInt64) hx hb dX4_digest_21 rfl ?_
      refine lv_ladd hx hb dX4_digest_22 ?_
      refine lv_lstore_n (lv' := [(1, .long ((31 * x) + ((tlF cb cn cf ln kp (nI n)).toInt64))), (3, .int (nI n)), (0, .ref oP)]) hx hb dX4_digest_23 rfl hl (by decide) rfl (fun ls hl => ?_)
      refine lv_iinc (v := nI (n + 1)) (lv' := [(3, .int (nI (n + 1))), (1, .long ((31 * x) + ((tlF cb cn cf ln kp (nI n)).toInt64))), (0, .ref oP)]) hx hb dX4_digest_24 hl (k := 1) rfl (z_add rfl rfl) (by decide) rfl (fun ls hl => ?_)
      refine lv_goto (tgt := 6) hx hb dX4_digest_27 (by decide) ?_
      exact ih _ (by omega) (n + 1) ((31 * x) + ((tlF cb cn cf ln kp (nI n)).toInt64)) _ _ _ rfl (by omega) (by rw [hxx]; rfl) hP hD hS (lv_sub hl [0, 1, 2] rfl)
  refine lv_ldc2 (v := 1934) hx hb hown (hts (.constantLong RX4 172 1934) (by decide +kernel)) dX4_digest_0 ?_
  refine lv_lstore_n (lv' := [(1, .long 1934), (0, .ref oP)]) hx hb dX4_digest_3 rfl hl (by decide) rfl (fun ls hl => ?_)
  refine lv_iconst (v := 0) hx hb dX4_digest_4 (by decide) ?_
  refine lv_istore_n (lv' := [(3, .int 0), (1, .long 1934), (0, .ref oP)]) hx hb dX4_digest_5 rfl hl (by decide) rfl (fun ls hl => ?_)
  exact lp6 _ 0 1934 _ _ _ rfl (by omega) rfl hP hD hS (lv_sub hl [0, 1, 2] rfl)
