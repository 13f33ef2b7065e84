def kpK (v : Int32) (kp : Nat) : Nat := if cRef v = true then kp else kpS kp
def gK (v : Int32) (kp : Nat) (g : Nat → Int32) : Nat → Int32 := if cRef v = true then g else gS kp g
set_option maxHeartbeats 4000000 in
set_option maxRecDepth 100000 in
theorem kX4_isRefusal (l : Launch) (D : va_G) (cI cB : ClassId) (tE tN : Nat) (v : Int32) (sz : Nat)  : zI l yX4_isRefusal wsX4_isRefusal ({ frames := 0, cells := 0, slots := 0, locals := 0 }) D cI cB tE tN [.int v] [] sz (fun u : Unit => []) (fun (r : Int32) (u : Unit) => r = b2i (cRef v)) 0 0 := by
  refine zI_mk (cc := cX4_isRefusal) (maxL := 1) (rt := .boolean) (by decide) rfl (Nat.le_of_ble_eq_true rfl) ?_
  intro p e s m below meth c A Q ls S0 hname hA hK hP hD hT hS hQ hl
  obtain ⟨hx, hb, hml, hown, hts⟩ := id S0
  have hl : lv_has ls 1 [(0, .int v)] := hl
  refine lv_iload_n hx hb dX4_isRefusal_0 rfl (lv_at hl 0 rfl) ?_
  refine lv_sipush (v := (-10002)) hx hb dX4_isRefusal_1 (by decide) ?_
  refine lv_icmp_eq (tgt := 21) hx hb dX4_isRefusal_4 (by decide) (fun c_1 => ?_) (fun c_1 => ?_)
  · skip
    refine lv_iconst (v := 1) hx hb dX4_isRefusal_21 (by decide) ?_
    refine lv_goto (tgt := 26) hx hb dX4_isRefusal_22 (by decide) ?_
    exact hQ 1 () _ _ _ _ (rfl) (by simp [b2i, cRef, c_1]) hP hD hS dX4_isRefusal_26
  · skip
    refine lv_iload_n hx hb dX4_isRefusal_7 rfl (lv_at hl 0 rfl) ?_
    refine lv_sipush (v := (-10003)) hx hb dX4_isRefusal_8 (by decide) ?_
    refine lv_icmp_eq (tgt := 21) hx hb dX4_isRefusal_11 (by decide) (fun c_2 => ?_) (fun c_2 => ?_)
    · skip
      refine lv_iconst (v := 1) hx hb dX4_isRefusal_21 (by decide) ?_
      refine lv_goto (tgt := 26) hx hb dX4_isRefusal_22 (by decide) ?_
      exact hQ 1 () _ _ _ _ (rfl) (by simp [b2i, cRef, c_1, c_2]) hP hD hS dX4_isRefusal_26
    · skip
      refine lv_iload_n hx hb dX4_isRefusal_14 rfl (lv_at hl 0 rfl) ?_
      refine lv_sipush (v := (-10004)) hx hb dX4_isRefusal_15 (by decide) ?_
      refine lv_icmp_ne (tgt := 25) hx hb dX4_isRefusal_18 (by decide) (fun c_3 => ?_) (fun c_3 => ?_)
      · skip
        refine lv_iconst (v := 0) hx hb dX4_isRefusal_25 (by decide) ?_
        exact hQ 0 () _ _ _ _ (rfl) (by simp [b2i, cRef, c_1, c_2, c_3]) hP hD hS dX4_isRefusal_26
      · skip
        refine lv_iconst (v := 1) hx hb dX4_isRefusal_21 (by decide) ?_
        refine lv_goto (tgt := 26) hx hb dX4_isRefusal_22 (by decide) ?_
        exact hQ 1 () _ _ _ _ (rfl) (by simp [b2i, cRef, c_1, c_2, c_3]) hP hD hS dX4_isRefusal_26

set_option maxHeartbeats 4000000 in
set_option maxRecDepth 100000 in
theorem kX4_answered (l : Launch) (D : va_G) (cI cB : ClassId) (tE tN : Nat) (oP : Nat) (hF : Nat) (hH : Nat) (hC : Nat) (cb : Int32) (cn : Int32) (cf : Int32) (v : Int32) (sz : Nat)  : zI l yX4_answered wsX4_answered ({ frames := 0, cells := 0, slots := 0, locals := 0 }) D cI cB tE tN [.ref oP, .int v] [(oP, .inr (4, [.ref hF, .ref hH, .ref hC, .int cb, .int cn, .int cf]))] sz (fun u : Int32 × Int32 × Int32 => [(oP, .inr (4, [.ref hF, .ref hH, .ref hC, .int u.1, .int u.2.1, .int u.2.2]))]) (fun (r : Int32) (u : Int32 × Int32 × Int32) => r = v ∧ (u.1 = cnt (-10002) cb v ∧ u.2.1 = cnt (-10003) cn v ∧ u.2.2 = cnt (-10004) cf v)) 0 0 := by
  refine zI_mk (cc := cX4_answered) (maxL := 2) (rt := .int) (by decide) rfl (Nat.le_of_ble_eq_true rfl) ?_
  intro p e s m below meth c A Q ls S0 hname hA hK hP hD hT hS hQ hl
  obtain ⟨hx, hb, hml, hown, hts⟩ := id S0
  have hl : lv_has ls 2 [(0, .ref oP), (1, .int v)] := hl
  have L198 : (Cond.fieldLink RX4 198 "PastAndClear" "fulls" "I").before ([.ref oP, .int v] : List Value).toArray s = true := hts (.fieldLink RX4 198 "PastAndClear" "fulls" "I") (by decide +kernel)
  have N4 : ∀ w ∈ u_ws RX4 TX4 6, w ∈ wsX4_answered := by decide +kernel
  have L195 : (Cond.fieldLink RX4 195 "PastAndClear" "noes" "I").before ([.ref oP, .int v] : List Value).toArray s = true := hts (.fieldLink RX4 195 "PastAndClear" "noes" "I") (by decide +kernel)
  have L192 : (Cond.fieldLink RX4 192 "PastAndClear" "bads" "I").before ([.ref oP, .int v] : List Value).toArray s = true := hts (.fieldLink RX4 192 "PastAndClear" "bads" "I") (by decide +kernel)
  refine lv_iload_n hx hb dX4_answered_0 rfl (lv_at hl 1 rfl) ?_
  refine lv_sipush (v := (-10002)) hx hb dX4_answered_1 (by decide) ?_
  refine lv_icmp_ne (tgt := 17) hx hb dX4_answered_4 (by decide) (fun c_1 => ?_) (fun c_1 => ?_)
  · skip
    refine lv_iload_n hx hb dX4_answered_17 rfl (lv_at hl 1 rfl) ?_
    refine lv_sipush (v := (-10003)) hx hb dX4_answered_18 (by decide) ?_
    refine lv_icmp_ne (tgt := 34) hx hb dX4_answered_21 (by decide) (fun c_2 => ?_) (fun c_2 => ?_)
    · skip
      refine lv_iload_n hx hb dX4_answered_34 rfl (lv_at hl 1 rfl) ?_
      refine lv_sipush (v := (-10004)) hx hb dX4_answered_35 (by decide) ?_
      refine lv_icmp_ne (tgt := 51) hx hb dX4_answered_38 (by decide) (fun c_3 => ?_) (fun c_3 => ?_)
      · skip
        refine lv_iload_n hx hb dX4_answered_51 rfl (lv_at hl 1 rfl) ?_
        exact hQ v (cb, cn, cf) _ _ _ _ (rfl) (⟨rfl, by simp [cnt, c_1], by simp [cnt, c_2], by simp [cnt, c_3]⟩) hP hD hS dX4_answered_52
      · skip
        refine lv_aload_n hx hb dX4_answered_41 rfl (lv_at hl 0 rfl) ?_
        refine lv_dup hx hb dX4_answered_42 rfl ?_
        refine va_get (D := D) (ci := 4) (v := .int cf) (C := RX4) (T := TX4) (N := 6) hx hb hts N4 hown hK hP 0 rfl rfl 5 (by decide) L198 (fun _ h9 => h9) rfl dX4_answered_43 ?_
        refine lv_iconst (v := 1) hx hb dX4_answered_46 (by decide) ?_
        refine lv_iadd hx hb dX4_answered_47 ?_
        refine va_put (D := D) (ci := 4) (v := .int (cf + 1)) (ty := .int) (C := RX4) (T := TX4) (N := 6) hx hb hts N4 tyX4 tyX4_ok nmX4 hown hK hP hD hS 0 rfl rfl 5 (by decide) L198 (fun _ h9 => h9) rfl (by decide +kernel) rfl rfl (Nat.le_of_ble_eq_true rfl) dX4_answered_48 (fun H locs hP hD hS => ?_)
        have hP : va_P D vwCl [(oP, .inr (4, [.ref hF, .ref hH, .ref hC, .int cb, .int cn, .int (cf + 1)]))] H := hP
        have hD : va_D A [(oP, .inr (4, [.ref hF, .ref hH, .ref hC, .int cb, .int cn, .int (cf + 1)]))] := hD
        refine lv_iload_n hx hb dX4_answered_51 rfl (lv_at hl 1 rfl) ?_
        exact hQ v (cb, cn, cf + 1) _ _ _ _ (rfl) (⟨rfl, by simp [cnt, c_1], by simp [cnt, c_2], by simp [cnt, c_3]⟩) hP hD hS dX4_answered_52
    · skip
      refine lv_aload_n hx hb dX4_answered_24 rfl (lv_at hl 0 rfl) ?_
      refine lv_dup hx hb dX4_answered_25 rfl ?_
      refine va_get (D := D) (ci := 4) (v := .int cn) (C := RX4) (T := TX4) (N := 6) hx hb hts N4 hown hK hP 0 rfl rfl 4 (by decide) L195 (fun _ h9 => h9) rfl dX4_answered_26 ?_
      refine lv_iconst (v := 1) hx hb dX4_answered_29 (by decide) ?_
      refine lv_iadd hx hb dX4_answered_30 ?_
      refine va_put (D := D) (ci := 4) (v := .int (cn + 1)) (ty := .int) (C := RX4) (T := TX4) (N := 6) hx hb hts N4 tyX4 tyX4_ok nmX4 hown hK hP hD hS 0 rfl rfl 4 (by decide) L195 (fun _ h9 => h9) rfl (by decide +kernel) rfl rfl (Nat.le_of_ble_eq_true rfl) dX4_answered_31 (fun H locs hP hD hS => ?_)
      have hP : va_P D vwCl [(oP, .inr (4, [.ref hF, .ref hH, .ref hC, .int cb, .int (cn + 1), .int cf]))] H := hP
      have hD : va_D A [(oP, .inr (4, [.ref hF, .ref hH, .ref hC, .int cb, .int (cn + 1), .int cf]))] := hD
      refine lv_iload_n hx hb dX4_answered_34 rfl (lv_at hl 1 rfl) ?_
      refine lv_sipush (v := (-10004)) hx hb dX4_answered_35 (by decide) ?_
      refine lv_icmp_ne (tgt := 51) hx hb dX4_answered_38 (by decide) (fun c_4 => ?_) (fun c_4 => ?_)
      · skip
        refine lv_iload_n hx hb dX4_answered_51 rfl (lv_at hl 1 rfl) ?_
        exact hQ v (cb, cn + 1, cf) _ _ _ _ (rfl) (⟨rfl, by simp [cnt, c_1], by simp [cnt, c_2], by simp [cnt, c_4]⟩) hP hD hS dX4_answered_52
      · skip
        refine lv_aload_n hx hb dX4_answered_41 rfl (lv_at hl 0 rfl) ?_
        refine lv_dup hx hb dX4_answered_42 rfl ?_
        refine va_get (D := D) (ci := 4) (v := .int cf) (C := RX4) (T := TX4) (N := 6) hx hb hts N4 hown hK hP 0 rfl rfl 5 (by decide) L198 (fun _ h9 => h9) rfl dX4_answered_43 ?_
        refine lv_iconst (v := 1) hx hb dX4_answered_46 (by decide) ?_
        refine lv_iadd hx hb dX4_answered_47 ?_
        refine va_put (D := D) (ci := 4) (v := .int (cf + 1)) (ty := .int) (C := RX4) (T := TX4) (N := 6) hx hb hts N4 tyX4 tyX4_ok nmX4 hown hK hP hD hS 0 rfl rfl 5 (by decide) L198 (fun _ h9 => h9) rfl (by decide +kernel) rfl rfl (Nat.le_of_ble_eq_true rfl) dX4_answered_48 (fun H locs hP hD hS => ?_)
        have hP : va_P D vwCl [(oP, .inr (4, [.ref hF, .ref hH, .ref hC, .int cb, .int (cn + 1), .int (cf + 1)]))] H := hP
        have hD : va_D A [(oP, .inr (4, [.ref hF, .ref hH, .ref hC, .int cb, .int (cn + 1), .int (cf + 1)]))] := hD
        refine lv_iload_n hx hb dX4_answered_51 rfl (lv_at hl 1 rfl) ?_
        exact hQ v (cb, cn + 1, cf + 1) _ _ _ _ (rfl) (⟨rfl, by simp [cnt, c_1], by simp [cnt, c_2], by simp [cnt, c_4]⟩) hP hD hS dX4_answered_52
  · skip
    refine lv_aload_n hx hb dX4_answered_7 rfl (lv_at hl 0 rfl) ?_
    refine lv_dup hx hb dX4_answered_8 rfl ?_
    refine va_get (D := D) (ci := 4) (v := .int cb) (C := RX4) (T := TX4) (N := 6) hx hb hts N4 hown hK hP 0 rfl rfl 3 (by decide) L192 (fun _ h9 => h9) rfl dX4_answered_9 ?_
    refine lv_iconst (v := 1) hx hb dX4_answered_12 (by decide) ?_
    refine lv_iadd hx hb dX4_answered_13 ?_
    refine va_put (D := D) (ci := 4) (v := .int (cb + 1)) (ty := .int) (C := RX4) (T := TX4) (N := 6) hx hb hts N4 tyX4 tyX4_ok nmX4 hown hK hP hD hS 0 rfl rfl 3 (by decide) L192 (fun _ h9 => h9) rfl (by decide +kernel) rfl rfl (Nat.le_of_ble_eq_true rfl) dX4_answered_14 (fun H locs hP hD hS => ?_)
    have hP : va_P D vwCl [(oP, .inr (4, [.ref hF, .ref hH, .ref hC, .int (cb + 1), .int cn, .int cf]))] H := hP
    have hD : va_D A [(oP, .inr (4, [.ref hF, .ref hH, .ref hC, .int (cb + 1), .int cn, .int cf]))] := hD
    refine lv_iload_n hx hb dX4_answered_17 rfl (lv_at hl 1 rfl) ?_
    refine lv_sipush (v := (-10003)) hx hb dX4_answered_18 (by decide) ?_
    refine lv_icmp_ne (tgt := 34) hx hb dX4_answered_21 (by decide) (fun c_5 => ?_) (fun c_5 => ?_)
    · skip
      refine lv_iload_n hx hb dX4_answered_34 rfl (lv_at hl 1 rfl) ?_
      refine lv_sipush (v := (-10004)) hx hb dX4_answered_35 (by decide) ?_
      refine lv_icmp_ne (tgt := 51) hx hb dX4_answered_38 (by decide) (fun c_6 => ?_) (fun c_6 => ?_)
      · skip
        refine lv_iload_n hx hb dX4_answered_51 rfl (lv_at hl 1 rfl) ?_
        exact hQ v (cb + 1, cn, cf) _ _ _ _ (rfl) (⟨rfl, by simp [cnt, c_1], by simp [cnt, c_5], by simp [cnt, c_6]⟩) hP hD hS dX4_answered_52
      · skip
        refine lv_aload_n hx hb dX4_answered_41 rfl (lv_at hl 0 rfl) ?_
        refine lv_dup hx hb dX4_answered_42 rfl ?_
        refine va_get (D := D) (ci := 4) (v := .int cf) (C := RX4) (T := TX4) (N := 6) hx hb hts N4 hown hK hP 0 rfl rfl 5 (by decide) L198 (fun _ h9 => h9) rfl dX4_answered_43 ?_
        refine lv_iconst (v := 1) hx hb dX4_answered_46 (by decide) ?_
        refine lv_iadd hx hb dX4_answered_47 ?_
        refine va_put (D := D) (ci := 4) (v := .int (cf + 1)) (ty := .int) (C := RX4) (T := TX4) (N := 6) hx hb hts N4 tyX4 tyX4_ok nmX4 hown hK hP hD hS 0 rfl rfl 5 (by decide) L198 (fun _ h9 => h9) rfl (by decide +kernel) rfl rfl (Nat.le_of_ble_eq_true rfl) dX4_answered_48 (fun H locs hP hD hS => ?_)
        have hP : va_P D vwCl [(oP, .inr (4, [.ref hF, .ref hH, .ref hC, .int (cb + 1), .int cn, .int (cf + 1)]))] H := hP
        have hD : va_D A [(oP, .inr (4, [.ref hF, .ref hH, .ref hC, .int (cb + 1), .int cn, .int (cf + 1)]))] := hD
        refine lv_iload_n hx hb dX4_answered_51 rfl (lv_at hl 1 rfl) ?_
        exact hQ v (cb + 1, cn, cf + 1) _ _ _ _ (rfl) (⟨rfl, by simp [cnt, c_1], by simp [cnt, c_5], by simp [cnt, c_6]⟩) hP hD hS dX4_answered_52
    · skip
      refine lv_aload_n hx hb dX4_answered_24 rfl (lv_at hl 0 rfl) ?_
      refine lv_dup hx hb dX4_answered_25 rfl ?_
      refine va_get (D := D) (ci := 4) (v := .int cn) (C := RX4) (T := TX4) (N := 6) hx hb hts N4 hown hK hP 0 rfl rfl 4 (by decide) L195 (fun _ h9 => h9) rfl dX4_answered_26 ?_
      refine lv_iconst (v := 1) hx hb dX4_answered_29 (by decide) ?_
      refine lv_iadd hx hb dX4_answered_30 ?_
      refine va_put (D := D) (ci := 4) (v := .int (cn + 1)) (ty := .int) (C := RX4) (T := TX4) (N := 6) hx hb hts N4 tyX4 tyX4_ok nmX4 hown hK hP hD hS 0 rfl rfl 4 (by decide) L195 (fun _ h9 => h9) rfl (by decide +kernel) rfl rfl (Nat.le_of_ble_eq_true rfl) dX4_answered_31 (fun H locs hP hD hS => ?_)
      have hP : va_P D vwCl [(oP, .inr (4, [.ref hF, .ref hH, .ref hC, .int (cb + 1), .int (cn + 1), .int cf]))] H := hP
      have hD : va_D A [(oP, .inr (4, [.ref hF, .ref hH, .ref hC, .int (cb + 1), .int (cn + 1), .int cf]))] := hD
      refine lv_iload_n hx hb dX4_answered_34 rfl (lv_at hl 1 rfl) ?_
      refine lv_sipush (v := (-10004)) hx hb dX4_answered_35 (by decide) ?_
      refine lv_icmp_ne (tgt := 51) hx hb dX4_answered_38 (by decide) (fun c_7 => ?_) (fun c_7 => ?_)
      · skip
        refine lv_iload_n hx hb dX4_answered_51 rfl (lv_at hl 1 rfl) ?_
        exact hQ v (cb + 1, cn + 1, cf) _ _ _ _ (rfl) (⟨rfl, by simp [cnt, c_1], by simp [cnt, c_5], by simp [cnt, c_7]⟩) hP hD hS dX4_answered_52
      · skip
        refine lv_aload_n hx hb dX4_answered_41 rfl (lv_at hl 0 rfl) ?_
        refine lv_dup hx hb dX4_answered_42 rfl ?_
        refine va_get (D := D) (ci := 4) (v := .int cf) (C := RX4) (T := TX4) (N := 6) hx hb hts N4 hown hK hP 0 rfl rfl 5 (by decide) L198 (fun _ h9 => h9) rfl dX4_answered_43 ?_
        refine lv_iconst (v := 1) hx hb dX4_answered_46 (by decide) ?_
        refine lv_iadd hx hb dX4_answered_47 ?_
        refine va_put (D := D) (ci := 4) (v := .int (cf + 1)) (ty := .int) (C := RX4) (T := TX4) (N := 6) hx hb hts N4 tyX4 tyX4_ok nmX4 hown hK hP hD hS 0 rfl rfl 5 (by decide) L198 (fun _ h9 => h9) rfl (by decide +kernel) rfl rfl (Nat.le_of_ble_eq_true rfl) dX4_answered_48 (fun H locs hP hD hS => ?_)
        have hP : va_P D vwCl [(oP, .inr (4, [.ref hF, .ref hH, .ref hC, .int (cb + 1), .int (cn + 1), .int (cf + 1)]))] H := hP
        have hD : va_D A [(oP, .inr (4, [.ref hF, .ref hH, .ref hC, .int (cb + 1), .int (cn + 1), .int (cf + 1)]))] := hD
        refine lv_iload_n hx hb dX4_answered_51 rfl (lv_at hl 1 rfl) ?_
        exact hQ v (cb + 1, cn + 1, cf + 1) _ _ _ _ (rfl) (⟨rfl, by simp [cnt, c_1], by simp [cnt, c_5], by simp [cnt, c_7]⟩) hP hD hS dX4_answered_52

set_option maxHeartbeats 4000000 in
set_option maxRecDepth 100000 in
theorem kX4_changed (l : Launch) (D : va_G) (cI cB : ClassId) (tE tN : Nat) (oP : Nat) (hF : Nat) (hH : Nat) (hC : Nat) (cb : Int32) (cn : Int32) (cf : Int32) (rF : Nat) (kp : Nat) (g : Nat → Int32) (v : Int32) (sz : Nat) (hkp : kp ≤ 5) : zI l yX4_changed wsX4_changed ({ frames := 2, cells := 0, slots := 0, locals := 38 }) D cI cB tE tN [.ref oP, .int v] [(oP, .inr (4, [.ref hF, .ref hH, .ref hC, .int cb, .int cn, .int cf])), (hH, .inr (2, [.ref rF, .int (nI kp)])), (rF, .inl (cI, 234, .inl g))] sz (fun u : Int32 × Int32 × Int32 × Nat × (Nat → Int32) => [(oP, .inr (4, [.ref hF, .ref hH, .ref hC, .int u.1, .int u.2.1, .int u.2.2.1])), (hH, .inr (2, [.ref rF, .int (nI u.2.2.2.1)])), (rF, .inl (cI, 234, .inl u.2.2.2.2))]) (fun (r : Int32) (u : Int32 × Int32 × Int32 × Nat × (Nat → Int32)) => r = v ∧ (u.1 = cnt (-10002) cb v ∧ u.2.1 = cnt (-10003) cn v ∧ u.2.2.1 = cnt (-10004) cf v ∧ u.2.2.2.1 = kpK v kp ∧ u.2.2.2.2 = gK v kp g)) 0 0 := by
  refine zI_mk (cc := cX4_changed) (maxL := 2) (rt := .int) (by decide) rfl (Nat.le_of_ble_eq_true rfl) ?_
  intro p e s m below meth c A Q ls S0 hname hA hK hP hD hT hS hQ hl
  obtain ⟨hx, hb, hml, hown, hts⟩ := id S0
  have hl : lv_has ls 2 [(0, .ref oP), (1, .int v)] := hl
  have L19 : (Cond.fieldLink RX4 19 "PastAndClear" "history" "LPastAndClear$History;").before ([.ref oP, .int v] : List Value).toArray s = true := hts (.fieldLink RX4 19 "PastAndClear" "history" "LPastAndClear$History;") (by decide +kernel)
  have N4 : ∀ w ∈ u_ws RX4 TX4 6, w ∈ wsX4_changed := by decide +kernel
  refine lv_iload_n hx hb dX4_changed_0 rfl (lv_at hl 1 rfl) ?_
  refine z_SI (n := 1) (wn := (fun u : Unit => [(oP, .inr (4, [.ref hF, .ref hH, .ref hC, .int cb, .int cn, .int cf])), (hH, .inr (2, [.ref rF, .int (nI kp)])), (rF, .inl (cI, 234, .inl g))])) (wr := [(oP, .inr (4, [.ref hF, .ref hH, .ref hC, .int cb, .int cn, .int cf])), (hH, .inr (2, [.ref rF, .int (nI kp)])), (rF, .inl (cI, 234, .inl g))]) (As := [.int v]) (rest := []) ⟨hx, hb, hml, hown, hts⟩ hK hP hD hS hA hT (kX4_isRefusal l D cI cB tE tN v _ ) gX4_changed_X4_isRefusal rfl rfl rfl (by decide +kernel) ⟨Nat.le_of_ble_eq_true rfl, Nat.le_of_ble_eq_true rfl⟩ [] [0, 1, 2] [0, 1, 2] (by decide) rfl rfl (by decide) (by decide) (by decide) (fun u => rfl) rfl hl.1 rfl (Nat.le_of_ble_eq_true rfl) dX4_changed_1 ⟨Nat.le_of_ble_eq_true rfl, Nat.le_of_ble_eq_true rfl⟩ (fun r_1 u H locs hw_2 hP hD hS => ?_)
  try dsimp only at hw_2
  have hP : va_P D vwCl [(oP, .inr (4, [.ref hF, .ref hH, .ref hC, .int cb, .int cn, .int cf])), (hH, .inr (2, [.ref rF, .int (nI kp)])), (rF, .inl (cI, 234, .inl g))] H := hP
  have hD : va_D A [(oP, .inr (4, [.ref hF, .ref hH, .ref hC, .int cb, .int cn, .int cf])), (hH, .inr (2, [.ref rF, .int (nI kp)])), (rF, .inl (cI, 234, .inl g))] := hD
  subst r_1
  refine lv_if_ne (tgt := 14) hx hb dX4_changed_4 (by decide) (fun c_3 => ?_) (fun c_3 => ?_)
  · skip
    have c_3 := z_b1 c_3
    refine lv_aload_n hx hb dX4_changed_14 rfl (lv_at hl 0 rfl) ?_
    refine lv_iload_n hx hb dX4_changed_15 rfl (lv_at hl 1 rfl) ?_
    refine z_VI (n := 1) (wn := (fun u : Int32 × Int32 × Int32 => [(oP, .inr (4, [.ref hF, .ref hH, .ref hC, .int u.1, .int u.2.1, .int u.2.2])), (hH, .inr (2, [.ref rF, .int (nI kp)])), (rF, .inl (cI, 234, .inl g))])) (wr := [(hH, .inr (2, [.ref rF, .int (nI kp)])), (rF, .inl (cI, 234, .inl g))]) (As := [.int v]) (rest := []) ⟨hx, hb, hml, hown, hts⟩ hK hP hD hS hA hT (kX4_answered l D cI cB tE tN oP hF hH hC cb cn cf v _ ) gX4_changed_X4_answered rfl rfl rfl (by decide +kernel) ⟨Nat.le_of_ble_eq_true rfl, Nat.le_of_ble_eq_true rfl⟩ [0] [1, 2] [2, 0, 1] (by decide) rfl rfl (by decide) (by decide) (by decide) (fun u => rfl) 0 4 rfl rfl rfl rfl hl.1 rfl (Nat.le_of_ble_eq_true rfl) dX4_changed_16 ⟨Nat.le_of_ble_eq_true rfl, Nat.le_of_ble_eq_true rfl⟩ (fun r_7 u H locs hw_8 hP hD hS => ?_)
    obtain ⟨cb2_4, cn2_5, cf2_6⟩ := u
    try dsimp only at hw_8
    have hP : va_P D vwCl [(oP, .inr (4, [.ref hF, .ref hH, .ref hC, .int cb2_4, .int cn2_5, .int cf2_6])), (hH, .inr (2, [.ref rF, .int (nI kp)])), (rF, .inl (cI, 234, .inl g))] H := hP
    have hD : va_D A [(oP, .inr (4, [.ref hF, .ref hH, .ref hC, .int cb2_4, .int cn2_5, .int cf2_6])), (hH, .inr (2, [.ref rF, .int (nI kp)])), (rF, .inl (cI, 234, .inl g))] := hD
    obtain ⟨hw_8, hq_9⟩ := hw_8
    subst r_7
    exact hQ v (cb2_4, cn2_5, cf2_6, kp, g) _ _ _ _ (rfl) (⟨rfl, hq_9.1, hq_9.2.1, hq_9.2.2, by simp [kpK, c_3], by simp [gK, c_3]⟩) hP hD hS dX4_changed_19
  · skip
    have c_3 := z_b0 c_3
    refine lv_aload_n hx hb dX4_changed_7 rfl (lv_at hl 0 rfl) ?_
    refine va_get (D := D) (ci := 4) (v := .ref hH) (C := RX4) (T := TX4) (N := 6) hx hb hts N4 hown hK hP 0 rfl rfl 1 (by decide) L19 (fun _ h9 => h9) rfl dX4_changed_8 ?_
    refine z_VV (n := 0) (wn := (fun u : Nat × (Nat → Int32) => [(oP, .inr (4, [.ref hF, .ref hH, .ref hC, .int cb, .int cn, .int cf])), (hH, .inr (2, [.ref rF, .int (nI u.1)])), (rF, .inl (cI, 234, .inl u.2))])) (wr := [(oP, .inr (4, [.ref hF, .ref hH, .ref hC, .int cb, .int cn, .int cf]))]) (As := []) (rest := []) ⟨hx, hb, hml, hown, hts⟩ hK hP hD hS hA hT (kX2_keep l D cI cB tE tN hH rF kp g _ (by omega)) gX4_changed_X2_keep rfl rfl rfl (by decide +kernel) ⟨Nat.le_of_ble_eq_true rfl, Nat.le_of_ble_eq_true rfl⟩ [1, 2] [0] [0, 1, 2] (by decide) rfl rfl (by decide) (by decide) (by decide) (fun u => rfl) 0 2 rfl rfl rfl rfl hl.1 rfl (Nat.le_of_ble_eq_true rfl) dX4_changed_11 ⟨Nat.le_of_ble_eq_true rfl, Nat.le_of_ble_eq_true rfl⟩ (fun u H locs hw_13 hP hD hS => ?_)
    obtain ⟨kp2_10, g2_11⟩ := u
    try dsimp only at hw_13
    have hP : va_P D vwCl [(oP, .inr (4, [.ref hF, .ref hH, .ref hC, .int cb, .int cn, .int cf])), (hH, .inr (2, [.ref rF, .int (nI kp2_10)])), (rF, .inl (cI, 234, .inl g2_11))] H := hP
    have hD : va_D A [(oP, .inr (4, [.ref hF, .ref hH, .ref hC, .int cb, .int cn, .int cf])), (hH, .inr (2, [.ref rF, .int (nI kp2_10)])), (rF, .inl (cI, 234, .inl g2_11))] := hD
    have hk := hw_13
    refine lv_aload_n hx hb dX4_changed_14 rfl (lv_at hl 0 rfl) ?_
    refine lv_iload_n hx hb dX4_changed_15 rfl (lv_at hl 1 rfl) ?_
    refine z_VI (n := 1) (wn := (fun u : Int32 × Int32 × Int32 => [(oP, .inr (4, [.ref hF, .ref hH, .ref hC, .int u.1, .int u.2.1, .int u.2.2])), (hH, .inr (2, [.ref rF, .int (nI kp2_10)])), (rF, .inl (cI, 234, .inl g2_11))])) (wr := [(hH, .inr (2, [.ref rF, .int (nI kp2_10)])), (rF, .inl (cI, 234, .inl g2_11))]) (As := [.int v]) (rest := []) ⟨hx, hb, hml, hown, hts⟩ hK hP hD hS hA hT (kX4_answered l D cI cB tE tN oP hF hH hC cb cn cf v _ ) gX4_changed_X4_answered rfl rfl rfl (by decide +kernel) ⟨Nat.le_of_ble_eq_true rfl, Nat.le_of_ble_eq_true rfl⟩ [0] [1, 2] [2, 0, 1] (by decide) rfl rfl (by decide) (by decide) (by decide) (fun u => rfl) 0 4 rfl rfl rfl rfl hl.1 rfl (Nat.le_of_ble_eq_true rfl) dX4_changed_16 ⟨Nat.le_of_ble_eq_true rfl, Nat.le_of_ble_eq_true rfl⟩ (fun r_17 u H locs hw_18 hP hD hS => ?_)
    obtain ⟨cb2_14, cn2_15, cf2_16⟩ := u
    try dsimp only at hw_18
    have hP : va_P D vwCl [(oP, .inr (4, [.ref hF, .ref hH, .ref hC, .int cb2_14, .int cn2_15, .int cf2_16])), (hH, .inr (2, [.ref rF, .int (nI kp2_10)])), (rF, .inl (cI, 234, .inl g2_11))] H := hP
    have hD : va_D A [(oP, .inr (4, [.ref hF, .ref hH, .ref hC, .int cb2_14, .int cn2_15, .int cf2_16])), (hH, .inr (2, [.ref rF, .int (nI kp2_10)])), (rF, .inl (cI, 234, .inl g2_11))] := hD
    obtain ⟨hw_18, hq_19⟩ := hw_18
    subst r_17
    exact hQ v (cb2_14, cn2_15, cf2_16, kp2_10, g2_11) _ _ _ _ (rfl) (⟨rfl, hq_19.1, hq_19.2.1, hq_19.2.2, by simp [kpK, c_3, hk.1], by simp [gK, c_3, hk.2]⟩) hP hD hS dX4_changed_19
