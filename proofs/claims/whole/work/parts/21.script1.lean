def cApp (ln : Nat) (bt : Nat → Int32) (v : Int32) : Int32 × Nat × (Nat → Int32) :=
  if ¬ v < 0 ∧ v ≤ 127 then (if ln < 150 then (nI (ln + 1), ln + 1, upd bt ln v) else (-10004, ln, bt)) else (-10002, ln, bt)
theorem z_by : ∀ n, n ≤ 127 → vp_nar .byte (nI n).toInt8.toInt32 = nI n := by
  have h : ∀ n : Fin 128, vp_nar .byte (nI n.val).toInt8.toInt32 = nI n.val := by decide +kernel
  exact fun n hn => h ⟨n, by omega⟩
section ZBS
variable {p : Program} {l : Launch} {e : Env} {R : Room} {s : State} {m : MethodId} {args : Array Value} {below : List Frame} {meth : Method} {c : Code} {H : Heap} {locs : List Loc} {cells slots : Nat} {Q : State → Prop}
variable {cc : ByteArray} {pc : Nat} {ls : Array Slot} {rest : List Value} {D : va_G} {cI cB : ClassId} {A : Nat → Prop} {a : Nat} {ws : va_W} {H0 : Heap}
theorem z_bst (hexec : p.tables.exec = Jvm.exec) (hb : c.code = cc) (hK : va_K D vwCl (zTy cI cB) s) (hP : va_P D vwCl ws H) (hD : va_D A ws) (hS : va_S A H0 H locs) (q0 : Nat) {n : Nat} {f : Nat → Int32} (ha : ws[q0]? = some (a, .inl (cB, n, .inl f))) {i x y : Int32} {j : Nat} (hi : i = nI j) (hj : j < n) (hn : n < 2147483648) (hy : vp_nar .byte x = y) (hdg : decode cc pc = .ok (.bastore, 1))
    (k : ∀ (H1 : Heap) (locs1 : List Loc), va_P D vwCl (ws.set q0 (a, .inl (cB, n, .inl (upd f j y)))) H1 → va_D A (ws.set q0 (a, .inl (cB, n, .inl (upd f j y)))) → va_S A H0 H1 locs1 → W p l e R s m args below meth c H1 locs1 cells slots Q (F0 m (pc + 1) ls rest)) : W p l e R s m args below meth c H locs cells slots Q (F0 m pc ls (.int x :: .int i :: .ref a :: rest)) := by
  subst hi; subst hy
  refine va_bast hexec hb hK hP hD hS q0 1 ha rfl (vp_in_nI hj hn) hdg ?_
  rw [nI_clamp (Nat.lt_trans hj hn)]
  exact k
end ZBS
theorem nOf_tab {x : Int32} (lo n : Nat) (hlo : lo + n < 2147483648) (h : ∀ k, k < n → ¬ x = nI (lo + k)) : x.toInt < (lo : Int) ∨ ((lo + n : Nat) : Int) ≤ x.toInt := by
  rcases Int.lt_or_le x.toInt lo with q | q
  · exact Or.inl q
  · refine Or.inr ?_
    rcases Int.lt_or_le x.toInt ((lo + n : Nat) : Int) with q2 | q2
    · exfalso
      refine h (x.toInt - lo).toNat (by omega) ?_
      rw [← Int32.toInt_inj, z_toInt (by omega)]
      omega
    · exact q2
theorem nOf_out {x : Int32} (h97 : ¬ x = 97) (h98 : ¬ x = 98) (h99 : ¬ x = 99) (h100 : ¬ x = 100) (h101 : ¬ x = 101) (h102 : ¬ x = 102) (h103 : ¬ x = 103) (h104 : ¬ x = 104) (h105 : ¬ x = 105) (h106 : ¬ x = 106) (h107 : ¬ x = 107) (h108 : ¬ x = 108) (h109 : ¬ x = 109) (h110 : ¬ x = 110) (h111 : ¬ x = 111) (h112 : ¬ x = 112) (h113 : ¬ x = 113) (h114 : ¬ x = 114) (h115 : ¬ x = 115) (h116 : ¬ x = 116) : x.toInt < 97 ∨ 116 < x.toInt := by
  have := nOf_tab (x := x) 97 20 (by decide) (fun k hk => by
    have hk2 : k = 0 ∨ k = 1 ∨ k = 2 ∨ k = 3 ∨ k = 4 ∨ k = 5 ∨ k = 6 ∨ k = 7 ∨ k = 8 ∨ k = 9 ∨ k = 10 ∨ k = 11 ∨ k = 12 ∨ k = 13 ∨ k = 14 ∨ k = 15 ∨ k = 16 ∨ k = 17 ∨ k = 18 ∨ k = 19 := by omega
    rcases hk2 with rfl | rfl | rfl | rfl | rfl | rfl | rfl | rfl | rfl | rfl | rfl | rfl | rfl | rfl | rfl | rfl | rfl | rfl | rfl | rfl
    · exact h97
    · exact h98
    · exact h99
    · exact h100
    · exact h101
    · exact h102
    · exact h103
    · exact h104
    · exact h105
    · exact h106
    · exact h107
    · exact h108
    · exact h109
    · exact h110
    · exact h111
    · exact h112
    · exact h113
    · exact h114
    · exact h115
    · exact h116)
  omega
theorem nOf_none {x : Int32} (h97 : ¬ x = 97) (h98 : ¬ x = 98) (h99 : ¬ x = 99) (h100 : ¬ x = 100) (h101 : ¬ x = 101) (h102 : ¬ x = 102) (h103 : ¬ x = 103) (h104 : ¬ x = 104) (h105 : ¬ x = 105) (h106 : ¬ x = 106) (h107 : ¬ x = 107) (h108 : ¬ x = 108) (h109 : ¬ x = 109) (h110 : ¬ x = 110) (h111 : ¬ x = 111) (h112 : ¬ x = 112) (h113 : ¬ x = 113) (h114 : ¬ x = 114) (h115 : ¬ x = 115) (h116 : ¬ x = 116) : nOf x = -1 := by
  simp only [nOf, h97, h111, h116, h115, h110, h98, or_self, if_false]
set_option maxHeartbeats 4000000 in
set_option maxRecDepth 100000 in
theorem kX3_append (l : Launch) (D : va_G) (cI cB : ClassId) (tE tN : Nat) (hC : Nat) (bF : Nat) (nF : Nat) (ln : Nat) (xat : Int32) (kd : Int32) (bt : Nat → Int32) (v : Int32) (sz : Nat) (hln : ln ≤ 150) : zI l yX3_append wsX3_append ({ frames := 0, cells := 0, slots := 0, locals := 0 }) D cI cB tE tN [.ref hC, .int v] [(hC, .inr (3, [.ref bF, .int (nI ln), .int xat, .int kd, .ref nF])), (bF, .inl (cB, 150, .inl bt))] sz (fun u : Nat × (Nat → Int32) => [(hC, .inr (3, [.ref bF, .int (nI u.1), .int xat, .int kd, .ref nF])), (bF, .inl (cB, 150, .inl u.2))]) (fun (r : Int32) (u : Nat × (Nat → Int32)) => (r, u.1, u.2) = cApp ln bt v) 0 0 := by
  refine zI_mk (cc := cX3_append) (maxL := 2) (rt := .int) (by decide) rfl (Nat.le_of_ble_eq_true rfl) ?_
  intro p e s m below meth c A Q ls S0 hname hA hK hP hD hT hS hQ hl
  obtain ⟨hx, hb, hml, hown, hts⟩ := id S0
  have hl : lv_has ls 2 [(0, .ref hC), (1, .int v)] := hl
  have L19 : (Cond.fieldLink RX3 19 "PastAndClear$Script" "length" "I").before ([.ref hC, .int v] : List Value).toArray s = true := hts (.fieldLink RX3 19 "PastAndClear$Script" "length" "I") (by decide +kernel)
  have N3 : ∀ w ∈ u_ws RX3 TX3 5, w ∈ wsX3_append := by decide +kernel
  have L11 : (Cond.fieldLink RX3 11 "PastAndClear$Script" "bytes" "[B").before ([.ref hC, .int v] : List Value).toArray s = true := hts (.fieldLink RX3 11 "PastAndClear$Script" "bytes" "[B") (by decide +kernel)
  refine lv_iload_n hx hb dX3_append_0 rfl (lv_at hl 1 rfl) ?_
  refine lv_if_lt (tgt := 10) hx hb dX3_append_1 (by decide) (fun c_1 => ?_) (fun c_1 => ?_)
  · skip
    refine lv_sipush (v := (-10002)) hx hb dX3_append_10 (by decide) ?_
    exact hQ (-10002) (ln, bt) _ _ _ _ (rfl) (by simp [cApp, c_1]) hP hD hS dX3_append_13
  · skip
    refine lv_iload_n hx hb dX3_append_4 rfl (lv_at hl 1 rfl) ?_
    refine lv_bipush (v := 127) hx hb dX3_append_5 (by decide) ?_
    refine lv_icmp_le (tgt := 14) hx hb dX3_append_7 (by decide) (fun c_2 => ?_) (fun c_2 => ?_)
    · skip
      obtain ⟨n, rfl, hn2⟩ := z_nat (b := 127) (Int32.not_lt.mp c_1) c_2 (by decide)
      refine lv_aload_n hx hb dX3_append_14 rfl (lv_at hl 0 rfl) ?_
      refine va_get (D := D) (ci := 3) (v := .int (nI ln)) (C := RX3) (T := TX3) (N := 5) hx hb hts N3 hown hK hP 0 rfl rfl 1 (by decide) L19 (fun _ h9 => h9) rfl dX3_append_15 ?_
      refine lv_sipush (v := 150) hx hb dX3_append_18 (by decide) ?_
      refine lv_icmp_lt (tgt := 28) hx hb dX3_append_21 (by decide) (fun c_3 => ?_) (fun c_3 => ?_)
      · skip
        have c_3 := (z_lt (a := ln) (b := 150) rfl rfl (by omega) (by omega)).mp c_3
        refine lv_aload_n hx hb dX3_append_28 rfl (lv_at hl 0 rfl) ?_
        refine va_get (D := D) (ci := 3) (v := .ref bF) (C := RX3) (T := TX3) (N := 5) hx hb hts N3 hown hK hP 0 rfl rfl 0 (by decide) L11 (fun _ h9 => h9) rfl dX3_append_29 ?_
        refine lv_aload_n hx hb dX3_append_32 rfl (lv_at hl 0 rfl) ?_
        refine va_get (D := D) (ci := 3) (v := .int (nI ln)) (C := RX3) (T := TX3) (N := 5) hx hb hts N3 hown hK hP 0 rfl rfl 1 (by decide) L19 (fun _ h9 => h9) rfl dX3_append_33 ?_
        refine lv_iload_n hx hb dX3_append_36 rfl (lv_at hl 1 rfl) ?_
        refine lv_i2b (v := (nI n).toInt8.toInt32) hx hb dX3_append_37 rfl ?_
        refine z_bst (j := ln) (y := nI n) hx hb hK hP hD hS 1 rfl rfl (by omega) (by decide) (z_by n (by omega)) dX3_append_38 (fun H locs hP hD hS => ?_)
        have hP : va_P D vwCl [(hC, .inr (3, [.ref bF, .int (nI ln), .int xat, .int kd, .ref nF])), (bF, .inl (cB, 150, .inl (upd bt ln (nI n))))] H := hP
        have hD : va_D A [(hC, .inr (3, [.ref bF, .int (nI ln), .int xat, .int kd, .ref nF])), (bF, .inl (cB, 150, .inl (upd bt ln (nI n))))] := hD
        refine lv_aload_n hx hb dX3_append_39 rfl (lv_at hl 0 rfl) ?_
        refine lv_dup hx hb dX3_append_40 rfl ?_
        refine va_get (D := D) (ci := 3) (v := .int (nI ln)) (C := RX3) (T := TX3) (N := 5) hx hb hts N3 hown hK hP 0 rfl rfl 1 (by decide) L19 (fun _ h9 => h9) rfl dX3_append_41 ?_
        refine lv_iconst (v := 1) hx hb dX3_append_44 (by decide) ?_
        refine lv_iadd hx hb dX3_append_45 ?_
        refine z_topi (x := (nI ln) + 1) (y := nI (ln + 1)) (z_add rfl rfl) ?_
        refine va_put (D := D) (ci := 3) (v := .int (nI (ln + 1))) (ty := .int) (C := RX3) (T := TX3) (N := 5) hx hb hts N3 tyX3 tyX3_ok nmX3 hown hK hP hD hS 0 rfl rfl 1 (by decide) L19 (fun _ h9 => h9) rfl (by decide +kernel) rfl rfl (Nat.le_of_ble_eq_true rfl) dX3_append_46 (fun H locs hP hD hS => ?_)
        have hP : va_P D vwCl [(hC, .inr (3, [.ref bF, .int (nI (ln + 1)), .int xat, .int kd, .ref nF])), (bF, .inl (cB, 150, .inl (upd bt ln (nI n))))] H := hP
        have hD : va_D A [(hC, .inr (3, [.ref bF, .int (nI (ln + 1)), .int xat, .int kd, .ref nF])), (bF, .inl (cB, 150, .inl (upd bt ln (nI n))))] := hD
        refine lv_aload_n hx hb dX3_append_49 rfl (lv_at hl 0 rfl) ?_
        refine va_get (D := D) (ci := 3) (v := .int (nI (ln + 1))) (C := RX3) (T := TX3) (N := 5) hx hb hts N3 hown hK hP 0 rfl rfl 1 (by decide) L19 (fun _ h9 => h9) rfl dX3_append_50 ?_
        exact hQ (nI (ln + 1)) (ln + 1, upd bt ln (nI n)) _ _ _ _ (rfl) (by simp [cApp, c_1, c_2, c_3]) hP hD hS dX3_append_53
      · skip
        have c_3 := (z_ltn (a := ln) (b := 150) rfl rfl (by omega) (by omega)).mp c_3
        have c_3 : ¬ ln < 150 := by omega
        refine lv_sipush (v := (-10004)) hx hb dX3_append_24 (by decide) ?_
        exact hQ (-10004) (ln, bt) _ _ _ _ (rfl) (by simp [cApp, c_1, c_2, c_3]) hP hD hS dX3_append_27
    · skip
      refine lv_sipush (v := (-10002)) hx hb dX3_append_10 (by decide) ?_
      exact hQ (-10002) (ln, bt) _ _ _ _ (rfl) (by simp [cApp, c_1, c_2]) hP hD hS dX3_append_13

set_option maxHeartbeats 4000000 in
set_option maxRecDepth 100000 in
theorem kX3_empty (l : Launch) (D : va_G) (cI cB : ClassId) (tE tN : Nat) (hC : Nat) (bF : Nat) (nF : Nat) (ln : Nat) (xat : Int32) (kd : Int32) (sz : Nat)  : zI l yX3_empty wsX3_empty ({ frames := 0, cells := 0, slots := 0, locals := 0 }) D cI cB tE tN [.ref hC] [(hC, .inr (3, [.ref bF, .int (nI ln), .int xat, .int kd, .ref nF]))] sz (fun u : Unit => [(hC, .inr (3, [.ref bF, .int (nI 0), .int xat, .int kd, .ref nF]))]) (fun (r : Int32) (u : Unit) => r = nI ln) 0 0 := by
  refine zI_mk (cc := cX3_empty) (maxL := 2) (rt := .int) (by decide) rfl (Nat.le_of_ble_eq_true rfl) ?_
  intro p e s m below meth c A Q ls S0 hname hA hK hP hD hT hS hQ hl
  obtain ⟨hx, hb, hml, hown, hts⟩ := id S0
  have hl : lv_has ls 2 [(0, .ref hC)] := hl
  have L19 : (Cond.fieldLink RX3 19 "PastAndClear$Script" "length" "I").before ([.ref hC] : List Value).toArray s = true := hts (.fieldLink RX3 19 "PastAndClear$Script" "length" "I") (by decide +kernel)
  have N3 : ∀ w ∈ u_ws RX3 TX3 5, w ∈ wsX3_empty := by decide +kernel
  refine lv_aload_n hx hb dX3_empty_0 rfl (lv_at hl 0 rfl) ?_
  refine va_get (D := D) (ci := 3) (v := .int (nI ln)) (C := RX3) (T := TX3) (N := 5) hx hb hts N3 hown hK hP 0 rfl rfl 1 (by decide) L19 (fun _ h9 => h9) rfl dX3_empty_1 ?_
  refine lv_istore_n (lv' := [(1, .int (nI ln)), (0, .ref hC)]) hx hb dX3_empty_4 rfl hl (by decide) rfl (fun ls hl => ?_)
  refine lv_aload_n hx hb dX3_empty_5 rfl (lv_at hl 1 rfl) ?_
  refine lv_iconst (v := 0) hx hb dX3_empty_6 (by decide) ?_
  refine va_put (D := D) (ci := 3) (v := .int 0) (ty := .int) (C := RX3) (T := TX3) (N := 5) hx hb hts N3 tyX3 tyX3_ok nmX3 hown hK hP hD hS 0 rfl rfl 1 (by decide) L19 (fun _ h9 => h9) rfl (by decide +kernel) rfl rfl (Nat.le_of_ble_eq_true rfl) dX3_empty_7 (fun H locs hP hD hS => ?_)
  have hP : va_P D vwCl [(hC, .inr (3, [.ref bF, .int 0, .int xat, .int kd, .ref nF]))] H := hP
  have hD : va_D A [(hC, .inr (3, [.ref bF, .int 0, .int xat, .int kd, .ref nF]))] := hD
  refine lv_iload_n hx hb dX3_empty_10 rfl (lv_at hl 0 rfl) ?_
  exact hQ (nI ln) () _ _ _ _ (rfl) (rfl) hP hD hS dX3_empty_11

set_option maxHeartbeats 4000000 in
set_option maxRecDepth 100000 in
theorem kX3_isFigure (l : Launch) (D : va_G) (cI cB : ClassId) (tE tN : Nat) (v : Int32) (sz : Nat)  : zI l yX3_isFigure wsX3_isFigure ({ frames := 0, cells := 0, slots := 0, locals := 0 }) D cI cB tE tN [.int v] [] sz (fun u : Unit => []) (fun (r : Int32) (u : Unit) => r = b2i (isFig v)) 0 0 := by
  refine zI_mk (cc := cX3_isFigure) (maxL := 1) (rt := .boolean) (by decide) rfl (Nat.le_of_ble_eq_true rfl) ?_
  intro p e s m below meth c A Q ls S0 hname hA hK hP hD hT hS hQ hl
  obtain ⟨hx, hb, hml, hown, hts⟩ := id S0
  have hl : lv_has ls 1 [(0, .int v)] := hl
  refine lv_iload_n hx hb dX3_isFigure_0 rfl (lv_at hl 0 rfl) ?_
  refine lv_bipush (v := 48) hx hb dX3_isFigure_1 (by decide) ?_
  refine lv_icmp_lt (tgt := 16) hx hb dX3_isFigure_3 (by decide) (fun c_1 => ?_) (fun c_1 => ?_)
  · skip
    refine lv_iconst (v := 0) hx hb dX3_isFigure_16 (by decide) ?_
    exact hQ 0 () _ _ _ _ (rfl) (by simp [b2i, isFig, c_1]) hP hD hS dX3_isFigure_17
  · skip
    refine lv_iload_n hx hb dX3_isFigure_6 rfl (lv_at hl 0 rfl) ?_
    refine lv_bipush (v := 57) hx hb dX3_isFigure_7 (by decide) ?_
    refine lv_icmp_gt (tgt := 16) hx hb dX3_isFigure_9 (by decide) (fun c_2 => ?_) (fun c_2 => ?_)
    · skip
      refine lv_iconst (v := 0) hx hb dX3_isFigure_16 (by decide) ?_
      exact hQ 0 () _ _ _ _ (rfl) (by simp [b2i, isFig, c_1, c_2]) hP hD hS dX3_isFigure_17
    · skip
      refine lv_iconst (v := 1) hx hb dX3_isFigure_12 (by decide) ?_
      refine lv_goto (tgt := 17) hx hb dX3_isFigure_13 (by decide) ?_
      exact hQ 1 () _ _ _ _ (rfl) (by simp [b2i, isFig, c_1, c_2]) hP hD hS dX3_isFigure_17

set_option maxHeartbeats 4000000 in
set_option maxRecDepth 100000 in
theorem kX3_numbersOf (l : Launch) (D : va_G) (cI cB : ClassId) (tE tN : Nat) (v : Int32) (sz : Nat)  : zI l yX3_numbersOf wsX3_numbersOf ({ frames := 0, cells := 0, slots := 0, locals := 0 }) D cI cB tE tN [.int v] [] sz (fun u : Unit => []) (fun (r : Int32) (u : Unit) => r = nOf v) 0 0 := by
  refine zI_mk (cc := cX3_numbersOf) (maxL := 1) (rt := .int) (by decide) rfl (Nat.le_of_ble_eq_true rfl) ?_
  intro p e s m below meth c A Q ls S0 hname hA hK hP hD hT hS hQ hl
  obtain ⟨hx, hb, hml, hown, hts⟩ := id S0
  have hl : lv_has ls 1 [(0, .int v)] := hl
  refine lv_iload_n hx hb dX3_numbersOf_0 rfl (lv_at hl 0 rfl) ?_
  by_cases w_1 : v = 97
  · skip
    refine lv_tableIn (tgt := 96) (off := 95) hx hb dX3_numbersOf_1 (by rw [w_1]; decide) (by rw [w_1]; decide) (by rw [w_1]; decide) (by decide) ?_
    refine lv_iconst (v := 4) hx hb dX3_numbersOf_96 (by decide) ?_
    exact hQ 4 () _ _ _ _ (rfl) (by rw [w_1]; rfl) hP hD hS dX3_numbersOf_97
  · skip
    by_cases w_2 : v = 98
    · skip
      refine lv_tableIn (tgt := 102) (off := 101) hx hb dX3_numbersOf_1 (by rw [w_2]; decide) (by rw [w_2]; decide) (by rw [w_2]; decide) (by decide) ?_
      refine lv_iconst (v := 0) hx hb dX3_numbersOf_102 (by decide) ?_
      exact hQ 0 () _ _ _ _ (rfl) (by rw [w_2]; rfl) hP hD hS dX3_numbersOf_103
    · skip
      by_cases w_3 : v = 99
      · skip
        refine lv_tableIn (tgt := 104) (off := 103) hx hb dX3_numbersOf_1 (by rw [w_3]; decide) (by rw [w_3]; decide) (by rw [w_3]; decide) (by decide) ?_
        refine lv_iconst (v := (-1)) hx hb dX3_numbersOf_104 (by decide) ?_
        exact hQ (-1) () _ _ _ _ (rfl) (by rw [w_3]; rfl) hP hD hS dX3_numbersOf_105
      · skip
        by_cases w_4 : v = 100
        · skip
          refine lv_tableIn (tgt := 104) (off := 103) hx hb dX3_numbersOf_1 (by rw [w_4]; decide) (by rw [w_4]; decide) (by rw [w_4]; decide) (by decide) ?_
          refine lv_iconst (v := (-1)) hx hb dX3_numbersOf_104 (by decide) ?_
          exact hQ (-1) () _ _ _ _ (rfl) (by rw [w_4]; rfl) hP hD hS dX3_numbersOf_105
        · skip
          by_cases w_5 : v = 101
          · skip
            refine lv_tableIn (tgt := 104) (off := 103) hx hb dX3_numbersOf_1 (by rw [w_5]; decide) (by rw [w_5]; decide) (by rw [w_5]; decide) (by decide) ?_
            refine lv_iconst (v := (-1)) hx hb dX3_numbersOf_104 (by decide) ?_
            exact hQ (-1) () _ _ _ _ (rfl) (by rw [w_5]; rfl) hP hD hS dX3_numbersOf_105
          · skip
            by_cases w_6 : v = 102
            · skip
              refine lv_tableIn (tgt := 104) (off := 103) hx hb dX3_numbersOf_1 (by rw [w_6]; decide) (by rw [w_6]; decide) (by rw [w_6]; decide) (by decide) ?_
              refine lv_iconst (v := (-1)) hx hb dX3_numbersOf_104 (by decide) ?_
              exact hQ (-1) () _ _ _ _ (rfl) (by rw [w_6]; rfl) hP hD hS dX3_numbersOf_105
            · skip
              by_cases w_7 : v = 103
              · skip
                refine lv_tableIn (tgt := 104) (off := 103) hx hb dX3_numbersOf_1 (by rw [w_7]; decide) (by rw [w_7]; decide) (by rw [w_7]; decide) (by decide) ?_
                refine lv_iconst (v := (-1)) hx hb dX3_numbersOf_104 (by decide) ?_
                exact hQ (-1) () _ _ _ _ (rfl) (by rw [w_7]; rfl) hP hD hS dX3_numbersOf_105
              · skip
                by_cases w_8 : v = 104
                · skip
                  refine lv_tableIn (tgt := 104) (off := 103) hx hb dX3_numbersOf_1 (by rw [w_8]; decide) (by rw [w_8]; decide) (by rw [w_8]; decide) (by decide) ?_
                  refine lv_iconst (v := (-1)) hx hb dX3_numbersOf_104 (by decide) ?_
                  exact hQ (-1) () _ _ _ _ (rfl) (by rw [w_8]; rfl) hP hD hS dX3_numbersOf_105
                · skip
                  by_cases w_9 : v = 105
                  · skip
                    refine lv_tableIn (tgt := 104) (off := 103) hx hb dX3_numbersOf_1 (by rw [w_9]; decide) (by rw [w_9]; decide) (by rw [w_9]; decide) (by decide) ?_
                    refine lv_iconst (v := (-1)) hx hb dX3_numbersOf_104 (by decide) ?_
                    exact hQ (-1) () _ _ _ _ (rfl) (by rw [w_9]; rfl) hP hD hS dX3_numbersOf_105
                  · skip
                    by_cases w_10 : v = 106
                    · skip
                      refine lv_tableIn (tgt := 104) (off := 103) hx hb dX3_numbersOf_1 (by rw [w_10]; decide) (by rw [w_10]; decide) (by rw [w_10]; decide) (by decide) ?_
                      refine lv_iconst (v := (-1)) hx hb dX3_numbersOf_104 (by decide) ?_
                      exact hQ (-1) () _ _ _ _ (rfl) (by rw [w_10]; rfl) hP hD hS dX3_numbersOf_105
                    · skip
                      by_cases w_11 : v = 107
                      · skip
                        refine lv_tableIn (tgt := 104) (off := 103) hx hb dX3_numbersOf_1 (by rw [w_11]; decide) (by rw [w_11]; decide) (by rw [w_11]; decide) (by decide) ?_
                        refine lv_iconst (v := (-1)) hx hb dX3_numbersOf_104 (by decide) ?_
                        exact hQ (-1) () _ _ _ _ (rfl) (by rw [w_11]; rfl) hP hD hS dX3_numbersOf_105
                      · skip
                        by_cases w_12 : v = 108
                        · skip
                          refine lv_tableIn (tgt := 104) (off := 103) hx hb dX3_numbersOf_1 (by rw [w_12]; decide) (by rw [w_12]; decide) (by rw [w_12]; decide) (by decide) ?_
                          refine lv_iconst (v := (-1)) hx hb dX3_numbersOf_104 (by decide) ?_
                          exact hQ (-1) () _ _ _ _ (rfl) (by rw [w_12]; rfl) hP hD hS dX3_numbersOf_105
                        · skip
                          by_cases w_13 : v = 109
                          · skip
                            refine lv_tableIn (tgt := 104) (off := 103) hx hb dX3_numbersOf_1 (by rw [w_13]; decide) (by rw [w_13]; decide) (by rw [w_13]; decide) (by decide) ?_
                            refine lv_iconst (v := (-1)) hx hb dX3_numbersOf_104 (by decide) ?_
                            exact hQ (-1) () _ _ _ _ (rfl) (by rw [w_13]; rfl) hP hD hS dX3_numbersOf_105
                          · skip
                            by_cases w_14 : v = 110
                            · skip
                              refine lv_tableIn (tgt := 100) (off := 99) hx hb dX3_numbersOf_1 (by rw [w_14]; decide) (by rw [w_14]; decide) (by rw [w_14]; decide) (by decide) ?_
                              refine lv_iconst (v := 1) hx hb dX3_numbersOf_100 (by decide) ?_
                              exact hQ 1 () _ _ _ _ (rfl) (by rw [w_14]; rfl) hP hD hS dX3_numbersOf_101
                            · skip
                              by_cases w_15 : v = 111
                              · skip
                                refine lv_tableIn (tgt := 96) (off := 95) hx hb dX3_numbersOf_1 (by rw [w_15]; decide) (by rw [w_15]; decide) (by rw [w_15]; decide) (by decide) ?_
                                refine lv_iconst (v := 4) hx hb dX3_numbersOf_96 (by decide) ?_
                                exact hQ 4 () _ _ _ _ (rfl) (by rw [w_15]; rfl) hP hD hS dX3_numbersOf_97
                              · skip
                                by_cases w_16 : v = 112
                                · skip
                                  refine lv_tableIn (tgt := 104) (off := 103) hx hb dX3_numbersOf_1 (by rw [w_16]; decide) (by rw [w_16]; decide) (by rw [w_16]; decide) (by decide) ?_
                                  refine lv_iconst (v := (-1)) hx hb dX3_numbersOf_104 (by decide) ?_
                                  exact hQ (-1) () _ _ _ _ (rfl) (by rw [w_16]; rfl) hP hD hS dX3_numbersOf_105
                                · skip
                                  by_cases w_17 : v = 113
                                  · skip
                                    refine lv_tableIn (tgt := 104) (off := 103) hx hb dX3_numbersOf_1 (by rw [w_17]; decide) (by rw [w_17]; decide) (by rw [w_17]; decide) (by decide) ?_
                                    refine lv_iconst (v := (-1)) hx hb dX3_numbersOf_104 (by decide) ?_
                                    exact hQ (-1) () _ _ _ _ (rfl) (by rw [w_17]; rfl) hP hD hS dX3_numbersOf_105
                                  · skip
                                    by_cases w_18 : v = 114
                                    · skip
                                      refine lv_tableIn (tgt := 104) (off := 103) hx hb dX3_numbersOf_1 (by rw [w_18]; decide) (by rw [w_18]; decide) (by rw [w_18]; decide) (by decide) ?_
                                      refine lv_iconst (v := (-1)) hx hb dX3_numbersOf_104 (by decide) ?_
                                      exact hQ (-1) () _ _ _ _ (rfl) (by rw [w_18]; rfl) hP hD hS dX3_numbersOf_105
                                    · skip
                                      by_cases w_19 : v = 115
                                      · skip
                                        refine lv_tableIn (tgt := 98) (off := 97) hx hb dX3_numbersOf_1 (by rw [w_19]; decide) (by rw [w_19]; decide) (by rw [w_19]; decide) (by decide) ?_
                                        refine lv_iconst (v := 2) hx hb dX3_numbersOf_98 (by decide) ?_
                                        exact hQ 2 () _ _ _ _ (rfl) (by rw [w_19]; rfl) hP hD hS dX3_numbersOf_99
                                      · skip
                                        by_cases w_20 : v = 116
                                        · skip
                                          refine lv_tableIn (tgt := 98) (off := 97) hx hb dX3_numbersOf_1 (by rw [w_20]; decide) (by rw [w_20]; decide) (by rw [w_20]; decide) (by decide) ?_
                                          refine lv_iconst (v := 2) hx hb dX3_numbersOf_98 (by decide) ?_
                                          exact hQ 2 () _ _ _ _ (rfl) (by rw [w_20]; rfl) hP hD hS dX3_numbersOf_99
                                        · skip
                                          refine lv_tableOut (tgt := 104) hx hb dX3_numbersOf_1 (nOf_out w_1 w_2 w_3 w_4 w_5 w_6 w_7 w_8 w_9 w_10 w_11 w_12 w_13 w_14 w_15 w_16 w_17 w_18 w_19 w_20) (by decide) ?_
                                          refine lv_iconst (v := (-1)) hx hb dX3_numbersOf_104 (by decide) ?_
                                          exact hQ (-1) () _ _ _ _ (rfl) ((nOf_none w_1 w_2 w_3 w_4 w_5 w_6 w_7 w_8 w_9 w_10 w_11 w_12 w_13 w_14 w_15 w_16 w_17 w_18 w_19 w_20).symm) hP hD hS dX3_numbersOf_105

set_option maxHeartbeats 4000000 in
set_option maxRecDepth 100000 in
theorem kX3_hasMore (l : Launch) (D : va_G) (cI cB : ClassId) (tE tN : Nat) (hC : Nat) (bF : Nat) (nF : Nat) (ln : Nat) (pa : Nat) (kd : Int32) (sz : Nat) (hln : ln ≤ 150) (hpa : pa ≤ ln) : zI l yX3_hasMore wsX3_hasMore ({ frames := 0, cells := 0, slots := 0, locals := 0 }) D cI cB tE tN [.ref hC] [(hC, .inr (3, [.ref bF, .int (nI ln), .int (nI pa), .int kd, .ref nF]))] sz (fun u : Unit => [(hC, .inr (3, [.ref bF, .int (nI ln), .int (nI pa), .int kd, .ref nF]))]) (fun (r : Int32) (u : Unit) => r = b2i (decide (pa < ln))) 0 0 := by
  refine zI_mk (cc := cX3_hasMore) (maxL := 1) (rt := .boolean) (by decide) rfl (Nat.le_of_ble_eq_true rfl) ?_
  intro p e s m below meth c A Q ls S0 hname hA hK hP hD hT hS hQ hl
  obtain ⟨hx, hb, hml, hown, hts⟩ := id S0
  have hl : lv_has ls 1 [(0, .ref hC)] := hl
  have L33 : (Cond.fieldLink RX3 33 "PastAndClear$Script" "at" "I").before ([.ref hC] : List Value).toArray s = true := hts (.fieldLink RX3 33 "PastAndClear$Script" "at" "I") (by decide +kernel)
  have N3 : ∀ w ∈ u_ws RX3 TX3 5, w ∈ wsX3_hasMore := by decide +kernel
  have L19 : (Cond.fieldLink RX3 19 "PastAndClear$Script" "length" "I").before ([.ref hC] : List Value).toArray s = true := hts (.fieldLink RX3 19 "PastAndClear$Script" "length" "I") (by decide +kernel)
  refine lv_aload_n hx hb dX3_hasMore_0 rfl (lv_at hl 0 rfl) ?_
  refine va_get (D := D) (ci := 3) (v := .int (nI pa)) (C := RX3) (T := TX3) (N := 5) hx hb hts N3 hown hK hP 0 rfl rfl 2 (by decide) L33 (fun _ h9 => h9) rfl dX3_hasMore_1 ?_
  refine lv_aload_n hx hb dX3_hasMore_4 rfl (lv_at hl 0 rfl) ?_
  refine va_get (D := D) (ci := 3) (v := .int (nI ln)) (C := RX3) (T := TX3) (N := 5) hx hb hts N3 hown hK hP 0 rfl rfl 1 (by decide) L19 (fun _ h9 => h9) rfl dX3_hasMore_5 ?_
  refine lv_icmp_ge (tgt := 15) hx hb dX3_hasMore_8 (by decide) (fun c_1 => ?_) (fun c_1 => ?_)
  · skip
    have c_1 := (z_le (a := ln) (b := pa) rfl rfl (by omega) (by omega)).mp c_1
    have c_1 : ¬ pa < ln := by omega
    refine lv_iconst (v := 0) hx hb dX3_hasMore_15 (by decide) ?_
    exact hQ 0 () _ _ _ _ (rfl) (by simp [b2i, c_1]) hP hD hS dX3_hasMore_16
  · skip
    have c_1 := (z_len (a := ln) (b := pa) rfl rfl (by omega) (by omega)).mp c_1
    refine lv_iconst (v := 1) hx hb dX3_hasMore_11 (by decide) ?_
    refine lv_goto (tgt := 16) hx hb dX3_hasMore_12 (by decide) ?_
    exact hQ 1 () _ _ _ _ (rfl) (by simp [b2i, c_1]) hP hD hS dX3_hasMore_16

set_option maxHeartbeats 4000000 in
set_option maxRecDepth 100000 in
theorem kX3_next (l : Launch) (D : va_G) (cI cB : ClassId) (tE tN : Nat) (hC : Nat) (bF : Nat) (nF : Nat) (ln : Nat) (pa : Nat) (kd : Int32) (bt : Nat → Int32) (sz : Nat) (hln : ln ≤ 150) (hpa : pa ≤ ln) : zI l yX3_next wsX3_next ({ frames := 0, cells := 0, slots := 0, locals := 0 }) D cI cB tE tN [.ref hC] [(hC, .inr (3, [.ref bF, .int (nI ln), .int (nI pa), .int kd, .ref nF])), (bF, .inl (cB, 150, .inl bt))] sz (fun u : Unit => [(hC, .inr (3, [.ref bF, .int (nI ln), .int (nI pa), .int kd, .ref nF])), (bF, .inl (cB, 150, .inl bt))]) (fun (r : Int32) (u : Unit) => r = chF bt ln pa) 0 0 := by
  refine zI_mk (cc := cX3_next) (maxL := 1) (rt := .int) (by decide) rfl (Nat.le_of_ble_eq_true rfl) ?_
  intro p e s m below meth c A Q ls S0 hname hA hK hP hD hT hS hQ hl
  obtain ⟨hx, hb, hml, hown, hts⟩ := id S0
  have hl : lv_has ls 1 [(0, .ref hC)] := hl
  have L33 : (Cond.fieldLink RX3 33 "PastAndClear$Script" "at" "I").before ([.ref hC] : List Value).toArray s = true := hts (.fieldLink RX3 33 "PastAndClear$Script" "at" "I") (by decide +kernel)
  have N3 : ∀ w ∈ u_ws RX3 TX3 5, w ∈ wsX3_next := by decide +kernel
  have L19 : (Cond.fieldLink RX3 19 "PastAndClear$Script" "length" "I").before ([.ref hC] : List Value).toArray s = true := hts (.fieldLink RX3 19 "PastAndClear$Script" "length" "I") (by decide +kernel)
  have L11 : (Cond.fieldLink RX3 11 "PastAndClear$Script" "bytes" "[B").before ([.ref hC] : List Value).toArray s = true := hts (.fieldLink RX3 11 "PastAndClear$Script" "bytes" "[B") (by decide +kernel)
  refine lv_aload_n hx hb dX3_next_0 rfl (lv_at hl 0 rfl) ?_
  refine va_get (D := D) (ci := 3) (v := .int (nI pa)) (C := RX3) (T := TX3) (N := 5) hx hb hts N3 hown hK hP 0 rfl rfl 2 (by decide) L33 (fun _ h9 => h9) rfl dX3_next_1 ?_
  refine lv_if_lt (tgt := 40) hx hb dX3_next_4 (by decide) (fun c_1 => ?_) (fun c_1 => ?_)
  · skip
    have c_1 := (z_lt (a := pa) (b := 0) rfl rfl (by omega) (by omega)).mp c_1
    exact absurd c_1 (by omega)
  · skip
    have c_1 := (z_ltn (a := pa) (b := 0) rfl rfl (by omega) (by omega)).mp c_1
    refine lv_aload_n hx hb dX3_next_7 rfl (lv_at hl 0 rfl) ?_
    refine va_get (D := D) (ci := 3) (v := .int (nI pa)) (C := RX3) (T := TX3) (N := 5) hx hb hts N3 hown hK hP 0 rfl rfl 2 (by decide) L33 (fun _ h9 => h9) rfl dX3_next_8 ?_
    refine lv_aload_n hx hb dX3_next_11 rfl (lv_at hl 0 rfl) ?_
    refine va_get (D := D) (ci := 3) (v := .int (nI ln)) (C := RX3) (T := TX3) (N := 5) hx hb hts N3 hown hK hP 0 rfl rfl 1 (by decide) L19 (fun _ h9 => h9) rfl dX3_next_12 ?_
    refine lv_icmp_ge (tgt := 40) hx hb dX3_next_15 (by decide) (fun c_2 => ?_) (fun c_2 => ?_)
    · skip
      have c_2 := (z_le (a := ln) (b := pa) rfl rfl (by omega) (by omega)).mp c_2
      have c_2 : ¬ pa < ln := by omega
      refine lv_iconst (v := (-1)) hx hb dX3_next_40 (by decide) ?_
      exact hQ (-1) () _ _ _ _ (rfl) (by simp [chF, c_2]) hP hD hS dX3_next_41
    · skip
      have c_2 := (z_len (a := ln) (b := pa) rfl rfl (by omega) (by omega)).mp c_2
      refine lv_aload_n hx hb dX3_next_18 rfl (lv_at hl 0 rfl) ?_
      refine va_get (D := D) (ci := 3) (v := .int (nI pa)) (C := RX3) (T := TX3) (N := 5) hx hb hts N3 hown hK hP 0 rfl rfl 2 (by decide) L33 (fun _ h9 => h9) rfl dX3_next_19 ?_
      refine lv_sipush (v := 150) hx hb dX3_next_22 (by decide) ?_
      refine lv_icmp_ge (tgt := 40) hx hb dX3_next_25 (by decide) (fun c_3 => ?_) (fun c_3 => ?_)
      · skip
        have c_3 := (z_le (a := 150) (b := pa) rfl rfl (by omega) (by omega)).mp c_3
        exact absurd c_3 (by omega)
      · skip
        have c_3 := (z_len (a := 150) (b := pa) rfl rfl (by omega) (by omega)).mp c_3
        refine lv_aload_n hx hb dX3_next_28 rfl (lv_at hl 0 rfl) ?_
        refine va_get (D := D) (ci := 3) (v := .ref bF) (C := RX3) (T := TX3) (N := 5) hx hb hts N3 hown hK hP 0 rfl rfl 0 (by decide) L11 (fun _ h9 => h9) rfl dX3_next_29 ?_
        refine lv_aload_n hx hb dX3_next_32 rfl (lv_at hl 0 rfl) ?_
        refine va_get (D := D) (ci := 3) (v := .int (nI pa)) (C := RX3) (T := TX3) (N := 5) hx hb hts N3 hown hK hP 0 rfl rfl 2 (by decide) L33 (fun _ h9 => h9) rfl dX3_next_33 ?_
        refine z_bld (v := bt pa) (j := pa) hx hb hK hP 1 rfl rfl (by omega) (by decide) (rfl) dX3_next_36 ?_
        refine lv_goto (tgt := 41) hx hb dX3_next_37 (by decide) ?_
        exact hQ (bt pa) () _ _ _ _ (rfl) (by simp [chF, c_2]) hP hD hS dX3_next_41

set_option maxHeartbeats 4000000 in
set_option maxRecDepth 100000 in
theorem kX3_skipBlanks (l : Launch) (D : va_G) (cI cB : ClassId) (tE tN : Nat) (hC : Nat) (bF : Nat) (nF : Nat) (ln : Nat) (pa : Nat) (kd : Int32) (bt : Nat → Int32) (sz : Nat) (hln : ln ≤ 150) (hpa : pa ≤ ln) : zV l yX3_skipBlanks wsX3_skipBlanks ({ frames := 1, cells := 0, slots := 0, locals := 20 }) D cI cB tE tN [.ref hC] [(hC, .inr (3, [.ref bF, .int (nI ln), .int (nI pa), .int kd, .ref nF])), (bF, .inl (cB, 150, .inl bt))] sz (fun u : Unit => [(hC, .inr (3, [.ref bF, .int (nI ln), .int (nI (sk bt ln pa)), .int kd, .ref nF])), (bF, .inl (cB, 150, .inl bt))]) (fun (u : Unit) => True) 0 0 := by
  refine zV_mk (cc := cX3_skipBlanks) (maxL := 1) (by decide) rfl (Nat.le_of_ble_eq_true rfl) ?_
  intro p e s m below meth c A Q ls S0 hname hA hK hP hD hT hS hQ hl
  obtain ⟨hx, hb, hml, hown, hts⟩ := id S0
  have hl : lv_has ls 1 [(0, .ref hC)] := hl
  have L33 : (Cond.fieldLink RX3 33 "PastAndClear$Script" "at" "I").before ([.ref hC] : List Value).toArray s = true := hts (.fieldLink RX3 33 "PastAndClear$Script" "at" "I") (by decide +kernel)
  have N3 : ∀ w ∈ u_ws RX3 TX3 5, w ∈ wsX3_skipBlanks := by decide +kernel
  have L19 : (Cond.fieldLink RX3 19 "PastAndClear$Script" "length" "I").before ([.ref hC] : List Value).toArray s = true := hts (.fieldLink RX3 19 "PastAndClear$Script" "length" "I") (by decide +kernel)
  have lp0 : ∀ (k : Nat) (n : Nat) (H : Heap) (locs : List Loc) (ls : Array Slot), ln - n = k → (n ≤ ln) → (sk bt ln pa = sk bt ln n) → va_P D vwCl [(hC, .inr (3, [.ref bF, .int (nI ln), .int (nI n), .int kd, .ref nF])), (bF, .inl (cB, 150, .inl bt))] H → va_D A [(hC, .inr (3, [.ref bF, .int (nI ln), .int (nI n), .int kd, .ref nF])), (bF, .inl (cB, 150, .inl bt))] → va_S A s.heap H locs → lv_has ls 1 [(0, .ref hC)] → W p l e ({ frames := 1, cells := 0, slots := 0, locals := 20 } : Room) s m ([.ref hC] : List Value).toArray below meth c H locs 0 0 Q (F0 m 0 ls []) := by
    intro k
    induction k using Nat.strongRecOn with
    | ind k ih =>
    intro n H locs ls hk hn hi hP hD hS hl
    refine lv_aload_n hx hb dX3_skipBlanks_0 rfl (lv_at hl 0 rfl) ?_
    refine va_get (D := D) (ci := 3) (v := .int (nI n)) (C := RX3) (T := TX3) (N := 5) hx hb hts N3 hown hK hP 0 rfl rfl 2 (by decide) L33 (fun _ h9 => h9) rfl dX3_skipBlanks_1 ?_
    refine lv_aload_n hx hb dX3_skipBlanks_4 rfl (lv_at hl 0 rfl) ?_
    refine va_get (D := D) (ci := 3) (v := .int (nI ln)) (C := RX3) (T := TX3) (N := 5) hx hb hts N3 hown hK hP 0 rfl rfl 1 (by decide) L19 (fun _ h9 => h9) rfl dX3_skipBlanks_5 ?_
    refine lv_icmp_ge (tgt := 33) hx hb dX3_skipBlanks_8 (by decide) (fun c_1 => ?_) (fun c_1 => ?_)
    · skip
      have c_1 := (z_le (a := ln) (b := n) rfl rfl (by omega) (by omega)).mp c_1
      have hnn : sk bt ln pa = n := by rw [hi]; exact sk_stop (fun q => absurd q.1 (by omega))
      subst hnn
      exact hQ () _ _ _ _ (trivial) hP hD hS dX3_skipBlanks_33
    · skip
      have c_1 := (z_len (a := ln) (b := n) rfl rfl (by omega) (by omega)).mp c_1
      refine lv_aload_n hx hb dX3_skipBlanks_11 rfl (lv_at hl 0 rfl) ?_
      refine z_VI (n := 0) (wn := (fun u : Unit => [(hC, .inr (3, [.ref bF, .int (nI ln), .int (nI n), .int kd, .ref nF])), (bF, .inl (cB, 150, .inl bt))])) (wr := []) (As := []) (rest := []) ⟨hx, hb, hml, hown, hts⟩ hK hP hD hS hA hT (kX3_next l D cI cB tE tN hC bF nF ln n kd bt _ (by omega) (by omega)) gX3_skipBlanks_X3_next rfl rfl rfl (by decide +kernel) ⟨Nat.le_of_ble_eq_true rfl, Nat.le_of_ble_eq_true rfl⟩ [0, 1] [] [0, 1] (by decide) rfl rfl (by decide) (by decide) (by decide) (fun u => rfl) 0 3 rfl rfl rfl rfl hl.1 rfl (Nat.le_of_ble_eq_true rfl) dX3_skipBlanks_12 ⟨Nat.le_of_ble_eq_true rfl, Nat.le_of_ble_eq_true rfl⟩ (fun r_2 u H locs hw_3 hP hD hS => ?_)
      try dsimp only at hw_3
      have hP : va_P D vwCl [(hC, .inr (3, [.ref bF, .int (nI ln), .int (nI n), .int kd, .ref nF])), (bF, .inl (cB, 150, .inl bt))] H := hP
      have hD : va_D A [(hC, .inr (3, [.ref bF, .int (nI ln), .int (nI n), .int kd, .ref nF])), (bF, .inl (cB, 150, .inl bt))] := hD
      subst r_2
      refine lv_bipush (v := 32) hx hb dX3_skipBlanks_15 (by decide) ?_
      refine lv_icmp_ne (tgt := 33) hx hb dX3_skipBlanks_17 (by decide) (fun c_4 => ?_) (fun c_4 => ?_)
      · skip
        have hnn : sk bt ln pa = n := by rw [hi]; exact sk_stop (fun q => c_4 (by rw [ch_in c_1]; exact q.2))
        subst hnn
        exact hQ () _ _ _ _ (trivial) hP hD hS dX3_skipBlanks_33
      · skip
        refine lv_aload_n hx hb dX3_skipBlanks_20 rfl (lv_at hl 0 rfl) ?_
        refine lv_dup hx hb dX3_skipBlanks_21 rfl ?_
        refine va_get (D := D) (ci := 3) (v := .int (nI n)) (C := RX3) (T := TX3) (N := 5) hx hb hts N3 hown hK hP 0 rfl rfl 2 (by decide) L33 (fun _ h9 => h9) rfl dX3_skipBlanks_22 ?_
        refine lv_iconst (v := 1) hx hb dX3_skipBlanks_25 (by decide) ?_
        refine lv_iadd hx hb dX3_skipBlanks_26 ?_
        refine z_topi (x := (nI n) + 1) (y := nI (n + 1)) (z_add rfl rfl) ?_
        refine va_put (D := D) (ci := 3) (v := .int (nI (n + 1))) (ty := .int) (C := RX3) (T := TX3) (N := 5) hx hb hts N3 tyX3 tyX3_ok nmX3 hown hK hP hD hS 0 rfl rfl 2 (by decide) L33 (fun _ h9 => h9) rfl (by decide +kernel) rfl rfl (Nat.le_of_ble_eq_true rfl) dX3_skipBlanks_27 (fun H locs hP hD hS => ?_)
        have hP : va_P D vwCl [(hC, .inr (3, [.ref bF, .int (nI ln), .int (nI (n + 1)), .int kd, .ref nF])), (bF, .inl (cB, 150, .inl bt))] H := hP
        have hD : va_D A [(hC, .inr (3, [.ref bF, .int (nI ln), .int (nI (n + 1)), .int kd, .ref nF])), (bF, .inl (cB, 150, .inl bt))] := hD
        refine lv_goto (tgt := 0) hx hb dX3_skipBlanks_30 (by decide) ?_
        exact ih _ (by omega) (n + 1) _ _ _ rfl (by omega) (by rw [hi]; exact sk_step c_1 ((ch_in c_1).symm.trans c_4)) hP hD hS (lv_sub hl [0] rfl)
  exact lp0 _ pa _ _ _ rfl (by omega) rfl hP hD hS (lv_sub hl [0] rfl)

set_option maxHeartbeats 4000000 in
set_option maxRecDepth 100000 in
theorem kX3_rewind (l : Launch) (D : va_G) (cI cB : ClassId) (tE tN : Nat) (hC : Nat) (bF : Nat) (nF : Nat) (ln : Nat) (xat : Int32) (kd : Int32) (bt : Nat → Int32) (sz : Nat) (hln : ln ≤ 150) : zV l yX3_rewind wsX3_rewind ({ frames := 2, cells := 0, slots := 0, locals := 40 }) D cI cB tE tN [.ref hC] [(hC, .inr (3, [.ref bF, .int (nI ln), .int xat, .int kd, .ref nF])), (bF, .inl (cB, 150, .inl bt))] sz (fun u : Unit => [(hC, .inr (3, [.ref bF, .int (nI ln), .int (nI (sk bt ln 0)), .int kd, .ref nF])), (bF, .inl (cB, 150, .inl bt))]) (fun (u : Unit) => True) 0 0 := by
  refine zV_mk (cc := cX3_rewind) (maxL := 1) (by decide) rfl (Nat.le_of_ble_eq_true rfl) ?_
  intro p e s m below meth c A Q ls S0 hname hA hK hP hD hT hS hQ hl
  obtain ⟨hx, hb, hml, hown, hts⟩ := id S0
  have hl : lv_has ls 1 [(0, .ref hC)] := hl
  have L33 : (Cond.fieldLink RX3 33 "PastAndClear$Script" "at" "I").before ([.ref hC] : List Value).toArray s = true := hts (.fieldLink RX3 33 "PastAndClear$Script" "at" "I") (by decide +kernel)
  have N3 : ∀ w ∈ u_ws RX3 TX3 5, w ∈ wsX3_rewind := by decide +kernel
  refine lv_aload_n hx hb dX3_rewind_0 rfl (lv_at hl 0 rfl) ?_
  refine lv_iconst (v := 0) hx hb dX3_rewind_1 (by decide) ?_
  refine va_put (D := D) (ci := 3) (v := .int 0) (ty := .int) (C := RX3) (T := TX3) (N := 5) hx hb hts N3 tyX3 tyX3_ok nmX3 hown hK hP hD hS 0 rfl rfl 2 (by decide) L33 (fun _ h9 => h9) rfl (by decide +kernel) rfl rfl (Nat.le_of_ble_eq_true rfl) dX3_rewind_2 (fun H locs hP hD hS => ?_)
  have hP : va_P D vwCl [(hC, .inr (3, [.ref bF, .int (nI ln), .int 0, .int kd, .ref nF])), (bF, .inl (cB, 150, .inl bt))] H := hP
  have hD : va_D A [(hC, .inr (3, [.ref bF, .int (nI ln), .int 0, .int kd, .ref nF])), (bF, .inl (cB, 150, .inl bt))] := hD
  refine lv_aload_n hx hb dX3_rewind_5 rfl (lv_at hl 0 rfl) ?_
  refine z_VV (n := 0) (wn := (fun u : Unit => [(hC, .inr (3, [.ref bF, .int (nI ln), .int (nI (sk bt ln 0)), .int kd, .ref nF])), (bF, .inl (cB, 150, .inl bt))])) (wr := []) (As := []) (rest := []) ⟨hx, hb, hml, hown, hts⟩ hK hP hD hS hA hT (kX3_skipBlanks l D cI cB tE tN hC bF nF ln 0 kd bt _ (by omega) (by omega)) gX3_rewind_X3_skipBlanks rfl rfl rfl (by decide +kernel) ⟨Nat.le_of_ble_eq_true rfl, Nat.le_of_ble_eq_true rfl⟩ [0, 1] [] [0, 1] (by decide) rfl rfl (by decide) (by decide) (by decide) (fun u => rfl) 0 3 rfl rfl rfl rfl hl.1 rfl (Nat.le_of_ble_eq_true rfl) dX3_rewind_6 ⟨Nat.le_of_ble_eq_true rfl, Nat.le_of_ble_eq_true rfl⟩ (fun u H locs hw_2 hP hD hS => ?_)
  try dsimp only at hw_2
  have hP : va_P D vwCl [(hC, .inr (3, [.ref bF, .int (nI ln), .int (nI (sk bt ln 0)), .int kd, .ref nF])), (bF, .inl (cB, 150, .inl bt))] H := hP
  have hD : va_D A [(hC, .inr (3, [.ref bF, .int (nI ln), .int (nI (sk bt ln 0)), .int kd, .ref nF])), (bF, .inl (cB, 150, .inl bt))] := hD
  exact hQ () _ _ _ _ (trivial) hP hD hS dX3_rewind_9
