theorem inlX4 : ∀ w ∈ wsX40, w ∈ wsL_law := fun _ h => List.mem_append_left _ (List.mem_append_left _ (List.mem_append_left _ (List.mem_append_left _ (List.mem_append_left _ (List.mem_append_left _ (List.mem_append_right _ h))))))
theorem inlX5 : ∀ w ∈ wsX50, w ∈ wsL_law := fun _ h => List.mem_append_left _ (List.mem_append_left _ (List.mem_append_left _ (List.mem_append_left _ (List.mem_append_left _ (List.mem_append_right _ h)))))
theorem z_arrc {args : Array Value} {s : State} {ty : FieldType} (h : (Cond.arrayClass ty).before args s = true) : ∃ cA : ClassId, ArrOfT s cA ty ∧ s.vm.findClass ("[" ++ ty.toString) = some cA := by
  obtain ⟨c, k, comp, h1, h2, h3⟩ := Cond.arrayClass_spec h
  exact ⟨c, fun n z => ⟨fun k h => (by cases h), k, h2, comp, h3⟩, h1⟩
theorem st_EAST {b : Nat} {s : State} (hgv : (Jvm.Cond.and given_1 narrow_1).before #[Value.ref b] s = true) : ∃ t : Nat, (Term.static RX1 "EAST" "[I").eval #[Value.ref b] s none [] s = some (.ref t) ∧ va_T .int t 16 (fun j => .int (eE j)) (fun q : Nat => s.heap.size ≤ q) s s.heap := by
  have hs := flat_of_before _ hgv
  refine va_Tof (by decide) (hs (.arrayOf (.static RX1 "EAST" "[I") .int) (by decide +kernel)) (va_eqt (hs (.eq (.length (.static RX1 "EAST" "[I")) (.int 16)) (by decide +kernel))) (fun j hj => va_eqt ?_) (fun a h => Nat.not_le.mpr h)
  have hc : j = 0 ∨ j = 1 ∨ j = 2 ∨ j = 3 ∨ j = 4 ∨ j = 5 ∨ j = 6 ∨ j = 7 ∨ j = 8 ∨ j = 9 ∨ j = 10 ∨ j = 11 ∨ j = 12 ∨ j = 13 ∨ j = 14 ∨ j = 15 := by omega
  rcases hc with rfl | rfl | rfl | rfl | rfl | rfl | rfl | rfl | rfl | rfl | rfl | rfl | rfl | rfl | rfl | rfl
  · exact hs (.eq (.elem (.static RX1 "EAST" "[I") (.int 0)) (.int 0)) (by decide +kernel)
  · exact hs (.eq (.elem (.static RX1 "EAST" "[I") (.int 1)) (.int 4)) (by decide +kernel)
  · exact hs (.eq (.elem (.static RX1 "EAST" "[I") (.int 2)) (.int 7)) (by decide +kernel)
  · exact hs (.eq (.elem (.static RX1 "EAST" "[I") (.int 3)) (.int 9)) (by decide +kernel)
  · exact hs (.eq (.elem (.static RX1 "EAST" "[I") (.int 4)) (.int 10)) (by decide +kernel)
  · exact hs (.eq (.elem (.static RX1 "EAST" "[I") (.int 5)) (.int 9)) (by decide +kernel)
  · exact hs (.eq (.elem (.static RX1 "EAST" "[I") (.int 6)) (.int 7)) (by decide +kernel)
  · exact hs (.eq (.elem (.static RX1 "EAST" "[I") (.int 7)) (.int 4)) (by decide +kernel)
  · exact hs (.eq (.elem (.static RX1 "EAST" "[I") (.int 8)) (.int 0)) (by decide +kernel)
  · exact hs (.eq (.elem (.static RX1 "EAST" "[I") (.int 9)) (.int (-4))) (by decide +kernel)
  · exact hs (.eq (.elem (.static RX1 "EAST" "[I") (.int 10)) (.int (-7))) (by decide +kernel)
  · exact hs (.eq (.elem (.static RX1 "EAST" "[I") (.int 11)) (.int (-9))) (by decide +kernel)
  · exact hs (.eq (.elem (.static RX1 "EAST" "[I") (.int 12)) (.int (-10))) (by decide +kernel)
  · exact hs (.eq (.elem (.static RX1 "EAST" "[I") (.int 13)) (.int (-9))) (by decide +kernel)
  · exact hs (.eq (.elem (.static RX1 "EAST" "[I") (.int 14)) (.int (-7))) (by decide +kernel)
  · exact hs (.eq (.elem (.static RX1 "EAST" "[I") (.int 15)) (.int (-4))) (by decide +kernel)
theorem st_NORTH {b : Nat} {s : State} (hgv : (Jvm.Cond.and given_1 narrow_1).before #[Value.ref b] s = true) : ∃ t : Nat, (Term.static RX1 "NORTH" "[I").eval #[Value.ref b] s none [] s = some (.ref t) ∧ va_T .int t 16 (fun j => .int (eN j)) (fun q : Nat => s.heap.size ≤ q) s s.heap := by
  have hs := flat_of_before _ hgv
  refine va_Tof (by decide) (hs (.arrayOf (.static RX1 "NORTH" "[I") .int) (by decide +kernel)) (va_eqt (hs (.eq (.length (.static RX1 "NORTH" "[I")) (.int 16)) (by decide +kernel))) (fun j hj => va_eqt ?_) (fun a h => Nat.not_le.mpr h)
  have hc : j = 0 ∨ j = 1 ∨ j = 2 ∨ j = 3 ∨ j = 4 ∨ j = 5 ∨ j = 6 ∨ j = 7 ∨ j = 8 ∨ j = 9 ∨ j = 10 ∨ j = 11 ∨ j = 12 ∨ j = 13 ∨ j = 14 ∨ j = 15 := by omega
  rcases hc with rfl | rfl | rfl | rfl | rfl | rfl | rfl | rfl | rfl | rfl | rfl | rfl | rfl | rfl | rfl | rfl
  · exact hs (.eq (.elem (.static RX1 "NORTH" "[I") (.int 0)) (.int 10)) (by decide +kernel)
  · exact hs (.eq (.elem (.static RX1 "NORTH" "[I") (.int 1)) (.int 9)) (by decide +kernel)
  · exact hs (.eq (.elem (.static RX1 "NORTH" "[I") (.int 2)) (.int 7)) (by decide +kernel)
  · exact hs (.eq (.elem (.static RX1 "NORTH" "[I") (.int 3)) (.int 4)) (by decide +kernel)
  · exact hs (.eq (.elem (.static RX1 "NORTH" "[I") (.int 4)) (.int 0)) (by decide +kernel)
  · exact hs (.eq (.elem (.static RX1 "NORTH" "[I") (.int 5)) (.int (-4))) (by decide +kernel)
  · exact hs (.eq (.elem (.static RX1 "NORTH" "[I") (.int 6)) (.int (-7))) (by decide +kernel)
  · exact hs (.eq (.elem (.static RX1 "NORTH" "[I") (.int 7)) (.int (-9))) (by decide +kernel)
  · exact hs (.eq (.elem (.static RX1 "NORTH" "[I") (.int 8)) (.int (-10))) (by decide +kernel)
  · exact hs (.eq (.elem (.static RX1 "NORTH" "[I") (.int 9)) (.int (-9))) (by decide +kernel)
  · exact hs (.eq (.elem (.static RX1 "NORTH" "[I") (.int 10)) (.int (-7))) (by decide +kernel)
  · exact hs (.eq (.elem (.static RX1 "NORTH" "[I") (.int 11)) (.int (-4))) (by decide +kernel)
  · exact hs (.eq (.elem (.static RX1 "NORTH" "[I") (.int 12)) (.int 0)) (by decide +kernel)
  · exact hs (.eq (.elem (.static RX1 "NORTH" "[I") (.int 13)) (.int 4)) (by decide +kernel)
  · exact hs (.eq (.elem (.static RX1 "NORTH" "[I") (.int 14)) (.int 7)) (by decide +kernel)
  · exact hs (.eq (.elem (.static RX1 "NORTH" "[I") (.int 15)) (.int 9)) (by decide +kernel)
set_option maxHeartbeats 4000000 in
set_option maxRecDepth 100000 in
theorem whole_start {p : Program} {e : Env} {s : State} {m : MethodId} {below : List Frame} {meth : Method} {c : Code} (l : Launch) (hflags : l.flags = flags0) {b L : Nat} {xs : Nat → Int32} (hL : L ≤ 2560) (C0 : lw_At p s m meth c b L xs) : W p l e room_1 s m #[Value.ref b] below meth c s.heap [] 0 0 (lw_Z below #[Value.ref b] s) (entryFrame m ([Value.ref b] : List Value).toArray 4) := by
  obtain ⟨hx, hb, hr, hml, hown, hts0, hX, hbl, hlocks, hgv⟩ := id C0
  have hts : ∀ w ∈ wsL_law, w.before #[Value.ref b] s = true := fun w h => hts0 w (wsL_law_in w h)
  have hA : ∀ q : Nat, s.heap.size ≤ q → (fun q : Nat => s.heap.size ≤ q) q := fun q h => h
  have hbA : ¬ (fun q : Nat => s.heap.size ≤ q) b := Nat.not_le.mpr hbl
  obtain ⟨c0, iS0, hKn0⟩ := u_known (C := RX0) (T := TX0) (N := 4) (n := 4) hts0 inX0 (hts0 (.instantiable RX0 4) (List.mem_of_getElem? (i := 86) (by decide +kernel)))
  obtain ⟨c1, iS1, hKn1⟩ := u_known (C := RX1) (T := TX1) (N := 3) (n := 3) hts0 inX1 (hts0 (.instantiable RX1 3) (List.mem_of_getElem? (i := 80) (by decide +kernel)))
  obtain ⟨c2, iS2, hKn2⟩ := u_known (C := RX2) (T := TX2) (N := 2) (n := 2) hts0 inX2 (hts0 (.instantiable RX2 2) (List.mem_of_getElem? (i := 121) (by decide +kernel)))
  obtain ⟨c3, iS3, hKn3⟩ := u_known (C := RX3) (T := TX3) (N := 5) (n := 5) hts0 inX3 (hts0 (.instantiable RX3 5) (List.mem_of_getElem? (i := 135) (by decide +kernel)))
  obtain ⟨c4, iS4, hKn4⟩ := u_known (C := RX4) (T := TX4) (N := 6) (n := 6) hts0 inX4 (hts0 (.instantiable RX4 6) (List.mem_of_getElem? (i := 72) (by decide +kernel)))
  obtain ⟨c5, iS5, hKn5⟩ := u_known (C := RX5) (T := TX5) (N := 21) (n := 21) hts0 inX5 (hts0 (.instantiable RX5 21) (List.mem_of_getElem? (i := 562) (by decide +kernel)))
  obtain ⟨dC, dI, hKc⟩ : ∃ (dC : Nat → ClassId) (dI : Nat → Nat → Nat), ∀ (k : Nat) (q : vw_C), vwCl[k]? = some q → u_Kn s q.1 q.2.1 q.2.2 (dC k) (dI k) := by
    refine ⟨fun k => if k = 0 then c0 else if k = 1 then c1 else if k = 2 then c2 else if k = 3 then c3 else if k = 4 then c4 else c5, fun k => if k = 0 then iS0 else if k = 1 then iS1 else if k = 2 then iS2 else if k = 3 then iS3 else if k = 4 then iS4 else iS5, ?_⟩
    intro k q hq
    match k, hq with
    | 0, hq => cases hq; exact hKn0
    | 1, hq => cases hq; exact hKn1
    | 2, hq => cases hq; exact hKn2
    | 3, hq => cases hq; exact hKn3
    | 4, hq => cases hq; exact hKn4
    | 5, hq => cases hq; exact hKn5
    | k + 6, hq => simp [vwCl] at hq
  obtain ⟨cI, hI1, hI2⟩ := z_arrc (hts0 (.arrayClass .int) (List.mem_of_getElem? (i := 108) (by decide +kernel)))
  obtain ⟨cB, hB1, hB2⟩ := z_arrc (hts0 (.arrayClass .byte) (List.mem_of_getElem? (i := 159) (by decide +kernel)))
  obtain ⟨tE, eE1, hTE⟩ := st_EAST hgv
  obtain ⟨tN, eN1, hTN⟩ := st_NORTH hgv
  obtain ⟨D, hDD⟩ : ∃ D : va_G, D = (dC, dI) := ⟨_, rfl⟩
  have hK : va_K D vwCl (zTy cI cB) s := by
    rw [hDD]
    refine ⟨hKc, fun k q hq => ?_⟩
    match k, hq with
    | 0, hq => cases hq; exact ⟨hI1, hI2⟩
    | 1, hq => cases hq; exact ⟨hB1, hB2⟩
    | k + 2, hq => simp [zTy] at hq
  have hini : (Cond.initialized RX1).before #[Value.ref b] s = true := (hts0 (.initialized RX1) (List.mem_of_getElem? (i := 64) (by decide +kernel)))
  have hT : zST tE tN (fun q : Nat => s.heap.size ≤ q) s s.heap := ⟨⟨va_Zref (hts0 (.laysStatic RX1 "EAST" "[I") (List.mem_of_getElem? (i := 277) (by decide +kernel))) hini eE1 (fun a h => Nat.not_le.mpr h), hTE⟩, ⟨va_Zref (hts0 (.laysStatic RX1 "NORTH" "[I") (List.mem_of_getElem? (i := 283) (by decide +kernel))) hini eN1 (fun a h => Nat.not_le.mpr h), hTN⟩, va_Nw.of rfl (hts0 (zNest) (List.mem_of_getElem? (i := 197) (by decide +kernel)))⟩
  have hS : va_S (fun q : Nat => s.heap.size ≤ q) s.heap s.heap [] := va_S.rf
  have hP : va_P D vwCl [] s.heap := fun k q h => by simp at h
  have hD : va_D (fun q : Nat => s.heap.size ≤ q) [] := ⟨fun i j p q h => by simp at h, fun k q h => by simp at h⟩
  have hl := lv_entry ([.ref b]) (n := 4) (Nat.le_of_ble_eq_true rfl)
  rw [lg_entry_eq]
  generalize (lg_sl ([.ref b]) ++ List.replicate (4 - (lg_sl ([.ref b])).length) Slot.unset).toArray = ls at hl ⊢
  have hl : lv_has ls 4 [(0, .ref b)] := hl
  refine va_new (ci := 4) (fs := [.null, .null, .null, .int 0, .int 0, .int 0]) (C := RX4) (T := TX4) (N := 6) hx hb hts inlX4 tyX4 tyX4_ok hown (hts (.classLink RL 7 RX4) (by decide +kernel)) (hts (.instantiable RX4 6) (by decide +kernel)) (hts (.initialized RX4) (by decide +kernel)) hK hP hD hS hA rfl (fun j hj => by rcases (show j = 0 ∨ j = 1 ∨ j = 2 ∨ j = 3 ∨ j = 4 ∨ j = 5 by omega) with rfl | rfl | rfl | rfl | rfl | rfl <;> rfl) (Nat.le_of_ble_eq_true rfl) (Nat.le_of_ble_eq_true rfl) dL_law_0 (fun q_1 H hP hD hS => ?_)
  have hP : va_P D vwCl [(q_1, .inr (4, [.null, .null, .null, .int 0, .int 0, .int 0]))] H := hP
  have hD : va_D (fun q : Nat => s.heap.size ≤ q) [(q_1, .inr (4, [.null, .null, .null, .int 0, .int 0, .int 0]))] := hD
  refine lv_dup hx hb dL_law_3 rfl ?_
  refine z_IV (n := 0) (wn := (fun u : Nat × Nat × Nat × Nat × Nat × Nat × Nat × Nat × Nat => [(q_1, .inr (4, [.ref u.1, .ref u.2.2.2.2.1, .ref u.2.2.2.2.2.2.1, .int 0, .int 0, .int 0])), (u.1, .inr (1, [.ref u.2.1, .ref u.2.2.1, .ref u.2.2.2.1])), (u.2.1, .inl (cI, 39, .inl (upd (upd (fun _ => 0) 36 50) 37 12))), (u.2.2.1, .inr (0, [.long 0, .long 1, .long 0, .long 1])), (u.2.2.2.1, .inr (0, [.long 0, .long 1, .long 0, .long 1])), (u.2.2.2.2.1, .inr (2, [.ref u.2.2.2.2.2.1, .int 0])), (u.2.2.2.2.2.1, .inl (cI, 234, .inl (fun _ => 0))), (u.2.2.2.2.2.2.1, .inr (3, [.ref u.2.2.2.2.2.2.2.1, .int 0, .int 0, .int 0, .ref u.2.2.2.2.2.2.2.2])), (u.2.2.2.2.2.2.2.1, .inl (cB, 150, .inl (fun _ => 0))), (u.2.2.2.2.2.2.2.2, .inl (cI, 4, .inl (fun _ => 0)))])) (wr := []) (As := []) (rest := [.ref q_1]) ⟨hx, hb, hml, hown, hts⟩ hK hP hD hS hA hT (kX4_init l D cI cB tE tN q_1 _ ) gL_law_X4_init (hts (.initialized RX4) (by decide +kernel)) (hts (.methodLink RL 9 yX4_init) (by decide +kernel)) (hts (.instanceMethod yX4_init) (by decide +kernel)) rfl rfl rfl rfl (by decide +kernel) ⟨Nat.le_of_ble_eq_true rfl, Nat.le_of_ble_eq_true rfl⟩ [0] [] [0, 1, 2, 3, 4, 5, 6, 7, 8, 9] (by decide) rfl rfl (by decide) (by decide) (by decide) (fun u => rfl) rfl hl.1 rfl (Nat.le_of_ble_eq_true rfl) dL_law_4 ⟨Nat.le_of_ble_eq_true rfl, Nat.le_of_ble_eq_true rfl⟩ (fun u H locs hw_12 hP hD hS => ?_)
  obtain ⟨hF_2, cF_3, aF_4, wF_5, hH_6, rF_7, hC_8, bF_9, nF_10⟩ := u
  try dsimp only at hw_12
  have hP : va_P D vwCl [(q_1, .inr (4, [.ref hF_2, .ref hH_6, .ref hC_8, .int 0, .int 0, .int 0])), (hF_2, .inr (1, [.ref cF_3, .ref aF_4, .ref wF_5])), (cF_3, .inl (cI, 39, .inl (upd (upd (fun _ => 0) 36 50) 37 12))), (aF_4, .inr (0, [.long 0, .long 1, .long 0, .long 1])), (wF_5, .inr (0, [.long 0, .long 1, .long 0, .long 1])), (hH_6, .inr (2, [.ref rF_7, .int 0])), (rF_7, .inl (cI, 234, .inl (fun _ => 0))), (hC_8, .inr (3, [.ref bF_9, .int 0, .int 0, .int 0, .ref nF_10])), (bF_9, .inl (cB, 150, .inl (fun _ => 0))), (nF_10, .inl (cI, 4, .inl (fun _ => 0)))] H := hP
  have hD : va_D (fun q : Nat => s.heap.size ≤ q) [(q_1, .inr (4, [.ref hF_2, .ref hH_6, .ref hC_8, .int 0, .int 0, .int 0])), (hF_2, .inr (1, [.ref cF_3, .ref aF_4, .ref wF_5])), (cF_3, .inl (cI, 39, .inl (upd (upd (fun _ => 0) 36 50) 37 12))), (aF_4, .inr (0, [.long 0, .long 1, .long 0, .long 1])), (wF_5, .inr (0, [.long 0, .long 1, .long 0, .long 1])), (hH_6, .inr (2, [.ref rF_7, .int 0])), (rF_7, .inl (cI, 234, .inl (fun _ => 0))), (hC_8, .inr (3, [.ref bF_9, .int 0, .int 0, .int 0, .ref nF_10])), (bF_9, .inl (cB, 150, .inl (fun _ => 0))), (nF_10, .inl (cI, 4, .inl (fun _ => 0)))] := hD
  refine lv_astore_n (lv' := [(1, .ref q_1), (0, .ref b)]) hx hb dL_law_7 rfl hl (by decide) rfl (fun ls hl => ?_)
  refine va_new (ci := 5) (fs := [.null, .null, .null, .int 0, .null, .null, .int 0, .long 0, .long 0, .long 0, .long 0, .long 0, .long 0, .long 0, .long 0, .null, .null, .int 0, .int 0, .int 0, .long 0]) (C := RX5) (T := TX5) (N := 21) hx hb hts inlX5 tyX5 tyX5_ok hown (hts (.classLink RL 10 RX5) (by decide +kernel)) (hts (.instantiable RX5 21) (by decide +kernel)) (hts (.initialized RX5) (by decide +kernel)) hK hP hD hS hA rfl (fun j hj => by rcases (show j = 0 ∨ j = 1 ∨ j = 2 ∨ j = 3 ∨ j = 4 ∨ j = 5 ∨ j = 6 ∨ j = 7 ∨ j = 8 ∨ j = 9 ∨ j = 10 ∨ j = 11 ∨ j = 12 ∨ j = 13 ∨ j = 14 ∨ j = 15 ∨ j = 16 ∨ j = 17 ∨ j = 18 ∨ j = 19 ∨ j = 20 by omega) with rfl | rfl | rfl | rfl | rfl | rfl | rfl | rfl | rfl | rfl | rfl | rfl | rfl | rfl | rfl | rfl | rfl | rfl | rfl | rfl | rfl <;> rfl) (Nat.le_of_ble_eq_true rfl) (Nat.le_of_ble_eq_true rfl) dL_law_8 (fun q_13 H hP hD hS => ?_)
  have hP : va_P D vwCl [(q_1, .inr (4, [.ref hF_2, .ref hH_6, .ref hC_8, .int 0, .int 0, .int 0])), (hF_2, .inr (1, [.ref cF_3, .ref aF_4, .ref wF_5])), (cF_3, .inl (cI, 39, .inl (upd (upd (fun _ => 0) 36 50) 37 12))), (aF_4, .inr (0, [.long 0, .long 1, .long 0, .long 1])), (wF_5, .inr (0, [.long 0, .long 1, .long 0, .long 1])), (hH_6, .inr (2, [.ref rF_7, .int 0])), (rF_7, .inl (cI, 234, .inl (fun _ => 0))), (hC_8, .inr (3, [.ref bF_9, .int 0, .int 0, .int 0, .ref nF_10])), (bF_9, .inl (cB, 150, .inl (fun _ => 0))), (nF_10, .inl (cI, 4, .inl (fun _ => 0))), (q_13, .inr (5, [.null, .null, .null, .int 0, .null, .null, .int 0, .long 0, .long 0, .long 0, .long 0, .long 0, .long 0, .long 0, .long 0, .null, .null, .int 0, .int 0, .int 0, .long 0]))] H := hP
  have hD : va_D (fun q : Nat => s.heap.size ≤ q) [(q_1, .inr (4, [.ref hF_2, .ref hH_6, .ref hC_8, .int 0, .int 0, .int 0])), (hF_2, .inr (1, [.ref cF_3, .ref aF_4, .ref wF_5])), (cF_3, .inl (cI, 39, .inl (upd (upd (fun _ => 0) 36 50) 37 12))), (aF_4, .inr (0, [.long 0, .long 1, .long 0, .long 1])), (wF_5, .inr (0, [.long 0, .long 1, .long 0, .long 1])), (hH_6, .inr (2, [.ref rF_7, .int 0])), (rF_7, .inl (cI, 234, .inl (fun _ => 0))), (hC_8, .inr (3, [.ref bF_9, .int 0, .int 0, .int 0, .ref nF_10])), (bF_9, .inl (cB, 150, .inl (fun _ => 0))), (nF_10, .inl (cI, 4, .inl (fun _ => 0))), (q_13, .inr (5, [.null, .null, .null, .int 0, .null, .null, .int 0, .long 0, .long 0, .long 0, .long 0, .long 0, .long 0, .long 0, .long 0, .null, .null, .int 0, .int 0, .int 0, .long 0]))] := hD
  refine lv_dup hx hb dL_law_11 rfl ?_
  refine z_IV (n := 0) (wn := (fun u : Nat × Nat × Nat × Nat × Nat × Nat × Nat => [(q_1, .inr (4, [.ref hF_2, .ref hH_6, .ref hC_8, .int 0, .int 0, .int 0])), (hF_2, .inr (1, [.ref cF_3, .ref aF_4, .ref wF_5])), (cF_3, .inl (cI, 39, .inl (upd (upd (fun _ => 0) 36 50) 37 12))), (aF_4, .inr (0, [.long 0, .long 1, .long 0, .long 1])), (wF_5, .inr (0, [.long 0, .long 1, .long 0, .long 1])), (hH_6, .inr (2, [.ref rF_7, .int 0])), (rF_7, .inl (cI, 234, .inl (fun _ => 0))), (hC_8, .inr (3, [.ref bF_9, .int 0, .int 0, .int 0, .ref nF_10])), (bF_9, .inl (cB, 150, .inl (fun _ => 0))), (nF_10, .inl (cI, 4, .inl (fun _ => 0))), (q_13, .inr (5, [.ref u.1, .ref u.2.1, .ref u.2.2.1, .int 0, .ref u.2.2.2.1, .ref u.2.2.2.2.1, .int 0, .long 0, .long 0, .long 0, .long 0, .long 0, .long 0, .long 0, .long 0, .ref u.2.2.2.2.2.1, .ref u.2.2.2.2.2.2, .int 0, .int 0, .int 0, .long 0])), (u.1, .inl (cI, 39, .inl (upd (upd (upd (fun _ => 0) 0 1) 1 50) 2 12))), (u.2.1, .inl (cI, 39, .inl (fun _ => 0))), (u.2.2.1, .inl (cI, 195, .inl (fun _ => 0))), (u.2.2.2.1, .inl (cI, 3, .inl (fun _ => 0))), (u.2.2.2.2.1, .inl (cI, 150, .inl (fun _ => 0))), (u.2.2.2.2.2.1, .inl (cI, 75, .inl (fun _ => 0))), (u.2.2.2.2.2.2, .inl (cI, 300, .inl (fun _ => 0)))])) (wr := [(q_1, .inr (4, [.ref hF_2, .ref hH_6, .ref hC_8, .int 0, .int 0, .int 0])), (hF_2, .inr (1, [.ref cF_3, .ref aF_4, .ref wF_5])), (cF_3, .inl (cI, 39, .inl (upd (upd (fun _ => 0) 36 50) 37 12))), (aF_4, .inr (0, [.long 0, .long 1, .long 0, .long 1])), (wF_5, .inr (0, [.long 0, .long 1, .long 0, .long 1])), (hH_6, .inr (2, [.ref rF_7, .int 0])), (rF_7, .inl (cI, 234, .inl (fun _ => 0))), (hC_8, .inr (3, [.ref bF_9, .int 0, .int 0, .int 0, .ref nF_10])), (bF_9, .inl (cB, 150, .inl (fun _ => 0))), (nF_10, .inl (cI, 4, .inl (fun _ => 0)))]) (As := []) (rest := [.ref q_13]) ⟨hx, hb, hml, hown, hts⟩ hK hP hD hS hA hT (kX5_init l D cI cB tE tN q_13 _ ) gL_law_X5_init (hts (.initialized RX5) (by decide +kernel)) (hts (.methodLink RL 12 yX5_init) (by decide +kernel)) (hts (.instanceMethod yX5_init) (by decide +kernel)) rfl rfl rfl rfl (by decide +kernel) ⟨Nat.le_of_ble_eq_true rfl, Nat.le_of_ble_eq_true rfl⟩ [10] [0, 1, 2, 3, 4, 5, 6, 7, 8, 9] [0, 1, 2, 3, 4, 5, 6, 7, 8, 9, 10, 11, 12, 13, 14, 15, 16, 17] (by decide) rfl rfl (by decide) (by decide) (by decide) (fun u => rfl) rfl hl.1 rfl (Nat.le_of_ble_eq_true rfl) dL_law_12 ⟨Nat.le_of_ble_eq_true rfl, Nat.le_of_ble_eq_true rfl⟩ (fun u H locs hw_22 hP hD hS => ?_)
  obtain ⟨mN_14, mA_15, mP_16, mR_17, mT_18, mL_19, mB_20⟩ := u
  try dsimp only at hw_22
  have hP : va_P D vwCl [(q_1, .inr (4, [.ref hF_2, .ref hH_6, .ref hC_8, .int 0, .int 0, .int 0])), (hF_2, .inr (1, [.ref cF_3, .ref aF_4, .ref wF_5])), (cF_3, .inl (cI, 39, .inl (upd (upd (fun _ => 0) 36 50) 37 12))), (aF_4, .inr (0, [.long 0, .long 1, .long 0, .long 1])), (wF_5, .inr (0, [.long 0, .long 1, .long 0, .long 1])), (hH_6, .inr (2, [.ref rF_7, .int 0])), (rF_7, .inl (cI, 234, .inl (fun _ => 0))), (hC_8, .inr (3, [.ref bF_9, .int 0, .int 0, .int 0, .ref nF_10])), (bF_9, .inl (cB, 150, .inl (fun _ => 0))), (nF_10, .inl (cI, 4, .inl (fun _ => 0))), (q_13, .inr (5, [.ref mN_14, .ref mA_15, .ref mP_16, .int 0, .ref mR_17, .ref mT_18, .int 0, .long 0, .long 0, .long 0, .long 0, .long 0, .long 0, .long 0, .long 0, .ref mL_19, .ref mB_20, .int 0, .int 0, .int 0, .long 0])), (mN_14, .inl (cI, 39, .inl (upd (upd (upd (fun _ => 0) 0 1) 1 50) 2 12))), (mA_15, .inl (cI, 39, .inl (fun _ => 0))), (mP_16, .inl (cI, 195, .inl (fun _ => 0))), (mR_17, .inl (cI, 3, .inl (fun _ => 0))), (mT_18, .inl (cI, 150, .inl (fun _ => 0))), (mL_19, .inl (cI, 75, .inl (fun _ => 0))), (mB_20, .inl (cI, 300, .inl (fun _ => 0)))] H := hP
  have hD : va_D (fun q : Nat => s.heap.size ≤ q) [(q_1, .inr (4, [.ref hF_2, .ref hH_6, .ref hC_8, .int 0, .int 0, .int 0])), (hF_2, .inr (1, [.ref cF_3, .ref aF_4, .ref wF_5])), (cF_3, .inl (cI, 39, .inl (upd (upd (fun _ => 0) 36 50) 37 12))), (aF_4, .inr (0, [.long 0, .long 1, .long 0, .long 1])), (wF_5, .inr (0, [.long 0, .long 1, .long 0, .long 1])), (hH_6, .inr (2, [.ref rF_7, .int 0])), (rF_7, .inl (cI, 234, .inl (fun _ => 0))), (hC_8, .inr (3, [.ref bF_9, .int 0, .int 0, .int 0, .ref nF_10])), (bF_9, .inl (cB, 150, .inl (fun _ => 0))), (nF_10, .inl (cI, 4, .inl (fun _ => 0))), (q_13, .inr (5, [.ref mN_14, .ref mA_15, .ref mP_16, .int 0, .ref mR_17, .ref mT_18, .int 0, .long 0, .long 0, .long 0, .long 0, .long 0, .long 0, .long 0, .long 0, .ref mL_19, .ref mB_20, .int 0, .int 0, .int 0, .long 0])), (mN_14, .inl (cI, 39, .inl (upd (upd (upd (fun _ => 0) 0 1) 1 50) 2 12))), (mA_15, .inl (cI, 39, .inl (fun _ => 0))), (mP_16, .inl (cI, 195, .inl (fun _ => 0))), (mR_17, .inl (cI, 3, .inl (fun _ => 0))), (mT_18, .inl (cI, 150, .inl (fun _ => 0))), (mL_19, .inl (cI, 75, .inl (fun _ => 0))), (mB_20, .inl (cI, 300, .inl (fun _ => 0)))] := hD
  refine lv_astore_n (lv' := [(2, .ref q_13), (1, .ref q_1), (0, .ref b)]) hx hb dL_law_15 rfl hl (by decide) rfl (fun ls hl => ?_)
  refine lv_iconst (v := 0) hx hb dL_law_16 (by decide) ?_
  refine lv_istore_n (lv' := [(3, .int 0), (2, .ref q_13), (1, .ref q_1), (0, .ref b)]) hx hb dL_law_17 rfl hl (by decide) rfl (fun ls hl => ?_)
  exact law_loop l hL C0 hK hT q_1 hF_2 cF_3 aF_4 wF_5 hH_6 rF_7 hC_8 bF_9 nF_10 q_13 mN_14 mA_15 mP_16 mR_17 mT_18 mL_19 mB_20 _ 0 0 0 0 (upd (upd (fun _ => 0) 36 50) 37 12) 0 1 0 1 0 1 0 1 0 (fun _ => 0) 0 0 0 (fun _ => 0) (fun _ => 0) 0 0 0 0 0 0 0 0 0 0 0 0 (upd (upd (upd (fun _ => 0) 0 1) 1 50) 2 12) (fun _ => 0) (fun _ => 0) (fun _ => 0) (fun _ => 0) (fun _ => 0) (fun _ => 0) _ _ _ rfl (by omega) li_init hP hD hS (lv_sub hl [0, 1, 2, 3] rfl)
