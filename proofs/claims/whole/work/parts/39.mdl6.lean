theorem go_bad {f : Nat → Int32} {N : Nat} {k : Int32} (h : cIn k 1 60 = false) : cGo f N k = (-10002, f) := by
  rw [cGo, if_neg]
  rintro ⟨a, b⟩
  exact absurd (decide_eq_true (⟨a, Int32.not_lt.mpr b⟩ : ¬ k < 1 ∧ ¬ 60 < k)) (by rw [show decide (¬ k < 1 ∧ ¬ 60 < k) = cIn k 1 60 from rfl, h]; decide)
theorem go_no {f : Nat → Int32} {N : Nat} {k : Int32} (h : ¬ k < 1 ∧ ¬ 60 < k) (h2 : cStay f N k = false) : cGo f N k = (-10003, f) := by
  rw [cGo, if_pos ⟨h.1, Int32.not_lt.mp h.2⟩, if_neg (by rw [h2]; decide)]
theorem go_ok {f : Nat → Int32} {N kn : Nat} {k : Int32} (hk : k = nI kn) (h60 : kn ≤ 60) (h : ¬ k < 1 ∧ ¬ 60 < k) (h2 : cStay f N k = true) : cGo f N k = (gwF (upd (goF f N kn) 38 ((goF f N kn) 38 + k)) N, upd (goF f N kn) 38 ((goF f N kn) 38 + k)) := by
  rw [cGo, if_pos ⟨h.1, Int32.not_lt.mp h.2⟩, if_pos h2, hk, nI_clamp (by omega)]
theorem Iv_mid0 {f : Nat → Int32} {k t n : Nat} (hI : Iv f) (hk : k ≤ 60) (ht : t < k) (hst : cStay f (nN f) (nI k) = true) (hn : n ≤ nN f + 1) : Iv (mvF (goF f (nN f) t) n) := by
  have h6 := hI.1
  have g0 := goF_in hI hk (Nat.le_of_lt ht) hst
  have g1 := goF_in hI hk (t := t + 1) ht hst
  have e0 : nN (goF f (nN f) t) = nN f := nN_go h6
  have e1 : nN (goF f (nN f) (t + 1)) = nN f := nN_go h6
  refine Iv.mk (N := nN f) (by rw [mvF_ge (by omega), goF_ge (by omega)]; exact hI.2.1) h6 (fun i hi => ?_) (by rw [mvF_ge (by omega)]; exact g0.2.2.2.1) (by rw [mvF_ge (by omega)]; exact g0.2.2.2.2)
  by_cases q : i < n
  · refine Sh_congr (g1.2.2.1 i (by omega)) (fun z hz => ?_)
    rw [goF, lkF_ne (fun w => by omega)]
    rcases (show z = 0 ∨ z = 1 ∨ z = 2 ∨ z = 3 by omega) with rfl | rfl | rfl | rfl
    · rw [mvF_x q, mvF_x (by omega)]
    · rw [mvF_y q, mvF_y (by omega)]
    · rw [mvF_ne (fun w hw => by omega), mvF_ne (fun w hw => by omega)]
    · rw [mvF_ne (fun w hw => by omega), mvF_ne (fun w hw => by omega)]
  · exact Sh_congr (g0.2.2.1 i (by omega)) (fun z hz => mvF_ne (fun w hw => by omega))
theorem Iv_mid1 {f : Nat → Int32} {k t n : Nat} (hI : Iv f) (hk : k ≤ 60) (ht : t < k) (hst : cStay f (nN f) (nI k) = true) (hn : n ≤ nN f) : Iv (upd (mvF (goF f (nN f) t) n) (5 * n + 0) ((mvF (goF f (nN f) t) n) (5 * n + 0) + cEast (mvF (goF f (nN f) t) n) n)) := by
  have h6 := hI.1
  have g0 := Iv_mid0 hI hk ht hst (n := n) (by omega)
  have g1 := Iv_mid0 hI hk ht hst (n := n + 1) (by omega)
  have e0 : nN (mvF (goF f (nN f) t) n) = nN f := by rw [nN_mv (by omega), nN_go h6]
  have e1 : nN (mvF (goF f (nN f) t) (n + 1)) = nN f := by rw [nN_mv (by omega), nN_go h6]
  refine Iv.mk (N := nN f) (by rw [upd_ne (by omega)]; have := g0.2.1; rw [e0] at this; exact this) h6 (fun i hi => ?_) (by rw [upd_ne (by omega)]; exact g0.2.2.2.1) (by rw [upd_ne (by omega)]; exact g0.2.2.2.2)
  by_cases q : i = n
  · subst q
    have s0 := g0.2.2.1 i (by omega)
    have s1 := g1.2.2.1 i (by omega)
    refine ⟨?_, by rw [upd_ne (by omega)]; exact s0.2.1, by rw [upd_ne (by omega)]; exact s0.2.2.1, by rw [upd_ne (by omega)]; exact s0.2.2.2⟩
    have := s1.1
    rw [mvF, mvS_x] at this
    rw [upd_eq]; exact this
  · exact Sh_congr (g0.2.2.1 i (by omega)) (fun z hz => upd_ne (by omega))
set_option maxHeartbeats 4000000 in
set_option maxRecDepth 100000 in
theorem kX5_putSteps (l : Launch) (D : va_G) (cI cB : ClassId) (tE tN : Nat) (oM : Nat) (mN : Nat) (mA : Nat) (mP : Nat) (mR : Nat) (mT : Nat) (mL : Nat) (mB : Nat) (ks : Nat) (ln : Nat) (x1 : Int64) (x2 : Int64) (x3 : Int64) (x4 : Int64) (y1 : Int64) (y2 : Int64) (y3 : Int64) (y4 : Int64) (od : Int32) (spt : Int32) (wa : Int32) (hs : Int64) (qn : Nat → Int32) (f : Nat → Int32) (N : Nat) (i : Int32) (sz : Nat) (hR : Rg N f qn) (hI : Iv f) (hNN : nN f = N) : zI l yX5_putSteps wsX5_putSteps ({ frames := 7, cells := 0, slots := 0, locals := 169 }) D cI cB tE tN [.ref oM, .int i] [(oM, .inr (5, [.ref mN, .ref mA, .ref mP, .int (nI ks), .ref mR, .ref mT, .int (nI ln), .long x1, .long x2, .long x3, .long x4, .long y1, .long y2, .long y3, .long y4, .ref mL, .ref mB, .int od, .int spt, .int wa, .long hs])), (mN, .inl (cI, 39, .inl qn))] sz (fun u : (Nat → Int32) × Int64 × Int64 × Int64 × Int64 × Int64 × Int64 × Int64 × Int64 => [(oM, .inr (5, [.ref mN, .ref mA, .ref mP, .int (nI ks), .ref mR, .ref mT, .int (nI ln), .long u.2.1, .long u.2.2.1, .long u.2.2.2.1, .long u.2.2.2.2.1, .long u.2.2.2.2.2.1, .long u.2.2.2.2.2.2.1, .long u.2.2.2.2.2.2.2.1, .long u.2.2.2.2.2.2.2.2, .ref mL, .ref mB, .int od, .int spt, .int wa, .long hs])), (mN, .inl (cI, 39, .inl u.1))]) (fun (r : Int32) (u : (Nat → Int32) × Int64 × Int64 × Int64 × Int64 × Int64 × Int64 × Int64 × Int64) => r = (cGo f N i).1 ∧ Rg (nN (cGo f N i).2) (cGo f N i).2 u.1) 0 0 := by
  refine zI_mk (cc := cX5_putSteps) (maxL := 5) (rt := .int) (by decide) rfl (Nat.le_of_ble_eq_true rfl) ?_
  intro p e s m below meth c A Q ls S0 hname hA hK hP hD hT hS hQ hl
  obtain ⟨hx, hb, hml, hown, hts⟩ := id S0
  have hl : lv_has ls 5 [(0, .ref oM), (1, .int i)] := hl
  have L7 : (Cond.fieldLink RX5 7 "PastAndClearModel" "now" "[I").before ([.ref oM, .int i] : List Value).toArray s = true := hts (.fieldLink RX5 7 "PastAndClearModel" "now" "[I") (by decide +kernel)
  have N5 : ∀ w ∈ u_ws RX5 TX5 21, w ∈ wsX5_putSteps := by decide +kernel
  have hN6 : N ≤ 6 := by rw [← hNN]; exact hI.1
  have lp82 : ∀ (k : Nat) (kn : Nat) (t : Nat) (n : Nat) (qc : Nat → Int32) (p1 : Int64) (p2 : Int64) (p3 : Int64) (p4 : Int64) (q1 : Int64) (q2 : Int64) (q3 : Int64) (q4 : Int64) (H : Heap) (locs : List Loc) (ls : Array Slot), N + 1 - n = k → (i = nI kn) → (kn ≤ 60) → (1 ≤ kn) → (¬ i < 1 ∧ ¬ 60 < i) → (t < kn) → (n ≤ N + 1) → (cStay f N i = true) → (Rg N (mvF (goF f N t) n) qc) → (∀ (x : Int32) (qc : Nat → Int32) (p1 : Int64) (p2 : Int64) (p3 : Int64) (p4 : Int64) (q1 : Int64) (q2 : Int64) (q3 : Int64) (q4 : Int64) (H : Heap) (locs : List Loc) (ls : Array Slot), Rg N (goF f N (t + 1)) qc → (1 ≤ t + 1 → x = gwF (goF f N (t + 1)) N) → va_P D vwCl [(oM, .inr (5, [.ref mN, .ref mA, .ref mP, .int (nI ks), .ref mR, .ref mT, .int (nI ln), .long p1, .long p2, .long p3, .long p4, .long q1, .long q2, .long q3, .long q4, .ref mL, .ref mB, .int od, .int spt, .int wa, .long hs])), (mN, .inl (cI, 39, .inl qc))] H → va_D A [(oM, .inr (5, [.ref mN, .ref mA, .ref mP, .int (nI ks), .ref mR, .ref mT, .int (nI ln), .long p1, .long p2, .long p3, .long p4, .long q1, .long q2, .long q3, .long q4, .ref mL, .ref mB, .int od, .int spt, .int wa, .long hs])), (mN, .inl (cI, 39, .inl qc))] → va_S A s.heap H locs → lv_has ls 5 [(3, .int (nI (t + 1))), (2, .int x), (0, .ref oM), (1, .int i)] → W p l e ({ frames := 7, cells := 0, slots := 0, locals := 169 } : Room) s m ([.ref oM, .int i] : List Value).toArray below meth c H locs 0 0 Q (F0 m 74 ls [])) → va_P D vwCl [(oM, .inr (5, [.ref mN, .ref mA, .ref mP, .int (nI ks), .ref mR, .ref mT, .int (nI ln), .long p1, .long p2, .long p3, .long p4, .long q1, .long q2, .long q3, .long q4, .ref mL, .ref mB, .int od, .int spt, .int wa, .long hs])), (mN, .inl (cI, 39, .inl qc))] H → va_D A [(oM, .inr (5, [.ref mN, .ref mA, .ref mP, .int (nI ks), .ref mR, .ref mT, .int (nI ln), .long p1, .long p2, .long p3, .long p4, .long q1, .long q2, .long q3, .long q4, .ref mL, .ref mB, .int od, .int spt, .int wa, .long hs])), (mN, .inl (cI, 39, .inl qc))] → va_S A s.heap H locs → lv_has ls 5 [(4, .int (nI n)), (3, .int (nI t)), (0, .ref oM), (1, .int i)] → W p l e ({ frames := 7, cells := 0, slots := 0, locals := 169 } : Room) s m ([.ref oM, .int i] : List Value).toArray below meth c H locs 0 0 Q (F0 m 82 ls []) := by
    intro k
    induction k using Nat.strongRecOn with
    | ind k ih =>
    intro kn t n qc p1 p2 p3 p4 q1 q2 q3 q4 H locs ls hk hki hk60 hk1 h01 ht hn hst hR1 hk74 hP hD hS hl
    refine lv_iload hx hb dX5_putSteps_82 (lv_at hl 0 rfl) ?_
    refine lv_aload_n hx hb dX5_putSteps_84 rfl (lv_at hl 2 rfl) ?_
    refine va_get (D := D) (ci := 5) (v := .ref mN) (C := RX5) (T := TX5) (N := 21) hx hb hts N5 hown hK hP 0 rfl rfl 0 (by decide) L7 (fun _ h9 => h9) rfl dX5_putSteps_85 ?_
    refine lv_iconst (v := 0) hx hb dX5_putSteps_88 (by decide) ?_
    refine z_ild (v := nI (N + 1)) (j := 0) hx hb hK hP 1 rfl rfl (by omega) (by decide) (hR1.1) dX5_putSteps_89 ?_
    refine lv_icmp_ge (tgt := 141) hx hb dX5_putSteps_90 (by decide) (fun c_1 => ?_) (fun c_1 => ?_)
    · skip
      have c_1 := (z_le (a := N + 1) (b := n) rfl rfl (by omega) (by omega)).mp c_1
      obtain rfl : n = N + 1 := by omega
      refine lv_aload_n hx hb dX5_putSteps_141 rfl (lv_at hl 2 rfl) ?_
      refine z_VI (n := 0) (wn := (fun u : (Nat → Int32) × Int64 × Int64 × Int64 × Int64 × Int64 × Int64 × Int64 × Int64 => [(oM, .inr (5, [.ref mN, .ref mA, .ref mP, .int (nI ks), .ref mR, .ref mT, .int (nI ln), .long u.2.1, .long u.2.2.1, .long u.2.2.2.1, .long u.2.2.2.2.1, .long u.2.2.2.2.2.1, .long u.2.2.2.2.2.2.1, .long u.2.2.2.2.2.2.2.1, .long u.2.2.2.2.2.2.2.2, .ref mL, .ref mB, .int od, .int spt, .int wa, .long hs])), (mN, .inl (cI, 39, .inl u.1))])) (wr := []) (As := []) (rest := []) ⟨hx, hb, hml, hown, hts⟩ hK hP hD hS hA hT (kX5_look l D cI cB tE tN oM mN mA mP mR mT mL mB ks ln p1 p2 p3 p4 q1 q2 q3 q4 od spt wa hs qc (mvF (goF f N t) (N + 1)) N _ (hR1) (by have := Iv_mid0 (t := t) (n := N + 1) (k := kn) hI hk60 (by omega) (by rw [hNN, ← hki]; exact hst) (by omega); rw [hNN] at this; exact this) (by rw [nN_mv (by omega), nN_go hN6, hNN])) gX5_putSteps_X5_look rfl rfl rfl (by decide +kernel) ⟨Nat.le_of_ble_eq_true rfl, Nat.le_of_ble_eq_true rfl⟩ [0, 1] [] [0, 1] (by decide) rfl rfl (by decide) (by decide) (by decide) (fun u => rfl) 0 5 rfl rfl rfl rfl hl.1 rfl (Nat.le_of_ble_eq_true rfl) dX5_putSteps_142 ⟨Nat.le_of_ble_eq_true rfl, Nat.le_of_ble_eq_true rfl⟩ (fun r_11 u H locs hw_12 hP hD hS => ?_)
      obtain ⟨qz_2, p1_3, p2_4, p3_5, p4_6, q1_7, q2_8, q3_9, q4_10⟩ := u
      try dsimp only at hw_12
      have hP : va_P D vwCl [(oM, .inr (5, [.ref mN, .ref mA, .ref mP, .int (nI ks), .ref mR, .ref mT, .int (nI ln), .long p1_3, .long p2_4, .long p3_5, .long p4_6, .long q1_7, .long q2_8, .long q3_9, .long q4_10, .ref mL, .ref mB, .int od, .int spt, .int wa, .long hs])), (mN, .inl (cI, 39, .inl qz_2))] H := hP
      have hD : va_D A [(oM, .inr (5, [.ref mN, .ref mA, .ref mP, .int (nI ks), .ref mR, .ref mT, .int (nI ln), .long p1_3, .long p2_4, .long p3_5, .long p4_6, .long q1_7, .long q2_8, .long q3_9, .long q4_10, .ref mL, .ref mB, .int od, .int spt, .int wa, .long hs])), (mN, .inl (cI, 39, .inl qz_2))] := hD
      obtain ⟨hw_12, hq_13⟩ := hw_12
      subst r_11
      have hR4 := hq_13
      refine lv_istore_n (lv' := [(2, .int (gwF (lkF (mvF (goF f N t) (N + 1)) N) N)), (4, .int (nI (N + 1))), (3, .int (nI t)), (0, .ref oM), (1, .int i)]) hx hb dX5_putSteps_145 rfl hl (by decide) rfl (fun ls hl => ?_)
      refine lv_iinc (v := nI (t + 1)) (lv' := [(3, .int (nI (t + 1))), (2, .int (gwF (lkF (mvF (goF f N t) (N + 1)) N) N)), (4, .int (nI (N + 1))), (0, .ref oM), (1, .int i)]) hx hb dX5_putSteps_146 hl (k := 2) rfl (z_add rfl rfl) (by decide) rfl (fun ls hl => ?_)
      refine lv_goto (tgt := 74) hx hb dX5_putSteps_149 (by decide) ?_
      exact hk74 (gwF (lkF (mvF (goF f N t) (N + 1)) N) N) qz_2 p1_3 p2_4 p3_5 p4_6 q1_7 q2_8 q3_9 q4_10 _ _ _ hR4 (fun _ => rfl) hP hD hS (lv_sub hl [0, 1, 3, 4] rfl)
    · skip
      have c_1 := (z_len (a := N + 1) (b := n) rfl rfl (by omega) (by omega)).mp c_1
      refine lv_aload_n hx hb dX5_putSteps_93 rfl (lv_at hl 2 rfl) ?_
      refine lv_iload hx hb dX5_putSteps_94 (lv_at hl 0 rfl) ?_
      refine lv_iconst (v := 0) hx hb dX5_putSteps_96 (by decide) ?_
      refine lv_aload_n hx hb dX5_putSteps_97 rfl (lv_at hl 2 rfl) ?_
      refine lv_iload hx hb dX5_putSteps_98 (lv_at hl 0 rfl) ?_
      refine lv_iconst (v := 0) hx hb dX5_putSteps_100 (by decide) ?_
      refine z_VI (n := 2) (wn := (fun u : Unit => [(oM, .inr (5, [.ref mN, .ref mA, .ref mP, .int (nI ks), .ref mR, .ref mT, .int (nI ln), .long p1, .long p2, .long p3, .long p4, .long q1, .long q2, .long q3, .long q4, .ref mL, .ref mB, .int od, .int spt, .int wa, .long hs])), (mN, .inl (cI, 39, .inl qc))])) (wr := []) (As := [.int (nI n), .int 0]) (rest := [.int 0, .int (nI n), .ref oM]) ⟨hx, hb, hml, hown, hts⟩ hK hP hD hS hA hT (kX5_shipOf l D cI cB tE tN oM mN mA mP mR mT mL mB ks ln p1 p2 p3 p4 q1 q2 q3 q4 od spt wa hs qc (mvF (goF f N t) n) N n 0 _ (hR1) (by have := Iv_mid0 (t := t) (n := n) (k := kn) hI hk60 (by omega) (by rw [hNN, ← hki]; exact hst) (by omega); rw [hNN] at this; exact this) (by rw [nN_mv (by omega), nN_go hN6, hNN]) (by omega) (by omega)) gX5_putSteps_X5_shipOf rfl rfl rfl (by decide +kernel) ⟨Nat.le_of_ble_eq_true rfl, Nat.le_of_ble_eq_true rfl⟩ [0, 1] [] [0, 1] (by decide) rfl rfl (by decide) (by decide) (by decide) (fun u => rfl) 0 5 rfl rfl rfl rfl hl.1 rfl (Nat.le_of_ble_eq_true rfl) dX5_putSteps_101 ⟨Nat.le_of_ble_eq_true rfl, Nat.le_of_ble_eq_true rfl⟩ (fun r_14 u H locs hw_15 hP hD hS => ?_)
      try dsimp only at hw_15
      have hP : va_P D vwCl [(oM, .inr (5, [.ref mN, .ref mA, .ref mP, .int (nI ks), .ref mR, .ref mT, .int (nI ln), .long p1, .long p2, .long p3, .long p4, .long q1, .long q2, .long q3, .long q4, .ref mL, .ref mB, .int od, .int spt, .int wa, .long hs])), (mN, .inl (cI, 39, .inl qc))] H := hP
      have hD : va_D A [(oM, .inr (5, [.ref mN, .ref mA, .ref mP, .int (nI ks), .ref mR, .ref mT, .int (nI ln), .long p1, .long p2, .long p3, .long p4, .long q1, .long q2, .long q3, .long q4, .ref mL, .ref mB, .int od, .int spt, .int wa, .long hs])), (mN, .inl (cI, 39, .inl qc))] := hD
      subst r_14
      refine lv_aload_n hx hb dX5_putSteps_104 rfl (lv_at hl 2 rfl) ?_
      refine lv_iload hx hb dX5_putSteps_105 (lv_at hl 0 rfl) ?_
      refine z_VI (n := 1) (wn := (fun u : Unit => [(oM, .inr (5, [.ref mN, .ref mA, .ref mP, .int (nI ks), .ref mR, .ref mT, .int (nI ln), .long p1, .long p2, .long p3, .long p4, .long q1, .long q2, .long q3, .long q4, .ref mL, .ref mB, .int od, .int spt, .int wa, .long hs])), (mN, .inl (cI, 39, .inl qc))])) (wr := []) (As := [.int (nI n)]) (rest := [.int ((mvF (goF f N t) n) (5 * n + 0)), .int 0, .int (nI n), .ref oM]) ⟨hx, hb, hml, hown, hts⟩ hK hP hD hS hA hT (kX5_eastSpeed l D cI cB tE tN oM mN mA mP mR mT mL mB ks ln p1 p2 p3 p4 q1 q2 q3 q4 od spt wa hs qc (mvF (goF f N t) n) N n _ (hR1) (by have := Iv_mid0 (t := t) (n := n) (k := kn) hI hk60 (by omega) (by rw [hNN, ← hki]; exact hst) (by omega); rw [hNN] at this; exact this) (by rw [nN_mv (by omega), nN_go hN6, hNN]) (by omega)) gX5_putSteps_X5_eastSpeed rfl rfl rfl (by decide +kernel) ⟨Nat.le_of_ble_eq_true rfl, Nat.le_of_ble_eq_true rfl⟩ [0, 1] [] [0, 1] (by decide) rfl rfl (by decide) (by decide) (by decide) (fun u => rfl) 0 5 rfl rfl rfl rfl hl.1 rfl (Nat.le_of_ble_eq_true rfl) dX5_putSteps_107 ⟨Nat.le_of_ble_eq_true rfl, Nat.le_of_ble_eq_true rfl⟩ (fun r_16 u H locs hw_17 hP hD hS => ?_)
      try dsimp only at hw_17
      have hP : va_P D vwCl [(oM, .inr (5, [.ref mN, .ref mA, .ref mP, .int (nI ks), .ref mR, .ref mT, .int (nI ln), .long p1, .long p2, .long p3, .long p4, .long q1, .long q2, .long q3, .long q4, .ref mL, .ref mB, .int od, .int spt, .int wa, .long hs])), (mN, .inl (cI, 39, .inl qc))] H := hP
      have hD : va_D A [(oM, .inr (5, [.ref mN, .ref mA, .ref mP, .int (nI ks), .ref mR, .ref mT, .int (nI ln), .long p1, .long p2, .long p3, .long p4, .long q1, .long q2, .long q3, .long q4, .ref mL, .ref mB, .int od, .int spt, .int wa, .long hs])), (mN, .inl (cI, 39, .inl qc))] := hD
      subst r_16
      refine lv_iadd hx hb dX5_putSteps_110 ?_
      refine z_VV (n := 3) (wn := (fun u : Unit => [(oM, .inr (5, [.ref mN, .ref mA, .ref mP, .int (nI ks), .ref mR, .ref mT, .int (nI ln), .long p1, .long p2, .long p3, .long p4, .long q1, .long q2, .long q3, .long q4, .ref mL, .ref mB, .int od, .int spt, .int wa, .long hs])), (mN, .inl (cI, 39, .inl (upd qc (4 + 5 * n + 0) (((mvF (goF f N t) n) (5 * n + 0)) + (cEast (mvF (goF f N t) n) n)))))])) (wr := []) (As := [.int (nI n), .int 0, .int (((mvF (goF f N t) n) (5 * n + 0)) + (cEast (mvF (goF f N t) n) n))]) (rest := []) ⟨hx, hb, hml, hown, hts⟩ hK hP hD hS hA hT (kX5_tells l D cI cB tE tN oM mN mA mP mR mT mL mB ks ln p1 p2 p3 p4 q1 q2 q3 q4 od spt wa hs qc n 0 (((mvF (goF f N t) n) (5 * n + 0)) + (cEast (mvF (goF f N t) n) n)) _ (by omega) (by omega)) gX5_putSteps_X5_tells rfl rfl rfl (by decide +kernel) ⟨Nat.le_of_ble_eq_true rfl, Nat.le_of_ble_eq_true rfl⟩ [0, 1] [] [0, 1] (by decide) rfl rfl (by decide) (by decide) (by decide) (fun u => rfl) 0 5 rfl rfl rfl rfl hl.1 rfl (Nat.le_of_ble_eq_true rfl) dX5_putSteps_111 ⟨Nat.le_of_ble_eq_true rfl, Nat.le_of_ble_eq_true rfl⟩ (fun u H locs hw_19 hP hD hS => ?_)
      try dsimp only at hw_19
      have hP : va_P D vwCl [(oM, .inr (5, [.ref mN, .ref mA, .ref mP, .int (nI ks), .ref mR, .ref mT, .int (nI ln), .long p1, .long p2, .long p3, .long p4, .long q1, .long q2, .long q3, .long q4, .ref mL, .ref mB, .int od, .int spt, .int wa, .long hs])), (mN, .inl (cI, 39, .inl (upd qc (4 + 5 * n + 0) (((mvF (goF f N t) n) (5 * n + 0)) + (cEast (mvF (goF f N t) n) n)))))] H := hP
      have hD : va_D A [(oM, .inr (5, [.ref mN, .ref mA, .ref mP, .int (nI ks), .ref mR, .ref mT, .int (nI ln), .long p1, .long p2, .long p3, .long p4, .long q1, .long q2, .long q3, .long q4, .ref mL, .ref mB, .int od, .int spt, .int wa, .long hs])), (mN, .inl (cI, 39, .inl (upd qc (4 + 5 * n + 0) (((mvF (goF f N t) n) (5 * n + 0)) + (cEast (mvF (goF f N t) n) n)))))] := hD
      have hR2 : Rg N (upd (mvF (goF f N t) n) (5 * n + 0) ((mvF (goF f N t) n) (5 * n + 0) + cEast (mvF (goF f N t) n) n)) (upd qc (4 + 5 * n + 0) (((mvF (goF f N t) n) (5 * n + 0)) + (cEast (mvF (goF f N t) n) n))) := hR1.put (n := n) (k := 0) (by omega) (by omega) hN6 _
      refine lv_aload_n hx hb dX5_putSteps_114 rfl (lv_at hl 2 rfl) ?_
      refine lv_iload hx hb dX5_putSteps_115 (lv_at hl 0 rfl) ?_
      refine lv_iconst (v := 1) hx hb dX5_putSteps_117 (by decide) ?_
      refine lv_aload_n hx hb dX5_putSteps_118 rfl (lv_at hl 2 rfl) ?_
      refine lv_iload hx hb dX5_putSteps_119 (lv_at hl 0 rfl) ?_
      refine lv_iconst (v := 1) hx hb dX5_putSteps_121 (by decide) ?_
      refine z_VI (n := 2) (wn := (fun u : Unit => [(oM, .inr (5, [.ref mN, .ref mA, .ref mP, .int (nI ks), .ref mR, .ref mT, .int (nI ln), .long p1, .long p2, .long p3, .long p4, .long q1, .long q2, .long q3, .long q4, .ref mL, .ref mB, .int od, .int spt, .int wa, .long hs])), (mN, .inl (cI, 39, .inl (upd qc (4 + 5 * n + 0) (((mvF (goF f N t) n) (5 * n + 0)) + (cEast (mvF (goF f N t) n) n)))))])) (wr := []) (As := [.int (nI n), .int 1]) (rest := [.int 1, .int (nI n), .ref oM]) ⟨hx, hb, hml, hown, hts⟩ hK hP hD hS hA hT (kX5_shipOf l D cI cB tE tN oM mN mA mP mR mT mL mB ks ln p1 p2 p3 p4 q1 q2 q3 q4 od spt wa hs (upd qc (4 + 5 * n + 0) (((mvF (goF f N t) n) (5 * n + 0)) + (cEast (mvF (goF f N t) n) n))) (upd (mvF (goF f N t) n) (5 * n + 0) ((mvF (goF f N t) n) (5 * n + 0) + cEast (mvF (goF f N t) n) n)) N n 1 _ (hR2) (by have := Iv_mid1 (t := t) (n := n) (k := kn) hI hk60 (by omega) (by rw [hNN, ← hki]; exact hst) (by omega); rw [hNN] at this; exact this) (by rw [nN_upd (by omega), nN_mv (by omega), nN_go hN6, hNN]) (by omega) (by omega)) gX5_putSteps_X5_shipOf rfl rfl rfl (by decide +kernel) ⟨Nat.le_of_ble_eq_true rfl, Nat.le_of_ble_eq_true rfl⟩ [0, 1] [] [0, 1] (by decide) rfl rfl (by decide) (by decide) (by decide) (fun u => rfl) 0 5 rfl rfl rfl rfl hl.1 rfl (Nat.le_of_ble_eq_true rfl) dX5_putSteps_122 ⟨Nat.le_of_ble_eq_true rfl, Nat.le_of_ble_eq_true rfl⟩ (fun r_20 u H locs hw_21 hP hD hS => ?_)
      try dsimp only at hw_21
      have hP : va_P D vwCl [(oM, .inr (5, [.ref mN, .ref mA, .ref mP, .int (nI ks), .ref mR, .ref mT, .int (nI ln), .long p1, .long p2, .long p3, .long p4, .long q1, .long q2, .long q3, .long q4, .ref mL, .ref mB, .int od, .int spt, .int wa, .long hs])), (mN, .inl (cI, 39, .inl (upd qc (4 + 5 * n + 0) (((mvF (goF f N t) n) (5 * n + 0)) + (cEast (mvF (goF f N t) n) n)))))] H := hP
      have hD : va_D A [(oM, .inr (5, [.ref mN, .ref mA, .ref mP, .int (nI ks), .ref mR, .ref mT, .int (nI ln), .long p1, .long p2, .long p3, .long p4, .long q1, .long q2, .long q3, .long q4, .ref mL, .ref mB, .int od, .int spt, .int wa, .long hs])), (mN, .inl (cI, 39, .inl (upd qc (4 + 5 * n + 0) (((mvF (goF f N t) n) (5 * n + 0)) + (cEast (mvF (goF f N t) n) n)))))] := hD
      subst r_20
      refine lv_aload_n hx hb dX5_putSteps_125 rfl (lv_at hl 2 rfl) ?_
      refine lv_iload hx hb dX5_putSteps_126 (lv_at hl 0 rfl) ?_
      refine z_VI (n := 1) (wn := (fun u : Unit => [(oM, .inr (5, [.ref mN, .ref mA, .ref mP, .int (nI ks), .ref mR, .ref mT, .int (nI ln), .long p1, .long p2, .long p3, .long p4, .long q1, .long q2, .long q3, .long q4, .ref mL, .ref mB, .int od, .int spt, .int wa, .long hs])), (mN, .inl (cI, 39, .inl (upd qc (4 + 5 * n + 0) (((mvF (goF f N t) n) (5 * n + 0)) + (cEast (mvF (goF f N t) n) n)))))])) (wr := []) (As := [.int (nI n)]) (rest := [.int ((upd (mvF (goF f N t) n) (5 * n + 0) ((mvF (goF f N t) n) (5 * n + 0) + cEast (mvF (goF f N t) n) n)) (5 * n + 1)), .int 1, .int (nI n), .ref oM]) ⟨hx, hb, hml, hown, hts⟩ hK hP hD hS hA hT (kX5_northSpeed l D cI cB tE tN oM mN mA mP mR mT mL mB ks ln p1 p2 p3 p4 q1 q2 q3 q4 od spt wa hs (upd qc (4 + 5 * n + 0) (((mvF (goF f N t) n) (5 * n + 0)) + (cEast (mvF (goF f N t) n) n))) (upd (mvF (goF f N t) n) (5 * n + 0) ((mvF (goF f N t) n) (5 * n + 0) + cEast (mvF (goF f N t) n) n)) N n _ (hR2) (by have := Iv_mid1 (t := t) (n := n) (k := kn) hI hk60 (by omega) (by rw [hNN, ← hki]; exact hst) (by omega); rw [hNN] at this; exact this) (by rw [nN_upd (by omega), nN_mv (by omega), nN_go hN6, hNN]) (by omega)) gX5_putSteps_X5_northSpeed rfl rfl rfl (by decide +kernel) ⟨Nat.le_of_ble_eq_true rfl, Nat.le_of_ble_eq_true rfl⟩ [0, 1] [] [0, 1] (by decide) rfl rfl (by decide) (by decide) (by decide) (fun u => rfl) 0 5 rfl rfl rfl rfl hl.1 rfl (Nat.le_of_ble_eq_true rfl) dX5_putSteps_128 ⟨Nat.le_of_ble_eq_true rfl, Nat.le_of_ble_eq_true rfl⟩ (fun r_22 u H locs hw_23 hP hD hS => ?_)
      try dsimp only at hw_23
      have hP : va_P D vwCl [(oM, .inr (5, [.ref mN, .ref mA, .ref mP, .int (nI ks), .ref mR, .ref mT, .int (nI ln), .long p1, .long p2, .long p3, .long p4, .long q1, .long q2, .long q3, .long q4, .ref mL, .ref mB, .int od, .int spt, .int wa, .long hs])), (mN, .inl (cI, 39, .inl (upd qc (4 + 5 * n + 0) (((mvF (goF f N t) n) (5 * n + 0)) + (cEast (mvF (goF f N t) n) n)))))] H := hP
      have hD : va_D A [(oM, .inr (5, [.ref mN, .ref mA, .ref mP, .int (nI ks), .ref mR, .ref mT, .int (nI ln), .long p1, .long p2, .long p3, .long p4, .long q1, .long q2, .long q3, .long q4, .ref mL, .ref mB, .int od, .int spt, .int wa, .long hs])), (mN, .inl (cI, 39, .inl (upd qc (4 + 5 * n + 0) (((mvF (goF f N t) n) (5 * n + 0)) + (cEast (mvF (goF f N t) n) n)))))] := hD
      subst r_22
      refine lv_iadd hx hb dX5_putSteps_131 ?_
      refine z_VV (n := 3) (wn := (fun u : Unit => [(oM, .inr (5, [.ref mN, .ref mA, .ref mP, .int (nI ks), .ref mR, .ref mT, .int (nI ln), .long p1, .long p2, .long p3, .long p4, .long q1, .long q2, .long q3, .long q4, .ref mL, .ref mB, .int od, .int spt, .int wa, .long hs])), (mN, .inl (cI, 39, .inl (upd (upd qc (4 + 5 * n + 0) (((mvF (goF f N t) n) (5 * n + 0)) + (cEast (mvF (goF f N t) n) n))) (4 + 5 * n + 1) (((upd (mvF (goF f N t) n) (5 * n + 0) ((mvF (goF f N t) n) (5 * n + 0) + cEast (mvF (goF f N t) n) n)) (5 * n + 1)) + (cNorth (upd (mvF (goF f N t) n) (5 * n + 0) ((mvF (goF f N t) n) (5 * n + 0) + cEast (mvF (goF f N t) n) n)) n)))))])) (wr := []) (As := [.int (nI n), .int 1, .int (((upd (mvF (goF f N t) n) (5 * n + 0) ((mvF (goF f N t) n) (5 * n + 0) + cEast (mvF (goF f N t) n) n)) (5 * n + 1)) + (cNorth (upd (mvF (goF f N t) n) (5 * n + 0) ((mvF (goF f N t) n) (5 * n + 0) + cEast (mvF (goF f N t) n) n)) n))]) (rest := []) ⟨hx, hb, hml, hown, hts⟩ hK hP hD hS hA hT (kX5_tells l D cI cB tE tN oM mN mA mP mR mT mL mB ks ln p1 p2 p3 p4 q1 q2 q3 q4 od spt wa hs (upd qc (4 + 5 * n + 0) (((mvF (goF f N t) n) (5 * n + 0)) + (cEast (mvF (goF f N t) n) n))) n 1 (((upd (mvF (goF f N t) n) (5 * n + 0) ((mvF (goF f N t) n) (5 * n + 0) + cEast (mvF (goF f N t) n) n)) (5 * n + 1)) + (cNorth (upd (mvF (goF f N t) n) (5 * n + 0) ((mvF (goF f N t) n) (5 * n + 0) + cEast (mvF (goF f N t) n) n)) n)) _ (by omega) (by omega)) gX5_putSteps_X5_tells rfl rfl rfl (by decide +kernel) ⟨Nat.le_of_ble_eq_true rfl, Nat.le_of_ble_eq_true rfl⟩ [0, 1] [] [0, 1] (by decide) rfl rfl (by decide) (by decide) (by decide) (fun u => rfl) 0 5 rfl rfl rfl rfl hl.1 rfl (Nat.le_of_ble_eq_true rfl) dX5_putSteps_132 ⟨Nat.le_of_ble_eq_true rfl, Nat.le_of_ble_eq_true rfl⟩ (fun u H locs hw_25 hP hD hS => ?_)
      try dsimp only at hw_25
      have hP : va_P D vwCl [(oM, .inr (5, [.ref mN, .ref mA, .ref mP, .int (nI ks), .ref mR, .ref mT, .int (nI ln), .long p1, .long p2, .long p3, .long p4, .long q1, .long q2, .long q3, .long q4, .ref mL, .ref mB, .int od, .int spt, .int wa, .long hs])), (mN, .inl (cI, 39, .inl (upd (upd qc (4 + 5 * n + 0) (((mvF (goF f N t) n) (5 * n + 0)) + (cEast (mvF (goF f N t) n) n))) (4 + 5 * n + 1) (((upd (mvF (goF f N t) n) (5 * n + 0) ((mvF (goF f N t) n) (5 * n + 0) + cEast (mvF (goF f N t) n) n)) (5 * n + 1)) + (cNorth (upd (mvF (goF f N t) n) (5 * n + 0) ((mvF (goF f N t) n) (5 * n + 0) + cEast (mvF (goF f N t) n) n)) n)))))] H := hP
      have hD : va_D A [(oM, .inr (5, [.ref mN, .ref mA, .ref mP, .int (nI ks), .ref mR, .ref mT, .int (nI ln), .long p1, .long p2, .long p3, .long p4, .long q1, .long q2, .long q3, .long q4, .ref mL, .ref mB, .int od, .int spt, .int wa, .long hs])), (mN, .inl (cI, 39, .inl (upd (upd qc (4 + 5 * n + 0) (((mvF (goF f N t) n) (5 * n + 0)) + (cEast (mvF (goF f N t) n) n))) (4 + 5 * n + 1) (((upd (mvF (goF f N t) n) (5 * n + 0) ((mvF (goF f N t) n) (5 * n + 0) + cEast (mvF (goF f N t) n) n)) (5 * n + 1)) + (cNorth (upd (mvF (goF f N t) n) (5 * n + 0) ((mvF (goF f N t) n) (5 * n + 0) + cEast (mvF (goF f N t) n) n)) n)))))] := hD
      refine lv_iinc (v := nI (n + 1)) (lv' := [(4, .int (nI (n + 1))), (3, .int (nI t)), (0, .ref oM), (1, .int i)]) hx hb dX5_putSteps_135 hl (k := 0) rfl (z_add rfl rfl) (by decide) rfl (fun ls hl => ?_)
      refine lv_goto (tgt := 82) hx hb dX5_putSteps_138 (by decide) ?_
      exact ih _ (by omega) kn t (n + 1) (upd (upd qc (4 + 5 * n + 0) (((mvF (goF f N t) n) (5 * n + 0)) + (cEast (mvF (goF f N t) n) n))) (4 + 5 * n + 1) (((upd (mvF (goF f N t) n) (5 * n + 0) ((mvF (goF f N t) n) (5 * n + 0) + cEast (mvF (goF f N t) n) n)) (5 * n + 1)) + (cNorth (upd (mvF (goF f N t) n) (5 * n + 0) ((mvF (goF f N t) n) (5 * n + 0) + cEast (mvF (goF f N t) n) n)) n))) p1 p2 p3 p4 q1 q2 q3 q4 _ _ _ rfl hki hk60 hk1 h01 (by omega) (by omega) hst (hR2.put (n := n) (k := 1) (by omega) (by omega) hN6 _) hk74 hP hD hS (lv_sub hl [0, 1, 2, 3] rfl)
  have lp74 : ∀ (k : Nat) (kn : Nat) (t : Nat) (x : Int32) (qc : Nat → Int32) (p1 : Int64) (p2 : Int64) (p3 : Int64) (p4 : Int64) (q1 : Int64) (q2 : Int64) (q3 : Int64) (q4 : Int64) (H : Heap) (locs : List Loc) (ls : Array Slot), kn - t = k → (i = nI kn) → (kn ≤ 60) → (1 ≤ kn) → (¬ i < 1 ∧ ¬ 60 < i) → (t ≤ kn) → (cStay f N i = true) → (Rg N (goF f N t) qc) → (1 ≤ t → x = gwF (goF f N t) N) → va_P D vwCl [(oM, .inr (5, [.ref mN, .ref mA, .ref mP, .int (nI ks), .ref mR, .ref mT, .int (nI ln), .long p1, .long p2, .long p3, .long p4, .long q1, .long q2, .long q3, .long q4, .ref mL, .ref mB, .int od, .int spt, .int wa, .long hs])), (mN, .inl (cI, 39, .inl qc))] H → va_D A [(oM, .inr (5, [.ref mN, .ref mA, .ref mP, .int (nI ks), .ref mR, .ref mT, .int (nI ln), .long p1, .long p2, .long p3, .long p4, .long q1, .long q2, .long q3, .long q4, .ref mL, .ref mB, .int od, .int spt, .int wa, .long hs])), (mN, .inl (cI, 39, .inl qc))] → va_S A s.heap H locs → lv_has ls 5 [(3, .int (nI t)), (2, .int x), (0, .ref oM), (1, .int i)] → W p l e ({ frames := 7, cells := 0, slots := 0, locals := 169 } : Room) s m ([.ref oM, .int i] : List Value).toArray below meth c H locs 0 0 Q (F0 m 74 ls []) := by
    intro k
    induction k using Nat.strongRecOn with
    | ind k ih =>
    intro kn t x qc p1 p2 p3 p4 q1 q2 q3 q4 H locs ls hk hki hk60 hk1 h01 ht hst hR1 hxx hP hD hS hl
    refine lv_iload_n hx hb dX5_putSteps_74 rfl (lv_at hl 0 rfl) ?_
    refine lv_iload_n hx hb dX5_putSteps_75 rfl (lv_at hl 3 rfl) ?_
    refine lv_icmp_ge (tgt := 152) hx hb dX5_putSteps_76 (by decide) (fun c_26 => ?_) (fun c_26 => ?_)
    · skip
      have c_26 := (z_le (a := kn) (b := t) hki rfl (by omega) (by omega)).mp c_26
      refine lv_aload_n hx hb dX5_putSteps_152 rfl (lv_at hl 2 rfl) ?_
      refine va_get (D := D) (ci := 5) (v := .ref mN) (C := RX5) (T := TX5) (N := 21) hx hb hts N5 hown hK hP 0 rfl rfl 0 (by decide) L7 (fun _ h9 => h9) rfl dX5_putSteps_153 ?_
      refine lv_iconst (v := 3) hx hb dX5_putSteps_156 (by decide) ?_
      refine lv_dup2_11 hx hb dX5_putSteps_157 rfl rfl ?_
      refine z_ild (v := goF f N t 38) (j := 3) hx hb hK hP 1 rfl rfl (by omega) (by decide) (hR1.2.2.2.1) dX5_putSteps_158 ?_
      refine lv_iload_n hx hb dX5_putSteps_159 rfl (lv_at hl 3 rfl) ?_
      refine lv_iadd hx hb dX5_putSteps_160 ?_
      refine z_ist (j := 3) hx hb hK hP hD hS 1 rfl rfl (by omega) (by decide) dX5_putSteps_161 (fun H locs hP hD hS => ?_)
      have hP : va_P D vwCl [(oM, .inr (5, [.ref mN, .ref mA, .ref mP, .int (nI ks), .ref mR, .ref mT, .int (nI ln), .long p1, .long p2, .long p3, .long p4, .long q1, .long q2, .long q3, .long q4, .ref mL, .ref mB, .int od, .int spt, .int wa, .long hs])), (mN, .inl (cI, 39, .inl (upd qc 3 ((goF f N t 38) + i))))] H := hP
      have hD : va_D A [(oM, .inr (5, [.ref mN, .ref mA, .ref mP, .int (nI ks), .ref mR, .ref mT, .int (nI ln), .long p1, .long p2, .long p3, .long p4, .long q1, .long q2, .long q3, .long q4, .ref mL, .ref mB, .int od, .int spt, .int wa, .long hs])), (mN, .inl (cI, 39, .inl (upd qc 3 ((goF f N t 38) + i))))] := hD
      refine lv_iload_n hx hb dX5_putSteps_162 rfl (lv_at hl 1 rfl) ?_
      exact hQ x (upd qc 3 ((goF f N t 38) + i), p1, p2, p3, p4, q1, q2, q3, q4) _ _ _ _ (rfl) (by rw [go_ok hki hk60 h01 hst, show kn = t by omega, nN_upd (by omega), nN_go hN6, hNN]; exact ⟨by rw [hxx (by omega)]; exact gwF_congr (fun k h1 h2 => by rw [upd_ne (by omega)]), Rg_cell hR1 hN6 (k := 3) (by omega)⟩) hP hD hS dX5_putSteps_163
    · skip
      have c_26 := (z_len (a := kn) (b := t) hki rfl (by omega) (by omega)).mp c_26
      refine lv_iconst (v := 0) hx hb dX5_putSteps_79 (by decide) ?_
      refine lv_istore (lv' := [(4, .int 0), (3, .int (nI t)), (2, .int x), (0, .ref oM), (1, .int i)]) hx hb dX5_putSteps_80 hl (by decide) rfl (fun ls hl => ?_)
      exact lp82 _ kn t 0 qc p1 p2 p3 p4 q1 q2 q3 q4 _ _ _ rfl hki hk60 hk1 h01 (by omega) (by omega) hst hR1 (fun x qc p1 p2 p3 p4 q1 q2 q3 q4 H locs ls a b hP hD hS hl => ih _ (by omega) kn (t + 1) x qc p1 p2 p3 p4 q1 q2 q3 q4 H locs ls rfl hki hk60 hk1 h01 (by omega) hst a b hP hD hS hl) hP hD hS (lv_sub hl [0, 1, 3, 4] rfl)
  have lp16 : ∀ (k : Nat) (kn : Nat) (n : Nat) (H : Heap) (locs : List Loc) (ls : Array Slot), N + 1 - n = k → (i = nI kn) → (kn ≤ 60) → (1 ≤ kn) → (¬ i < 1 ∧ ¬ 60 < i) → (n ≤ N + 1) → (∀ j, j < n → cPlace (f (5 * j + 0) + i * cEast f j) = true ∧ cPlace (f (5 * j + 1) + i * cNorth f j) = true) → va_P D vwCl [(oM, .inr (5, [.ref mN, .ref mA, .ref mP, .int (nI ks), .ref mR, .ref mT, .int (nI ln), .long x1, .long x2, .long x3, .long x4, .long y1, .long y2, .long y3, .long y4, .ref mL, .ref mB, .int od, .int spt, .int wa, .long hs])), (mN, .inl (cI, 39, .inl qn))] H → va_D A [(oM, .inr (5, [.ref mN, .ref mA, .ref mP, .int (nI ks), .ref mR, .ref mT, .int (nI ln), .long x1, .long x2, .long x3, .long x4, .long y1, .long y2, .long y3, .long y4, .ref mL, .ref mB, .int od, .int spt, .int wa, .long hs])), (mN, .inl (cI, 39, .inl qn))] → va_S A s.heap H locs → lv_has ls 5 [(2, .int (nI n)), (0, .ref oM), (1, .int i)] → W p l e ({ frames := 7, cells := 0, slots := 0, locals := 169 } : Room) s m ([.ref oM, .int i] : List Value).toArray below meth c H locs 0 0 Q (F0 m 16 ls []) := by
    intro k
    induction k using Nat.strongRecOn with
    | ind k ih =>
    intro kn n H locs ls hk hki hk60 hk1 h01 hn hi hP hD hS hl
    refine lv_iload_n hx hb dX5_putSteps_16 rfl (lv_at hl 0 rfl) ?_
    refine lv_aload_n hx hb dX5_putSteps_17 rfl (lv_at hl 1 rfl) ?_
    refine va_get (D := D) (ci := 5) (v := .ref mN) (C := RX5) (T := TX5) (N := 21) hx hb hts N5 hown hK hP 0 rfl rfl 0 (by decide) L7 (fun _ h9 => h9) rfl dX5_putSteps_18 ?_
    refine lv_iconst (v := 0) hx hb dX5_putSteps_21 (by decide) ?_
    refine z_ild (v := nI (N + 1)) (j := 0) hx hb hK hP 1 rfl rfl (by omega) (by decide) (hR.1) dX5_putSteps_22 ?_
    refine lv_icmp_ge (tgt := 70) hx hb dX5_putSteps_23 (by decide) (fun c_27 => ?_) (fun c_27 => ?_)
    · skip
      have c_27 := (z_le (a := N + 1) (b := n) rfl rfl (by omega) (by omega)).mp c_27
      refine lv_iconst (v := 0) hx hb dX5_putSteps_70 (by decide) ?_
      refine lv_istore_n (lv' := [(2, .int 0), (0, .ref oM), (1, .int i)]) hx hb dX5_putSteps_71 rfl hl (by decide) rfl (fun ls hl => ?_)
      refine lv_iconst (v := 0) hx hb dX5_putSteps_72 (by decide) ?_
      refine lv_istore_n (lv' := [(3, .int 0), (2, .int 0), (0, .ref oM), (1, .int i)]) hx hb dX5_putSteps_73 rfl hl (by decide) rfl (fun ls hl => ?_)
      exact lp74 _ kn 0 0 qn x1 x2 x3 x4 y1 y2 y3 y4 _ _ _ rfl hki hk60 hk1 h01 (by omega) (cStay_t (fun j h => hi j (by omega))) hR (fun h => absurd h (by omega)) hP hD hS (lv_sub hl [0, 1, 2, 3] rfl)
    · skip
      have c_27 := (z_len (a := N + 1) (b := n) rfl rfl (by omega) (by omega)).mp c_27
      refine lv_aload_n hx hb dX5_putSteps_26 rfl (lv_at hl 1 rfl) ?_
      refine lv_iload_n hx hb dX5_putSteps_27 rfl (lv_at hl 0 rfl) ?_
      refine lv_iconst (v := 0) hx hb dX5_putSteps_28 (by decide) ?_
      refine z_VI (n := 2) (wn := (fun u : Unit => [(oM, .inr (5, [.ref mN, .ref mA, .ref mP, .int (nI ks), .ref mR, .ref mT, .int (nI ln), .long x1, .long x2, .long x3, .long x4, .long y1, .long y2, .long y3, .long y4, .ref mL, .ref mB, .int od, .int spt, .int wa, .long hs])), (mN, .inl (cI, 39, .inl qn))])) (wr := []) (As := [.int (nI n), .int 0]) (rest := []) ⟨hx, hb, hml, hown, hts⟩ hK hP hD hS hA hT (kX5_shipOf l D cI cB tE tN oM mN mA mP mR mT mL mB ks ln x1 x2 x3 x4 y1 y2 y3 y4 od spt wa hs qn f N n 0 _ (hR) (hI) (hNN) (by omega) (by omega)) gX5_putSteps_X5_shipOf rfl rfl rfl (by decide +kernel) ⟨Nat.le_of_ble_eq_true rfl, Nat.le_of_ble_eq_true rfl⟩ [0, 1] [] [0, 1] (by decide) rfl rfl (by decide) (by decide) (by decide) (fun u => rfl) 0 5 rfl rfl rfl rfl hl.1 rfl (Nat.le_of_ble_eq_true rfl) dX5_putSteps_29 ⟨Nat.le_of_ble_eq_true rfl, Nat.le_of_ble_eq_true rfl⟩ (fun r_28 u H locs hw_29 hP hD hS => ?_)
      try dsimp only at hw_29
      have hP : va_P D vwCl [(oM, .inr (5, [.ref mN, .ref mA, .ref mP, .int (nI ks), .ref mR, .ref mT, .int (nI ln), .long x1, .long x2, .long x3, .long x4, .long y1, .long y2, .long y3, .long y4, .ref mL, .ref mB, .int od, .int spt, .int wa, .long hs])), (mN, .inl (cI, 39, .inl qn))] H := hP
      have hD : va_D A [(oM, .inr (5, [.ref mN, .ref mA, .ref mP, .int (nI ks), .ref mR, .ref mT, .int (nI ln), .long x1, .long x2, .long x3, .long x4, .long y1, .long y2, .long y3, .long y4, .ref mL, .ref mB, .int od, .int spt, .int wa, .long hs])), (mN, .inl (cI, 39, .inl qn))] := hD
      subst r_28
      refine lv_iload_n hx hb dX5_putSteps_32 rfl (lv_at hl 2 rfl) ?_
      refine lv_aload_n hx hb dX5_putSteps_33 rfl (lv_at hl 1 rfl) ?_
      refine lv_iload_n hx hb dX5_putSteps_34 rfl (lv_at hl 0 rfl) ?_
      refine z_VI (n := 1) (wn := (fun u : Unit => [(oM, .inr (5, [.ref mN, .ref mA, .ref mP, .int (nI ks), .ref mR, .ref mT, .int (nI ln), .long x1, .long x2, .long x3, .long x4, .long y1, .long y2, .long y3, .long y4, .ref mL, .ref mB, .int od, .int spt, .int wa, .long hs])), (mN, .inl (cI, 39, .inl qn))])) (wr := []) (As := [.int (nI n)]) (rest := [.int i, .int (f (5 * n + 0))]) ⟨hx, hb, hml, hown, hts⟩ hK hP hD hS hA hT (kX5_eastSpeed l D cI cB tE tN oM mN mA mP mR mT mL mB ks ln x1 x2 x3 x4 y1 y2 y3 y4 od spt wa hs qn f N n _ (hR) (hI) (hNN) (by omega)) gX5_putSteps_X5_eastSpeed rfl rfl rfl (by decide +kernel) ⟨Nat.le_of_ble_eq_true rfl, Nat.le_of_ble_eq_true rfl⟩ [0, 1] [] [0, 1] (by decide) rfl rfl (by decide) (by decide) (by decide) (fun u => rfl) 0 5 rfl rfl rfl rfl hl.1 rfl (Nat.le_of_ble_eq_true rfl) dX5_putSteps_35 ⟨Nat.le_of_ble_eq_true rfl, Nat.le_of_ble_eq_true rfl⟩ (fun r_30 u H locs hw_31 hP hD hS => ?_)
      try dsimp only at hw_31
      have hP : va_P D vwCl [(oM, .inr (5, [.ref mN, .ref mA, .ref mP, .int (nI ks), .ref mR, .ref mT, .int (nI ln), .long x1, .long x2, .long x3, .long x4, .long y1, .long y2, .long y3, .long y4, .ref mL, .ref mB, .int od, .int spt, .int wa, .long hs])), (mN, .inl (cI, 39, .inl qn))] H := hP
      have hD : va_D A [(oM, .inr (5, [.ref mN, .ref mA, .ref mP, .int (nI ks), .ref mR, .ref mT, .int (nI ln), .long x1, .long x2, .long x3, .long x4, .long y1, .long y2, .long y3, .long y4, .ref mL, .ref mB, .int od, .int spt, .int wa, .long hs])), (mN, .inl (cI, 39, .inl qn))] := hD
      subst r_30
      refine lv_imul hx hb dX5_putSteps_38 ?_
      refine lv_iadd hx hb dX5_putSteps_39 ?_
      refine lv_aload_n hx hb dX5_putSteps_40 rfl (lv_at hl 1 rfl) ?_
      refine lv_iload_n hx hb dX5_putSteps_41 rfl (lv_at hl 0 rfl) ?_
      refine lv_iconst (v := 1) hx hb dX5_putSteps_42 (by decide) ?_
      refine z_VI (n := 2) (wn := (fun u : Unit => [(oM, .inr (5, [.ref mN, .ref mA, .ref mP, .int (nI ks), .ref mR, .ref mT, .int (nI ln), .long x1, .long x2, .long x3, .long x4, .long y1, .long y2, .long y3, .long y4, .ref mL, .ref mB, .int od, .int spt, .int wa, .long hs])), (mN, .inl (cI, 39, .inl qn))])) (wr := []) (As := [.int (nI n), .int 1]) (rest := [.int ((f (5 * n + 0)) + (i * (cEast f n)))]) ⟨hx, hb, hml, hown, hts⟩ hK hP hD hS hA hT (kX5_shipOf l D cI cB tE tN oM mN mA mP mR mT mL mB ks ln x1 x2 x3 x4 y1 y2 y3 y4 od spt wa hs qn f N n 1 _ (hR) (hI) (hNN) (by omega) (by omega)) gX5_putSteps_X5_shipOf rfl rfl rfl (by decide +kernel) ⟨Nat.le_of_ble_eq_true rfl, Nat.le_of_ble_eq_true rfl⟩ [0, 1] [] [0, 1] (by decide) rfl rfl (by decide) (by decide) (by decide) (fun u => rfl) 0 5 rfl rfl rfl rfl hl.1 rfl (Nat.le_of_ble_eq_true rfl) dX5_putSteps_43 ⟨Nat.le_of_ble_eq_true rfl, Nat.le_of_ble_eq_true rfl⟩ (fun r_32 u H locs hw_33 hP hD hS => ?_)
      try dsimp only at hw_33
      have hP : va_P D vwCl [(oM, .inr (5, [.ref mN, .ref mA, .ref mP, .int (nI ks), .ref mR, .ref mT, .int (nI ln), .long x1, .long x2, .long x3, .long x4, .long y1, .long y2, .long y3, .long y4, .ref mL, .ref mB, .int od, .int spt, .int wa, .long hs])), (mN, .inl (cI, 39, .inl qn))] H := hP
      have hD : va_D A [(oM, .inr (5, [.ref mN, .ref mA, .ref mP, .int (nI ks), .ref mR, .ref mT, .int (nI ln), .long x1, .long x2, .long x3, .long x4, .long y1, .long y2, .long y3, .long y4, .ref mL, .ref mB, .int od, .int spt, .int wa, .long hs])), (mN, .inl (cI, 39, .inl qn))] := hD
      subst r_32
      refine lv_iload_n hx hb dX5_putSteps_46 rfl (lv_at hl 2 rfl) ?_
      refine lv_aload_n hx hb dX5_putSteps_47 rfl (lv_at hl 1 rfl) ?_
      refine lv_iload_n hx hb dX5_putSteps_48 rfl (lv_at hl 0 rfl) ?_
      refine z_VI (n := 1) (wn := (fun u : Unit => [(oM, .inr (5, [.ref mN, .ref mA, .ref mP, .int (nI ks), .ref mR, .ref mT, .int (nI ln), .long x1, .long x2, .long x3, .long x4, .long y1, .long y2, .long y3, .long y4, .ref mL, .ref mB, .int od, .int spt, .int wa, .long hs])), (mN, .inl (cI, 39, .inl qn))])) (wr := []) (As := [.int (nI n)]) (rest := [.int i, .int (f (5 * n + 1)), .int ((f (5 * n + 0)) + (i * (cEast f n)))]) ⟨hx, hb, hml, hown, hts⟩ hK hP hD hS hA hT (kX5_northSpeed l D cI cB tE tN oM mN mA mP mR mT mL mB ks ln x1 x2 x3 x4 y1 y2 y3 y4 od spt wa hs qn f N n _ (hR) (hI) (hNN) (by omega)) gX5_putSteps_X5_northSpeed rfl rfl rfl (by decide +kernel) ⟨Nat.le_of_ble_eq_true rfl, Nat.le_of_ble_eq_true rfl⟩ [0, 1] [] [0, 1] (by decide) rfl rfl (by decide) (by decide) (by decide) (fun u => rfl) 0 5 rfl rfl rfl rfl hl.1 rfl (Nat.le_of_ble_eq_true rfl) dX5_putSteps_49 ⟨Nat.le_of_ble_eq_true rfl, Nat.le_of_ble_eq_true rfl⟩ (fun r_34 u H locs hw_35 hP hD hS => ?_)
      try dsimp only at hw_35
      have hP : va_P D vwCl [(oM, .inr (5, [.ref mN, .ref mA, .ref mP, .int (nI ks), .ref mR, .ref mT, .int (nI ln), .long x1, .long x2, .long x3, .long x4, .long y1, .long y2, .long y3, .long y4, .ref mL, .ref mB, .int od, .int spt, .int wa, .long hs])), (mN, .inl (cI, 39, .inl qn))] H := hP
      have hD : va_D A [(oM, .inr (5, [.ref mN, .ref mA, .ref mP, .int (nI ks), .ref mR, .ref mT, .int (nI ln), .long x1, .long x2, .long x3, .long x4, .long y1, .long y2, .long y3, .long y4, .ref mL, .ref mB, .int od, .int spt, .int wa, .long hs])), (mN, .inl (cI, 39, .inl qn))] := hD
      subst r_34
      refine lv_imul hx hb dX5_putSteps_52 ?_
      refine lv_iadd hx hb dX5_putSteps_53 ?_
      refine z_SI (n := 2) (wn := (fun u : Unit => [(oM, .inr (5, [.ref mN, .ref mA, .ref mP, .int (nI ks), .ref mR, .ref mT, .int (nI ln), .long x1, .long x2, .long x3, .long x4, .long y1, .long y2, .long y3, .long y4, .ref mL, .ref mB, .int od, .int spt, .int wa, .long hs])), (mN, .inl (cI, 39, .inl qn))])) (wr := [(oM, .inr (5, [.ref mN, .ref mA, .ref mP, .int (nI ks), .ref mR, .ref mT, .int (nI ln), .long x1, .long x2, .long x3, .long x4, .long y1, .long y2, .long y3, .long y4, .ref mL, .ref mB, .int od, .int spt, .int wa, .long hs])), (mN, .inl (cI, 39, .inl qn))]) (As := [.int ((f (5 * n + 0)) + (i * (cEast f n))), .int ((f (5 * n + 1)) + (i * (cNorth f n)))]) (rest := []) ⟨hx, hb, hml, hown, hts⟩ hK hP hD hS hA hT (kX5_isPlace l D cI cB tE tN ((f (5 * n + 0)) + (i * (cEast f n))) ((f (5 * n + 1)) + (i * (cNorth f n))) _ ) gX5_putSteps_X5_isPlace rfl rfl rfl (by decide +kernel) ⟨Nat.le_of_ble_eq_true rfl, Nat.le_of_ble_eq_true rfl⟩ [] [0, 1] [0, 1] (by decide) rfl rfl (by decide) (by decide) (by decide) (fun u => rfl) rfl hl.1 rfl (Nat.le_of_ble_eq_true rfl) dX5_putSteps_54 ⟨Nat.le_of_ble_eq_true rfl, Nat.le_of_ble_eq_true rfl⟩ (fun r_36 u H locs hw_37 hP hD hS => ?_)
      try dsimp only at hw_37
      have hP : va_P D vwCl [(oM, .inr (5, [.ref mN, .ref mA, .ref mP, .int (nI ks), .ref mR, .ref mT, .int (nI ln), .long x1, .long x2, .long x3, .long x4, .long y1, .long y2, .long y3, .long y4, .ref mL, .ref mB, .int od, .int spt, .int wa, .long hs])), (mN, .inl (cI, 39, .inl qn))] H := hP
      have hD : va_D A [(oM, .inr (5, [.ref mN, .ref mA, .ref mP, .int (nI ks), .ref mR, .ref mT, .int (nI ln), .long x1, .long x2, .long x3, .long x4, .long y1, .long y2, .long y3, .long y4, .ref mL, .ref mB, .int od, .int spt, .int wa, .long hs])), (mN, .inl (cI, 39, .inl qn))] := hD
      subst r_36
      refine lv_if_ne (tgt := 64) hx hb dX5_putSteps_57 (by decide) (fun c_38 => ?_) (fun c_38 => ?_)
      · skip
        have c_38 := z_b1 c_38
        refine lv_iinc (v := nI (n + 1)) (lv' := [(2, .int (nI (n + 1))), (0, .ref oM), (1, .int i)]) hx hb dX5_putSteps_64 hl (k := 0) rfl (z_add rfl rfl) (by decide) rfl (fun ls hl => ?_)
        refine lv_goto (tgt := 16) hx hb dX5_putSteps_67 (by decide) ?_
        exact ih _ (by omega) kn (n + 1) _ _ _ rfl hki hk60 hk1 h01 (by omega) (z_all hi (Bool.and_eq_true_iff.mp c_38)) hP hD hS (lv_sub hl [0, 1, 2] rfl)
      · skip
        have c_38 := z_b0 c_38
        refine lv_sipush (v := (-10003)) hx hb dX5_putSteps_60 (by decide) ?_
        exact hQ (-10003) (qn, x1, x2, x3, x4, y1, y2, y3, y4) _ _ _ _ (rfl) (by rw [go_no h01 (cStay_f (i := n) (by omega) (Bool.and_eq_false_iff.mp c_38))]; exact ⟨rfl, by rw [hNN]; exact hR⟩) hP hD hS dX5_putSteps_63
  refine lv_iload_n hx hb dX5_putSteps_0 rfl (lv_at hl 1 rfl) ?_
  refine lv_iconst (v := 1) hx hb dX5_putSteps_1 (by decide) ?_
  refine lv_bipush (v := 60) hx hb dX5_putSteps_2 (by decide) ?_
  refine z_SI (n := 3) (wn := (fun u : Unit => [(oM, .inr (5, [.ref mN, .ref mA, .ref mP, .int (nI ks), .ref mR, .ref mT, .int (nI ln), .long x1, .long x2, .long x3, .long x4, .long y1, .long y2, .long y3, .long y4, .ref mL, .ref mB, .int od, .int spt, .int wa, .long hs])), (mN, .inl (cI, 39, .inl qn))])) (wr := [(oM, .inr (5, [.ref mN, .ref mA, .ref mP, .int (nI ks), .ref mR, .ref mT, .int (nI ln), .long x1, .long x2, .long x3, .long x4, .long y1, .long y2, .long y3, .long y4, .ref mL, .ref mB, .int od, .int spt, .int wa, .long hs])), (mN, .inl (cI, 39, .inl qn))]) (As := [.int i, .int 1, .int 60]) (rest := []) ⟨hx, hb, hml, hown, hts⟩ hK hP hD hS hA hT (kX5_in l D cI cB tE tN i 1 60 _ ) gX5_putSteps_X5_in rfl rfl rfl (by decide +kernel) ⟨Nat.le_of_ble_eq_true rfl, Nat.le_of_ble_eq_true rfl⟩ [] [0, 1] [0, 1] (by decide) rfl rfl (by decide) (by decide) (by decide) (fun u => rfl) rfl hl.1 rfl (Nat.le_of_ble_eq_true rfl) dX5_putSteps_4 ⟨Nat.le_of_ble_eq_true rfl, Nat.le_of_ble_eq_true rfl⟩ (fun r_39 u H locs hw_40 hP hD hS => ?_)
  try dsimp only at hw_40
  have hP : va_P D vwCl [(oM, .inr (5, [.ref mN, .ref mA, .ref mP, .int (nI ks), .ref mR, .ref mT, .int (nI ln), .long x1, .long x2, .long x3, .long x4, .long y1, .long y2, .long y3, .long y4, .ref mL, .ref mB, .int od, .int spt, .int wa, .long hs])), (mN, .inl (cI, 39, .inl qn))] H := hP
  have hD : va_D A [(oM, .inr (5, [.ref mN, .ref mA, .ref mP, .int (nI ks), .ref mR, .ref mT, .int (nI ln), .long x1, .long x2, .long x3, .long x4, .long y1, .long y2, .long y3, .long y4, .ref mL, .ref mB, .int od, .int spt, .int wa, .long hs])), (mN, .inl (cI, 39, .inl qn))] := hD
  subst r_39
  refine lv_if_ne (tgt := 14) hx hb dX5_putSteps_7 (by decide) (fun c_41 => ?_) (fun c_41 => ?_)
  · skip
    have c_41 := z_b1 c_41
    have h01 := of_decide_eq_true c_41
    obtain ⟨kn, hki, hk60⟩ := z_nat (b := 60) (z_ge0 h01.1) (Int32.not_lt.mp h01.2) (by decide)
    have hk1 : 1 ≤ kn := z_ge1 hki hk60 h01.1
    refine lv_iconst (v := 0) hx hb dX5_putSteps_14 (by decide) ?_
    refine lv_istore_n (lv' := [(2, .int 0), (0, .ref oM), (1, .int i)]) hx hb dX5_putSteps_15 rfl hl (by decide) rfl (fun ls hl => ?_)
    exact lp16 _ kn 0 _ _ _ rfl hki hk60 hk1 h01 (by omega) (fun j h => absurd h (Nat.not_lt_zero j)) hP hD hS (lv_sub hl [0, 1, 2] rfl)
  · skip
    have c_41 := z_b0 c_41
    refine lv_sipush (v := (-10002)) hx hb dX5_putSteps_10 (by decide) ?_
    exact hQ (-10002) (qn, x1, x2, x3, x4, y1, y2, y3, y4) _ _ _ _ (rfl) (by rw [go_bad c_41]; exact ⟨rfl, by rw [hNN]; exact hR⟩) hP hD hS dX5_putSteps_13
