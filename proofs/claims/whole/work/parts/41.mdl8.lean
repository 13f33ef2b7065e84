def WI (f : Nat → Int32) (w0 : Int64 × Int64 × Int64 × Int64) (n : Nat) (x : Int32) (z : Int64 × Int64 × Int64 × Int64) : Prop := x = (wsF f w0 n).1 ∧ (¬ x = -10001 → z = rdF (wsF f w0 n).2 ∧ Gd (wsF f w0 n).2)
theorem ws_no {f : Nat → Int32} {w0 z : Int64 × Int64 × Int64 × Int64} {n : Nat} {x : Int32} (h : cHR f 0 (n + 1) = false) (hi : WI f w0 n x z) : WI f w0 (n + 1) x z := by
  have e : wsF f w0 (n + 1) = wsF f w0 n := by rw [wsF, if_neg (by rw [h]; rintro ⟨q, -⟩; exact Bool.noConfusion q)]
  rw [WI, e]; exact hi
theorem ws_new {f : Nat → Int32} {w0 q : Int64 × Int64 × Int64 × Int64} {n : Nat} (e : wsF f w0 (n + 1) = (nI (n + 1), cMh f 0 (n + 1))) (hq : q = rdF (cMh f 0 (n + 1))) (hg : Gd (cMh f 0 (n + 1))) : WI f w0 (n + 1) (nI (n + 1)) q := by
  rw [WI, e]; exact ⟨rfl, fun _ => ⟨hq, hg⟩⟩
theorem ws_first {f : Nat → Int32} {w0 z q : Int64 × Int64 × Int64 × Int64} {n : Nat} {x : Int32} (h : cHR f 0 (n + 1) = true) (hx : x = -10001) (hq : q = rdF (cMh f 0 (n + 1))) (hg : Gd (cMh f 0 (n + 1))) (hi : WI f w0 n x z) : WI f w0 (n + 1) (nI (n + 1)) q := by
  refine ws_new ?_ hq hg
  rw [wsF, if_pos ⟨h, Or.inl (by rw [← hi.1]; exact hx)⟩]
theorem ws_take {f : Nat → Int32} {w0 : Int64 × Int64 × Int64 × Int64} {z1 z2 z3 z4 q1 q2 q3 q4 : Int64} {n : Nat} {x : Int32} (h : cHR f 0 (n + 1) = true) (hx : ¬ x = -10001) (hq : (q1, q2, q3, q4) = rdF (cMh f 0 (n + 1))) (hg : Gd (cMh f 0 (n + 1))) (hi : WI f w0 n x (z1, z2, z3, z4)) (hc : q1 * z2 - z1 * q2 < 0 ∨ q1 * z2 - z1 * q2 = 0 ∧ q3 * z4 - z3 * q4 < 0) : WI f w0 (n + 1) (nI (n + 1)) (q1, q2, q3, q4) := by
  refine ws_new ?_ hq hg
  obtain ⟨hz, hG⟩ := hi.2 hx
  have hw : cWorse (cMh f 0 (n + 1)) (wsF f w0 n).2 = true := by
    rw [worse_rd hg hG, ← hq, ← hz]
    exact decide_eq_true hc
  rw [wsF, if_pos ⟨h, Or.inr hw⟩]
theorem ws_skip {f : Nat → Int32} {w0 : Int64 × Int64 × Int64 × Int64} {z1 z2 z3 z4 q1 q2 q3 q4 : Int64} {n : Nat} {x : Int32} (h : cHR f 0 (n + 1) = true) (hx : ¬ x = -10001) (hq : (q1, q2, q3, q4) = rdF (cMh f 0 (n + 1))) (hg : Gd (cMh f 0 (n + 1))) (hi : WI f w0 n x (z1, z2, z3, z4)) (hc : ¬ (q1 * z2 - z1 * q2 < 0 ∨ q1 * z2 - z1 * q2 = 0 ∧ q3 * z4 - z3 * q4 < 0)) : WI f w0 (n + 1) x (z1, z2, z3, z4) := by
  obtain ⟨hz, hG⟩ := hi.2 hx
  have e : wsF f w0 (n + 1) = wsF f w0 n := by
    rw [wsF, if_neg]
    rintro ⟨-, q | q⟩
    · exact hx (by rw [hi.1]; exact q)
    · rw [worse_rd hg hG, ← hq, ← hz] at q
      exact hc (of_decide_eq_true q)
  rw [WI, e]; exact hi
theorem rd123 {N w : Nat} {f q : Nat → Int32} (h : Rg N f q) (h1 : 1 ≤ w) (h3 : w ≤ 3) : q w = f (35 + w) := by
  rcases (show w = 1 ∨ w = 2 ∨ w = 3 by omega) with rfl | rfl | rfl
  · exact h.2.1
  · exact h.2.2.1
  · exact h.2.2.2.1
def Rf3 (cb cn cf : Int32) (rf : Nat → Int32) : Prop := rf 0 = cb ∧ rf 1 = cn ∧ rf 2 = cf
theorem tl_rf {cb cn cf : Int32} {rf : Nat → Int32} {ln kp w : Nat} (h : Rf3 cb cn cf rf) (hw : w < 3) : rf w = tlF cb cn cf ln kp (nI w) := by
  rcases (show w = 0 ∨ w = 1 ∨ w = 2 by omega) with rfl | rfl | rfl
  · exact h.1
  · exact h.2.1
  · exact h.2.2
set_option maxHeartbeats 4000000 in
set_option maxRecDepth 100000 in
theorem kX5_worst (l : Launch) (D : va_G) (cI cB : ClassId) (tE tN : Nat) (oM : Nat) (mN : Nat) (mA : Nat) (mP : Nat) (mR : Nat) (mT : Nat) (mL : Nat) (mB : Nat) (ks : Nat) (ln : Nat) (x1 : Int64) (x2 : Int64) (x3 : Int64) (x4 : Int64) (y1 : Int64) (y2 : Int64) (y3 : Int64) (y4 : Int64) (od : Int32) (spt : Int32) (wa : Int32) (hs : Int64) (qn : Nat → Int32) (f : Nat → Int32) (N : Nat) (w0 : Int64 × Int64 × Int64 × Int64) (sz : Nat) (hR : Rg N f qn) (hI : Iv f) (hNN : nN f = N) : zI l yX5_worst wsX5_worst ({ frames := 5, cells := 0, slots := 0, locals := 111 }) D cI cB tE tN [.ref oM] [(oM, .inr (5, [.ref mN, .ref mA, .ref mP, .int (nI ks), .ref mR, .ref mT, .int (nI ln), .long x1, .long x2, .long x3, .long x4, .long y1, .long y2, .long y3, .long y4, .ref mL, .ref mB, .int od, .int spt, .int wa, .long hs])), (mN, .inl (cI, 39, .inl qn))] sz (fun u : Int64 × Int64 × Int64 × Int64 × Int64 × Int64 × Int64 × Int64 => [(oM, .inr (5, [.ref mN, .ref mA, .ref mP, .int (nI ks), .ref mR, .ref mT, .int (nI ln), .long u.1, .long u.2.1, .long u.2.2.1, .long u.2.2.2.1, .long u.2.2.2.2.1, .long u.2.2.2.2.2.1, .long u.2.2.2.2.2.2.1, .long u.2.2.2.2.2.2.2, .ref mL, .ref mB, .int od, .int spt, .int wa, .long hs])), (mN, .inl (cI, 39, .inl qn))]) (fun (r : Int32) (u : Int64 × Int64 × Int64 × Int64 × Int64 × Int64 × Int64 × Int64) => r = (wsF f w0 N).1) 0 0 := by
  refine zI_mk (cc := cX5_worst) (maxL := 15) (rt := .int) (by decide) rfl (Nat.le_of_ble_eq_true rfl) ?_
  intro p e s m below meth c A Q ls S0 hname hA hK hP hD hT hS hQ hl
  obtain ⟨hx, hb, hml, hown, hts⟩ := id S0
  have hl : lv_has ls 15 [(0, .ref oM)] := hl
  have L7 : (Cond.fieldLink RX5 7 "PastAndClearModel" "now" "[I").before ([.ref oM] : List Value).toArray s = true := hts (.fieldLink RX5 7 "PastAndClearModel" "now" "[I") (by decide +kernel)
  have N5 : ∀ w ∈ u_ws RX5 TX5 21, w ∈ wsX5_worst := by decide +kernel
  have L81 : (Cond.fieldLink RX5 81 "PastAndClearModel" "timeAbove" "J").before ([.ref oM] : List Value).toArray s = true := hts (.fieldLink RX5 81 "PastAndClearModel" "timeAbove" "J") (by decide +kernel)
  have L84 : (Cond.fieldLink RX5 84 "PastAndClearModel" "timeBelow" "J").before ([.ref oM] : List Value).toArray s = true := hts (.fieldLink RX5 84 "PastAndClearModel" "timeBelow" "J") (by decide +kernel)
  have L90 : (Cond.fieldLink RX5 90 "PastAndClearModel" "farAbove" "J").before ([.ref oM] : List Value).toArray s = true := hts (.fieldLink RX5 90 "PastAndClearModel" "farAbove" "J") (by decide +kernel)
  have L93 : (Cond.fieldLink RX5 93 "PastAndClearModel" "farBelow" "J").before ([.ref oM] : List Value).toArray s = true := hts (.fieldLink RX5 93 "PastAndClearModel" "farBelow" "J") (by decide +kernel)
  have hN6 : N ≤ 6 := by rw [← hNN]; exact hI.1
  have lp18 : ∀ (k : Nat) (n : Nat) (x : Int32) (z1 : Int64) (z2 : Int64) (z3 : Int64) (z4 : Int64) (p1 : Int64) (p2 : Int64) (p3 : Int64) (p4 : Int64) (q1 : Int64) (q2 : Int64) (q3 : Int64) (q4 : Int64) (H : Heap) (locs : List Loc) (ls : Array Slot), N - n = k → (n ≤ N) → (WI f w0 n x (z1, z2, z3, z4)) → va_P D vwCl [(oM, .inr (5, [.ref mN, .ref mA, .ref mP, .int (nI ks), .ref mR, .ref mT, .int (nI ln), .long p1, .long p2, .long p3, .long p4, .long q1, .long q2, .long q3, .long q4, .ref mL, .ref mB, .int od, .int spt, .int wa, .long hs])), (mN, .inl (cI, 39, .inl qn))] H → va_D A [(oM, .inr (5, [.ref mN, .ref mA, .ref mP, .int (nI ks), .ref mR, .ref mT, .int (nI ln), .long p1, .long p2, .long p3, .long p4, .long q1, .long q2, .long q3, .long q4, .ref mL, .ref mB, .int od, .int spt, .int wa, .long hs])), (mN, .inl (cI, 39, .inl qn))] → va_S A s.heap H locs → lv_has ls 15 [(10, .int (nI (n + 1))), (1, .int x), (2, .long z1), (4, .long z2), (6, .long z3), (8, .long z4), (0, .ref oM)] → W p l e ({ frames := 5, cells := 0, slots := 0, locals := 111 } : Room) s m ([.ref oM] : List Value).toArray below meth c H locs 0 0 Q (F0 m 18 ls []) := by
    intro k
    induction k using Nat.strongRecOn with
    | ind k ih =>
    intro n x z1 z2 z3 z4 p1 p2 p3 p4 q1 q2 q3 q4 H locs ls hk hn hinv hP hD hS hl
    refine lv_iload hx hb dX5_worst_18 (lv_at hl 0 rfl) ?_
    refine lv_aload_n hx hb dX5_worst_20 rfl (lv_at hl 6 rfl) ?_
    refine va_get (D := D) (ci := 5) (v := .ref mN) (C := RX5) (T := TX5) (N := 21) hx hb hts N5 hown hK hP 0 rfl rfl 0 (by decide) L7 (fun _ h9 => h9) rfl dX5_worst_21 ?_
    refine lv_iconst (v := 0) hx hb dX5_worst_24 (by decide) ?_
    refine z_ild (v := nI (N + 1)) (j := 0) hx hb hK hP 1 rfl rfl (by omega) (by decide) (hR.1) dX5_worst_25 ?_
    refine lv_icmp_ge (tgt := 132) hx hb dX5_worst_26 (by decide) (fun c_1 => ?_) (fun c_1 => ?_)
    · skip
      have c_1 := (z_le (a := N + 1) (b := n + 1) rfl rfl (by omega) (by omega)).mp c_1
      refine lv_iload_n hx hb dX5_worst_132 rfl (lv_at hl 1 rfl) ?_
      exact hQ x (p1, p2, p3, p4, q1, q2, q3, q4) _ _ _ _ (rfl) (by rw [show N = n by omega]; exact hinv.1) hP hD hS dX5_worst_133
    · skip
      have c_1 := (z_len (a := N + 1) (b := n + 1) rfl rfl (by omega) (by omega)).mp c_1
      refine lv_aload_n hx hb dX5_worst_29 rfl (lv_at hl 6 rfl) ?_
      refine lv_iconst (v := 0) hx hb dX5_worst_30 (by decide) ?_
      refine lv_iload hx hb dX5_worst_31 (lv_at hl 0 rfl) ?_
      refine z_VI (n := 2) (wn := (fun u : Int64 × Int64 × Int64 × Int64 => [(oM, .inr (5, [.ref mN, .ref mA, .ref mP, .int (nI ks), .ref mR, .ref mT, .int (nI ln), .long (cRx f 0 (n + 1)), .long (cRy f 0 (n + 1)), .long (cVx f (f (5 * 0 + 2)) (f (5 * 0 + 3)) (n + 1)), .long (cVy f (f (5 * 0 + 2)) (f (5 * 0 + 3)) (n + 1)), .long u.1, .long u.2.1, .long u.2.2.1, .long u.2.2.2, .ref mL, .ref mB, .int od, .int spt, .int wa, .long hs])), (mN, .inl (cI, 39, .inl qn))])) (wr := []) (As := [.int 0, .int (nI (n + 1))]) (rest := []) ⟨hx, hb, hml, hown, hts⟩ hK hP hD hS hA hT (kX5_haveRisk l D cI cB tE tN oM mN mA mP mR mT mL mB ks ln p1 p2 p3 p4 q1 q2 q3 q4 od spt wa hs qn f N 0 (n + 1) _ (hR) (hI) (hNN) (by omega) (by omega)) gX5_worst_X5_haveRisk rfl rfl rfl (by decide +kernel) ⟨Nat.le_of_ble_eq_true rfl, Nat.le_of_ble_eq_true rfl⟩ [0, 1] [] [0, 1] (by decide) rfl rfl (by decide) (by decide) (by decide) (fun u => rfl) 0 5 rfl rfl rfl rfl hl.1 rfl (Nat.le_of_ble_eq_true rfl) dX5_worst_33 ⟨Nat.le_of_ble_eq_true rfl, Nat.le_of_ble_eq_true rfl⟩ (fun r_6 u H locs hw_7 hP hD hS => ?_)
      obtain ⟨q1_2, q2_3, q3_4, q4_5⟩ := u
      try dsimp only at hw_7
      have hP : va_P D vwCl [(oM, .inr (5, [.ref mN, .ref mA, .ref mP, .int (nI ks), .ref mR, .ref mT, .int (nI ln), .long (cRx f 0 (n + 1)), .long (cRy f 0 (n + 1)), .long (cVx f (f (5 * 0 + 2)) (f (5 * 0 + 3)) (n + 1)), .long (cVy f (f (5 * 0 + 2)) (f (5 * 0 + 3)) (n + 1)), .long q1_2, .long q2_3, .long q3_4, .long q4_5, .ref mL, .ref mB, .int od, .int spt, .int wa, .long hs])), (mN, .inl (cI, 39, .inl qn))] H := hP
      have hD : va_D A [(oM, .inr (5, [.ref mN, .ref mA, .ref mP, .int (nI ks), .ref mR, .ref mT, .int (nI ln), .long (cRx f 0 (n + 1)), .long (cRy f 0 (n + 1)), .long (cVx f (f (5 * 0 + 2)) (f (5 * 0 + 3)) (n + 1)), .long (cVy f (f (5 * 0 + 2)) (f (5 * 0 + 3)) (n + 1)), .long q1_2, .long q2_3, .long q3_4, .long q4_5, .ref mL, .ref mB, .int od, .int spt, .int wa, .long hs])), (mN, .inl (cI, 39, .inl qn))] := hD
      obtain ⟨hw_7, hq_8⟩ := hw_7
      subst r_6
      have hm := hq_8
      refine lv_if_eq (tgt := 126) hx hb dX5_worst_36 (by decide) (fun c_9 => ?_) (fun c_9 => ?_)
      · skip
        have c_9 := z_b0 c_9
        refine lv_iinc (v := nI (n + 1 + 1)) (lv' := [(10, .int (nI (n + 1 + 1))), (1, .int x), (2, .long z1), (4, .long z2), (6, .long z3), (8, .long z4), (0, .ref oM)]) hx hb dX5_worst_126 hl (k := 0) rfl (z_add rfl rfl) (by decide) rfl (fun ls hl => ?_)
        refine lv_goto (tgt := 18) hx hb dX5_worst_129 (by decide) ?_
        exact ih _ (by omega) (n + 1) x z1 z2 z3 z4 (cRx f 0 (n + 1)) (cRy f 0 (n + 1)) (cVx f (f (5 * 0 + 2)) (f (5 * 0 + 3)) (n + 1)) (cVy f (f (5 * 0 + 2)) (f (5 * 0 + 3)) (n + 1)) q1_2 q2_3 q3_4 q4_5 _ _ _ rfl (by omega) (ws_no c_9 hinv) hP hD hS (lv_sub hl [0, 1, 2, 3, 4, 5, 6] rfl)
      · skip
        have c_9 := z_b1 c_9
        refine lv_aload_n hx hb dX5_worst_39 rfl (lv_at hl 6 rfl) ?_
        refine va_get (D := D) (ci := 5) (v := .long q1_2) (C := RX5) (T := TX5) (N := 21) hx hb hts N5 hown hK hP 0 rfl rfl 11 (by decide) L81 (fun _ h9 => h9) rfl dX5_worst_40 ?_
        refine lv_lload hx hb dX5_worst_43 (lv_at hl 3 rfl) ?_
        refine lv_lmul hx hb dX5_worst_45 ?_
        refine lv_lload_n hx hb dX5_worst_46 rfl (lv_at hl 2 rfl) ?_
        refine lv_aload_n hx hb dX5_worst_47 rfl (lv_at hl 6 rfl) ?_
        refine va_get (D := D) (ci := 5) (v := .long q2_3) (C := RX5) (T := TX5) (N := 21) hx hb hts N5 hown hK hP 0 rfl rfl 12 (by decide) L84 (fun _ h9 => h9) rfl dX5_worst_48 ?_
        refine lv_lmul hx hb dX5_worst_51 ?_
        refine lv_lsub hx hb dX5_worst_52 ?_
        refine lv_topl (fun so eso => ?_)
        refine lv_lstore (lv' := [(11, .long so), (10, .int (nI (n + 1))), (1, .int x), (2, .long z1), (4, .long z2), (6, .long z3), (8, .long z4), (0, .ref oM)]) hx hb dX5_worst_53 hl (by decide) rfl (fun ls hl => ?_)
        refine lv_aload_n hx hb dX5_worst_55 rfl (lv_at hl 7 rfl) ?_
        refine va_get (D := D) (ci := 5) (v := .long q3_4) (C := RX5) (T := TX5) (N := 21) hx hb hts N5 hown hK hP 0 rfl rfl 13 (by decide) L90 (fun _ h9 => h9) rfl dX5_worst_56 ?_
        refine lv_lload hx hb dX5_worst_59 (lv_at hl 6 rfl) ?_
        refine lv_lmul hx hb dX5_worst_61 ?_
        refine lv_lload hx hb dX5_worst_62 (lv_at hl 5 rfl) ?_
        refine lv_aload_n hx hb dX5_worst_64 rfl (lv_at hl 7 rfl) ?_
        refine va_get (D := D) (ci := 5) (v := .long q4_5) (C := RX5) (T := TX5) (N := 21) hx hb hts N5 hown hK hP 0 rfl rfl 14 (by decide) L93 (fun _ h9 => h9) rfl dX5_worst_65 ?_
        refine lv_lmul hx hb dX5_worst_68 ?_
        refine lv_lsub hx hb dX5_worst_69 ?_
        refine lv_topl (fun ne_ ene_ => ?_)
        refine lv_lstore (lv' := [(13, .long ne_), (11, .long so), (10, .int (nI (n + 1))), (1, .int x), (2, .long z1), (4, .long z2), (6, .long z3), (8, .long z4), (0, .ref oM)]) hx hb dX5_worst_70 hl (by decide) rfl (fun ls hl => ?_)
        refine lv_iload_n hx hb dX5_worst_72 rfl (lv_at hl 3 rfl) ?_
        refine lv_sipush (v := (-10001)) hx hb dX5_worst_73 (by decide) ?_
        refine lv_icmp_eq (tgt := 100) hx hb dX5_worst_76 (by decide) (fun c_10 => ?_) (fun c_10 => ?_)
        · skip
          refine lv_iload hx hb dX5_worst_100 (lv_at hl 2 rfl) ?_
          refine lv_istore_n (lv' := [(1, .int (nI (n + 1))), (13, .long ne_), (11, .long so), (10, .int (nI (n + 1))), (2, .long z1), (4, .long z2), (6, .long z3), (8, .long z4), (0, .ref oM)]) hx hb dX5_worst_102 rfl hl (by decide) rfl (fun ls hl => ?_)
          refine lv_aload_n hx hb dX5_worst_103 rfl (lv_at hl 8 rfl) ?_
          refine va_get (D := D) (ci := 5) (v := .long q1_2) (C := RX5) (T := TX5) (N := 21) hx hb hts N5 hown hK hP 0 rfl rfl 11 (by decide) L81 (fun _ h9 => h9) rfl dX5_worst_104 ?_
          refine lv_lstore_n (lv' := [(2, .long q1_2), (1, .int (nI (n + 1))), (13, .long ne_), (11, .long so), (10, .int (nI (n + 1))), (4, .long z2), (6, .long z3), (8, .long z4), (0, .ref oM)]) hx hb dX5_worst_107 rfl hl (by decide) rfl (fun ls hl => ?_)
          refine lv_aload_n hx hb dX5_worst_108 rfl (lv_at hl 8 rfl) ?_
          refine va_get (D := D) (ci := 5) (v := .long q2_3) (C := RX5) (T := TX5) (N := 21) hx hb hts N5 hown hK hP 0 rfl rfl 12 (by decide) L84 (fun _ h9 => h9) rfl dX5_worst_109 ?_
          refine lv_lstore (lv' := [(4, .long q2_3), (2, .long q1_2), (1, .int (nI (n + 1))), (13, .long ne_), (11, .long so), (10, .int (nI (n + 1))), (6, .long z3), (8, .long z4), (0, .ref oM)]) hx hb dX5_worst_112 hl (by decide) rfl (fun ls hl => ?_)
          refine lv_aload_n hx hb dX5_worst_114 rfl (lv_at hl 8 rfl) ?_
          refine va_get (D := D) (ci := 5) (v := .long q3_4) (C := RX5) (T := TX5) (N := 21) hx hb hts N5 hown hK hP 0 rfl rfl 13 (by decide) L90 (fun _ h9 => h9) rfl dX5_worst_115 ?_
          refine lv_lstore (lv' := [(6, .long q3_4), (4, .long q2_3), (2, .long q1_2), (1, .int (nI (n + 1))), (13, .long ne_), (11, .long so), (10, .int (nI (n + 1))), (8, .long z4), (0, .ref oM)]) hx hb dX5_worst_118 hl (by decide) rfl (fun ls hl => ?_)
          refine lv_aload_n hx hb dX5_worst_120 rfl (lv_at hl 8 rfl) ?_
          refine va_get (D := D) (ci := 5) (v := .long q4_5) (C := RX5) (T := TX5) (N := 21) hx hb hts N5 hown hK hP 0 rfl rfl 14 (by decide) L93 (fun _ h9 => h9) rfl dX5_worst_121 ?_
          refine lv_lstore (lv' := [(8, .long q4_5), (6, .long q3_4), (4, .long q2_3), (2, .long q1_2), (1, .int (nI (n + 1))), (13, .long ne_), (11, .long so), (10, .int (nI (n + 1))), (0, .ref oM)]) hx hb dX5_worst_124 hl (by decide) rfl (fun ls hl => ?_)
          refine lv_iinc (v := nI (n + 1 + 1)) (lv' := [(10, .int (nI (n + 1 + 1))), (8, .long q4_5), (6, .long q3_4), (4, .long q2_3), (2, .long q1_2), (1, .int (nI (n + 1))), (13, .long ne_), (11, .long so), (0, .ref oM)]) hx hb dX5_worst_126 hl (k := 7) rfl (z_add rfl rfl) (by decide) rfl (fun ls hl => ?_)
          refine lv_goto (tgt := 18) hx hb dX5_worst_129 (by decide) ?_
          exact ih _ (by omega) (n + 1) (nI (n + 1)) q1_2 q2_3 q3_4 q4_5 (cRx f 0 (n + 1)) (cRy f 0 (n + 1)) (cVx f (f (5 * 0 + 2)) (f (5 * 0 + 3)) (n + 1)) (cVy f (f (5 * 0 + 2)) (f (5 * 0 + 3)) (n + 1)) q1_2 q2_3 q3_4 q4_5 _ _ _ rfl (by omega) (ws_first c_9 c_10 hm (Gd_of (Bd_of (f := f) (a := 0) (b := n + 1) hI (by omega) (by omega) (hI.2.2.1 0 (by omega)).2.2.2)) hinv) hP hD hS (lv_sub hl [0, 5, 4, 3, 2, 1, 8] rfl)
        · skip
          refine lv_lload hx hb dX5_worst_79 (lv_at hl 1 rfl) ?_
          refine lv_lconst (v := 0) hx hb dX5_worst_81 (by decide) ?_
          refine W.lcmp hx hb dX5_worst_82 ?_
          refine lv_if_lt (tgt := 100) hx hb dX5_worst_83 (by decide) (fun c_11 => ?_) (fun c_11 => ?_)
          · skip
            have c_11 := (lg_cmp_lt _ _).mp c_11
            rw [eso] at c_11
            refine lv_iload hx hb dX5_worst_100 (lv_at hl 2 rfl) ?_
            refine lv_istore_n (lv' := [(1, .int (nI (n + 1))), (13, .long ne_), (11, .long so), (10, .int (nI (n + 1))), (2, .long z1), (4, .long z2), (6, .long z3), (8, .long z4), (0, .ref oM)]) hx hb dX5_worst_102 rfl hl (by decide) rfl (fun ls hl => ?_)
            refine lv_aload_n hx hb dX5_worst_103 rfl (lv_at hl 8 rfl) ?_
            refine va_get (D := D) (ci := 5) (v := .long q1_2) (C := RX5) (T := TX5) (N := 21) hx hb hts N5 hown hK hP 0 rfl rfl 11 (by decide) L81 (fun _ h9 => h9) rfl dX5_worst_104 ?_
            refine lv_lstore_n (lv' := [(2, .long q1_2), (1, .int (nI (n + 1))), (13, .long ne_), (11, .long so), (10, .int (nI (n + 1))), (4, .long z2), (6, .long z3), (8, .long z4), (0, .ref oM)]) hx hb dX5_worst_107 rfl hl (by decide) rfl (fun ls hl => ?_)
            refine lv_aload_n hx hb dX5_worst_108 rfl (lv_at hl 8 rfl) ?_
            refine va_get (D := D) (ci := 5) (v := .long q2_3) (C := RX5) (T := TX5) (N := 21) hx hb hts N5 hown hK hP 0 rfl rfl 12 (by decide) L84 (fun _ h9 => h9) rfl dX5_worst_109 ?_
            refine lv_lstore (lv' := [(4, .long q2_3), (2, .long q1_2), (1, .int (nI (n + 1))), (13, .long ne_), (11, .long so), (10, .int (nI (n + 1))), (6, .long z3), (8, .long z4), (0, .ref oM)]) hx hb dX5_worst_112 hl (by decide) rfl (fun ls hl => ?_)
            refine lv_aload_n hx hb dX5_worst_114 rfl (lv_at hl 8 rfl) ?_
            refine va_get (D := D) (ci := 5) (v := .long q3_4) (C := RX5) (T := TX5) (N := 21) hx hb hts N5 hown hK hP 0 rfl rfl 13 (by decide) L90 (fun _ h9 => h9) rfl dX5_worst_115 ?_
            refine lv_lstore (lv' := [(6, .long q3_4), (4, .long q2_3), (2, .long q1_2), (1, .int (nI (n + 1))), (13, .long ne_), (11, .long so), (10, .int (nI (n + 1))), (8, .long z4), (0, .ref oM)]) hx hb dX5_worst_118 hl (by decide) rfl (fun ls hl => ?_)
            refine lv_aload_n hx hb dX5_worst_120 rfl (lv_at hl 8 rfl) ?_
            refine va_get (D := D) (ci := 5) (v := .long q4_5) (C := RX5) (T := TX5) (N := 21) hx hb hts N5 hown hK hP 0 rfl rfl 14 (by decide) L93 (fun _ h9 => h9) rfl dX5_worst_121 ?_
            refine lv_lstore (lv' := [(8, .long q4_5), (6, .long q3_4), (4, .long q2_3), (2, .long q1_2), (1, .int (nI (n + 1))), (13, .long ne_), (11, .long so), (10, .int (nI (n + 1))), (0, .ref oM)]) hx hb dX5_worst_124 hl (by decide) rfl (fun ls hl => ?_)
            refine lv_iinc (v := nI (n + 1 + 1)) (lv' := [(10, .int (nI (n + 1 + 1))), (8, .long q4_5), (6, .long q3_4), (4, .long q2_3), (2, .long q1_2), (1, .int (nI (n + 1))), (13, .long ne_), (11, .long so), (0, .ref oM)]) hx hb dX5_worst_126 hl (k := 7) rfl (z_add rfl rfl) (by decide) rfl (fun ls hl => ?_)
            refine lv_goto (tgt := 18) hx hb dX5_worst_129 (by decide) ?_
            exact ih _ (by omega) (n + 1) (nI (n + 1)) q1_2 q2_3 q3_4 q4_5 (cRx f 0 (n + 1)) (cRy f 0 (n + 1)) (cVx f (f (5 * 0 + 2)) (f (5 * 0 + 3)) (n + 1)) (cVy f (f (5 * 0 + 2)) (f (5 * 0 + 3)) (n + 1)) q1_2 q2_3 q3_4 q4_5 _ _ _ rfl (by omega) (ws_take c_9 c_10 hm (Gd_of (Bd_of (f := f) (a := 0) (b := n + 1) hI (by omega) (by omega) (hI.2.2.1 0 (by omega)).2.2.2)) hinv (Or.inl c_11)) hP hD hS (lv_sub hl [0, 5, 4, 3, 2, 1, 8] rfl)
          · skip
            have c_11 := mt (lg_cmp_lt _ _).mpr c_11
            rw [eso] at c_11
            refine lv_lload hx hb dX5_worst_86 (lv_at hl 1 rfl) ?_
            refine lv_lconst (v := 0) hx hb dX5_worst_88 (by decide) ?_
            refine W.lcmp hx hb dX5_worst_89 ?_
            refine lv_if_ne (tgt := 126) hx hb dX5_worst_90 (by decide) (fun c_12 => ?_) (fun c_12 => ?_)
            · skip
              have c_12 := mt (lg_cmp_eq _ _).mpr c_12
              rw [eso] at c_12
              refine lv_iinc (v := nI (n + 1 + 1)) (lv' := [(10, .int (nI (n + 1 + 1))), (13, .long ne_), (11, .long so), (1, .int x), (2, .long z1), (4, .long z2), (6, .long z3), (8, .long z4), (0, .ref oM)]) hx hb dX5_worst_126 hl (k := 2) rfl (z_add rfl rfl) (by decide) rfl (fun ls hl => ?_)
              refine lv_goto (tgt := 18) hx hb dX5_worst_129 (by decide) ?_
              exact ih _ (by omega) (n + 1) x z1 z2 z3 z4 (cRx f 0 (n + 1)) (cRy f 0 (n + 1)) (cVx f (f (5 * 0 + 2)) (f (5 * 0 + 3)) (n + 1)) (cVy f (f (5 * 0 + 2)) (f (5 * 0 + 3)) (n + 1)) q1_2 q2_3 q3_4 q4_5 _ _ _ rfl (by omega) (ws_skip c_9 c_10 hm (Gd_of (Bd_of (f := f) (a := 0) (b := n + 1) hI (by omega) (by omega) (hI.2.2.1 0 (by omega)).2.2.2)) hinv (fun h => h.elim c_11 (fun q => c_12 q.1))) hP hD hS (lv_sub hl [0, 3, 4, 5, 6, 7, 8] rfl)
            · skip
              have c_12 := (lg_cmp_eq _ _).mp c_12
              rw [eso] at c_12
              refine lv_lload hx hb dX5_worst_93 (lv_at hl 0 rfl) ?_
              refine lv_lconst (v := 0) hx hb dX5_worst_95 (by decide) ?_
              refine W.lcmp hx hb dX5_worst_96 ?_
              refine lv_if_ge (tgt := 126) hx hb dX5_worst_97 (by decide) (fun c_13 => ?_) (fun c_13 => ?_)
              · skip
                have c_13 := (lg_cmp_ge _ _).mp c_13
                rw [ene_] at c_13
                refine lv_iinc (v := nI (n + 1 + 1)) (lv' := [(10, .int (nI (n + 1 + 1))), (13, .long ne_), (11, .long so), (1, .int x), (2, .long z1), (4, .long z2), (6, .long z3), (8, .long z4), (0, .ref oM)]) hx hb dX5_worst_126 hl (k := 2) rfl (z_add rfl rfl) (by decide) rfl (fun ls hl => ?_)
                refine lv_goto (tgt := 18) hx hb dX5_worst_129 (by decide) ?_
                exact ih _ (by omega) (n + 1) x z1 z2 z3 z4 (cRx f 0 (n + 1)) (cRy f 0 (n + 1)) (cVx f (f (5 * 0 + 2)) (f (5 * 0 + 3)) (n + 1)) (cVy f (f (5 * 0 + 2)) (f (5 * 0 + 3)) (n + 1)) q1_2 q2_3 q3_4 q4_5 _ _ _ rfl (by omega) (ws_skip c_9 c_10 hm (Gd_of (Bd_of (f := f) (a := 0) (b := n + 1) hI (by omega) (by omega) (hI.2.2.1 0 (by omega)).2.2.2)) hinv (fun h => h.elim c_11 (fun q => (Int64.not_lt.mpr c_13) q.2))) hP hD hS (lv_sub hl [0, 3, 4, 5, 6, 7, 8] rfl)
              · skip
                have c_13 := mt (lg_cmp_ge _ _).mpr c_13
                rw [ene_] at c_13
                have c_13 := Int64.not_le.mp c_13
                refine lv_iload hx hb dX5_worst_100 (lv_at hl 2 rfl) ?_
                refine lv_istore_n (lv' := [(1, .int (nI (n + 1))), (13, .long ne_), (11, .long so), (10, .int (nI (n + 1))), (2, .long z1), (4, .long z2), (6, .long z3), (8, .long z4), (0, .ref oM)]) hx hb dX5_worst_102 rfl hl (by decide) rfl (fun ls hl => ?_)
                refine lv_aload_n hx hb dX5_worst_103 rfl (lv_at hl 8 rfl) ?_
                refine va_get (D := D) (ci := 5) (v := .long q1_2) (C := RX5) (T := TX5) (N := 21) hx hb hts N5 hown hK hP 0 rfl rfl 11 (by decide) L81 (fun _ h9 => h9) rfl dX5_worst_104 ?_
                refine lv_lstore_n (lv' := [(2, .long q1_2), (1, .int (nI (n + 1))), (13, .long ne_), (11, .long so), (10, .int (nI (n + 1))), (4, .long z2), (6, .long z3), (8, .long z4), (0, .ref oM)]) hx hb dX5_worst_107 rfl hl (by decide) rfl (fun ls hl => ?_)
                refine lv_aload_n hx hb dX5_worst_108 rfl (lv_at hl 8 rfl) ?_
                refine va_get (D := D) (ci := 5) (v := .long q2_3) (C := RX5) (T := TX5) (N := 21) hx hb hts N5 hown hK hP 0 rfl rfl 12 (by decide) L84 (fun _ h9 => h9) rfl dX5_worst_109 ?_
                refine lv_lstore (lv' := [(4, .long q2_3), (2, .long q1_2), (1, .int (nI (n + 1))), (13, .long ne_), (11, .long so), (10, .int (nI (n + 1))), (6, .long z3), (8, .long z4), (0, .ref oM)]) hx hb dX5_worst_112 hl (by decide) rfl (fun ls hl => ?_)
                refine lv_aload_n hx hb dX5_worst_114 rfl (lv_at hl 8 rfl) ?_
                refine va_get (D := D) (ci := 5) (v := .long q3_4) (C := RX5) (T := TX5) (N := 21) hx hb hts N5 hown hK hP 0 rfl rfl 13 (by decide) L90 (fun _ h9 => h9) rfl dX5_worst_115 ?_
                refine lv_lstore (lv' := [(6, .long q3_4), (4, .long q2_3), (2, .long q1_2), (1, .int (nI (n + 1))), (13, .long ne_), (11, .long so), (10, .int (nI (n + 1))), (8, .long z4), (0, .ref oM)]) hx hb dX5_worst_118 hl (by decide) rfl (fun ls hl => ?_)
                refine lv_aload_n hx hb dX5_worst_120 rfl (lv_at hl 8 rfl) ?_
                refine va_get (D := D) (ci := 5) (v := .long q4_5) (C := RX5) (T := TX5) (N := 21) hx hb hts N5 hown hK hP 0 rfl rfl 14 (by decide) L93 (fun _ h9 => h9) rfl dX5_worst_121 ?_
                refine lv_lstore (lv' := [(8, .long q4_5), (6, .long q3_4), (4, .long q2_3), (2, .long q1_2), (1, .int (nI (n + 1))), (13, .long ne_), (11, .long so), (10, .int (nI (n + 1))), (0, .ref oM)]) hx hb dX5_worst_124 hl (by decide) rfl (fun ls hl => ?_)
                refine lv_iinc (v := nI (n + 1 + 1)) (lv' := [(10, .int (nI (n + 1 + 1))), (8, .long q4_5), (6, .long q3_4), (4, .long q2_3), (2, .long q1_2), (1, .int (nI (n + 1))), (13, .long ne_), (11, .long so), (0, .ref oM)]) hx hb dX5_worst_126 hl (k := 7) rfl (z_add rfl rfl) (by decide) rfl (fun ls hl => ?_)
                refine lv_goto (tgt := 18) hx hb dX5_worst_129 (by decide) ?_
                exact ih _ (by omega) (n + 1) (nI (n + 1)) q1_2 q2_3 q3_4 q4_5 (cRx f 0 (n + 1)) (cRy f 0 (n + 1)) (cVx f (f (5 * 0 + 2)) (f (5 * 0 + 3)) (n + 1)) (cVy f (f (5 * 0 + 2)) (f (5 * 0 + 3)) (n + 1)) q1_2 q2_3 q3_4 q4_5 _ _ _ rfl (by omega) (ws_take c_9 c_10 hm (Gd_of (Bd_of (f := f) (a := 0) (b := n + 1) hI (by omega) (by omega) (hI.2.2.1 0 (by omega)).2.2.2)) hinv (Or.inr ⟨c_12, c_13⟩)) hP hD hS (lv_sub hl [0, 5, 4, 3, 2, 1, 8] rfl)
  refine lv_sipush (v := (-10001)) hx hb dX5_worst_0 (by decide) ?_
  refine lv_istore_n (lv' := [(1, .int (-10001)), (0, .ref oM)]) hx hb dX5_worst_3 rfl hl (by decide) rfl (fun ls hl => ?_)
  refine lv_lconst (v := 0) hx hb dX5_worst_4 (by decide) ?_
  refine lv_lstore_n (lv' := [(2, .long 0), (1, .int (-10001)), (0, .ref oM)]) hx hb dX5_worst_5 rfl hl (by decide) rfl (fun ls hl => ?_)
  refine lv_lconst (v := 1) hx hb dX5_worst_6 (by decide) ?_
  refine lv_lstore (lv' := [(4, .long 1), (2, .long 0), (1, .int (-10001)), (0, .ref oM)]) hx hb dX5_worst_7 hl (by decide) rfl (fun ls hl => ?_)
  refine lv_lconst (v := 0) hx hb dX5_worst_9 (by decide) ?_
  refine lv_lstore (lv' := [(6, .long 0), (4, .long 1), (2, .long 0), (1, .int (-10001)), (0, .ref oM)]) hx hb dX5_worst_10 hl (by decide) rfl (fun ls hl => ?_)
  refine lv_lconst (v := 1) hx hb dX5_worst_12 (by decide) ?_
  refine lv_lstore (lv' := [(8, .long 1), (6, .long 0), (4, .long 1), (2, .long 0), (1, .int (-10001)), (0, .ref oM)]) hx hb dX5_worst_13 hl (by decide) rfl (fun ls hl => ?_)
  refine lv_iconst (v := 1) hx hb dX5_worst_15 (by decide) ?_
  refine lv_istore (lv' := [(10, .int 1), (8, .long 1), (6, .long 0), (4, .long 1), (2, .long 0), (1, .int (-10001)), (0, .ref oM)]) hx hb dX5_worst_16 hl (by decide) rfl (fun ls hl => ?_)
  exact lp18 _ 0 (-10001) 0 1 0 1 x1 x2 x3 x4 y1 y2 y3 y4 _ _ _ rfl (by omega) (⟨rfl, fun h => absurd rfl h⟩) hP hD hS (lv_sub hl [0, 5, 4, 3, 2, 1, 6] rfl)

set_option maxHeartbeats 4000000 in
set_option maxRecDepth 100000 in
theorem kX5_blockedBy (l : Launch) (D : va_G) (cI cB : ClassId) (tE tN : Nat) (oM : Nat) (mN : Nat) (mA : Nat) (mP : Nat) (mR : Nat) (mT : Nat) (mL : Nat) (mB : Nat) (ks : Nat) (ln : Nat) (x1 : Int64) (x2 : Int64) (x3 : Int64) (x4 : Int64) (y1 : Int64) (y2 : Int64) (y3 : Int64) (y4 : Int64) (od : Int32) (spt : Int32) (wa : Int32) (hs : Int64) (qn : Nat → Int32) (f : Nat → Int32) (N : Nat) (ib : Nat) (sz : Nat) (hR : Rg N f qn) (hI : Iv f) (hNN : nN f = N) (hb6 : ib ≤ N) : zI l yX5_blockedBy wsX5_blockedBy ({ frames := 3, cells := 0, slots := 0, locals := 77 }) D cI cB tE tN [.ref oM, .int (nI ib)] [(oM, .inr (5, [.ref mN, .ref mA, .ref mP, .int (nI ks), .ref mR, .ref mT, .int (nI ln), .long x1, .long x2, .long x3, .long x4, .long y1, .long y2, .long y3, .long y4, .ref mL, .ref mB, .int od, .int spt, .int wa, .long hs])), (mN, .inl (cI, 39, .inl qn))] sz (fun u : Int64 × Int64 × Int64 × Int64 × Int64 × Int64 × Int64 × Int64 => [(oM, .inr (5, [.ref mN, .ref mA, .ref mP, .int (nI ks), .ref mR, .ref mT, .int (nI ln), .long u.1, .long u.2.1, .long u.2.2.1, .long u.2.2.2.1, .long u.2.2.2.2.1, .long u.2.2.2.2.2.1, .long u.2.2.2.2.2.2.1, .long u.2.2.2.2.2.2.2, .ref mL, .ref mB, .int od, .int spt, .int wa, .long hs])), (mN, .inl (cI, 39, .inl qn))]) (fun (r : Int32) (u : Int64 × Int64 × Int64 × Int64 × Int64 × Int64 × Int64 × Int64) => r = blF f ib 16) 0 0 := by
  refine zI_mk (cc := cX5_blockedBy) (maxL := 4) (rt := .int) (by decide) rfl (Nat.le_of_ble_eq_true rfl) ?_
  intro p e s m below meth c A Q ls S0 hname hA hK hP hD hT hS hQ hl
  obtain ⟨hx, hb, hml, hown, hts⟩ := id S0
  have hl : lv_has ls 4 [(0, .ref oM), (1, .int (nI ib))] := hl
  have hN6 : N ≤ 6 := by rw [← hNN]; exact hI.1
  have lp4 : ∀ (k : Nat) (n : Nat) (x : Int32) (p1 : Int64) (p2 : Int64) (p3 : Int64) (p4 : Int64) (q1 : Int64) (q2 : Int64) (q3 : Int64) (q4 : Int64) (H : Heap) (locs : List Loc) (ls : Array Slot), 16 - n = k → (n ≤ 16) → (x = blF f ib n) → va_P D vwCl [(oM, .inr (5, [.ref mN, .ref mA, .ref mP, .int (nI ks), .ref mR, .ref mT, .int (nI ln), .long p1, .long p2, .long p3, .long p4, .long q1, .long q2, .long q3, .long q4, .ref mL, .ref mB, .int od, .int spt, .int wa, .long hs])), (mN, .inl (cI, 39, .inl qn))] H → va_D A [(oM, .inr (5, [.ref mN, .ref mA, .ref mP, .int (nI ks), .ref mR, .ref mT, .int (nI ln), .long p1, .long p2, .long p3, .long p4, .long q1, .long q2, .long q3, .long q4, .ref mL, .ref mB, .int od, .int spt, .int wa, .long hs])), (mN, .inl (cI, 39, .inl qn))] → va_S A s.heap H locs → lv_has ls 4 [(3, .int (nI n)), (2, .int x), (0, .ref oM), (1, .int (nI ib))] → W p l e ({ frames := 3, cells := 0, slots := 0, locals := 77 } : Room) s m ([.ref oM, .int (nI ib)] : List Value).toArray below meth c H locs 0 0 Q (F0 m 4 ls []) := by
    intro k
    induction k using Nat.strongRecOn with
    | ind k ih =>
    intro n x p1 p2 p3 p4 q1 q2 q3 q4 H locs ls hk hn hxx hP hD hS hl
    refine lv_iload_n hx hb dX5_blockedBy_4 rfl (lv_at hl 0 rfl) ?_
    refine lv_bipush (v := 16) hx hb dX5_blockedBy_5 (by decide) ?_
    refine lv_icmp_ge (tgt := 46) hx hb dX5_blockedBy_7 (by decide) (fun c_1 => ?_) (fun c_1 => ?_)
    · skip
      have c_1 := (z_le (a := 16) (b := n) rfl rfl (by omega) (by omega)).mp c_1
      refine lv_iload_n hx hb dX5_blockedBy_46 rfl (lv_at hl 1 rfl) ?_
      exact hQ x (p1, p2, p3, p4, q1, q2, q3, q4) _ _ _ _ (rfl) (by rw [hxx, show n = 16 by omega]) hP hD hS dX5_blockedBy_47
    · skip
      have c_1 := (z_len (a := 16) (b := n) rfl rfl (by omega) (by omega)).mp c_1
      refine lv_aload_n hx hb dX5_blockedBy_10 rfl (lv_at hl 2 rfl) ?_
      refine lv_iconst (v := 0) hx hb dX5_blockedBy_11 (by decide) ?_
      refine lv_iload_n hx hb dX5_blockedBy_12 rfl (lv_at hl 3 rfl) ?_
      refine lv_iload_n hx hb dX5_blockedBy_13 rfl (lv_at hl 0 rfl) ?_
      refine lv_aload_n hx hb dX5_blockedBy_14 rfl (lv_at hl 2 rfl) ?_
      refine lv_iconst (v := 0) hx hb dX5_blockedBy_15 (by decide) ?_
      refine lv_iconst (v := 3) hx hb dX5_blockedBy_16 (by decide) ?_
      refine z_VI (n := 2) (wn := (fun u : Unit => [(oM, .inr (5, [.ref mN, .ref mA, .ref mP, .int (nI ks), .ref mR, .ref mT, .int (nI ln), .long p1, .long p2, .long p3, .long p4, .long q1, .long q2, .long q3, .long q4, .ref mL, .ref mB, .int od, .int spt, .int wa, .long hs])), (mN, .inl (cI, 39, .inl qn))])) (wr := []) (As := [.int 0, .int 3]) (rest := [.int (nI n), .int (nI ib), .int 0, .ref oM]) ⟨hx, hb, hml, hown, hts⟩ hK hP hD hS hA hT (kX5_shipOf l D cI cB tE tN oM mN mA mP mR mT mL mB ks ln p1 p2 p3 p4 q1 q2 q3 q4 od spt wa hs qn f N 0 3 _ (hR) (hI) (hNN) (by omega) (by omega)) gX5_blockedBy_X5_shipOf rfl rfl rfl (by decide +kernel) ⟨Nat.le_of_ble_eq_true rfl, Nat.le_of_ble_eq_true rfl⟩ [0, 1] [] [0, 1] (by decide) rfl rfl (by decide) (by decide) (by decide) (fun u => rfl) 0 5 rfl rfl rfl rfl hl.1 rfl (Nat.le_of_ble_eq_true rfl) dX5_blockedBy_17 ⟨Nat.le_of_ble_eq_true rfl, Nat.le_of_ble_eq_true rfl⟩ (fun r_2 u H locs hw_3 hP hD hS => ?_)
      try dsimp only at hw_3
      have hP : va_P D vwCl [(oM, .inr (5, [.ref mN, .ref mA, .ref mP, .int (nI ks), .ref mR, .ref mT, .int (nI ln), .long p1, .long p2, .long p3, .long p4, .long q1, .long q2, .long q3, .long q4, .ref mL, .ref mB, .int od, .int spt, .int wa, .long hs])), (mN, .inl (cI, 39, .inl qn))] H := hP
      have hD : va_D A [(oM, .inr (5, [.ref mN, .ref mA, .ref mP, .int (nI ks), .ref mR, .ref mT, .int (nI ln), .long p1, .long p2, .long p3, .long p4, .long q1, .long q2, .long q3, .long q4, .ref mL, .ref mB, .int od, .int spt, .int wa, .long hs])), (mN, .inl (cI, 39, .inl qn))] := hD
      subst r_2
      refine z_topi (x := f (5 * 0 + 3)) (y := f 3) (rfl) ?_
      refine z_VV (n := 4) (wn := (fun u : Unit => [(oM, .inr (5, [.ref mN, .ref mA, .ref mP, .int (nI ks), .ref mR, .ref mT, .int (nI ln), .long (cRx f 0 ib), .long (cRy f 0 ib), .long (cVx f (nI n) (f 3) ib), .long (cVy f (nI n) (f 3) ib), .long q1, .long q2, .long q3, .long q4, .ref mL, .ref mB, .int od, .int spt, .int wa, .long hs])), (mN, .inl (cI, 39, .inl qn))])) (wr := []) (As := [.int 0, .int (nI ib), .int (nI n), .int (f 3)]) (rest := []) ⟨hx, hb, hml, hown, hts⟩ hK hP hD hS hA hT (kX5_lays l D cI cB tE tN oM mN mA mP mR mT mL mB ks ln p1 p2 p3 p4 q1 q2 q3 q4 od spt wa hs qn f N 0 ib (nI n) (f 3) n _ (hR) (hI) (hNN) (by omega) (by omega) (rfl) (by omega)) gX5_blockedBy_X5_lays rfl rfl rfl (by decide +kernel) ⟨Nat.le_of_ble_eq_true rfl, Nat.le_of_ble_eq_true rfl⟩ [0, 1] [] [0, 1] (by decide) rfl rfl (by decide) (by decide) (by decide) (fun u => rfl) 0 5 rfl rfl rfl rfl hl.1 rfl (Nat.le_of_ble_eq_true rfl) dX5_blockedBy_20 ⟨Nat.le_of_ble_eq_true rfl, Nat.le_of_ble_eq_true rfl⟩ (fun u H locs hw_5 hP hD hS => ?_)
      try dsimp only at hw_5
      have hP : va_P D vwCl [(oM, .inr (5, [.ref mN, .ref mA, .ref mP, .int (nI ks), .ref mR, .ref mT, .int (nI ln), .long (cRx f 0 ib), .long (cRy f 0 ib), .long (cVx f (nI n) (f 3) ib), .long (cVy f (nI n) (f 3) ib), .long q1, .long q2, .long q3, .long q4, .ref mL, .ref mB, .int od, .int spt, .int wa, .long hs])), (mN, .inl (cI, 39, .inl qn))] H := hP
      have hD : va_D A [(oM, .inr (5, [.ref mN, .ref mA, .ref mP, .int (nI ks), .ref mR, .ref mT, .int (nI ln), .long (cRx f 0 ib), .long (cRy f 0 ib), .long (cVx f (nI n) (f 3) ib), .long (cVy f (nI n) (f 3) ib), .long q1, .long q2, .long q3, .long q4, .ref mL, .ref mB, .int od, .int spt, .int wa, .long hs])), (mN, .inl (cI, 39, .inl qn))] := hD
      refine lv_iload_n hx hb dX5_blockedBy_23 rfl (lv_at hl 1 rfl) ?_
      refine lv_aload_n hx hb dX5_blockedBy_24 rfl (lv_at hl 2 rfl) ?_
      refine z_VI (n := 0) (wn := (fun u : Int64 × Int64 × Int64 × Int64 => [(oM, .inr (5, [.ref mN, .ref mA, .ref mP, .int (nI ks), .ref mR, .ref mT, .int (nI ln), .long (cRx f 0 ib), .long (cRy f 0 ib), .long (cVx f (nI n) (f 3) ib), .long (cVy f (nI n) (f 3) ib), .long u.1, .long u.2.1, .long u.2.2.1, .long u.2.2.2, .ref mL, .ref mB, .int od, .int spt, .int wa, .long hs])), (mN, .inl (cI, 39, .inl qn))])) (wr := []) (As := []) (rest := [.int x]) ⟨hx, hb, hml, hown, hts⟩ hK hP hD hS hA hT (kX5_isRisk l D cI cB tE tN oM mN mA mP mR mT mL mB ks ln (cRx f 0 ib) (cRy f 0 ib) (cVx f (nI n) (f 3) ib) (cVy f (nI n) (f 3) ib) q1 q2 q3 q4 od spt wa hs qn f N _ (hR) (hI) (hNN) (Bd_of hI (by omega) (by omega) (hI.2.2.1 0 (by omega)).2.2.2)) gX5_blockedBy_X5_isRisk rfl rfl rfl (by decide +kernel) ⟨Nat.le_of_ble_eq_true rfl, Nat.le_of_ble_eq_true rfl⟩ [0, 1] [] [0, 1] (by decide) rfl rfl (by decide) (by decide) (by decide) (fun u => rfl) 0 5 rfl rfl rfl rfl hl.1 rfl (Nat.le_of_ble_eq_true rfl) dX5_blockedBy_25 ⟨Nat.le_of_ble_eq_true rfl, Nat.le_of_ble_eq_true rfl⟩ (fun r_10 u H locs hw_11 hP hD hS => ?_)
      obtain ⟨q1_6, q2_7, q3_8, q4_9⟩ := u
      try dsimp only at hw_11
      have hP : va_P D vwCl [(oM, .inr (5, [.ref mN, .ref mA, .ref mP, .int (nI ks), .ref mR, .ref mT, .int (nI ln), .long (cRx f 0 ib), .long (cRy f 0 ib), .long (cVx f (nI n) (f 3) ib), .long (cVy f (nI n) (f 3) ib), .long q1_6, .long q2_7, .long q3_8, .long q4_9, .ref mL, .ref mB, .int od, .int spt, .int wa, .long hs])), (mN, .inl (cI, 39, .inl qn))] H := hP
      have hD : va_D A [(oM, .inr (5, [.ref mN, .ref mA, .ref mP, .int (nI ks), .ref mR, .ref mT, .int (nI ln), .long (cRx f 0 ib), .long (cRy f 0 ib), .long (cVx f (nI n) (f 3) ib), .long (cVy f (nI n) (f 3) ib), .long q1_6, .long q2_7, .long q3_8, .long q4_9, .ref mL, .ref mB, .int od, .int spt, .int wa, .long hs])), (mN, .inl (cI, 39, .inl qn))] := hD
      obtain ⟨hw_11, hq_12⟩ := hw_11
      subst r_10
      refine z_topi (x := b2i (cRk (mS (cRx f 0 ib) (cRy f 0 ib) (cVx f (nI n) (f 3) ib) (cVy f (nI n) (f 3) ib)).1 (mS (cRx f 0 ib) (cRy f 0 ib) (cVx f (nI n) (f 3) ib) (cVy f (nI n) (f 3) ib)).2.1 (mS (cRx f 0 ib) (cRy f 0 ib) (cVx f (nI n) (f 3) ib) (cVy f (nI n) (f 3) ib)).2.2.1 (mS (cRx f 0 ib) (cRy f 0 ib) (cVx f (nI n) (f 3) ib) (cVy f (nI n) (f 3) ib)).2.2.2 (f 36).toInt64 (f 37).toInt64)) (y := b2i (cWR f 0 (nI n) (f 3) ib)) (by rw [cWR, cMs_mS]) ?_
      refine lv_if_eq (tgt := 37) hx hb dX5_blockedBy_28 (by decide) (fun c_13 => ?_) (fun c_13 => ?_)
      · skip
        have c_13 := z_b0 c_13
        refine lv_iconst (v := 0) hx hb dX5_blockedBy_37 (by decide) ?_
        refine lv_ior hx hb dX5_blockedBy_38 ?_
        refine lv_istore_n (lv' := [(2, .int (x ||| 0)), (3, .int (nI n)), (0, .ref oM), (1, .int (nI ib))]) hx hb dX5_blockedBy_39 rfl hl (by decide) rfl (fun ls hl => ?_)
        refine lv_iinc (v := nI (n + 1)) (lv' := [(3, .int (nI (n + 1))), (2, .int (x ||| 0)), (0, .ref oM), (1, .int (nI ib))]) hx hb dX5_blockedBy_40 hl (k := 1) rfl (z_add rfl rfl) (by decide) rfl (fun ls hl => ?_)
        refine lv_goto (tgt := 4) hx hb dX5_blockedBy_43 (by decide) ?_
        exact ih _ (by omega) (n + 1) (x ||| 0) (cRx f 0 ib) (cRy f 0 ib) (cVx f (nI n) (f 3) ib) (cVy f (nI n) (f 3) ib) q1_6 q2_7 q3_8 q4_9 _ _ _ rfl (by omega) (by rw [hxx, blF]; first | rw [if_pos c_13] | rw [if_neg (by rw [c_13]; decide), or_zero]) hP hD hS (lv_sub hl [0, 1, 2, 3] rfl)
      · skip
        have c_13 := z_b1 c_13
        refine lv_iconst (v := 1) hx hb dX5_blockedBy_31 (by decide) ?_
        refine lv_iload_n hx hb dX5_blockedBy_32 rfl (lv_at hl 0 rfl) ?_
        refine lv_ishl hx hb dX5_blockedBy_33 ?_
        refine lv_goto (tgt := 38) hx hb dX5_blockedBy_34 (by decide) ?_
        refine lv_ior hx hb dX5_blockedBy_38 ?_
        refine lv_istore_n (lv' := [(2, .int (x ||| (1 <<< ((nI n) &&& 31)))), (3, .int (nI n)), (0, .ref oM), (1, .int (nI ib))]) hx hb dX5_blockedBy_39 rfl hl (by decide) rfl (fun ls hl => ?_)
        refine lv_iinc (v := nI (n + 1)) (lv' := [(3, .int (nI (n + 1))), (2, .int (x ||| (1 <<< ((nI n) &&& 31)))), (0, .ref oM), (1, .int (nI ib))]) hx hb dX5_blockedBy_40 hl (k := 1) rfl (z_add rfl rfl) (by decide) rfl (fun ls hl => ?_)
        refine lv_goto (tgt := 4) hx hb dX5_blockedBy_43 (by decide) ?_
        exact ih _ (by omega) (n + 1) (x ||| (1 <<< ((nI n) &&& 31))) (cRx f 0 ib) (cRy f 0 ib) (cVx f (nI n) (f 3) ib) (cVy f (nI n) (f 3) ib) q1_6 q2_7 q3_8 q4_9 _ _ _ rfl (by omega) (by rw [hxx, blF]; first | rw [if_pos c_13] | rw [if_neg (by rw [c_13]; decide), or_zero]) hP hD hS (lv_sub hl [0, 1, 2, 3] rfl)
  refine lv_iconst (v := 0) hx hb dX5_blockedBy_0 (by decide) ?_
  refine lv_istore_n (lv' := [(2, .int 0), (0, .ref oM), (1, .int (nI ib))]) hx hb dX5_blockedBy_1 rfl hl (by decide) rfl (fun ls hl => ?_)
  refine lv_iconst (v := 0) hx hb dX5_blockedBy_2 (by decide) ?_
  refine lv_istore_n (lv' := [(3, .int 0), (2, .int 0), (0, .ref oM), (1, .int (nI ib))]) hx hb dX5_blockedBy_3 rfl hl (by decide) rfl (fun ls hl => ?_)
  exact lp4 _ 0 0 x1 x2 x3 x4 y1 y2 y3 y4 _ _ _ rfl (by omega) rfl hP hD hS (lv_sub hl [0, 1, 2, 3] rfl)

set_option maxHeartbeats 4000000 in
set_option maxRecDepth 100000 in
theorem kX5_blocked (l : Launch) (D : va_G) (cI cB : ClassId) (tE tN : Nat) (oM : Nat) (mN : Nat) (mA : Nat) (mP : Nat) (mR : Nat) (mT : Nat) (mL : Nat) (mB : Nat) (ks : Nat) (ln : Nat) (x1 : Int64) (x2 : Int64) (x3 : Int64) (x4 : Int64) (y1 : Int64) (y2 : Int64) (y3 : Int64) (y4 : Int64) (od : Int32) (spt : Int32) (wa : Int32) (hs : Int64) (qn : Nat → Int32) (rf : Nat → Int32) (f : Nat → Int32) (N : Nat) (i : Int32) (sz : Nat) (hR : Rg N f qn) (hI : Iv f) (hNN : nN f = N) : zI l yX5_blocked wsX5_blocked ({ frames := 4, cells := 0, slots := 0, locals := 100 }) D cI cB tE tN [.ref oM, .int i] [(oM, .inr (5, [.ref mN, .ref mA, .ref mP, .int (nI ks), .ref mR, .ref mT, .int (nI ln), .long x1, .long x2, .long x3, .long x4, .long y1, .long y2, .long y3, .long y4, .ref mL, .ref mB, .int od, .int spt, .int wa, .long hs])), (mN, .inl (cI, 39, .inl qn)), (mR, .inl (cI, 3, .inl rf))] sz (fun u : Int64 × Int64 × Int64 × Int64 × Int64 × Int64 × Int64 × Int64 × (Nat → Int32) => [(oM, .inr (5, [.ref mN, .ref mA, .ref mP, .int (nI ks), .ref mR, .ref mT, .int (nI ln), .long u.1, .long u.2.1, .long u.2.2.1, .long u.2.2.2.1, .long u.2.2.2.2.1, .long u.2.2.2.2.2.1, .long u.2.2.2.2.2.2.1, .long u.2.2.2.2.2.2.2.1, .ref mL, .ref mB, .int od, .int spt, .int wa, .long hs])), (mN, .inl (cI, 39, .inl qn)), (mR, .inl (cI, 3, .inl u.2.2.2.2.2.2.2.2))]) (fun (r : Int32) (u : Int64 × Int64 × Int64 × Int64 × Int64 × Int64 × Int64 × Int64 × (Nat → Int32)) => r = gBl f i ∧ u.2.2.2.2.2.2.2.2 = gRf (cOther f i) rf) 0 0 := by
  refine zI_mk (cc := cX5_blocked) (maxL := 2) (rt := .int) (by decide) rfl (Nat.le_of_ble_eq_true rfl) ?_
  intro p e s m below meth c A Q ls S0 hname hA hK hP hD hT hS hQ hl
  obtain ⟨hx, hb, hml, hown, hts⟩ := id S0
  have hl : lv_has ls 2 [(0, .ref oM), (1, .int i)] := hl
  have hN6 : N ≤ 6 := by rw [← hNN]; exact hI.1
  refine lv_aload_n hx hb dX5_blocked_0 rfl (lv_at hl 0 rfl) ?_
  refine lv_iload_n hx hb dX5_blocked_1 rfl (lv_at hl 1 rfl) ?_
  refine z_VI (n := 1) (wn := (fun u : Unit => [(oM, .inr (5, [.ref mN, .ref mA, .ref mP, .int (nI ks), .ref mR, .ref mT, .int (nI ln), .long x1, .long x2, .long x3, .long x4, .long y1, .long y2, .long y3, .long y4, .ref mL, .ref mB, .int od, .int spt, .int wa, .long hs])), (mN, .inl (cI, 39, .inl qn)), (mR, .inl (cI, 3, .inl rf))])) (wr := [(mR, .inl (cI, 3, .inl rf))]) (As := [.int i]) (rest := []) ⟨hx, hb, hml, hown, hts⟩ hK hP hD hS hA hT (kX5_isOther l D cI cB tE tN oM mN mA mP mR mT mL mB ks ln x1 x2 x3 x4 y1 y2 y3 y4 od spt wa hs qn f N i _ (hR) (hI) (hNN)) gX5_blocked_X5_isOther rfl rfl rfl (by decide +kernel) ⟨Nat.le_of_ble_eq_true rfl, Nat.le_of_ble_eq_true rfl⟩ [0, 1] [2] [1, 2, 0] (by decide) rfl rfl (by decide) (by decide) (by decide) (fun u => rfl) 0 5 rfl rfl rfl rfl hl.1 rfl (Nat.le_of_ble_eq_true rfl) dX5_blocked_2 ⟨Nat.le_of_ble_eq_true rfl, Nat.le_of_ble_eq_true rfl⟩ (fun r_1 u H locs hw_2 hP hD hS => ?_)
  try dsimp only at hw_2
  have hP : va_P D vwCl [(oM, .inr (5, [.ref mN, .ref mA, .ref mP, .int (nI ks), .ref mR, .ref mT, .int (nI ln), .long x1, .long x2, .long x3, .long x4, .long y1, .long y2, .long y3, .long y4, .ref mL, .ref mB, .int od, .int spt, .int wa, .long hs])), (mN, .inl (cI, 39, .inl qn)), (mR, .inl (cI, 3, .inl rf))] H := hP
  have hD : va_D A [(oM, .inr (5, [.ref mN, .ref mA, .ref mP, .int (nI ks), .ref mR, .ref mT, .int (nI ln), .long x1, .long x2, .long x3, .long x4, .long y1, .long y2, .long y3, .long y4, .ref mL, .ref mB, .int od, .int spt, .int wa, .long hs])), (mN, .inl (cI, 39, .inl qn)), (mR, .inl (cI, 3, .inl rf))] := hD
  subst r_1
  refine lv_if_eq (tgt := 16) hx hb dX5_blocked_5 (by decide) (fun c_3 => ?_) (fun c_3 => ?_)
  · skip
    have c_3 := z_b0 c_3
    refine lv_aload_n hx hb dX5_blocked_16 rfl (lv_at hl 0 rfl) ?_
    refine lv_sipush (v := (-10002)) hx hb dX5_blocked_17 (by decide) ?_
    refine z_VI (n := 1) (wn := (fun u : Unit => [(oM, .inr (5, [.ref mN, .ref mA, .ref mP, .int (nI ks), .ref mR, .ref mT, .int (nI ln), .long x1, .long x2, .long x3, .long x4, .long y1, .long y2, .long y3, .long y4, .ref mL, .ref mB, .int od, .int spt, .int wa, .long hs])), (mN, .inl (cI, 39, .inl qn)), (mR, .inl (cI, 3, .inl (upd rf 0 (rf 0 + 1))))])) (wr := [(mN, .inl (cI, 39, .inl qn))]) (As := [.int (-10002)]) (rest := []) ⟨hx, hb, hml, hown, hts⟩ hK hP hD hS hA hT (kX5_refuses l D cI cB tE tN oM mN mA mP mR mT mL mB ks ln x1 x2 x3 x4 y1 y2 y3 y4 od spt wa hs rf (-10002) 0 _ (by decide) (by omega)) gX5_blocked_X5_refuses rfl rfl rfl (by decide +kernel) ⟨Nat.le_of_ble_eq_true rfl, Nat.le_of_ble_eq_true rfl⟩ [0, 2] [1] [1, 0, 2] (by decide) rfl rfl (by decide) (by decide) (by decide) (fun u => rfl) 0 5 rfl rfl rfl rfl hl.1 rfl (Nat.le_of_ble_eq_true rfl) dX5_blocked_20 ⟨Nat.le_of_ble_eq_true rfl, Nat.le_of_ble_eq_true rfl⟩ (fun r_4 u H locs hw_5 hP hD hS => ?_)
    try dsimp only at hw_5
    have hP : va_P D vwCl [(oM, .inr (5, [.ref mN, .ref mA, .ref mP, .int (nI ks), .ref mR, .ref mT, .int (nI ln), .long x1, .long x2, .long x3, .long x4, .long y1, .long y2, .long y3, .long y4, .ref mL, .ref mB, .int od, .int spt, .int wa, .long hs])), (mN, .inl (cI, 39, .inl qn)), (mR, .inl (cI, 3, .inl (upd rf 0 (rf 0 + 1))))] H := hP
    have hD : va_D A [(oM, .inr (5, [.ref mN, .ref mA, .ref mP, .int (nI ks), .ref mR, .ref mT, .int (nI ln), .long x1, .long x2, .long x3, .long x4, .long y1, .long y2, .long y3, .long y4, .ref mL, .ref mB, .int od, .int spt, .int wa, .long hs])), (mN, .inl (cI, 39, .inl qn)), (mR, .inl (cI, 3, .inl (upd rf 0 (rf 0 + 1))))] := hD
    subst r_4
    exact hQ (-10002) (x1, x2, x3, x4, y1, y2, y3, y4, upd rf 0 (rf 0 + 1)) _ _ _ _ (rfl) (⟨by rw [gBl, if_neg (by rw [c_3]; decide)], by rw [gRf, if_neg (by rw [c_3]; decide)]⟩) hP hD hS dX5_blocked_23
  · skip
    have c_3 := z_b1 c_3
    obtain ⟨n, rfl, hn1, hn⟩ := cOther_n hI.2.1 hI.1 c_3
    rw [hNN] at hn
    have hcn : (nI n).toNatClampNeg = n := nI_clamp (by omega)
    refine lv_aload_n hx hb dX5_blocked_8 rfl (lv_at hl 0 rfl) ?_
    refine lv_iload_n hx hb dX5_blocked_9 rfl (lv_at hl 1 rfl) ?_
    refine z_VI (n := 1) (wn := (fun u : Int64 × Int64 × Int64 × Int64 × Int64 × Int64 × Int64 × Int64 => [(oM, .inr (5, [.ref mN, .ref mA, .ref mP, .int (nI ks), .ref mR, .ref mT, .int (nI ln), .long u.1, .long u.2.1, .long u.2.2.1, .long u.2.2.2.1, .long u.2.2.2.2.1, .long u.2.2.2.2.2.1, .long u.2.2.2.2.2.2.1, .long u.2.2.2.2.2.2.2, .ref mL, .ref mB, .int od, .int spt, .int wa, .long hs])), (mN, .inl (cI, 39, .inl qn)), (mR, .inl (cI, 3, .inl rf))])) (wr := [(mR, .inl (cI, 3, .inl rf))]) (As := [.int (nI n)]) (rest := []) ⟨hx, hb, hml, hown, hts⟩ hK hP hD hS hA hT (kX5_blockedBy l D cI cB tE tN oM mN mA mP mR mT mL mB ks ln x1 x2 x3 x4 y1 y2 y3 y4 od spt wa hs qn f N n _ (hR) (hI) (hNN) (by omega)) gX5_blocked_X5_blockedBy rfl rfl rfl (by decide +kernel) ⟨Nat.le_of_ble_eq_true rfl, Nat.le_of_ble_eq_true rfl⟩ [0, 1] [2] [1, 2, 0] (by decide) rfl rfl (by decide) (by decide) (by decide) (fun u => rfl) 0 5 rfl rfl rfl rfl hl.1 rfl (Nat.le_of_ble_eq_true rfl) dX5_blocked_10 ⟨Nat.le_of_ble_eq_true rfl, Nat.le_of_ble_eq_true rfl⟩ (fun r_14 u H locs hw_15 hP hD hS => ?_)
    obtain ⟨p1_6, p2_7, p3_8, p4_9, q1_10, q2_11, q3_12, q4_13⟩ := u
    try dsimp only at hw_15
    have hP : va_P D vwCl [(oM, .inr (5, [.ref mN, .ref mA, .ref mP, .int (nI ks), .ref mR, .ref mT, .int (nI ln), .long p1_6, .long p2_7, .long p3_8, .long p4_9, .long q1_10, .long q2_11, .long q3_12, .long q4_13, .ref mL, .ref mB, .int od, .int spt, .int wa, .long hs])), (mN, .inl (cI, 39, .inl qn)), (mR, .inl (cI, 3, .inl rf))] H := hP
    have hD : va_D A [(oM, .inr (5, [.ref mN, .ref mA, .ref mP, .int (nI ks), .ref mR, .ref mT, .int (nI ln), .long p1_6, .long p2_7, .long p3_8, .long p4_9, .long q1_10, .long q2_11, .long q3_12, .long q4_13, .ref mL, .ref mB, .int od, .int spt, .int wa, .long hs])), (mN, .inl (cI, 39, .inl qn)), (mR, .inl (cI, 3, .inl rf))] := hD
    subst r_14
    refine lv_goto (tgt := 23) hx hb dX5_blocked_13 (by decide) ?_
    exact hQ (blF f n 16) (p1_6, p2_7, p3_8, p4_9, q1_10, q2_11, q3_12, q4_13, rf) _ _ _ _ (rfl) (⟨by rw [gBl, if_pos c_3, hcn], by rw [gRf, if_pos c_3]⟩) hP hD hS dX5_blocked_23

set_option maxHeartbeats 4000000 in
set_option maxRecDepth 100000 in
theorem kX5_advice (l : Launch) (D : va_G) (cI cB : ClassId) (tE tN : Nat) (oM : Nat) (mN : Nat) (mA : Nat) (mP : Nat) (mR : Nat) (mT : Nat) (mL : Nat) (mB : Nat) (ks : Nat) (ln : Nat) (x1 : Int64) (x2 : Int64) (x3 : Int64) (x4 : Int64) (y1 : Int64) (y2 : Int64) (y3 : Int64) (y4 : Int64) (od : Int32) (spt : Int32) (wa : Int32) (hs : Int64) (qn : Nat → Int32) (rf : Nat → Int32) (f : Nat → Int32) (N : Nat) (i : Int32) (sz : Nat) (hR : Rg N f qn) (hI : Iv f) (hNN : nN f = N) : zI l yX5_advice wsX5_advice ({ frames := 8, cells := 0, slots := 0, locals := 192 }) D cI cB tE tN [.ref oM, .int i] [(oM, .inr (5, [.ref mN, .ref mA, .ref mP, .int (nI ks), .ref mR, .ref mT, .int (nI ln), .long x1, .long x2, .long x3, .long x4, .long y1, .long y2, .long y3, .long y4, .ref mL, .ref mB, .int od, .int spt, .int wa, .long hs])), (mN, .inl (cI, 39, .inl qn)), (mR, .inl (cI, 3, .inl rf))] sz (fun u : Int64 × Int64 × Int64 × Int64 × Int64 × Int64 × Int64 × Int64 × (Nat → Int32) => [(oM, .inr (5, [.ref mN, .ref mA, .ref mP, .int (nI ks), .ref mR, .ref mT, .int (nI ln), .long u.1, .long u.2.1, .long u.2.2.1, .long u.2.2.2.1, .long u.2.2.2.2.1, .long u.2.2.2.2.2.1, .long u.2.2.2.2.2.2.1, .long u.2.2.2.2.2.2.2.1, .ref mL, .ref mB, .int od, .int spt, .int wa, .long hs])), (mN, .inl (cI, 39, .inl qn)), (mR, .inl (cI, 3, .inl u.2.2.2.2.2.2.2.2))]) (fun (r : Int32) (u : Int64 × Int64 × Int64 × Int64 × Int64 × Int64 × Int64 × Int64 × (Nat → Int32)) => r = gAd f N i ∧ u.2.2.2.2.2.2.2.2 = gRf (cShip f i) rf) 0 0 := by
  refine zI_mk (cc := cX5_advice) (maxL := 2) (rt := .int) (by decide) rfl (Nat.le_of_ble_eq_true rfl) ?_
  intro p e s m below meth c A Q ls S0 hname hA hK hP hD hT hS hQ hl
  obtain ⟨hx, hb, hml, hown, hts⟩ := id S0
  have hl : lv_has ls 2 [(0, .ref oM), (1, .int i)] := hl
  have hN6 : N ≤ 6 := by rw [← hNN]; exact hI.1
  refine lv_aload_n hx hb dX5_advice_0 rfl (lv_at hl 0 rfl) ?_
  refine lv_iload_n hx hb dX5_advice_1 rfl (lv_at hl 1 rfl) ?_
  refine z_VI (n := 1) (wn := (fun u : Unit => [(oM, .inr (5, [.ref mN, .ref mA, .ref mP, .int (nI ks), .ref mR, .ref mT, .int (nI ln), .long x1, .long x2, .long x3, .long x4, .long y1, .long y2, .long y3, .long y4, .ref mL, .ref mB, .int od, .int spt, .int wa, .long hs])), (mN, .inl (cI, 39, .inl qn)), (mR, .inl (cI, 3, .inl rf))])) (wr := [(mR, .inl (cI, 3, .inl rf))]) (As := [.int i]) (rest := []) ⟨hx, hb, hml, hown, hts⟩ hK hP hD hS hA hT (kX5_isShip l D cI cB tE tN oM mN mA mP mR mT mL mB ks ln x1 x2 x3 x4 y1 y2 y3 y4 od spt wa hs qn f N i _ (hR) (hI) (hNN)) gX5_advice_X5_isShip rfl rfl rfl (by decide +kernel) ⟨Nat.le_of_ble_eq_true rfl, Nat.le_of_ble_eq_true rfl⟩ [0, 1] [2] [1, 2, 0] (by decide) rfl rfl (by decide) (by decide) (by decide) (fun u => rfl) 0 5 rfl rfl rfl rfl hl.1 rfl (Nat.le_of_ble_eq_true rfl) dX5_advice_2 ⟨Nat.le_of_ble_eq_true rfl, Nat.le_of_ble_eq_true rfl⟩ (fun r_1 u H locs hw_2 hP hD hS => ?_)
  try dsimp only at hw_2
  have hP : va_P D vwCl [(oM, .inr (5, [.ref mN, .ref mA, .ref mP, .int (nI ks), .ref mR, .ref mT, .int (nI ln), .long x1, .long x2, .long x3, .long x4, .long y1, .long y2, .long y3, .long y4, .ref mL, .ref mB, .int od, .int spt, .int wa, .long hs])), (mN, .inl (cI, 39, .inl qn)), (mR, .inl (cI, 3, .inl rf))] H := hP
  have hD : va_D A [(oM, .inr (5, [.ref mN, .ref mA, .ref mP, .int (nI ks), .ref mR, .ref mT, .int (nI ln), .long x1, .long x2, .long x3, .long x4, .long y1, .long y2, .long y3, .long y4, .ref mL, .ref mB, .int od, .int spt, .int wa, .long hs])), (mN, .inl (cI, 39, .inl qn)), (mR, .inl (cI, 3, .inl rf))] := hD
  subst r_1
  refine lv_if_eq (tgt := 16) hx hb dX5_advice_5 (by decide) (fun c_3 => ?_) (fun c_3 => ?_)
  · skip
    have c_3 := z_b0 c_3
    refine lv_aload_n hx hb dX5_advice_16 rfl (lv_at hl 0 rfl) ?_
    refine lv_sipush (v := (-10002)) hx hb dX5_advice_17 (by decide) ?_
    refine z_VI (n := 1) (wn := (fun u : Unit => [(oM, .inr (5, [.ref mN, .ref mA, .ref mP, .int (nI ks), .ref mR, .ref mT, .int (nI ln), .long x1, .long x2, .long x3, .long x4, .long y1, .long y2, .long y3, .long y4, .ref mL, .ref mB, .int od, .int spt, .int wa, .long hs])), (mN, .inl (cI, 39, .inl qn)), (mR, .inl (cI, 3, .inl (upd rf 0 (rf 0 + 1))))])) (wr := [(mN, .inl (cI, 39, .inl qn))]) (As := [.int (-10002)]) (rest := []) ⟨hx, hb, hml, hown, hts⟩ hK hP hD hS hA hT (kX5_refuses l D cI cB tE tN oM mN mA mP mR mT mL mB ks ln x1 x2 x3 x4 y1 y2 y3 y4 od spt wa hs rf (-10002) 0 _ (by decide) (by omega)) gX5_advice_X5_refuses rfl rfl rfl (by decide +kernel) ⟨Nat.le_of_ble_eq_true rfl, Nat.le_of_ble_eq_true rfl⟩ [0, 2] [1] [1, 0, 2] (by decide) rfl rfl (by decide) (by decide) (by decide) (fun u => rfl) 0 5 rfl rfl rfl rfl hl.1 rfl (Nat.le_of_ble_eq_true rfl) dX5_advice_20 ⟨Nat.le_of_ble_eq_true rfl, Nat.le_of_ble_eq_true rfl⟩ (fun r_4 u H locs hw_5 hP hD hS => ?_)
    try dsimp only at hw_5
    have hP : va_P D vwCl [(oM, .inr (5, [.ref mN, .ref mA, .ref mP, .int (nI ks), .ref mR, .ref mT, .int (nI ln), .long x1, .long x2, .long x3, .long x4, .long y1, .long y2, .long y3, .long y4, .ref mL, .ref mB, .int od, .int spt, .int wa, .long hs])), (mN, .inl (cI, 39, .inl qn)), (mR, .inl (cI, 3, .inl (upd rf 0 (rf 0 + 1))))] H := hP
    have hD : va_D A [(oM, .inr (5, [.ref mN, .ref mA, .ref mP, .int (nI ks), .ref mR, .ref mT, .int (nI ln), .long x1, .long x2, .long x3, .long x4, .long y1, .long y2, .long y3, .long y4, .ref mL, .ref mB, .int od, .int spt, .int wa, .long hs])), (mN, .inl (cI, 39, .inl qn)), (mR, .inl (cI, 3, .inl (upd rf 0 (rf 0 + 1))))] := hD
    subst r_4
    exact hQ (-10002) (x1, x2, x3, x4, y1, y2, y3, y4, upd rf 0 (rf 0 + 1)) _ _ _ _ (rfl) (⟨by rw [gAd, if_neg (by rw [c_3]; decide)], by rw [gRf, if_neg (by rw [c_3]; decide)]⟩) hP hD hS dX5_advice_23
  · skip
    have c_3 := z_b1 c_3
    obtain ⟨n, rfl, hn⟩ := cShip_n hI.2.1 hI.1 c_3
    rw [hNN] at hn
    have hcn : (nI n).toNatClampNeg = n := nI_clamp (by omega)
    refine lv_aload_n hx hb dX5_advice_8 rfl (lv_at hl 0 rfl) ?_
    refine lv_iload_n hx hb dX5_advice_9 rfl (lv_at hl 1 rfl) ?_
    refine z_VI (n := 1) (wn := (fun u : Int64 × Int64 × Int64 × Int64 × Int64 × Int64 × Int64 × Int64 => [(oM, .inr (5, [.ref mN, .ref mA, .ref mP, .int (nI ks), .ref mR, .ref mT, .int (nI ln), .long u.1, .long u.2.1, .long u.2.2.1, .long u.2.2.2.1, .long u.2.2.2.2.1, .long u.2.2.2.2.2.1, .long u.2.2.2.2.2.2.1, .long u.2.2.2.2.2.2.2, .ref mL, .ref mB, .int od, .int spt, .int wa, .long hs])), (mN, .inl (cI, 39, .inl qn)), (mR, .inl (cI, 3, .inl rf))])) (wr := [(mR, .inl (cI, 3, .inl rf))]) (As := [.int (nI n)]) (rest := []) ⟨hx, hb, hml, hown, hts⟩ hK hP hD hS hA hT (kX5_adviceFor l D cI cB tE tN oM mN mA mP mR mT mL mB ks ln x1 x2 x3 x4 y1 y2 y3 y4 od spt wa hs qn f N n _ (hR) (hI) (hNN) (by omega)) gX5_advice_X5_adviceFor rfl rfl rfl (by decide +kernel) ⟨Nat.le_of_ble_eq_true rfl, Nat.le_of_ble_eq_true rfl⟩ [0, 1] [2] [1, 2, 0] (by decide) rfl rfl (by decide) (by decide) (by decide) (fun u => rfl) 0 5 rfl rfl rfl rfl hl.1 rfl (Nat.le_of_ble_eq_true rfl) dX5_advice_10 ⟨Nat.le_of_ble_eq_true rfl, Nat.le_of_ble_eq_true rfl⟩ (fun r_14 u H locs hw_15 hP hD hS => ?_)
    obtain ⟨p1_6, p2_7, p3_8, p4_9, q1_10, q2_11, q3_12, q4_13⟩ := u
    try dsimp only at hw_15
    have hP : va_P D vwCl [(oM, .inr (5, [.ref mN, .ref mA, .ref mP, .int (nI ks), .ref mR, .ref mT, .int (nI ln), .long p1_6, .long p2_7, .long p3_8, .long p4_9, .long q1_10, .long q2_11, .long q3_12, .long q4_13, .ref mL, .ref mB, .int od, .int spt, .int wa, .long hs])), (mN, .inl (cI, 39, .inl qn)), (mR, .inl (cI, 3, .inl rf))] H := hP
    have hD : va_D A [(oM, .inr (5, [.ref mN, .ref mA, .ref mP, .int (nI ks), .ref mR, .ref mT, .int (nI ln), .long p1_6, .long p2_7, .long p3_8, .long p4_9, .long q1_10, .long q2_11, .long q3_12, .long q4_13, .ref mL, .ref mB, .int od, .int spt, .int wa, .long hs])), (mN, .inl (cI, 39, .inl qn)), (mR, .inl (cI, 3, .inl rf))] := hD
    subst r_14
    refine lv_goto (tgt := 23) hx hb dX5_advice_13 (by decide) ?_
    exact hQ (cAdv f N n) (p1_6, p2_7, p3_8, p4_9, q1_10, q2_11, q3_12, q4_13, rf) _ _ _ _ (rfl) (⟨by rw [gAd, if_pos c_3, hcn], by rw [gRf, if_pos c_3]⟩) hP hD hS dX5_advice_23

set_option maxHeartbeats 4000000 in
set_option maxRecDepth 100000 in
theorem kX5_clear (l : Launch) (D : va_G) (cI cB : ClassId) (tE tN : Nat) (oM : Nat) (mN : Nat) (mA : Nat) (mP : Nat) (mR : Nat) (mT : Nat) (mL : Nat) (mB : Nat) (ks : Nat) (ln : Nat) (x1 : Int64) (x2 : Int64) (x3 : Int64) (x4 : Int64) (y1 : Int64) (y2 : Int64) (y3 : Int64) (y4 : Int64) (od : Int32) (spt : Int32) (wa : Int32) (hs : Int64) (qn : Nat → Int32) (rf : Nat → Int32) (f : Nat → Int32) (N : Nat) (i : Int32) (ph : Int32) (ps : Int32) (sz : Nat) (hR : Rg N f qn) (hI : Iv f) (hNN : nN f = N) : zI l yX5_clear wsX5_clear ({ frames := 4, cells := 0, slots := 0, locals := 102 }) D cI cB tE tN [.ref oM, .int i, .int ph, .int ps] [(oM, .inr (5, [.ref mN, .ref mA, .ref mP, .int (nI ks), .ref mR, .ref mT, .int (nI ln), .long x1, .long x2, .long x3, .long x4, .long y1, .long y2, .long y3, .long y4, .ref mL, .ref mB, .int od, .int spt, .int wa, .long hs])), (mN, .inl (cI, 39, .inl qn)), (mR, .inl (cI, 3, .inl rf))] sz (fun u : Int64 × Int64 × Int64 × Int64 × Int64 × Int64 × Int64 × Int64 × (Nat → Int32) => [(oM, .inr (5, [.ref mN, .ref mA, .ref mP, .int (nI ks), .ref mR, .ref mT, .int (nI ln), .long u.1, .long u.2.1, .long u.2.2.1, .long u.2.2.2.1, .long u.2.2.2.2.1, .long u.2.2.2.2.2.1, .long u.2.2.2.2.2.2.1, .long u.2.2.2.2.2.2.2.1, .ref mL, .ref mB, .int od, .int spt, .int wa, .long hs])), (mN, .inl (cI, 39, .inl qn)), (mR, .inl (cI, 3, .inl u.2.2.2.2.2.2.2.2))]) (fun (r : Int32) (u : Int64 × Int64 × Int64 × Int64 × Int64 × Int64 × Int64 × Int64 × (Nat → Int32)) => r = gCr f N i ph ps ∧ u.2.2.2.2.2.2.2.2 = gRf (vCr f i ph ps) rf) 0 0 := by
  refine zI_mk (cc := cX5_clear) (maxL := 4) (rt := .int) (by decide) rfl (Nat.le_of_ble_eq_true rfl) ?_
  intro p e s m below meth c A Q ls S0 hname hA hK hP hD hT hS hQ hl
  obtain ⟨hx, hb, hml, hown, hts⟩ := id S0
  have hl : lv_has ls 4 [(0, .ref oM), (1, .int i), (2, .int ph), (3, .int ps)] := hl
  have hN6 : N ≤ 6 := by rw [← hNN]; exact hI.1
  refine lv_aload_n hx hb dX5_clear_0 rfl (lv_at hl 0 rfl) ?_
  refine lv_iload_n hx hb dX5_clear_1 rfl (lv_at hl 1 rfl) ?_
  refine z_VI (n := 1) (wn := (fun u : Unit => [(oM, .inr (5, [.ref mN, .ref mA, .ref mP, .int (nI ks), .ref mR, .ref mT, .int (nI ln), .long x1, .long x2, .long x3, .long x4, .long y1, .long y2, .long y3, .long y4, .ref mL, .ref mB, .int od, .int spt, .int wa, .long hs])), (mN, .inl (cI, 39, .inl qn)), (mR, .inl (cI, 3, .inl rf))])) (wr := [(mR, .inl (cI, 3, .inl rf))]) (As := [.int i]) (rest := []) ⟨hx, hb, hml, hown, hts⟩ hK hP hD hS hA hT (kX5_isShip l D cI cB tE tN oM mN mA mP mR mT mL mB ks ln x1 x2 x3 x4 y1 y2 y3 y4 od spt wa hs qn f N i _ (hR) (hI) (hNN)) gX5_clear_X5_isShip rfl rfl rfl (by decide +kernel) ⟨Nat.le_of_ble_eq_true rfl, Nat.le_of_ble_eq_true rfl⟩ [0, 1] [2] [1, 2, 0] (by decide) rfl rfl (by decide) (by decide) (by decide) (fun u => rfl) 0 5 rfl rfl rfl rfl hl.1 rfl (Nat.le_of_ble_eq_true rfl) dX5_clear_2 ⟨Nat.le_of_ble_eq_true rfl, Nat.le_of_ble_eq_true rfl⟩ (fun r_1 u H locs hw_2 hP hD hS => ?_)
  try dsimp only at hw_2
  have hP : va_P D vwCl [(oM, .inr (5, [.ref mN, .ref mA, .ref mP, .int (nI ks), .ref mR, .ref mT, .int (nI ln), .long x1, .long x2, .long x3, .long x4, .long y1, .long y2, .long y3, .long y4, .ref mL, .ref mB, .int od, .int spt, .int wa, .long hs])), (mN, .inl (cI, 39, .inl qn)), (mR, .inl (cI, 3, .inl rf))] H := hP
  have hD : va_D A [(oM, .inr (5, [.ref mN, .ref mA, .ref mP, .int (nI ks), .ref mR, .ref mT, .int (nI ln), .long x1, .long x2, .long x3, .long x4, .long y1, .long y2, .long y3, .long y4, .ref mL, .ref mB, .int od, .int spt, .int wa, .long hs])), (mN, .inl (cI, 39, .inl qn)), (mR, .inl (cI, 3, .inl rf))] := hD
  subst r_1
  refine lv_if_eq (tgt := 34) hx hb dX5_clear_5 (by decide) (fun c_3 => ?_) (fun c_3 => ?_)
  · skip
    have c_3 := z_b0 c_3
    refine lv_aload_n hx hb dX5_clear_34 rfl (lv_at hl 0 rfl) ?_
    refine lv_sipush (v := (-10002)) hx hb dX5_clear_35 (by decide) ?_
    refine z_VI (n := 1) (wn := (fun u : Unit => [(oM, .inr (5, [.ref mN, .ref mA, .ref mP, .int (nI ks), .ref mR, .ref mT, .int (nI ln), .long x1, .long x2, .long x3, .long x4, .long y1, .long y2, .long y3, .long y4, .ref mL, .ref mB, .int od, .int spt, .int wa, .long hs])), (mN, .inl (cI, 39, .inl qn)), (mR, .inl (cI, 3, .inl (upd rf 0 (rf 0 + 1))))])) (wr := [(mN, .inl (cI, 39, .inl qn))]) (As := [.int (-10002)]) (rest := []) ⟨hx, hb, hml, hown, hts⟩ hK hP hD hS hA hT (kX5_refuses l D cI cB tE tN oM mN mA mP mR mT mL mB ks ln x1 x2 x3 x4 y1 y2 y3 y4 od spt wa hs rf (-10002) 0 _ (by decide) (by omega)) gX5_clear_X5_refuses rfl rfl rfl (by decide +kernel) ⟨Nat.le_of_ble_eq_true rfl, Nat.le_of_ble_eq_true rfl⟩ [0, 2] [1] [1, 0, 2] (by decide) rfl rfl (by decide) (by decide) (by decide) (fun u => rfl) 0 5 rfl rfl rfl rfl hl.1 rfl (Nat.le_of_ble_eq_true rfl) dX5_clear_38 ⟨Nat.le_of_ble_eq_true rfl, Nat.le_of_ble_eq_true rfl⟩ (fun r_4 u H locs hw_5 hP hD hS => ?_)
    try dsimp only at hw_5
    have hP : va_P D vwCl [(oM, .inr (5, [.ref mN, .ref mA, .ref mP, .int (nI ks), .ref mR, .ref mT, .int (nI ln), .long x1, .long x2, .long x3, .long x4, .long y1, .long y2, .long y3, .long y4, .ref mL, .ref mB, .int od, .int spt, .int wa, .long hs])), (mN, .inl (cI, 39, .inl qn)), (mR, .inl (cI, 3, .inl (upd rf 0 (rf 0 + 1))))] H := hP
    have hD : va_D A [(oM, .inr (5, [.ref mN, .ref mA, .ref mP, .int (nI ks), .ref mR, .ref mT, .int (nI ln), .long x1, .long x2, .long x3, .long x4, .long y1, .long y2, .long y3, .long y4, .ref mL, .ref mB, .int od, .int spt, .int wa, .long hs])), (mN, .inl (cI, 39, .inl qn)), (mR, .inl (cI, 3, .inl (upd rf 0 (rf 0 + 1))))] := hD
    subst r_4
    exact hQ (-10002) (x1, x2, x3, x4, y1, y2, y3, y4, upd rf 0 (rf 0 + 1)) _ _ _ _ (rfl) (⟨by rw [gCr, if_neg (by simp [vCr, c_3])], by rw [gRf, if_neg (by simp [vCr, c_3])]⟩) hP hD hS dX5_clear_41
  · skip
    have c_3 := z_b1 c_3
    refine lv_iload_n hx hb dX5_clear_8 rfl (lv_at hl 2 rfl) ?_
    refine lv_iload_n hx hb dX5_clear_9 rfl (lv_at hl 3 rfl) ?_
    refine z_SI (n := 2) (wn := (fun u : Unit => [(oM, .inr (5, [.ref mN, .ref mA, .ref mP, .int (nI ks), .ref mR, .ref mT, .int (nI ln), .long x1, .long x2, .long x3, .long x4, .long y1, .long y2, .long y3, .long y4, .ref mL, .ref mB, .int od, .int spt, .int wa, .long hs])), (mN, .inl (cI, 39, .inl qn)), (mR, .inl (cI, 3, .inl rf))])) (wr := [(oM, .inr (5, [.ref mN, .ref mA, .ref mP, .int (nI ks), .ref mR, .ref mT, .int (nI ln), .long x1, .long x2, .long x3, .long x4, .long y1, .long y2, .long y3, .long y4, .ref mL, .ref mB, .int od, .int spt, .int wa, .long hs])), (mN, .inl (cI, 39, .inl qn)), (mR, .inl (cI, 3, .inl rf))]) (As := [.int ph, .int ps]) (rest := []) ⟨hx, hb, hml, hown, hts⟩ hK hP hD hS hA hT (kX5_isCourse l D cI cB tE tN ph ps _ ) gX5_clear_X5_isCourse rfl rfl rfl (by decide +kernel) ⟨Nat.le_of_ble_eq_true rfl, Nat.le_of_ble_eq_true rfl⟩ [] [0, 1, 2] [0, 1, 2] (by decide) rfl rfl (by decide) (by decide) (by decide) (fun u => rfl) rfl hl.1 rfl (Nat.le_of_ble_eq_true rfl) dX5_clear_10 ⟨Nat.le_of_ble_eq_true rfl, Nat.le_of_ble_eq_true rfl⟩ (fun r_6 u H locs hw_7 hP hD hS => ?_)
    try dsimp only at hw_7
    have hP : va_P D vwCl [(oM, .inr (5, [.ref mN, .ref mA, .ref mP, .int (nI ks), .ref mR, .ref mT, .int (nI ln), .long x1, .long x2, .long x3, .long x4, .long y1, .long y2, .long y3, .long y4, .ref mL, .ref mB, .int od, .int spt, .int wa, .long hs])), (mN, .inl (cI, 39, .inl qn)), (mR, .inl (cI, 3, .inl rf))] H := hP
    have hD : va_D A [(oM, .inr (5, [.ref mN, .ref mA, .ref mP, .int (nI ks), .ref mR, .ref mT, .int (nI ln), .long x1, .long x2, .long x3, .long x4, .long y1, .long y2, .long y3, .long y4, .ref mL, .ref mB, .int od, .int spt, .int wa, .long hs])), (mN, .inl (cI, 39, .inl qn)), (mR, .inl (cI, 3, .inl rf))] := hD
    subst r_6
    refine lv_if_eq (tgt := 34) hx hb dX5_clear_13 (by decide) (fun c_8 => ?_) (fun c_8 => ?_)
    · skip
      have c_8 := z_b0 c_8
      refine lv_aload_n hx hb dX5_clear_34 rfl (lv_at hl 0 rfl) ?_
      refine lv_sipush (v := (-10002)) hx hb dX5_clear_35 (by decide) ?_
      refine z_VI (n := 1) (wn := (fun u : Unit => [(oM, .inr (5, [.ref mN, .ref mA, .ref mP, .int (nI ks), .ref mR, .ref mT, .int (nI ln), .long x1, .long x2, .long x3, .long x4, .long y1, .long y2, .long y3, .long y4, .ref mL, .ref mB, .int od, .int spt, .int wa, .long hs])), (mN, .inl (cI, 39, .inl qn)), (mR, .inl (cI, 3, .inl (upd rf 0 (rf 0 + 1))))])) (wr := [(mN, .inl (cI, 39, .inl qn))]) (As := [.int (-10002)]) (rest := []) ⟨hx, hb, hml, hown, hts⟩ hK hP hD hS hA hT (kX5_refuses l D cI cB tE tN oM mN mA mP mR mT mL mB ks ln x1 x2 x3 x4 y1 y2 y3 y4 od spt wa hs rf (-10002) 0 _ (by decide) (by omega)) gX5_clear_X5_refuses rfl rfl rfl (by decide +kernel) ⟨Nat.le_of_ble_eq_true rfl, Nat.le_of_ble_eq_true rfl⟩ [0, 2] [1] [1, 0, 2] (by decide) rfl rfl (by decide) (by decide) (by decide) (fun u => rfl) 0 5 rfl rfl rfl rfl hl.1 rfl (Nat.le_of_ble_eq_true rfl) dX5_clear_38 ⟨Nat.le_of_ble_eq_true rfl, Nat.le_of_ble_eq_true rfl⟩ (fun r_9 u H locs hw_10 hP hD hS => ?_)
      try dsimp only at hw_10
      have hP : va_P D vwCl [(oM, .inr (5, [.ref mN, .ref mA, .ref mP, .int (nI ks), .ref mR, .ref mT, .int (nI ln), .long x1, .long x2, .long x3, .long x4, .long y1, .long y2, .long y3, .long y4, .ref mL, .ref mB, .int od, .int spt, .int wa, .long hs])), (mN, .inl (cI, 39, .inl qn)), (mR, .inl (cI, 3, .inl (upd rf 0 (rf 0 + 1))))] H := hP
      have hD : va_D A [(oM, .inr (5, [.ref mN, .ref mA, .ref mP, .int (nI ks), .ref mR, .ref mT, .int (nI ln), .long x1, .long x2, .long x3, .long x4, .long y1, .long y2, .long y3, .long y4, .ref mL, .ref mB, .int od, .int spt, .int wa, .long hs])), (mN, .inl (cI, 39, .inl qn)), (mR, .inl (cI, 3, .inl (upd rf 0 (rf 0 + 1))))] := hD
      subst r_9
      exact hQ (-10002) (x1, x2, x3, x4, y1, y2, y3, y4, upd rf 0 (rf 0 + 1)) _ _ _ _ (rfl) (⟨by rw [gCr, if_neg (by simp [vCr, c_3, c_8])], by rw [gRf, if_neg (by simp [vCr, c_3, c_8])]⟩) hP hD hS dX5_clear_41
    · skip
      have c_8 := z_b1 c_8
      obtain ⟨n, rfl, hn⟩ := cShip_n hI.2.1 hI.1 c_3
      rw [hNN] at hn
      have hcn : (nI n).toNatClampNeg = n := nI_clamp (by omega)
      obtain ⟨kt, hkt, hkt15⟩ := inr_nat (hi := 15) (cCourse_in c_8).1 (by decide)
      refine lv_aload_n hx hb dX5_clear_16 rfl (lv_at hl 0 rfl) ?_
      refine lv_iload_n hx hb dX5_clear_17 rfl (lv_at hl 1 rfl) ?_
      refine lv_iload_n hx hb dX5_clear_18 rfl (lv_at hl 2 rfl) ?_
      refine lv_iload_n hx hb dX5_clear_19 rfl (lv_at hl 3 rfl) ?_
      refine z_VI (n := 3) (wn := (fun u : Int64 × Int64 × Int64 × Int64 × Int64 × Int64 × Int64 × Int64 => [(oM, .inr (5, [.ref mN, .ref mA, .ref mP, .int (nI ks), .ref mR, .ref mT, .int (nI ln), .long u.1, .long u.2.1, .long u.2.2.1, .long u.2.2.2.1, .long u.2.2.2.2.1, .long u.2.2.2.2.2.1, .long u.2.2.2.2.2.2.1, .long u.2.2.2.2.2.2.2, .ref mL, .ref mB, .int od, .int spt, .int wa, .long hs])), (mN, .inl (cI, 39, .inl qn)), (mR, .inl (cI, 3, .inl rf))])) (wr := [(mR, .inl (cI, 3, .inl rf))]) (As := [.int (nI n), .int ph, .int ps]) (rest := []) ⟨hx, hb, hml, hown, hts⟩ hK hP hD hS hA hT (kX5_isClear l D cI cB tE tN oM mN mA mP mR mT mL mB ks ln x1 x2 x3 x4 y1 y2 y3 y4 od spt wa hs qn f N n ph ps kt _ (hR) (hI) (hNN) (by omega) (hkt) (hkt15) ((cCourse_in c_8).2)) gX5_clear_X5_isClear rfl rfl rfl (by decide +kernel) ⟨Nat.le_of_ble_eq_true rfl, Nat.le_of_ble_eq_true rfl⟩ [0, 1] [2] [1, 2, 0] (by decide) rfl rfl (by decide) (by decide) (by decide) (fun u => rfl) 0 5 rfl rfl rfl rfl hl.1 rfl (Nat.le_of_ble_eq_true rfl) dX5_clear_20 ⟨Nat.le_of_ble_eq_true rfl, Nat.le_of_ble_eq_true rfl⟩ (fun r_19 u H locs hw_20 hP hD hS => ?_)
      obtain ⟨p1_11, p2_12, p3_13, p4_14, q1_15, q2_16, q3_17, q4_18⟩ := u
      try dsimp only at hw_20
      have hP : va_P D vwCl [(oM, .inr (5, [.ref mN, .ref mA, .ref mP, .int (nI ks), .ref mR, .ref mT, .int (nI ln), .long p1_11, .long p2_12, .long p3_13, .long p4_14, .long q1_15, .long q2_16, .long q3_17, .long q4_18, .ref mL, .ref mB, .int od, .int spt, .int wa, .long hs])), (mN, .inl (cI, 39, .inl qn)), (mR, .inl (cI, 3, .inl rf))] H := hP
      have hD : va_D A [(oM, .inr (5, [.ref mN, .ref mA, .ref mP, .int (nI ks), .ref mR, .ref mT, .int (nI ln), .long p1_11, .long p2_12, .long p3_13, .long p4_14, .long q1_15, .long q2_16, .long q3_17, .long q4_18, .ref mL, .ref mB, .int od, .int spt, .int wa, .long hs])), (mN, .inl (cI, 39, .inl qn)), (mR, .inl (cI, 3, .inl rf))] := hD
      subst r_19
      refine lv_if_eq (tgt := 30) hx hb dX5_clear_23 (by decide) (fun c_21 => ?_) (fun c_21 => ?_)
      · skip
        have c_21 := z_b0 c_21
        refine lv_iconst (v := 0) hx hb dX5_clear_30 (by decide) ?_
        refine lv_goto (tgt := 41) hx hb dX5_clear_31 (by decide) ?_
        exact hQ 0 (p1_11, p2_12, p3_13, p4_14, q1_15, q2_16, q3_17, q4_18, rf) _ _ _ _ (rfl) (⟨by rw [gCr, if_pos (by simp [vCr, c_3, c_8]), hcn, c_21]; rfl, by rw [gRf, if_pos (by simp [vCr, c_3, c_8])]⟩) hP hD hS dX5_clear_41
      · skip
        have c_21 := z_b1 c_21
        refine lv_iconst (v := 1) hx hb dX5_clear_26 (by decide) ?_
        refine lv_goto (tgt := 41) hx hb dX5_clear_27 (by decide) ?_
        exact hQ 1 (p1_11, p2_12, p3_13, p4_14, q1_15, q2_16, q3_17, q4_18, rf) _ _ _ _ (rfl) (⟨by rw [gCr, if_pos (by simp [vCr, c_3, c_8]), hcn, c_21]; rfl, by rw [gRf, if_pos (by simp [vCr, c_3, c_8])]⟩) hP hD hS dX5_clear_41

set_option maxHeartbeats 4000000 in
set_option maxRecDepth 100000 in
theorem kX5_countOf (l : Launch) (D : va_G) (cI cB : ClassId) (tE tN : Nat) (oM : Nat) (mN : Nat) (mA : Nat) (mP : Nat) (mR : Nat) (mT : Nat) (mL : Nat) (mB : Nat) (ks : Nat) (ln : Nat) (x1 : Int64) (x2 : Int64) (x3 : Int64) (x4 : Int64) (y1 : Int64) (y2 : Int64) (y3 : Int64) (y4 : Int64) (od : Int32) (spt : Int32) (wa : Int32) (hs : Int64) (qn : Nat → Int32) (f : Nat → Int32) (N : Nat) (w : Nat) (sz : Nat) (hR : Rg N f qn) (hI : Iv f) (hNN : nN f = N) (hw : w ≤ 3) : zI l yX5_countOf wsX5_countOf ({ frames := 0, cells := 0, slots := 0, locals := 0 }) D cI cB tE tN [.ref oM, .int (nI w)] [(oM, .inr (5, [.ref mN, .ref mA, .ref mP, .int (nI ks), .ref mR, .ref mT, .int (nI ln), .long x1, .long x2, .long x3, .long x4, .long y1, .long y2, .long y3, .long y4, .ref mL, .ref mB, .int od, .int spt, .int wa, .long hs])), (mN, .inl (cI, 39, .inl qn))] sz (fun u : Unit => [(oM, .inr (5, [.ref mN, .ref mA, .ref mP, .int (nI ks), .ref mR, .ref mT, .int (nI ln), .long x1, .long x2, .long x3, .long x4, .long y1, .long y2, .long y3, .long y4, .ref mL, .ref mB, .int od, .int spt, .int wa, .long hs])), (mN, .inl (cI, 39, .inl qn))]) (fun (r : Int32) (u : Unit) => r = f (35 + w)) 0 0 := by
  refine zI_mk (cc := cX5_countOf) (maxL := 2) (rt := .int) (by decide) rfl (Nat.le_of_ble_eq_true rfl) ?_
  intro p e s m below meth c A Q ls S0 hname hA hK hP hD hT hS hQ hl
  obtain ⟨hx, hb, hml, hown, hts⟩ := id S0
  have hl : lv_has ls 2 [(0, .ref oM), (1, .int (nI w))] := hl
  have L7 : (Cond.fieldLink RX5 7 "PastAndClearModel" "now" "[I").before ([.ref oM, .int (nI w)] : List Value).toArray s = true := hts (.fieldLink RX5 7 "PastAndClearModel" "now" "[I") (by decide +kernel)
  have N5 : ∀ w ∈ u_ws RX5 TX5 21, w ∈ wsX5_countOf := by decide +kernel
  refine lv_iload_n hx hb dX5_countOf_0 rfl (lv_at hl 1 rfl) ?_
  refine lv_if_ne (tgt := 15) hx hb dX5_countOf_1 (by decide) (fun c_1 => ?_) (fun c_1 => ?_)
  · skip
    have c_1 := (z_eqn (a := w) (b := 0) rfl rfl (by omega) (by omega)).mp c_1
    refine lv_aload_n hx hb dX5_countOf_15 rfl (lv_at hl 0 rfl) ?_
    refine va_get (D := D) (ci := 5) (v := .ref mN) (C := RX5) (T := TX5) (N := 21) hx hb hts N5 hown hK hP 0 rfl rfl 0 (by decide) L7 (fun _ h9 => h9) rfl dX5_countOf_16 ?_
    refine lv_iload_n hx hb dX5_countOf_19 rfl (lv_at hl 1 rfl) ?_
    refine z_ild (v := f (35 + w)) (j := w) hx hb hK hP 1 rfl rfl (by omega) (by decide) (rd123 hR (by omega) hw) dX5_countOf_20 ?_
    exact hQ (f (35 + w)) () _ _ _ _ (rfl) (rfl) hP hD hS dX5_countOf_21
  · skip
    have c_1 := (z_eq (a := w) (b := 0) rfl rfl (by omega) (by omega)).mp c_1
    refine lv_aload_n hx hb dX5_countOf_4 rfl (lv_at hl 0 rfl) ?_
    refine va_get (D := D) (ci := 5) (v := .ref mN) (C := RX5) (T := TX5) (N := 21) hx hb hts N5 hown hK hP 0 rfl rfl 0 (by decide) L7 (fun _ h9 => h9) rfl dX5_countOf_5 ?_
    refine lv_iconst (v := 0) hx hb dX5_countOf_8 (by decide) ?_
    refine z_ild (v := nI (N + 1)) (j := 0) hx hb hK hP 1 rfl rfl (by omega) (by decide) (hR.1) dX5_countOf_9 ?_
    refine lv_iconst (v := 1) hx hb dX5_countOf_10 (by decide) ?_
    refine lv_isub hx hb dX5_countOf_11 ?_
    refine z_topi (x := (nI (N + 1)) - 1) (y := nI N) (nI_pred N) ?_
    refine lv_goto (tgt := 21) hx hb dX5_countOf_12 (by decide) ?_
    exact hQ (nI N) () _ _ _ _ (rfl) (by rw [c_1, ← hNN]; exact hI.2.1.symm) hP hD hS dX5_countOf_21

set_option maxHeartbeats 4000000 in
set_option maxRecDepth 100000 in
theorem kX5_count (l : Launch) (D : va_G) (cI cB : ClassId) (tE tN : Nat) (oM : Nat) (mN : Nat) (mA : Nat) (mP : Nat) (mR : Nat) (mT : Nat) (mL : Nat) (mB : Nat) (ks : Nat) (ln : Nat) (x1 : Int64) (x2 : Int64) (x3 : Int64) (x4 : Int64) (y1 : Int64) (y2 : Int64) (y3 : Int64) (y4 : Int64) (od : Int32) (spt : Int32) (wa : Int32) (hs : Int64) (qn : Nat → Int32) (rf : Nat → Int32) (f : Nat → Int32) (N : Nat) (w : Int32) (sz : Nat) (hR : Rg N f qn) (hI : Iv f) (hNN : nN f = N) : zI l yX5_count wsX5_count ({ frames := 1, cells := 0, slots := 0, locals := 22 }) D cI cB tE tN [.ref oM, .int w] [(oM, .inr (5, [.ref mN, .ref mA, .ref mP, .int (nI ks), .ref mR, .ref mT, .int (nI ln), .long x1, .long x2, .long x3, .long x4, .long y1, .long y2, .long y3, .long y4, .ref mL, .ref mB, .int od, .int spt, .int wa, .long hs])), (mN, .inl (cI, 39, .inl qn)), (mR, .inl (cI, 3, .inl rf))] sz (fun u : (Nat → Int32) => [(oM, .inr (5, [.ref mN, .ref mA, .ref mP, .int (nI ks), .ref mR, .ref mT, .int (nI ln), .long x1, .long x2, .long x3, .long x4, .long y1, .long y2, .long y3, .long y4, .ref mL, .ref mB, .int od, .int spt, .int wa, .long hs])), (mN, .inl (cI, 39, .inl qn)), (mR, .inl (cI, 3, .inl u))]) (fun (r : Int32) (u : (Nat → Int32)) => r = gCo f w ∧ u = gRf (vIn w 3) rf) 0 0 := by
  refine zI_mk (cc := cX5_count) (maxL := 2) (rt := .int) (by decide) rfl (Nat.le_of_ble_eq_true rfl) ?_
  intro p e s m below meth c A Q ls S0 hname hA hK hP hD hT hS hQ hl
  obtain ⟨hx, hb, hml, hown, hts⟩ := id S0
  have hl : lv_has ls 2 [(0, .ref oM), (1, .int w)] := hl
  have hN6 : N ≤ 6 := by rw [← hNN]; exact hI.1
  refine lv_iload_n hx hb dX5_count_0 rfl (lv_at hl 1 rfl) ?_
  refine lv_iconst (v := 0) hx hb dX5_count_1 (by decide) ?_
  refine lv_iconst (v := 3) hx hb dX5_count_2 (by decide) ?_
  refine z_SI (n := 3) (wn := (fun u : Unit => [(oM, .inr (5, [.ref mN, .ref mA, .ref mP, .int (nI ks), .ref mR, .ref mT, .int (nI ln), .long x1, .long x2, .long x3, .long x4, .long y1, .long y2, .long y3, .long y4, .ref mL, .ref mB, .int od, .int spt, .int wa, .long hs])), (mN, .inl (cI, 39, .inl qn)), (mR, .inl (cI, 3, .inl rf))])) (wr := [(oM, .inr (5, [.ref mN, .ref mA, .ref mP, .int (nI ks), .ref mR, .ref mT, .int (nI ln), .long x1, .long x2, .long x3, .long x4, .long y1, .long y2, .long y3, .long y4, .ref mL, .ref mB, .int od, .int spt, .int wa, .long hs])), (mN, .inl (cI, 39, .inl qn)), (mR, .inl (cI, 3, .inl rf))]) (As := [.int w, .int 0, .int 3]) (rest := []) ⟨hx, hb, hml, hown, hts⟩ hK hP hD hS hA hT (kX5_in l D cI cB tE tN w 0 3 _ ) gX5_count_X5_in rfl rfl rfl (by decide +kernel) ⟨Nat.le_of_ble_eq_true rfl, Nat.le_of_ble_eq_true rfl⟩ [] [0, 1, 2] [0, 1, 2] (by decide) rfl rfl (by decide) (by decide) (by decide) (fun u => rfl) rfl hl.1 rfl (Nat.le_of_ble_eq_true rfl) dX5_count_3 ⟨Nat.le_of_ble_eq_true rfl, Nat.le_of_ble_eq_true rfl⟩ (fun r_1 u H locs hw_2 hP hD hS => ?_)
  try dsimp only at hw_2
  have hP : va_P D vwCl [(oM, .inr (5, [.ref mN, .ref mA, .ref mP, .int (nI ks), .ref mR, .ref mT, .int (nI ln), .long x1, .long x2, .long x3, .long x4, .long y1, .long y2, .long y3, .long y4, .ref mL, .ref mB, .int od, .int spt, .int wa, .long hs])), (mN, .inl (cI, 39, .inl qn)), (mR, .inl (cI, 3, .inl rf))] H := hP
  have hD : va_D A [(oM, .inr (5, [.ref mN, .ref mA, .ref mP, .int (nI ks), .ref mR, .ref mT, .int (nI ln), .long x1, .long x2, .long x3, .long x4, .long y1, .long y2, .long y3, .long y4, .ref mL, .ref mB, .int od, .int spt, .int wa, .long hs])), (mN, .inl (cI, 39, .inl qn)), (mR, .inl (cI, 3, .inl rf))] := hD
  subst r_1
  refine lv_if_eq (tgt := 17) hx hb dX5_count_6 (by decide) (fun c_3 => ?_) (fun c_3 => ?_)
  · skip
    have c_3 := z_b0 c_3
    refine lv_aload_n hx hb dX5_count_17 rfl (lv_at hl 0 rfl) ?_
    refine lv_sipush (v := (-10002)) hx hb dX5_count_18 (by decide) ?_
    refine z_VI (n := 1) (wn := (fun u : Unit => [(oM, .inr (5, [.ref mN, .ref mA, .ref mP, .int (nI ks), .ref mR, .ref mT, .int (nI ln), .long x1, .long x2, .long x3, .long x4, .long y1, .long y2, .long y3, .long y4, .ref mL, .ref mB, .int od, .int spt, .int wa, .long hs])), (mN, .inl (cI, 39, .inl qn)), (mR, .inl (cI, 3, .inl (upd rf 0 (rf 0 + 1))))])) (wr := [(mN, .inl (cI, 39, .inl qn))]) (As := [.int (-10002)]) (rest := []) ⟨hx, hb, hml, hown, hts⟩ hK hP hD hS hA hT (kX5_refuses l D cI cB tE tN oM mN mA mP mR mT mL mB ks ln x1 x2 x3 x4 y1 y2 y3 y4 od spt wa hs rf (-10002) 0 _ (by decide) (by omega)) gX5_count_X5_refuses rfl rfl rfl (by decide +kernel) ⟨Nat.le_of_ble_eq_true rfl, Nat.le_of_ble_eq_true rfl⟩ [0, 2] [1] [1, 0, 2] (by decide) rfl rfl (by decide) (by decide) (by decide) (fun u => rfl) 0 5 rfl rfl rfl rfl hl.1 rfl (Nat.le_of_ble_eq_true rfl) dX5_count_21 ⟨Nat.le_of_ble_eq_true rfl, Nat.le_of_ble_eq_true rfl⟩ (fun r_4 u H locs hw_5 hP hD hS => ?_)
    try dsimp only at hw_5
    have hP : va_P D vwCl [(oM, .inr (5, [.ref mN, .ref mA, .ref mP, .int (nI ks), .ref mR, .ref mT, .int (nI ln), .long x1, .long x2, .long x3, .long x4, .long y1, .long y2, .long y3, .long y4, .ref mL, .ref mB, .int od, .int spt, .int wa, .long hs])), (mN, .inl (cI, 39, .inl qn)), (mR, .inl (cI, 3, .inl (upd rf 0 (rf 0 + 1))))] H := hP
    have hD : va_D A [(oM, .inr (5, [.ref mN, .ref mA, .ref mP, .int (nI ks), .ref mR, .ref mT, .int (nI ln), .long x1, .long x2, .long x3, .long x4, .long y1, .long y2, .long y3, .long y4, .ref mL, .ref mB, .int od, .int spt, .int wa, .long hs])), (mN, .inl (cI, 39, .inl qn)), (mR, .inl (cI, 3, .inl (upd rf 0 (rf 0 + 1))))] := hD
    subst r_4
    exact hQ (-10002) (upd rf 0 (rf 0 + 1)) _ _ _ _ (rfl) (⟨by rw [gCo, if_neg (by simp only [vIn, vIn_cIn, c_3] <;> simp)], by rw [gRf, if_neg (by simp only [vIn, vIn_cIn, c_3] <;> simp)]⟩) hP hD hS dX5_count_24
  · skip
    have c_3 := z_b1 c_3
    have hzq := of_decide_eq_true c_3
    obtain ⟨q, rfl, hq⟩ := z_nat (b := 3) (Int32.not_lt.mp hzq.1) (Int32.not_lt.mp hzq.2) (by decide)
    have hcq : (nI q).toNatClampNeg = q := nI_clamp (by omega)
    refine lv_aload_n hx hb dX5_count_9 rfl (lv_at hl 0 rfl) ?_
    refine lv_iload_n hx hb dX5_count_10 rfl (lv_at hl 1 rfl) ?_
    refine z_VI (n := 1) (wn := (fun u : Unit => [(oM, .inr (5, [.ref mN, .ref mA, .ref mP, .int (nI ks), .ref mR, .ref mT, .int (nI ln), .long x1, .long x2, .long x3, .long x4, .long y1, .long y2, .long y3, .long y4, .ref mL, .ref mB, .int od, .int spt, .int wa, .long hs])), (mN, .inl (cI, 39, .inl qn)), (mR, .inl (cI, 3, .inl rf))])) (wr := [(mR, .inl (cI, 3, .inl rf))]) (As := [.int (nI q)]) (rest := []) ⟨hx, hb, hml, hown, hts⟩ hK hP hD hS hA hT (kX5_countOf l D cI cB tE tN oM mN mA mP mR mT mL mB ks ln x1 x2 x3 x4 y1 y2 y3 y4 od spt wa hs qn f N q _ (hR) (hI) (hNN) (by omega)) gX5_count_X5_countOf rfl rfl rfl (by decide +kernel) ⟨Nat.le_of_ble_eq_true rfl, Nat.le_of_ble_eq_true rfl⟩ [0, 1] [2] [1, 2, 0] (by decide) rfl rfl (by decide) (by decide) (by decide) (fun u => rfl) 0 5 rfl rfl rfl rfl hl.1 rfl (Nat.le_of_ble_eq_true rfl) dX5_count_11 ⟨Nat.le_of_ble_eq_true rfl, Nat.le_of_ble_eq_true rfl⟩ (fun r_6 u H locs hw_7 hP hD hS => ?_)
    try dsimp only at hw_7
    have hP : va_P D vwCl [(oM, .inr (5, [.ref mN, .ref mA, .ref mP, .int (nI ks), .ref mR, .ref mT, .int (nI ln), .long x1, .long x2, .long x3, .long x4, .long y1, .long y2, .long y3, .long y4, .ref mL, .ref mB, .int od, .int spt, .int wa, .long hs])), (mN, .inl (cI, 39, .inl qn)), (mR, .inl (cI, 3, .inl rf))] H := hP
    have hD : va_D A [(oM, .inr (5, [.ref mN, .ref mA, .ref mP, .int (nI ks), .ref mR, .ref mT, .int (nI ln), .long x1, .long x2, .long x3, .long x4, .long y1, .long y2, .long y3, .long y4, .ref mL, .ref mB, .int od, .int spt, .int wa, .long hs])), (mN, .inl (cI, 39, .inl qn)), (mR, .inl (cI, 3, .inl rf))] := hD
    subst r_6
    refine lv_goto (tgt := 24) hx hb dX5_count_14 (by decide) ?_
    exact hQ (f (35 + q)) rf _ _ _ _ (rfl) (⟨by rw [gCo, if_pos (by simp only [vIn, vIn_cIn, c_3] <;> simp), hcq], by rw [gRf, if_pos (by simp only [vIn, vIn_cIn, c_3] <;> simp)]⟩) hP hD hS dX5_count_24

set_option maxHeartbeats 4000000 in
set_option maxRecDepth 100000 in
theorem kX5_toldOf (l : Launch) (D : va_G) (cI cB : ClassId) (tE tN : Nat) (oM : Nat) (mN : Nat) (mA : Nat) (mP : Nat) (mR : Nat) (mT : Nat) (mL : Nat) (mB : Nat) (ks : Nat) (ln : Nat) (x1 : Int64) (x2 : Int64) (x3 : Int64) (x4 : Int64) (y1 : Int64) (y2 : Int64) (y3 : Int64) (y4 : Int64) (od : Int32) (spt : Int32) (wa : Int32) (hs : Int64) (rf : Nat → Int32) (cb : Int32) (cn : Int32) (cf : Int32) (w : Nat) (sz : Nat) (hRf : Rf3 cb cn cf rf) (hw : w ≤ 4) : zI l yX5_toldOf wsX5_toldOf ({ frames := 0, cells := 0, slots := 0, locals := 0 }) D cI cB tE tN [.ref oM, .int (nI w)] [(oM, .inr (5, [.ref mN, .ref mA, .ref mP, .int (nI ks), .ref mR, .ref mT, .int (nI ln), .long x1, .long x2, .long x3, .long x4, .long y1, .long y2, .long y3, .long y4, .ref mL, .ref mB, .int od, .int spt, .int wa, .long hs])), (mR, .inl (cI, 3, .inl rf))] sz (fun u : Unit => [(oM, .inr (5, [.ref mN, .ref mA, .ref mP, .int (nI ks), .ref mR, .ref mT, .int (nI ln), .long x1, .long x2, .long x3, .long x4, .long y1, .long y2, .long y3, .long y4, .ref mL, .ref mB, .int od, .int spt, .int wa, .long hs])), (mR, .inl (cI, 3, .inl rf))]) (fun (r : Int32) (u : Unit) => r = tlF cb cn cf ln ks (nI w)) 0 0 := by
  refine zI_mk (cc := cX5_toldOf) (maxL := 2) (rt := .int) (by decide) rfl (Nat.le_of_ble_eq_true rfl) ?_
  intro p e s m below meth c A Q ls S0 hname hA hK hP hD hT hS hQ hl
  obtain ⟨hx, hb, hml, hown, hts⟩ := id S0
  have hl : lv_has ls 2 [(0, .ref oM), (1, .int (nI w))] := hl
  have L31 : (Cond.fieldLink RX5 31 "PastAndClearModel" "states" "I").before ([.ref oM, .int (nI w)] : List Value).toArray s = true := hts (.fieldLink RX5 31 "PastAndClearModel" "states" "I") (by decide +kernel)
  have N5 : ∀ w ∈ u_ws RX5 TX5 21, w ∈ wsX5_toldOf := by decide +kernel
  have L209 : (Cond.fieldLink RX5 209 "PastAndClearModel" "bytes" "I").before ([.ref oM, .int (nI w)] : List Value).toArray s = true := hts (.fieldLink RX5 209 "PastAndClearModel" "bytes" "I") (by decide +kernel)
  have L19 : (Cond.fieldLink RX5 19 "PastAndClearModel" "refusals" "[I").before ([.ref oM, .int (nI w)] : List Value).toArray s = true := hts (.fieldLink RX5 19 "PastAndClearModel" "refusals" "[I") (by decide +kernel)
  refine lv_iload_n hx hb dX5_toldOf_0 rfl (lv_at hl 1 rfl) ?_
  refine lv_iconst (v := 3) hx hb dX5_toldOf_1 (by decide) ?_
  refine lv_icmp_ge (tgt := 14) hx hb dX5_toldOf_2 (by decide) (fun c_1 => ?_) (fun c_1 => ?_)
  · skip
    have c_1 := (z_le (a := 3) (b := w) rfl rfl (by omega) (by omega)).mp c_1
    refine lv_iload_n hx hb dX5_toldOf_14 rfl (lv_at hl 1 rfl) ?_
    refine lv_iconst (v := 3) hx hb dX5_toldOf_15 (by decide) ?_
    refine lv_icmp_ne (tgt := 26) hx hb dX5_toldOf_16 (by decide) (fun c_2 => ?_) (fun c_2 => ?_)
    · skip
      have c_2 := (z_eqn (a := w) (b := 3) rfl rfl (by omega) (by omega)).mp c_2
      refine lv_aload_n hx hb dX5_toldOf_26 rfl (lv_at hl 0 rfl) ?_
      refine va_get (D := D) (ci := 5) (v := .int (nI ks)) (C := RX5) (T := TX5) (N := 21) hx hb hts N5 hown hK hP 0 rfl rfl 3 (by decide) L31 (fun _ h9 => h9) rfl dX5_toldOf_27 ?_
      exact hQ (nI ks) () _ _ _ _ (rfl) (by first | (rw [c_2]; rfl) | (rw [show w = 4 by omega]; rfl)) hP hD hS dX5_toldOf_30
    · skip
      have c_2 := (z_eq (a := w) (b := 3) rfl rfl (by omega) (by omega)).mp c_2
      refine lv_aload_n hx hb dX5_toldOf_19 rfl (lv_at hl 0 rfl) ?_
      refine va_get (D := D) (ci := 5) (v := .int (nI ln)) (C := RX5) (T := TX5) (N := 21) hx hb hts N5 hown hK hP 0 rfl rfl 6 (by decide) L209 (fun _ h9 => h9) rfl dX5_toldOf_20 ?_
      refine lv_goto (tgt := 30) hx hb dX5_toldOf_23 (by decide) ?_
      exact hQ (nI ln) () _ _ _ _ (rfl) (by first | (rw [c_2]; rfl) | (rw [show w = 4 by omega]; rfl)) hP hD hS dX5_toldOf_30
  · skip
    have c_1 := (z_len (a := 3) (b := w) rfl rfl (by omega) (by omega)).mp c_1
    refine lv_aload_n hx hb dX5_toldOf_5 rfl (lv_at hl 0 rfl) ?_
    refine va_get (D := D) (ci := 5) (v := .ref mR) (C := RX5) (T := TX5) (N := 21) hx hb hts N5 hown hK hP 0 rfl rfl 4 (by decide) L19 (fun _ h9 => h9) rfl dX5_toldOf_6 ?_
    refine lv_iload_n hx hb dX5_toldOf_9 rfl (lv_at hl 1 rfl) ?_
    refine z_ild (v := tlF cb cn cf ln ks (nI w)) (j := w) hx hb hK hP 1 rfl rfl (by omega) (by decide) (tl_rf hRf (by omega)) dX5_toldOf_10 ?_
    refine lv_goto (tgt := 30) hx hb dX5_toldOf_11 (by decide) ?_
    exact hQ (tlF cb cn cf ln ks (nI w)) () _ _ _ _ (rfl) (rfl) hP hD hS dX5_toldOf_30

set_option maxHeartbeats 4000000 in
set_option maxRecDepth 100000 in
theorem kX5_told (l : Launch) (D : va_G) (cI cB : ClassId) (tE tN : Nat) (oM : Nat) (mN : Nat) (mA : Nat) (mP : Nat) (mR : Nat) (mT : Nat) (mL : Nat) (mB : Nat) (ks : Nat) (ln : Nat) (x1 : Int64) (x2 : Int64) (x3 : Int64) (x4 : Int64) (y1 : Int64) (y2 : Int64) (y3 : Int64) (y4 : Int64) (od : Int32) (spt : Int32) (wa : Int32) (hs : Int64) (rf : Nat → Int32) (cb : Int32) (cn : Int32) (cf : Int32) (w : Int32) (sz : Nat) (hRf : Rf3 cb cn cf rf) : zI l yX5_told wsX5_told ({ frames := 1, cells := 0, slots := 0, locals := 22 }) D cI cB tE tN [.ref oM, .int w] [(oM, .inr (5, [.ref mN, .ref mA, .ref mP, .int (nI ks), .ref mR, .ref mT, .int (nI ln), .long x1, .long x2, .long x3, .long x4, .long y1, .long y2, .long y3, .long y4, .ref mL, .ref mB, .int od, .int spt, .int wa, .long hs])), (mR, .inl (cI, 3, .inl rf))] sz (fun u : (Nat → Int32) => [(oM, .inr (5, [.ref mN, .ref mA, .ref mP, .int (nI ks), .ref mR, .ref mT, .int (nI ln), .long x1, .long x2, .long x3, .long x4, .long y1, .long y2, .long y3, .long y4, .ref mL, .ref mB, .int od, .int spt, .int wa, .long hs])), (mR, .inl (cI, 3, .inl u))]) (fun (r : Int32) (u : (Nat → Int32)) => r = gTo cb cn cf ln ks w ∧ u = gRf (vIn w 4) rf) 0 0 := by
  refine zI_mk (cc := cX5_told) (maxL := 2) (rt := .int) (by decide) rfl (Nat.le_of_ble_eq_true rfl) ?_
  intro p e s m below meth c A Q ls S0 hname hA hK hP hD hT hS hQ hl
  obtain ⟨hx, hb, hml, hown, hts⟩ := id S0
  have hl : lv_has ls 2 [(0, .ref oM), (1, .int w)] := hl
  refine lv_iload_n hx hb dX5_told_0 rfl (lv_at hl 1 rfl) ?_
  refine lv_iconst (v := 0) hx hb dX5_told_1 (by decide) ?_
  refine lv_iconst (v := 4) hx hb dX5_told_2 (by decide) ?_
  refine z_SI (n := 3) (wn := (fun u : Unit => [(oM, .inr (5, [.ref mN, .ref mA, .ref mP, .int (nI ks), .ref mR, .ref mT, .int (nI ln), .long x1, .long x2, .long x3, .long x4, .long y1, .long y2, .long y3, .long y4, .ref mL, .ref mB, .int od, .int spt, .int wa, .long hs])), (mR, .inl (cI, 3, .inl rf))])) (wr := [(oM, .inr (5, [.ref mN, .ref mA, .ref mP, .int (nI ks), .ref mR, .ref mT, .int (nI ln), .long x1, .long x2, .long x3, .long x4, .long y1, .long y2, .long y3, .long y4, .ref mL, .ref mB, .int od, .int spt, .int wa, .long hs])), (mR, .inl (cI, 3, .inl rf))]) (As := [.int w, .int 0, .int 4]) (rest := []) ⟨hx, hb, hml, hown, hts⟩ hK hP hD hS hA hT (kX5_in l D cI cB tE tN w 0 4 _ ) gX5_told_X5_in rfl rfl rfl (by decide +kernel) ⟨Nat.le_of_ble_eq_true rfl, Nat.le_of_ble_eq_true rfl⟩ [] [0, 1] [0, 1] (by decide) rfl rfl (by decide) (by decide) (by decide) (fun u => rfl) rfl hl.1 rfl (Nat.le_of_ble_eq_true rfl) dX5_told_3 ⟨Nat.le_of_ble_eq_true rfl, Nat.le_of_ble_eq_true rfl⟩ (fun r_1 u H locs hw_2 hP hD hS => ?_)
  try dsimp only at hw_2
  have hP : va_P D vwCl [(oM, .inr (5, [.ref mN, .ref mA, .ref mP, .int (nI ks), .ref mR, .ref mT, .int (nI ln), .long x1, .long x2, .long x3, .long x4, .long y1, .long y2, .long y3, .long y4, .ref mL, .ref mB, .int od, .int spt, .int wa, .long hs])), (mR, .inl (cI, 3, .inl rf))] H := hP
  have hD : va_D A [(oM, .inr (5, [.ref mN, .ref mA, .ref mP, .int (nI ks), .ref mR, .ref mT, .int (nI ln), .long x1, .long x2, .long x3, .long x4, .long y1, .long y2, .long y3, .long y4, .ref mL, .ref mB, .int od, .int spt, .int wa, .long hs])), (mR, .inl (cI, 3, .inl rf))] := hD
  subst r_1
  refine lv_if_eq (tgt := 17) hx hb dX5_told_6 (by decide) (fun c_3 => ?_) (fun c_3 => ?_)
  · skip
    have c_3 := z_b0 c_3
    refine lv_aload_n hx hb dX5_told_17 rfl (lv_at hl 0 rfl) ?_
    refine lv_sipush (v := (-10002)) hx hb dX5_told_18 (by decide) ?_
    refine z_VI (n := 1) (wn := (fun u : Unit => [(oM, .inr (5, [.ref mN, .ref mA, .ref mP, .int (nI ks), .ref mR, .ref mT, .int (nI ln), .long x1, .long x2, .long x3, .long x4, .long y1, .long y2, .long y3, .long y4, .ref mL, .ref mB, .int od, .int spt, .int wa, .long hs])), (mR, .inl (cI, 3, .inl (upd rf 0 (rf 0 + 1))))])) (wr := []) (As := [.int (-10002)]) (rest := []) ⟨hx, hb, hml, hown, hts⟩ hK hP hD hS hA hT (kX5_refuses l D cI cB tE tN oM mN mA mP mR mT mL mB ks ln x1 x2 x3 x4 y1 y2 y3 y4 od spt wa hs rf (-10002) 0 _ (by decide) (by omega)) gX5_told_X5_refuses rfl rfl rfl (by decide +kernel) ⟨Nat.le_of_ble_eq_true rfl, Nat.le_of_ble_eq_true rfl⟩ [0, 1] [] [0, 1] (by decide) rfl rfl (by decide) (by decide) (by decide) (fun u => rfl) 0 5 rfl rfl rfl rfl hl.1 rfl (Nat.le_of_ble_eq_true rfl) dX5_told_21 ⟨Nat.le_of_ble_eq_true rfl, Nat.le_of_ble_eq_true rfl⟩ (fun r_4 u H locs hw_5 hP hD hS => ?_)
    try dsimp only at hw_5
    have hP : va_P D vwCl [(oM, .inr (5, [.ref mN, .ref mA, .ref mP, .int (nI ks), .ref mR, .ref mT, .int (nI ln), .long x1, .long x2, .long x3, .long x4, .long y1, .long y2, .long y3, .long y4, .ref mL, .ref mB, .int od, .int spt, .int wa, .long hs])), (mR, .inl (cI, 3, .inl (upd rf 0 (rf 0 + 1))))] H := hP
    have hD : va_D A [(oM, .inr (5, [.ref mN, .ref mA, .ref mP, .int (nI ks), .ref mR, .ref mT, .int (nI ln), .long x1, .long x2, .long x3, .long x4, .long y1, .long y2, .long y3, .long y4, .ref mL, .ref mB, .int od, .int spt, .int wa, .long hs])), (mR, .inl (cI, 3, .inl (upd rf 0 (rf 0 + 1))))] := hD
    subst r_4
    exact hQ (-10002) (upd rf 0 (rf 0 + 1)) _ _ _ _ (rfl) (⟨by rw [gTo, if_neg (by simp only [vIn, vIn_cIn, c_3] <;> simp)], by rw [gRf, if_neg (by simp only [vIn, vIn_cIn, c_3] <;> simp)]⟩) hP hD hS dX5_told_24
  · skip
    have c_3 := z_b1 c_3
    have hzq := of_decide_eq_true c_3
    obtain ⟨q, rfl, hq⟩ := z_nat (b := 4) (Int32.not_lt.mp hzq.1) (Int32.not_lt.mp hzq.2) (by decide)
    have hcq : (nI q).toNatClampNeg = q := nI_clamp (by omega)
    refine lv_aload_n hx hb dX5_told_9 rfl (lv_at hl 0 rfl) ?_
    refine lv_iload_n hx hb dX5_told_10 rfl (lv_at hl 1 rfl) ?_
    refine z_VI (n := 1) (wn := (fun u : Unit => [(oM, .inr (5, [.ref mN, .ref mA, .ref mP, .int (nI ks), .ref mR, .ref mT, .int (nI ln), .long x1, .long x2, .long x3, .long x4, .long y1, .long y2, .long y3, .long y4, .ref mL, .ref mB, .int od, .int spt, .int wa, .long hs])), (mR, .inl (cI, 3, .inl rf))])) (wr := []) (As := [.int (nI q)]) (rest := []) ⟨hx, hb, hml, hown, hts⟩ hK hP hD hS hA hT (kX5_toldOf l D cI cB tE tN oM mN mA mP mR mT mL mB ks ln x1 x2 x3 x4 y1 y2 y3 y4 od spt wa hs rf cb cn cf q _ (by omega) (by omega)) gX5_told_X5_toldOf rfl rfl rfl (by decide +kernel) ⟨Nat.le_of_ble_eq_true rfl, Nat.le_of_ble_eq_true rfl⟩ [0, 1] [] [0, 1] (by decide) rfl rfl (by decide) (by decide) (by decide) (fun u => rfl) 0 5 rfl rfl rfl rfl hl.1 rfl (Nat.le_of_ble_eq_true rfl) dX5_told_11 ⟨Nat.le_of_ble_eq_true rfl, Nat.le_of_ble_eq_true rfl⟩ (fun r_6 u H locs hw_7 hP hD hS => ?_)
    try dsimp only at hw_7
    have hP : va_P D vwCl [(oM, .inr (5, [.ref mN, .ref mA, .ref mP, .int (nI ks), .ref mR, .ref mT, .int (nI ln), .long x1, .long x2, .long x3, .long x4, .long y1, .long y2, .long y3, .long y4, .ref mL, .ref mB, .int od, .int spt, .int wa, .long hs])), (mR, .inl (cI, 3, .inl rf))] H := hP
    have hD : va_D A [(oM, .inr (5, [.ref mN, .ref mA, .ref mP, .int (nI ks), .ref mR, .ref mT, .int (nI ln), .long x1, .long x2, .long x3, .long x4, .long y1, .long y2, .long y3, .long y4, .ref mL, .ref mB, .int od, .int spt, .int wa, .long hs])), (mR, .inl (cI, 3, .inl rf))] := hD
    subst r_6
    refine lv_goto (tgt := 24) hx hb dX5_told_14 (by decide) ?_
    exact hQ (tlF cb cn cf ln ks (nI q)) rf _ _ _ _ (rfl) (⟨by rw [gTo, if_pos (by simp only [vIn, vIn_cIn, c_3] <;> simp)], by rw [gRf, if_pos (by simp only [vIn, vIn_cIn, c_3] <;> simp)]⟩) hP hD hS dX5_told_24
