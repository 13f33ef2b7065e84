def atF (b : Nat → Int32) (L a : Nat) (lo hi : Int32) : Bool := decide (a < L) && cIn (b a) lo hi
theorem cIn_eq {v k : Int32} : cIn v k k = true ↔ v = k := by
  unfold cIn
  rw [decide_eq_true_iff, Int32.lt_iff_toInt_lt, Int32.lt_iff_toInt_lt, ← Int32.toInt_inj]
  omega
theorem at_lt {b : Nat → Int32} {L a : Nat} {lo hi : Int32} (h : atF b L a lo hi = true) : a < L := by
  rw [atF, Bool.and_eq_true] at h; exact of_decide_eq_true h.1
theorem at_eq {b : Nat → Int32} {L a : Nat} {k : Int32} (h : atF b L a k k = true) : b a = k := by
  rw [atF, Bool.and_eq_true] at h; exact cIn_eq.mp h.2
theorem at_no {b : Nat → Int32} {L a : Nat} {k : Int32} (h : atF b L a k k = false) : ¬ (a < L ∧ b a = k) := by
  rintro ⟨h1, h2⟩
  have : atF b L a k k = true := by rw [atF, Bool.and_eq_true]; exact ⟨decide_eq_true h1, cIn_eq.mpr h2⟩
  rw [h] at this; exact Bool.noConfusion this
theorem at_ch {b : Nat → Int32} {L a : Nat} {k : Int32} (hk : ¬ k = -1) : atF b L a k k = decide (chF b L a = k) := by
  cases h : atF b L a k k with
  | true => rw [ch_in (at_lt h)]; exact (decide_eq_true (at_eq h)).symm
  | false =>
    refine (decide_eq_false (fun e => at_no h ?_)).symm
    have hl := ch_lt e hk
    exact ⟨hl, (ch_in hl).symm.trans e⟩
theorem at_fig (b : Nat → Int32) (L a : Nat) : atF b L a 48 57 = isFig (chF b L a) := by
  by_cases h : a < L
  · rw [atF, ch_in h, decide_eq_true h, Bool.true_and]; rfl
  · rw [atF, decide_eq_false h, Bool.false_and, chF, if_neg h]; decide
def mOf (c : Int32) : Int32 := if nOf c = -1 then -10001 else nOf c
theorem tn_e0 {b : Nat → Int32} {L a : Nat} {neg : Bool} (h : neg = false) : sgF b L a neg = false ∧ a1F b L a neg = a + 0 := by
  have e : sgF b L a neg = false := by rw [sgF, h]; rfl
  exact ⟨e, by rw [a1F, e, if_neg Bool.false_ne_true]; rfl⟩
theorem tn_e1 {b : Nat → Int32} {L a : Nat} {neg : Bool} (h : neg = true) (c : atF b L a 45 45 = false) : sgF b L a neg = false ∧ a1F b L a neg = a + 0 := by
  have e : sgF b L a neg = false := by rw [sgF, h, ← at_ch (by decide), c]; rfl
  exact ⟨e, by rw [a1F, e, if_neg Bool.false_ne_true]; rfl⟩
theorem tn_e2 {b : Nat → Int32} {L a : Nat} {neg : Bool} (h : neg = true) (c : atF b L a 45 45 = true) : sgF b L a neg = true ∧ a1F b L a neg = a + 1 ∧ a < L := by
  have e : sgF b L a neg = true := by rw [sgF, h, ← at_ch (by decide), c]; rfl
  exact ⟨e, by rw [a1F, e, if_pos rfl], at_lt c⟩
theorem tn_f {b : Nat → Int32} {L t n a1 : Nat} (hf : 0 < t → isFig (chF b L a1) = true) (hn : n = a1 + t) (h : isFig (chF b L n) = true) : isFig (chF b L a1) = true := by
  rcases Nat.eq_zero_or_pos t with q | q
  · rw [show a1 = n by omega]; exact h
  · exact hf q
theorem tn_d {b : Nat → Int32} {L t n a1 : Nat} {x : Int32} (h : t = 4 ∨ isFig (chF b L n) = false) (hinv : dgF b L 4 a1 0 = dgF b L (4 - t) n x) : dgF b L 4 a1 0 = (n, x) := by
  rw [hinv]
  rcases h with q | q
  · rw [q]; rfl
  · exact dg_stop q
set_option maxHeartbeats 4000000 in
set_option maxRecDepth 100000 in
theorem kX5_isAt (l : Launch) (D : va_G) (cI cB : ClassId) (tE tN : Nat) (oM : Nat) (mN : Nat) (mA : Nat) (mP : Nat) (mR : Nat) (mT : Nat) (mL : Nat) (mB : Nat) (ks : Nat) (ln : Nat) (x1 : Int64) (x2 : Int64) (x3 : Int64) (x4 : Int64) (y1 : Int64) (y2 : Int64) (y3 : Int64) (y4 : Int64) (od : Int32) (wa : Int32) (hs : Int64) (tx : Nat → Int32) (bt : Nat → Int32) (pn : Nat) (lo : Int32) (hi : Int32) (sz : Nat) (hln : ln ≤ 150) (hTx : ∀ j, j < ln → tx j = bt j) (hpn : pn ≤ ln) : zI l yX5_isAt wsX5_isAt ({ frames := 1, cells := 0, slots := 0, locals := 22 }) D cI cB tE tN [.ref oM, .int lo, .int hi] [(oM, .inr (5, [.ref mN, .ref mA, .ref mP, .int (nI ks), .ref mR, .ref mT, .int (nI ln), .long x1, .long x2, .long x3, .long x4, .long y1, .long y2, .long y3, .long y4, .ref mL, .ref mB, .int od, .int (nI pn), .int wa, .long hs])), (mT, .inl (cI, 150, .inl tx))] sz (fun u : Unit => [(oM, .inr (5, [.ref mN, .ref mA, .ref mP, .int (nI ks), .ref mR, .ref mT, .int (nI ln), .long x1, .long x2, .long x3, .long x4, .long y1, .long y2, .long y3, .long y4, .ref mL, .ref mB, .int od, .int (nI pn), .int wa, .long hs])), (mT, .inl (cI, 150, .inl tx))]) (fun (r : Int32) (u : Unit) => r = b2i (atF bt ln pn lo hi)) 0 0 := by
  refine zI_mk (cc := cX5_isAt) (maxL := 3) (rt := .boolean) (by decide) rfl (Nat.le_of_ble_eq_true rfl) ?_
  intro p e s m below meth c A Q ls S0 hname hA hK hP hD hT hS hQ hl
  obtain ⟨hx, hb, hml, hown, hts⟩ := id S0
  have hl : lv_has ls 3 [(0, .ref oM), (1, .int lo), (2, .int hi)] := hl
  have L212 : (Cond.fieldLink RX5 212 "PastAndClearModel" "spot" "I").before ([.ref oM, .int lo, .int hi] : List Value).toArray s = true := hts (.fieldLink RX5 212 "PastAndClearModel" "spot" "I") (by decide +kernel)
  have N5 : ∀ w ∈ u_ws RX5 TX5 21, w ∈ wsX5_isAt := by decide +kernel
  have L209 : (Cond.fieldLink RX5 209 "PastAndClearModel" "bytes" "I").before ([.ref oM, .int lo, .int hi] : List Value).toArray s = true := hts (.fieldLink RX5 209 "PastAndClearModel" "bytes" "I") (by decide +kernel)
  have L22 : (Cond.fieldLink RX5 22 "PastAndClearModel" "text" "[I").before ([.ref oM, .int lo, .int hi] : List Value).toArray s = true := hts (.fieldLink RX5 22 "PastAndClearModel" "text" "[I") (by decide +kernel)
  refine lv_aload_n hx hb dX5_isAt_0 rfl (lv_at hl 0 rfl) ?_
  refine va_get (D := D) (ci := 5) (v := .int (nI pn)) (C := RX5) (T := TX5) (N := 21) hx hb hts N5 hown hK hP 0 rfl rfl 18 (by decide) L212 (fun _ h9 => h9) rfl dX5_isAt_1 ?_
  refine lv_aload_n hx hb dX5_isAt_4 rfl (lv_at hl 0 rfl) ?_
  refine va_get (D := D) (ci := 5) (v := .int (nI ln)) (C := RX5) (T := TX5) (N := 21) hx hb hts N5 hown hK hP 0 rfl rfl 6 (by decide) L209 (fun _ h9 => h9) rfl dX5_isAt_5 ?_
  refine lv_icmp_ge (tgt := 32) hx hb dX5_isAt_8 (by decide) (fun c_1 => ?_) (fun c_1 => ?_)
  · skip
    have c_1 := (z_le (a := ln) (b := pn) rfl rfl (by omega) (by omega)).mp c_1
    have c_1 : ¬ pn < ln := by omega
    refine lv_iconst (v := 0) hx hb dX5_isAt_32 (by decide) ?_
    exact hQ 0 () _ _ _ _ (rfl) (by simp [b2i, atF, c_1]) hP hD hS dX5_isAt_33
  · skip
    have c_1 := (z_len (a := ln) (b := pn) rfl rfl (by omega) (by omega)).mp c_1
    refine lv_aload_n hx hb dX5_isAt_11 rfl (lv_at hl 0 rfl) ?_
    refine va_get (D := D) (ci := 5) (v := .ref mT) (C := RX5) (T := TX5) (N := 21) hx hb hts N5 hown hK hP 0 rfl rfl 5 (by decide) L22 (fun _ h9 => h9) rfl dX5_isAt_12 ?_
    refine lv_aload_n hx hb dX5_isAt_15 rfl (lv_at hl 0 rfl) ?_
    refine va_get (D := D) (ci := 5) (v := .int (nI pn)) (C := RX5) (T := TX5) (N := 21) hx hb hts N5 hown hK hP 0 rfl rfl 18 (by decide) L212 (fun _ h9 => h9) rfl dX5_isAt_16 ?_
    refine z_ild (v := bt pn) (j := pn) hx hb hK hP 1 rfl rfl (by omega) (by decide) (hTx _ c_1) dX5_isAt_19 ?_
    refine lv_iload_n hx hb dX5_isAt_20 rfl (lv_at hl 1 rfl) ?_
    refine lv_iload_n hx hb dX5_isAt_21 rfl (lv_at hl 2 rfl) ?_
    refine z_SI (n := 3) (wn := (fun u : Unit => [(oM, .inr (5, [.ref mN, .ref mA, .ref mP, .int (nI ks), .ref mR, .ref mT, .int (nI ln), .long x1, .long x2, .long x3, .long x4, .long y1, .long y2, .long y3, .long y4, .ref mL, .ref mB, .int od, .int (nI pn), .int wa, .long hs])), (mT, .inl (cI, 150, .inl tx))])) (wr := [(oM, .inr (5, [.ref mN, .ref mA, .ref mP, .int (nI ks), .ref mR, .ref mT, .int (nI ln), .long x1, .long x2, .long x3, .long x4, .long y1, .long y2, .long y3, .long y4, .ref mL, .ref mB, .int od, .int (nI pn), .int wa, .long hs])), (mT, .inl (cI, 150, .inl tx))]) (As := [.int (bt pn), .int lo, .int hi]) (rest := []) ⟨hx, hb, hml, hown, hts⟩ hK hP hD hS hA hT (kX5_in l D cI cB tE tN (bt pn) lo hi _ ) gX5_isAt_X5_in rfl rfl rfl (by decide +kernel) ⟨Nat.le_of_ble_eq_true rfl, Nat.le_of_ble_eq_true rfl⟩ [] [0, 1] [0, 1] (by decide) rfl rfl (by decide) (by decide) (by decide) (fun u => rfl) rfl hl.1 rfl (Nat.le_of_ble_eq_true rfl) dX5_isAt_22 ⟨Nat.le_of_ble_eq_true rfl, Nat.le_of_ble_eq_true rfl⟩ (fun r_2 u H locs hw_3 hP hD hS => ?_)
    try dsimp only at hw_3
    have hP : va_P D vwCl [(oM, .inr (5, [.ref mN, .ref mA, .ref mP, .int (nI ks), .ref mR, .ref mT, .int (nI ln), .long x1, .long x2, .long x3, .long x4, .long y1, .long y2, .long y3, .long y4, .ref mL, .ref mB, .int od, .int (nI pn), .int wa, .long hs])), (mT, .inl (cI, 150, .inl tx))] H := hP
    have hD : va_D A [(oM, .inr (5, [.ref mN, .ref mA, .ref mP, .int (nI ks), .ref mR, .ref mT, .int (nI ln), .long x1, .long x2, .long x3, .long x4, .long y1, .long y2, .long y3, .long y4, .ref mL, .ref mB, .int od, .int (nI pn), .int wa, .long hs])), (mT, .inl (cI, 150, .inl tx))] := hD
    subst r_2
    refine lv_if_eq (tgt := 32) hx hb dX5_isAt_25 (by decide) (fun c_4 => ?_) (fun c_4 => ?_)
    · skip
      have c_4 := z_b0 c_4
      refine lv_iconst (v := 0) hx hb dX5_isAt_32 (by decide) ?_
      exact hQ 0 () _ _ _ _ (rfl) (by simp [b2i, atF, c_1, c_4]) hP hD hS dX5_isAt_33
    · skip
      have c_4 := z_b1 c_4
      refine lv_iconst (v := 1) hx hb dX5_isAt_28 (by decide) ?_
      refine lv_goto (tgt := 33) hx hb dX5_isAt_29 (by decide) ?_
      exact hQ 1 () _ _ _ _ (rfl) (by simp [b2i, atF, c_1, c_4]) hP hD hS dX5_isAt_33

set_option maxHeartbeats 4000000 in
set_option maxRecDepth 100000 in
theorem kX5_blanks (l : Launch) (D : va_G) (cI cB : ClassId) (tE tN : Nat) (oM : Nat) (mN : Nat) (mA : Nat) (mP : Nat) (mR : Nat) (mT : Nat) (mL : Nat) (mB : Nat) (ks : Nat) (ln : Nat) (x1 : Int64) (x2 : Int64) (x3 : Int64) (x4 : Int64) (y1 : Int64) (y2 : Int64) (y3 : Int64) (y4 : Int64) (od : Int32) (wa : Int32) (hs : Int64) (tx : Nat → Int32) (bt : Nat → Int32) (pn : Nat) (sz : Nat) (hln : ln ≤ 150) (hTx : ∀ j, j < ln → tx j = bt j) (hpn : pn ≤ ln) : zV l yX5_blanks wsX5_blanks ({ frames := 2, cells := 0, slots := 0, locals := 44 }) D cI cB tE tN [.ref oM] [(oM, .inr (5, [.ref mN, .ref mA, .ref mP, .int (nI ks), .ref mR, .ref mT, .int (nI ln), .long x1, .long x2, .long x3, .long x4, .long y1, .long y2, .long y3, .long y4, .ref mL, .ref mB, .int od, .int (nI pn), .int wa, .long hs])), (mT, .inl (cI, 150, .inl tx))] sz (fun u : Unit => [(oM, .inr (5, [.ref mN, .ref mA, .ref mP, .int (nI ks), .ref mR, .ref mT, .int (nI ln), .long x1, .long x2, .long x3, .long x4, .long y1, .long y2, .long y3, .long y4, .ref mL, .ref mB, .int od, .int (nI (sk bt ln pn)), .int wa, .long hs])), (mT, .inl (cI, 150, .inl tx))]) (fun (u : Unit) => True) 0 0 := by
  refine zV_mk (cc := cX5_blanks) (maxL := 1) (by decide) rfl (Nat.le_of_ble_eq_true rfl) ?_
  intro p e s m below meth c A Q ls S0 hname hA hK hP hD hT hS hQ hl
  obtain ⟨hx, hb, hml, hown, hts⟩ := id S0
  have hl : lv_has ls 1 [(0, .ref oM)] := hl
  have L212 : (Cond.fieldLink RX5 212 "PastAndClearModel" "spot" "I").before ([.ref oM] : List Value).toArray s = true := hts (.fieldLink RX5 212 "PastAndClearModel" "spot" "I") (by decide +kernel)
  have N5 : ∀ w ∈ u_ws RX5 TX5 21, w ∈ wsX5_blanks := by decide +kernel
  have lp0 : ∀ (k : Nat) (n : Nat) (H : Heap) (locs : List Loc) (ls : Array Slot), ln - n = k → (n ≤ ln) → (sk bt ln pn = sk bt ln n) → va_P D vwCl [(oM, .inr (5, [.ref mN, .ref mA, .ref mP, .int (nI ks), .ref mR, .ref mT, .int (nI ln), .long x1, .long x2, .long x3, .long x4, .long y1, .long y2, .long y3, .long y4, .ref mL, .ref mB, .int od, .int (nI n), .int wa, .long hs])), (mT, .inl (cI, 150, .inl tx))] H → va_D A [(oM, .inr (5, [.ref mN, .ref mA, .ref mP, .int (nI ks), .ref mR, .ref mT, .int (nI ln), .long x1, .long x2, .long x3, .long x4, .long y1, .long y2, .long y3, .long y4, .ref mL, .ref mB, .int od, .int (nI n), .int wa, .long hs])), (mT, .inl (cI, 150, .inl tx))] → va_S A s.heap H locs → lv_has ls 1 [(0, .ref oM)] → W p l e ({ frames := 2, cells := 0, slots := 0, locals := 44 } : Room) s m ([.ref oM] : List Value).toArray below meth c H locs 0 0 Q (F0 m 0 ls []) := by
    intro k
    induction k using Nat.strongRecOn with
    | ind k ih =>
    intro n H locs ls hk hn hi hP hD hS hl
    refine lv_aload_n hx hb dX5_blanks_0 rfl (lv_at hl 0 rfl) ?_
    refine lv_bipush (v := 32) hx hb dX5_blanks_1 (by decide) ?_
    refine lv_bipush (v := 32) hx hb dX5_blanks_3 (by decide) ?_
    refine z_VI (n := 2) (wn := (fun u : Unit => [(oM, .inr (5, [.ref mN, .ref mA, .ref mP, .int (nI ks), .ref mR, .ref mT, .int (nI ln), .long x1, .long x2, .long x3, .long x4, .long y1, .long y2, .long y3, .long y4, .ref mL, .ref mB, .int od, .int (nI n), .int wa, .long hs])), (mT, .inl (cI, 150, .inl tx))])) (wr := []) (As := [.int 32, .int 32]) (rest := []) ⟨hx, hb, hml, hown, hts⟩ hK hP hD hS hA hT (kX5_isAt l D cI cB tE tN oM mN mA mP mR mT mL mB ks ln x1 x2 x3 x4 y1 y2 y3 y4 od wa hs tx bt n 32 32 _ (by omega) (hTx) (by omega)) gX5_blanks_X5_isAt rfl rfl rfl (by decide +kernel) ⟨Nat.le_of_ble_eq_true rfl, Nat.le_of_ble_eq_true rfl⟩ [0, 1] [] [0, 1] (by decide) rfl rfl (by decide) (by decide) (by decide) (fun u => rfl) 0 5 rfl rfl rfl rfl hl.1 rfl (Nat.le_of_ble_eq_true rfl) dX5_blanks_5 ⟨Nat.le_of_ble_eq_true rfl, Nat.le_of_ble_eq_true rfl⟩ (fun r_1 u H locs hw_2 hP hD hS => ?_)
    try dsimp only at hw_2
    have hP : va_P D vwCl [(oM, .inr (5, [.ref mN, .ref mA, .ref mP, .int (nI ks), .ref mR, .ref mT, .int (nI ln), .long x1, .long x2, .long x3, .long x4, .long y1, .long y2, .long y3, .long y4, .ref mL, .ref mB, .int od, .int (nI n), .int wa, .long hs])), (mT, .inl (cI, 150, .inl tx))] H := hP
    have hD : va_D A [(oM, .inr (5, [.ref mN, .ref mA, .ref mP, .int (nI ks), .ref mR, .ref mT, .int (nI ln), .long x1, .long x2, .long x3, .long x4, .long y1, .long y2, .long y3, .long y4, .ref mL, .ref mB, .int od, .int (nI n), .int wa, .long hs])), (mT, .inl (cI, 150, .inl tx))] := hD
    subst r_1
    refine lv_if_eq (tgt := 24) hx hb dX5_blanks_8 (by decide) (fun c_3 => ?_) (fun c_3 => ?_)
    · skip
      have c_3 := z_b0 c_3
      have hnn : sk bt ln pn = n := by rw [hi]; exact sk_stop (at_no c_3)
      subst hnn
      exact hQ () _ _ _ _ (trivial) hP hD hS dX5_blanks_24
    · skip
      have c_3 := z_b1 c_3
      have hlt := at_lt c_3
      refine lv_aload_n hx hb dX5_blanks_11 rfl (lv_at hl 0 rfl) ?_
      refine lv_dup hx hb dX5_blanks_12 rfl ?_
      refine va_get (D := D) (ci := 5) (v := .int (nI n)) (C := RX5) (T := TX5) (N := 21) hx hb hts N5 hown hK hP 0 rfl rfl 18 (by decide) L212 (fun _ h9 => h9) rfl dX5_blanks_13 ?_
      refine lv_iconst (v := 1) hx hb dX5_blanks_16 (by decide) ?_
      refine lv_iadd hx hb dX5_blanks_17 ?_
      refine z_topi (x := (nI n) + 1) (y := nI (n + 1)) (z_add rfl rfl) ?_
      refine va_put (D := D) (ci := 5) (v := .int (nI (n + 1))) (ty := .int) (C := RX5) (T := TX5) (N := 21) hx hb hts N5 tyX5 tyX5_ok nmX5 hown hK hP hD hS 0 rfl rfl 18 (by decide) L212 (fun _ h9 => h9) rfl (by decide +kernel) rfl rfl (Nat.le_of_ble_eq_true rfl) dX5_blanks_18 (fun H locs hP hD hS => ?_)
      have hP : va_P D vwCl [(oM, .inr (5, [.ref mN, .ref mA, .ref mP, .int (nI ks), .ref mR, .ref mT, .int (nI ln), .long x1, .long x2, .long x3, .long x4, .long y1, .long y2, .long y3, .long y4, .ref mL, .ref mB, .int od, .int (nI (n + 1)), .int wa, .long hs])), (mT, .inl (cI, 150, .inl tx))] H := hP
      have hD : va_D A [(oM, .inr (5, [.ref mN, .ref mA, .ref mP, .int (nI ks), .ref mR, .ref mT, .int (nI ln), .long x1, .long x2, .long x3, .long x4, .long y1, .long y2, .long y3, .long y4, .ref mL, .ref mB, .int od, .int (nI (n + 1)), .int wa, .long hs])), (mT, .inl (cI, 150, .inl tx))] := hD
      refine lv_goto (tgt := 0) hx hb dX5_blanks_21 (by decide) ?_
      exact ih _ (by omega) (n + 1) _ _ _ rfl (by omega) (by rw [hi]; exact sk_step (at_lt c_3) (at_eq c_3)) hP hD hS (lv_sub hl [0] rfl)
  exact lp0 _ pn _ _ _ rfl (by omega) rfl hP hD hS (lv_sub hl [0] rfl)

set_option maxHeartbeats 4000000 in
set_option maxRecDepth 100000 in
theorem kX5_fails (l : Launch) (D : va_G) (cI cB : ClassId) (tE tN : Nat) (oM : Nat) (mN : Nat) (mA : Nat) (mP : Nat) (mR : Nat) (mT : Nat) (mL : Nat) (mB : Nat) (ks : Nat) (ln : Nat) (x1 : Int64) (x2 : Int64) (x3 : Int64) (x4 : Int64) (y1 : Int64) (y2 : Int64) (y3 : Int64) (y4 : Int64) (od : Int32) (spt : Int32) (wa : Int32) (hs : Int64) (sz : Nat)  : zI l yX5_fails wsX5_fails ({ frames := 0, cells := 0, slots := 0, locals := 0 }) D cI cB tE tN [.ref oM] [(oM, .inr (5, [.ref mN, .ref mA, .ref mP, .int (nI ks), .ref mR, .ref mT, .int (nI ln), .long x1, .long x2, .long x3, .long x4, .long y1, .long y2, .long y3, .long y4, .ref mL, .ref mB, .int od, .int spt, .int wa, .long hs]))] sz (fun u : Unit => [(oM, .inr (5, [.ref mN, .ref mA, .ref mP, .int (nI ks), .ref mR, .ref mT, .int (nI ln), .long x1, .long x2, .long x3, .long x4, .long y1, .long y2, .long y3, .long y4, .ref mL, .ref mB, .int od, .int spt, .int spt, .long hs]))]) (fun (r : Int32) (u : Unit) => r = b2i false) 0 0 := by
  refine zI_mk (cc := cX5_fails) (maxL := 1) (rt := .boolean) (by decide) rfl (Nat.le_of_ble_eq_true rfl) ?_
  intro p e s m below meth c A Q ls S0 hname hA hK hP hD hT hS hQ hl
  obtain ⟨hx, hb, hml, hown, hts⟩ := id S0
  have hl : lv_has ls 1 [(0, .ref oM)] := hl
  have L212 : (Cond.fieldLink RX5 212 "PastAndClearModel" "spot" "I").before ([.ref oM] : List Value).toArray s = true := hts (.fieldLink RX5 212 "PastAndClearModel" "spot" "I") (by decide +kernel)
  have N5 : ∀ w ∈ u_ws RX5 TX5 21, w ∈ wsX5_fails := by decide +kernel
  have L218 : (Cond.fieldLink RX5 218 "PastAndClearModel" "wrongAt" "I").before ([.ref oM] : List Value).toArray s = true := hts (.fieldLink RX5 218 "PastAndClearModel" "wrongAt" "I") (by decide +kernel)
  refine lv_aload_n hx hb dX5_fails_0 rfl (lv_at hl 0 rfl) ?_
  refine lv_aload_n hx hb dX5_fails_1 rfl (lv_at hl 0 rfl) ?_
  refine va_get (D := D) (ci := 5) (v := .int spt) (C := RX5) (T := TX5) (N := 21) hx hb hts N5 hown hK hP 0 rfl rfl 18 (by decide) L212 (fun _ h9 => h9) rfl dX5_fails_2 ?_
  refine va_put (D := D) (ci := 5) (v := .int spt) (ty := .int) (C := RX5) (T := TX5) (N := 21) hx hb hts N5 tyX5 tyX5_ok nmX5 hown hK hP hD hS 0 rfl rfl 19 (by decide) L218 (fun _ h9 => h9) rfl (by decide +kernel) rfl rfl (Nat.le_of_ble_eq_true rfl) dX5_fails_5 (fun H locs hP hD hS => ?_)
  have hP : va_P D vwCl [(oM, .inr (5, [.ref mN, .ref mA, .ref mP, .int (nI ks), .ref mR, .ref mT, .int (nI ln), .long x1, .long x2, .long x3, .long x4, .long y1, .long y2, .long y3, .long y4, .ref mL, .ref mB, .int od, .int spt, .int spt, .long hs]))] H := hP
  have hD : va_D A [(oM, .inr (5, [.ref mN, .ref mA, .ref mP, .int (nI ks), .ref mR, .ref mT, .int (nI ln), .long x1, .long x2, .long x3, .long x4, .long y1, .long y2, .long y3, .long y4, .ref mL, .ref mB, .int od, .int spt, .int spt, .long hs]))] := hD
  refine lv_iconst (v := 0) hx hb dX5_fails_8 (by decide) ?_
  exact hQ 0 () _ _ _ _ (rfl) (rfl) hP hD hS dX5_fails_9

set_option maxHeartbeats 4000000 in
set_option maxRecDepth 100000 in
theorem kX5_manyOf (l : Launch) (D : va_G) (cI cB : ClassId) (tE tN : Nat) (v : Int32) (sz : Nat)  : zI l yX5_manyOf wsX5_manyOf ({ frames := 0, cells := 0, slots := 0, locals := 0 }) D cI cB tE tN [.int v] [] sz (fun u : Unit => []) (fun (r : Int32) (u : Unit) => r = mOf v) 0 0 := by
  refine zI_mk (cc := cX5_manyOf) (maxL := 1) (rt := .int) (by decide) rfl (Nat.le_of_ble_eq_true rfl) ?_
  intro p e s m below meth c A Q ls S0 hname hA hK hP hD hT hS hQ hl
  obtain ⟨hx, hb, hml, hown, hts⟩ := id S0
  have hl : lv_has ls 1 [(0, .int v)] := hl
  refine lv_iload_n hx hb dX5_manyOf_0 rfl (lv_at hl 0 rfl) ?_
  by_cases w_1 : v = 97
  · skip
    refine lv_tableIn (tgt := 96) (off := 95) hx hb dX5_manyOf_1 (by rw [w_1]; decide) (by rw [w_1]; decide) (by rw [w_1]; decide) (by decide) ?_
    refine lv_iconst (v := 4) hx hb dX5_manyOf_96 (by decide) ?_
    exact hQ 4 () _ _ _ _ (rfl) (by rw [w_1]; rfl) hP hD hS dX5_manyOf_97
  · skip
    by_cases w_2 : v = 98
    · skip
      refine lv_tableIn (tgt := 102) (off := 101) hx hb dX5_manyOf_1 (by rw [w_2]; decide) (by rw [w_2]; decide) (by rw [w_2]; decide) (by decide) ?_
      refine lv_iconst (v := 0) hx hb dX5_manyOf_102 (by decide) ?_
      exact hQ 0 () _ _ _ _ (rfl) (by rw [w_2]; rfl) hP hD hS dX5_manyOf_103
    · skip
      by_cases w_3 : v = 99
      · skip
        refine lv_tableIn (tgt := 104) (off := 103) hx hb dX5_manyOf_1 (by rw [w_3]; decide) (by rw [w_3]; decide) (by rw [w_3]; decide) (by decide) ?_
        refine lv_sipush (v := (-10001)) hx hb dX5_manyOf_104 (by decide) ?_
        exact hQ (-10001) () _ _ _ _ (rfl) (by rw [w_3]; rfl) hP hD hS dX5_manyOf_107
      · skip
        by_cases w_4 : v = 100
        · skip
          refine lv_tableIn (tgt := 104) (off := 103) hx hb dX5_manyOf_1 (by rw [w_4]; decide) (by rw [w_4]; decide) (by rw [w_4]; decide) (by decide) ?_
          refine lv_sipush (v := (-10001)) hx hb dX5_manyOf_104 (by decide) ?_
          exact hQ (-10001) () _ _ _ _ (rfl) (by rw [w_4]; rfl) hP hD hS dX5_manyOf_107
        · skip
          by_cases w_5 : v = 101
          · skip
            refine lv_tableIn (tgt := 104) (off := 103) hx hb dX5_manyOf_1 (by rw [w_5]; decide) (by rw [w_5]; decide) (by rw [w_5]; decide) (by decide) ?_
            refine lv_sipush (v := (-10001)) hx hb dX5_manyOf_104 (by decide) ?_
            exact hQ (-10001) () _ _ _ _ (rfl) (by rw [w_5]; rfl) hP hD hS dX5_manyOf_107
          · skip
            by_cases w_6 : v = 102
            · skip
              refine lv_tableIn (tgt := 104) (off := 103) hx hb dX5_manyOf_1 (by rw [w_6]; decide) (by rw [w_6]; decide) (by rw [w_6]; decide) (by decide) ?_
              refine lv_sipush (v := (-10001)) hx hb dX5_manyOf_104 (by decide) ?_
              exact hQ (-10001) () _ _ _ _ (rfl) (by rw [w_6]; rfl) hP hD hS dX5_manyOf_107
            · skip
              by_cases w_7 : v = 103
              · skip
                refine lv_tableIn (tgt := 104) (off := 103) hx hb dX5_manyOf_1 (by rw [w_7]; decide) (by rw [w_7]; decide) (by rw [w_7]; decide) (by decide) ?_
                refine lv_sipush (v := (-10001)) hx hb dX5_manyOf_104 (by decide) ?_
                exact hQ (-10001) () _ _ _ _ (rfl) (by rw [w_7]; rfl) hP hD hS dX5_manyOf_107
              · skip
                by_cases w_8 : v = 104
                · skip
                  refine lv_tableIn (tgt := 104) (off := 103) hx hb dX5_manyOf_1 (by rw [w_8]; decide) (by rw [w_8]; decide) (by rw [w_8]; decide) (by decide) ?_
                  refine lv_sipush (v := (-10001)) hx hb dX5_manyOf_104 (by decide) ?_
                  exact hQ (-10001) () _ _ _ _ (rfl) (by rw [w_8]; rfl) hP hD hS dX5_manyOf_107
                · skip
                  by_cases w_9 : v = 105
                  · skip
                    refine lv_tableIn (tgt := 104) (off := 103) hx hb dX5_manyOf_1 (by rw [w_9]; decide) (by rw [w_9]; decide) (by rw [w_9]; decide) (by decide) ?_
                    refine lv_sipush (v := (-10001)) hx hb dX5_manyOf_104 (by decide) ?_
                    exact hQ (-10001) () _ _ _ _ (rfl) (by rw [w_9]; rfl) hP hD hS dX5_manyOf_107
                  · skip
                    by_cases w_10 : v = 106
                    · skip
                      refine lv_tableIn (tgt := 104) (off := 103) hx hb dX5_manyOf_1 (by rw [w_10]; decide) (by rw [w_10]; decide) (by rw [w_10]; decide) (by decide) ?_
                      refine lv_sipush (v := (-10001)) hx hb dX5_manyOf_104 (by decide) ?_
                      exact hQ (-10001) () _ _ _ _ (rfl) (by rw [w_10]; rfl) hP hD hS dX5_manyOf_107
                    · skip
                      by_cases w_11 : v = 107
                      · skip
                        refine lv_tableIn (tgt := 104) (off := 103) hx hb dX5_manyOf_1 (by rw [w_11]; decide) (by rw [w_11]; decide) (by rw [w_11]; decide) (by decide) ?_
                        refine lv_sipush (v := (-10001)) hx hb dX5_manyOf_104 (by decide) ?_
                        exact hQ (-10001) () _ _ _ _ (rfl) (by rw [w_11]; rfl) hP hD hS dX5_manyOf_107
                      · skip
                        by_cases w_12 : v = 108
                        · skip
                          refine lv_tableIn (tgt := 104) (off := 103) hx hb dX5_manyOf_1 (by rw [w_12]; decide) (by rw [w_12]; decide) (by rw [w_12]; decide) (by decide) ?_
                          refine lv_sipush (v := (-10001)) hx hb dX5_manyOf_104 (by decide) ?_
                          exact hQ (-10001) () _ _ _ _ (rfl) (by rw [w_12]; rfl) hP hD hS dX5_manyOf_107
                        · skip
                          by_cases w_13 : v = 109
                          · skip
                            refine lv_tableIn (tgt := 104) (off := 103) hx hb dX5_manyOf_1 (by rw [w_13]; decide) (by rw [w_13]; decide) (by rw [w_13]; decide) (by decide) ?_
                            refine lv_sipush (v := (-10001)) hx hb dX5_manyOf_104 (by decide) ?_
                            exact hQ (-10001) () _ _ _ _ (rfl) (by rw [w_13]; rfl) hP hD hS dX5_manyOf_107
                          · skip
                            by_cases w_14 : v = 110
                            · skip
                              refine lv_tableIn (tgt := 100) (off := 99) hx hb dX5_manyOf_1 (by rw [w_14]; decide) (by rw [w_14]; decide) (by rw [w_14]; decide) (by decide) ?_
                              refine lv_iconst (v := 1) hx hb dX5_manyOf_100 (by decide) ?_
                              exact hQ 1 () _ _ _ _ (rfl) (by rw [w_14]; rfl) hP hD hS dX5_manyOf_101
                            · skip
                              by_cases w_15 : v = 111
                              · skip
                                refine lv_tableIn (tgt := 96) (off := 95) hx hb dX5_manyOf_1 (by rw [w_15]; decide) (by rw [w_15]; decide) (by rw [w_15]; decide) (by decide) ?_
                                refine lv_iconst (v := 4) hx hb dX5_manyOf_96 (by decide) ?_
                                exact hQ 4 () _ _ _ _ (rfl) (by rw [w_15]; rfl) hP hD hS dX5_manyOf_97
                              · skip
                                by_cases w_16 : v = 112
                                · skip
                                  refine lv_tableIn (tgt := 104) (off := 103) hx hb dX5_manyOf_1 (by rw [w_16]; decide) (by rw [w_16]; decide) (by rw [w_16]; decide) (by decide) ?_
                                  refine lv_sipush (v := (-10001)) hx hb dX5_manyOf_104 (by decide) ?_
                                  exact hQ (-10001) () _ _ _ _ (rfl) (by rw [w_16]; rfl) hP hD hS dX5_manyOf_107
                                · skip
                                  by_cases w_17 : v = 113
                                  · skip
                                    refine lv_tableIn (tgt := 104) (off := 103) hx hb dX5_manyOf_1 (by rw [w_17]; decide) (by rw [w_17]; decide) (by rw [w_17]; decide) (by decide) ?_
                                    refine lv_sipush (v := (-10001)) hx hb dX5_manyOf_104 (by decide) ?_
                                    exact hQ (-10001) () _ _ _ _ (rfl) (by rw [w_17]; rfl) hP hD hS dX5_manyOf_107
                                  · skip
                                    by_cases w_18 : v = 114
                                    · skip
                                      refine lv_tableIn (tgt := 104) (off := 103) hx hb dX5_manyOf_1 (by rw [w_18]; decide) (by rw [w_18]; decide) (by rw [w_18]; decide) (by decide) ?_
                                      refine lv_sipush (v := (-10001)) hx hb dX5_manyOf_104 (by decide) ?_
                                      exact hQ (-10001) () _ _ _ _ (rfl) (by rw [w_18]; rfl) hP hD hS dX5_manyOf_107
                                    · skip
                                      by_cases w_19 : v = 115
                                      · skip
                                        refine lv_tableIn (tgt := 98) (off := 97) hx hb dX5_manyOf_1 (by rw [w_19]; decide) (by rw [w_19]; decide) (by rw [w_19]; decide) (by decide) ?_
                                        refine lv_iconst (v := 2) hx hb dX5_manyOf_98 (by decide) ?_
                                        exact hQ 2 () _ _ _ _ (rfl) (by rw [w_19]; rfl) hP hD hS dX5_manyOf_99
                                      · skip
                                        by_cases w_20 : v = 116
                                        · skip
                                          refine lv_tableIn (tgt := 98) (off := 97) hx hb dX5_manyOf_1 (by rw [w_20]; decide) (by rw [w_20]; decide) (by rw [w_20]; decide) (by decide) ?_
                                          refine lv_iconst (v := 2) hx hb dX5_manyOf_98 (by decide) ?_
                                          exact hQ 2 () _ _ _ _ (rfl) (by rw [w_20]; rfl) hP hD hS dX5_manyOf_99
                                        · skip
                                          refine lv_tableOut (tgt := 104) hx hb dX5_manyOf_1 (nOf_out w_1 w_2 w_3 w_4 w_5 w_6 w_7 w_8 w_9 w_10 w_11 w_12 w_13 w_14 w_15 w_16 w_17 w_18 w_19 w_20) (by decide) ?_
                                          refine lv_sipush (v := (-10001)) hx hb dX5_manyOf_104 (by decide) ?_
                                          exact hQ (-10001) () _ _ _ _ (rfl) (by rw [mOf, if_pos (nOf_none w_1 w_2 w_3 w_4 w_5 w_6 w_7 w_8 w_9 w_10 w_11 w_12 w_13 w_14 w_15 w_16 w_17 w_18 w_19 w_20)]) hP hD hS dX5_manyOf_107

set_option maxHeartbeats 4000000 in
set_option maxRecDepth 100000 in
theorem kX5_takesNumber (l : Launch) (D : va_G) (cI cB : ClassId) (tE tN : Nat) (oM : Nat) (mN : Nat) (mA : Nat) (mP : Nat) (mR : Nat) (mT : Nat) (mL : Nat) (mB : Nat) (ks : Nat) (ln : Nat) (x1 : Int64) (x2 : Int64) (x3 : Int64) (x4 : Int64) (y1 : Int64) (y2 : Int64) (y3 : Int64) (y4 : Int64) (od : Int32) (wa : Int32) (hs : Int64) (tx : Nat → Int32) (bt : Nat → Int32) (pn : Nat) (nb : Nat → Int32) (to : Nat) (neg : Bool) (sz : Nat) (hln : ln ≤ 150) (hTx : ∀ j, j < ln → tx j = bt j) (hpn : pn ≤ ln) (hto : to < 300) : zI l yX5_takesNumber wsX5_takesNumber ({ frames := 3, cells := 0, slots := 0, locals := 64 }) D cI cB tE tN [.ref oM, .int (nI to), .int (b2i neg)] [(oM, .inr (5, [.ref mN, .ref mA, .ref mP, .int (nI ks), .ref mR, .ref mT, .int (nI ln), .long x1, .long x2, .long x3, .long x4, .long y1, .long y2, .long y3, .long y4, .ref mL, .ref mB, .int od, .int (nI pn), .int wa, .long hs])), (mT, .inl (cI, 150, .inl tx)), (mB, .inl (cI, 300, .inl nb))] sz (fun u : Nat × Int32 × (Nat → Int32) => [(oM, .inr (5, [.ref mN, .ref mA, .ref mP, .int (nI ks), .ref mR, .ref mT, .int (nI ln), .long x1, .long x2, .long x3, .long x4, .long y1, .long y2, .long y3, .long y4, .ref mL, .ref mB, .int od, .int (nI u.1), .int u.2.1, .long hs])), (mT, .inl (cI, 150, .inl tx)), (mB, .inl (cI, 300, .inl u.2.2))]) (fun (r : Int32) (u : Nat × Int32 × (Nat → Int32)) => r = b2i (nmF bt ln (sk bt ln pn) neg).1 ∧ u.1 = (nmF bt ln (sk bt ln pn) neg).2.1 ∧ ((nmF bt ln (sk bt ln pn) neg).1 = true → u.2.2 = upd nb to (nmF bt ln (sk bt ln pn) neg).2.2) ∧ ((nmF bt ln (sk bt ln pn) neg).1 = false → u.2.1 = nI u.1) ∧ u.1 ≤ ln ∧ ∀ j, ¬ j = to → u.2.2 j = nb j) 0 0 := by
  refine zI_mk (cc := cX5_takesNumber) (maxL := 6) (rt := .boolean) (by decide) rfl (Nat.le_of_ble_eq_true rfl) ?_
  intro p e s m below meth c A Q ls S0 hname hA hK hP hD hT hS hQ hl
  obtain ⟨hx, hb, hml, hown, hts⟩ := id S0
  have hl : lv_has ls 6 [(0, .ref oM), (1, .int (nI to)), (2, .int (b2i neg))] := hl
  have L28 : (Cond.fieldLink RX5 28 "PastAndClearModel" "numbers" "[I").before ([.ref oM, .int (nI to), .int (b2i neg)] : List Value).toArray s = true := hts (.fieldLink RX5 28 "PastAndClearModel" "numbers" "[I") (by decide +kernel)
  have N5 : ∀ w ∈ u_ws RX5 TX5 21, w ∈ wsX5_takesNumber := by decide +kernel
  have L212 : (Cond.fieldLink RX5 212 "PastAndClearModel" "spot" "I").before ([.ref oM, .int (nI to), .int (b2i neg)] : List Value).toArray s = true := hts (.fieldLink RX5 212 "PastAndClearModel" "spot" "I") (by decide +kernel)
  have L22 : (Cond.fieldLink RX5 22 "PastAndClearModel" "text" "[I").before ([.ref oM, .int (nI to), .int (b2i neg)] : List Value).toArray s = true := hts (.fieldLink RX5 22 "PastAndClearModel" "text" "[I") (by decide +kernel)
  have hsk := (sk_le (b := bt) hpn).2
  have lp52 : ∀ (k : Nat) (sg : Bool) (a1 : Nat) (t : Nat) (n : Nat) (x : Int32) (H : Heap) (locs : List Loc) (ls : Array Slot), 4 - t = k → (sgF bt ln (sk bt ln pn) neg = sg) → (a1F bt ln (sk bt ln pn) neg = a1) → (n = a1 + t) → (t ≤ 4) → (n ≤ ln) → (0 < t → isFig (chF bt ln a1) = true) → (dgF bt ln 4 a1 0 = dgF bt ln (4 - t) n x) → va_P D vwCl [(oM, .inr (5, [.ref mN, .ref mA, .ref mP, .int (nI ks), .ref mR, .ref mT, .int (nI ln), .long x1, .long x2, .long x3, .long x4, .long y1, .long y2, .long y3, .long y4, .ref mL, .ref mB, .int od, .int (nI n), .int wa, .long hs])), (mT, .inl (cI, 150, .inl tx)), (mB, .inl (cI, 300, .inl nb))] H → va_D A [(oM, .inr (5, [.ref mN, .ref mA, .ref mP, .int (nI ks), .ref mR, .ref mT, .int (nI ln), .long x1, .long x2, .long x3, .long x4, .long y1, .long y2, .long y3, .long y4, .ref mL, .ref mB, .int od, .int (nI n), .int wa, .long hs])), (mT, .inl (cI, 150, .inl tx)), (mB, .inl (cI, 300, .inl nb))] → va_S A s.heap H locs → lv_has ls 6 [(5, .int x), (4, .int (nI a1)), (3, .int (b2i sg)), (0, .ref oM), (1, .int (nI to))] → W p l e ({ frames := 3, cells := 0, slots := 0, locals := 64 } : Room) s m ([.ref oM, .int (nI to), .int (b2i neg)] : List Value).toArray below meth c H locs 0 0 Q (F0 m 52 ls []) := by
    intro k
    induction k using Nat.strongRecOn with
    | ind k ih =>
    intro sg a1 t n x H locs ls hk hsg ha1 hn1 ht hn hf1 hinv hP hD hS hl
    refine lv_aload_n hx hb dX5_takesNumber_52 rfl (lv_at hl 3 rfl) ?_
    refine lv_bipush (v := 48) hx hb dX5_takesNumber_53 (by decide) ?_
    refine lv_bipush (v := 57) hx hb dX5_takesNumber_55 (by decide) ?_
    refine z_VI (n := 2) (wn := (fun u : Unit => [(oM, .inr (5, [.ref mN, .ref mA, .ref mP, .int (nI ks), .ref mR, .ref mT, .int (nI ln), .long x1, .long x2, .long x3, .long x4, .long y1, .long y2, .long y3, .long y4, .ref mL, .ref mB, .int od, .int (nI n), .int wa, .long hs])), (mT, .inl (cI, 150, .inl tx)), (mB, .inl (cI, 300, .inl nb))])) (wr := [(mB, .inl (cI, 300, .inl nb))]) (As := [.int 48, .int 57]) (rest := []) ⟨hx, hb, hml, hown, hts⟩ hK hP hD hS hA hT (kX5_isAt l D cI cB tE tN oM mN mA mP mR mT mL mB ks ln x1 x2 x3 x4 y1 y2 y3 y4 od wa hs tx bt n 48 57 _ (by omega) (hTx) (by omega)) gX5_takesNumber_X5_isAt rfl rfl rfl (by decide +kernel) ⟨Nat.le_of_ble_eq_true rfl, Nat.le_of_ble_eq_true rfl⟩ [0, 1] [2] [1, 2, 0] (by decide) rfl rfl (by decide) (by decide) (by decide) (fun u => rfl) 0 5 rfl rfl rfl rfl hl.1 rfl (Nat.le_of_ble_eq_true rfl) dX5_takesNumber_57 ⟨Nat.le_of_ble_eq_true rfl, Nat.le_of_ble_eq_true rfl⟩ (fun r_1 u H locs hw_2 hP hD hS => ?_)
    try dsimp only at hw_2
    have hP : va_P D vwCl [(oM, .inr (5, [.ref mN, .ref mA, .ref mP, .int (nI ks), .ref mR, .ref mT, .int (nI ln), .long x1, .long x2, .long x3, .long x4, .long y1, .long y2, .long y3, .long y4, .ref mL, .ref mB, .int od, .int (nI n), .int wa, .long hs])), (mT, .inl (cI, 150, .inl tx)), (mB, .inl (cI, 300, .inl nb))] H := hP
    have hD : va_D A [(oM, .inr (5, [.ref mN, .ref mA, .ref mP, .int (nI ks), .ref mR, .ref mT, .int (nI ln), .long x1, .long x2, .long x3, .long x4, .long y1, .long y2, .long y3, .long y4, .ref mL, .ref mB, .int od, .int (nI n), .int wa, .long hs])), (mT, .inl (cI, 150, .inl tx)), (mB, .inl (cI, 300, .inl nb))] := hD
    subst r_1
    refine lv_if_eq (tgt := 112) hx hb dX5_takesNumber_60 (by decide) (fun c_3 => ?_) (fun c_3 => ?_)
    · skip
      have c_3 := z_b0 c_3
      have hnf : isFig (chF bt ln n) = false := (at_fig bt ln n).symm.trans c_3
      refine lv_aload_n hx hb dX5_takesNumber_112 rfl (lv_at hl 3 rfl) ?_
      refine va_get (D := D) (ci := 5) (v := .ref mB) (C := RX5) (T := TX5) (N := 21) hx hb hts N5 hown hK hP 0 rfl rfl 16 (by decide) L28 (fun _ h9 => h9) rfl dX5_takesNumber_113 ?_
      refine lv_iload_n hx hb dX5_takesNumber_116 rfl (lv_at hl 4 rfl) ?_
      refine lv_iload_n hx hb dX5_takesNumber_117 rfl (lv_at hl 2 rfl) ?_
      refine lv_if_eq (tgt := 127) hx hb dX5_takesNumber_118 (by decide) (fun c_4 => ?_) (fun c_4 => ?_)
      · skip
        have c_4 := z_b0 c_4
        refine lv_iload hx hb dX5_takesNumber_127 (lv_at hl 0 rfl) ?_
        refine z_ist (j := to) hx hb hK hP hD hS 2 rfl rfl (by omega) (by decide) dX5_takesNumber_129 (fun H locs hP hD hS => ?_)
        have hP : va_P D vwCl [(oM, .inr (5, [.ref mN, .ref mA, .ref mP, .int (nI ks), .ref mR, .ref mT, .int (nI ln), .long x1, .long x2, .long x3, .long x4, .long y1, .long y2, .long y3, .long y4, .ref mL, .ref mB, .int od, .int (nI n), .int wa, .long hs])), (mT, .inl (cI, 150, .inl tx)), (mB, .inl (cI, 300, .inl (upd nb to x)))] H := hP
        have hD : va_D A [(oM, .inr (5, [.ref mN, .ref mA, .ref mP, .int (nI ks), .ref mR, .ref mT, .int (nI ln), .long x1, .long x2, .long x3, .long x4, .long y1, .long y2, .long y3, .long y4, .ref mL, .ref mB, .int od, .int (nI n), .int wa, .long hs])), (mT, .inl (cI, 150, .inl tx)), (mB, .inl (cI, 300, .inl (upd nb to x)))] := hD
        refine lv_aload_n hx hb dX5_takesNumber_130 rfl (lv_at hl 3 rfl) ?_
        refine va_get (D := D) (ci := 5) (v := .int (nI n)) (C := RX5) (T := TX5) (N := 21) hx hb hts N5 hown hK hP 0 rfl rfl 18 (by decide) L212 (fun _ h9 => h9) rfl dX5_takesNumber_131 ?_
        refine lv_iload hx hb dX5_takesNumber_134 (lv_at hl 1 rfl) ?_
        refine lv_icmp_gt (tgt := 146) hx hb dX5_takesNumber_136 (by decide) (fun c_5 => ?_) (fun c_5 => ?_)
        · skip
          have c_5 := (z_lt (a := a1) (b := n) rfl rfl (by omega) (by omega)).mp c_5
          refine lv_iconst (v := 1) hx hb dX5_takesNumber_146 (by decide) ?_
          refine lv_goto (tgt := 151) hx hb dX5_takesNumber_147 (by decide) ?_
          exact hQ 1 (n, wa, upd nb to x) _ _ _ _ (rfl) (by have e := nm_eq (b := bt) (L := ln) (a := sk bt ln pn) (n := n) (x := x) (neg := neg) (by rw [ha1]; exact hf1 (by omega)) (by rw [ha1]; exact tn_d (Or.inr hnf) hinv); rw [hnf, hsg] at e; rw [e]; exact ⟨rfl, rfl, fun _ => by first | (rw [if_pos c_4]) | (rw [if_neg (by rw [c_4]; decide)]), fun h => Bool.noConfusion h, hn, fun j h => upd_ne h⟩) hP hD hS dX5_takesNumber_151
        · skip
          have c_5 := (z_ltn (a := a1) (b := n) rfl rfl (by omega) (by omega)).mp c_5
          refine lv_aload_n hx hb dX5_takesNumber_139 rfl (lv_at hl 3 rfl) ?_
          refine z_VI (n := 0) (wn := (fun u : Unit => [(oM, .inr (5, [.ref mN, .ref mA, .ref mP, .int (nI ks), .ref mR, .ref mT, .int (nI ln), .long x1, .long x2, .long x3, .long x4, .long y1, .long y2, .long y3, .long y4, .ref mL, .ref mB, .int od, .int (nI n), .int (nI n), .long hs])), (mT, .inl (cI, 150, .inl tx)), (mB, .inl (cI, 300, .inl (upd nb to x)))])) (wr := [(mT, .inl (cI, 150, .inl tx)), (mB, .inl (cI, 300, .inl (upd nb to x)))]) (As := []) (rest := []) ⟨hx, hb, hml, hown, hts⟩ hK hP hD hS hA hT (kX5_fails l D cI cB tE tN oM mN mA mP mR mT mL mB ks ln x1 x2 x3 x4 y1 y2 y3 y4 od (nI n) wa hs _ ) gX5_takesNumber_X5_fails rfl rfl rfl (by decide +kernel) ⟨Nat.le_of_ble_eq_true rfl, Nat.le_of_ble_eq_true rfl⟩ [0] [1, 2] [2, 0, 1] (by decide) rfl rfl (by decide) (by decide) (by decide) (fun u => rfl) 0 5 rfl rfl rfl rfl hl.1 rfl (Nat.le_of_ble_eq_true rfl) dX5_takesNumber_140 ⟨Nat.le_of_ble_eq_true rfl, Nat.le_of_ble_eq_true rfl⟩ (fun r_6 u H locs hw_7 hP hD hS => ?_)
          try dsimp only at hw_7
          have hP : va_P D vwCl [(oM, .inr (5, [.ref mN, .ref mA, .ref mP, .int (nI ks), .ref mR, .ref mT, .int (nI ln), .long x1, .long x2, .long x3, .long x4, .long y1, .long y2, .long y3, .long y4, .ref mL, .ref mB, .int od, .int (nI n), .int (nI n), .long hs])), (mT, .inl (cI, 150, .inl tx)), (mB, .inl (cI, 300, .inl (upd nb to x)))] H := hP
          have hD : va_D A [(oM, .inr (5, [.ref mN, .ref mA, .ref mP, .int (nI ks), .ref mR, .ref mT, .int (nI ln), .long x1, .long x2, .long x3, .long x4, .long y1, .long y2, .long y3, .long y4, .ref mL, .ref mB, .int od, .int (nI n), .int (nI n), .long hs])), (mT, .inl (cI, 150, .inl tx)), (mB, .inl (cI, 300, .inl (upd nb to x)))] := hD
          subst r_6
          refine lv_if_eq (tgt := 150) hx hb dX5_takesNumber_143 (by decide) (fun c_8 => ?_) (fun c_8 => ?_)
          · skip
            have c_8 := z_b0 c_8
            refine lv_iconst (v := 0) hx hb dX5_takesNumber_150 (by decide) ?_
            exact hQ 0 (n, (nI n), upd nb to x) _ _ _ _ (rfl) (by have e := nm_bad (b := bt) (L := ln) (a := sk bt ln pn) (neg := neg) (by rw [ha1, show a1 = n by omega]; exact hnf); rw [ha1, show a1 = n by omega] at e; rw [e]; exact ⟨rfl, rfl, fun h => Bool.noConfusion h, fun _ => rfl, hn, fun j h => upd_ne h⟩) hP hD hS dX5_takesNumber_151
          · skip
            have c_8 := z_b1 c_8
            exact Bool.noConfusion c_8
      · skip
        have c_4 := z_b1 c_4
        refine lv_iload hx hb dX5_takesNumber_121 (lv_at hl 0 rfl) ?_
        refine lv_ineg hx hb dX5_takesNumber_123 ?_
        refine lv_goto (tgt := 129) hx hb dX5_takesNumber_124 (by decide) ?_
        refine z_ist (j := to) hx hb hK hP hD hS 2 rfl rfl (by omega) (by decide) dX5_takesNumber_129 (fun H locs hP hD hS => ?_)
        have hP : va_P D vwCl [(oM, .inr (5, [.ref mN, .ref mA, .ref mP, .int (nI ks), .ref mR, .ref mT, .int (nI ln), .long x1, .long x2, .long x3, .long x4, .long y1, .long y2, .long y3, .long y4, .ref mL, .ref mB, .int od, .int (nI n), .int wa, .long hs])), (mT, .inl (cI, 150, .inl tx)), (mB, .inl (cI, 300, .inl (upd nb to (-x))))] H := hP
        have hD : va_D A [(oM, .inr (5, [.ref mN, .ref mA, .ref mP, .int (nI ks), .ref mR, .ref mT, .int (nI ln), .long x1, .long x2, .long x3, .long x4, .long y1, .long y2, .long y3, .long y4, .ref mL, .ref mB, .int od, .int (nI n), .int wa, .long hs])), (mT, .inl (cI, 150, .inl tx)), (mB, .inl (cI, 300, .inl (upd nb to (-x))))] := hD
        refine lv_aload_n hx hb dX5_takesNumber_130 rfl (lv_at hl 3 rfl) ?_
        refine va_get (D := D) (ci := 5) (v := .int (nI n)) (C := RX5) (T := TX5) (N := 21) hx hb hts N5 hown hK hP 0 rfl rfl 18 (by decide) L212 (fun _ h9 => h9) rfl dX5_takesNumber_131 ?_
        refine lv_iload hx hb dX5_takesNumber_134 (lv_at hl 1 rfl) ?_
        refine lv_icmp_gt (tgt := 146) hx hb dX5_takesNumber_136 (by decide) (fun c_9 => ?_) (fun c_9 => ?_)
        · skip
          have c_9 := (z_lt (a := a1) (b := n) rfl rfl (by omega) (by omega)).mp c_9
          refine lv_iconst (v := 1) hx hb dX5_takesNumber_146 (by decide) ?_
          refine lv_goto (tgt := 151) hx hb dX5_takesNumber_147 (by decide) ?_
          exact hQ 1 (n, wa, upd nb to (-x)) _ _ _ _ (rfl) (by have e := nm_eq (b := bt) (L := ln) (a := sk bt ln pn) (n := n) (x := x) (neg := neg) (by rw [ha1]; exact hf1 (by omega)) (by rw [ha1]; exact tn_d (Or.inr hnf) hinv); rw [hnf, hsg] at e; rw [e]; exact ⟨rfl, rfl, fun _ => by first | (rw [if_pos c_4]) | (rw [if_neg (by rw [c_4]; decide)]), fun h => Bool.noConfusion h, hn, fun j h => upd_ne h⟩) hP hD hS dX5_takesNumber_151
        · skip
          have c_9 := (z_ltn (a := a1) (b := n) rfl rfl (by omega) (by omega)).mp c_9
          refine lv_aload_n hx hb dX5_takesNumber_139 rfl (lv_at hl 3 rfl) ?_
          refine z_VI (n := 0) (wn := (fun u : Unit => [(oM, .inr (5, [.ref mN, .ref mA, .ref mP, .int (nI ks), .ref mR, .ref mT, .int (nI ln), .long x1, .long x2, .long x3, .long x4, .long y1, .long y2, .long y3, .long y4, .ref mL, .ref mB, .int od, .int (nI n), .int (nI n), .long hs])), (mT, .inl (cI, 150, .inl tx)), (mB, .inl (cI, 300, .inl (upd nb to (-x))))])) (wr := [(mT, .inl (cI, 150, .inl tx)), (mB, .inl (cI, 300, .inl (upd nb to (-x))))]) (As := []) (rest := []) ⟨hx, hb, hml, hown, hts⟩ hK hP hD hS hA hT (kX5_fails l D cI cB tE tN oM mN mA mP mR mT mL mB ks ln x1 x2 x3 x4 y1 y2 y3 y4 od (nI n) wa hs _ ) gX5_takesNumber_X5_fails rfl rfl rfl (by decide +kernel) ⟨Nat.le_of_ble_eq_true rfl, Nat.le_of_ble_eq_true rfl⟩ [0] [1, 2] [2, 0, 1] (by decide) rfl rfl (by decide) (by decide) (by decide) (fun u => rfl) 0 5 rfl rfl rfl rfl hl.1 rfl (Nat.le_of_ble_eq_true rfl) dX5_takesNumber_140 ⟨Nat.le_of_ble_eq_true rfl, Nat.le_of_ble_eq_true rfl⟩ (fun r_10 u H locs hw_11 hP hD hS => ?_)
          try dsimp only at hw_11
          have hP : va_P D vwCl [(oM, .inr (5, [.ref mN, .ref mA, .ref mP, .int (nI ks), .ref mR, .ref mT, .int (nI ln), .long x1, .long x2, .long x3, .long x4, .long y1, .long y2, .long y3, .long y4, .ref mL, .ref mB, .int od, .int (nI n), .int (nI n), .long hs])), (mT, .inl (cI, 150, .inl tx)), (mB, .inl (cI, 300, .inl (upd nb to (-x))))] H := hP
          have hD : va_D A [(oM, .inr (5, [.ref mN, .ref mA, .ref mP, .int (nI ks), .ref mR, .ref mT, .int (nI ln), .long x1, .long x2, .long x3, .long x4, .long y1, .long y2, .long y3, .long y4, .ref mL, .ref mB, .int od, .int (nI n), .int (nI n), .long hs])), (mT, .inl (cI, 150, .inl tx)), (mB, .inl (cI, 300, .inl (upd nb to (-x))))] := hD
          subst r_10
          refine lv_if_eq (tgt := 150) hx hb dX5_takesNumber_143 (by decide) (fun c_12 => ?_) (fun c_12 => ?_)
          · skip
            have c_12 := z_b0 c_12
            refine lv_iconst (v := 0) hx hb dX5_takesNumber_150 (by decide) ?_
            exact hQ 0 (n, (nI n), upd nb to (-x)) _ _ _ _ (rfl) (by have e := nm_bad (b := bt) (L := ln) (a := sk bt ln pn) (neg := neg) (by rw [ha1, show a1 = n by omega]; exact hnf); rw [ha1, show a1 = n by omega] at e; rw [e]; exact ⟨rfl, rfl, fun h => Bool.noConfusion h, fun _ => rfl, hn, fun j h => upd_ne h⟩) hP hD hS dX5_takesNumber_151
          · skip
            have c_12 := z_b1 c_12
            exact Bool.noConfusion c_12
    · skip
      have c_3 := z_b1 c_3
      have hfg : isFig (chF bt ln n) = true := (at_fig bt ln n).symm.trans c_3
      have hlt := fig_lt hfg
      refine lv_aload_n hx hb dX5_takesNumber_63 rfl (lv_at hl 3 rfl) ?_
      refine va_get (D := D) (ci := 5) (v := .int (nI n)) (C := RX5) (T := TX5) (N := 21) hx hb hts N5 hown hK hP 0 rfl rfl 18 (by decide) L212 (fun _ h9 => h9) rfl dX5_takesNumber_64 ?_
      refine lv_iload hx hb dX5_takesNumber_67 (lv_at hl 1 rfl) ?_
      refine lv_iconst (v := 4) hx hb dX5_takesNumber_69 (by decide) ?_
      refine lv_iadd hx hb dX5_takesNumber_70 ?_
      refine lv_icmp_ne (tgt := 79) hx hb dX5_takesNumber_71 (by decide) (fun c_13 => ?_) (fun c_13 => ?_)
      · skip
        have c_13 := (z_eqn (a := n) (b := a1 + 4) rfl (z_add rfl rfl) (by omega) (by omega)).mp c_13
        refine lv_bipush (v := 10) hx hb dX5_takesNumber_79 (by decide) ?_
        refine lv_iload hx hb dX5_takesNumber_81 (lv_at hl 0 rfl) ?_
        refine lv_imul hx hb dX5_takesNumber_83 ?_
        refine lv_aload_n hx hb dX5_takesNumber_84 rfl (lv_at hl 3 rfl) ?_
        refine va_get (D := D) (ci := 5) (v := .ref mT) (C := RX5) (T := TX5) (N := 21) hx hb hts N5 hown hK hP 0 rfl rfl 5 (by decide) L22 (fun _ h9 => h9) rfl dX5_takesNumber_85 ?_
        refine lv_aload_n hx hb dX5_takesNumber_88 rfl (lv_at hl 3 rfl) ?_
        refine va_get (D := D) (ci := 5) (v := .int (nI n)) (C := RX5) (T := TX5) (N := 21) hx hb hts N5 hown hK hP 0 rfl rfl 18 (by decide) L212 (fun _ h9 => h9) rfl dX5_takesNumber_89 ?_
        refine z_ild (v := chF bt ln n) (j := n) hx hb hK hP 1 rfl rfl (by omega) (by decide) ((hTx _ hlt).trans (ch_in hlt).symm) dX5_takesNumber_92 ?_
        refine lv_iadd hx hb dX5_takesNumber_93 ?_
        refine lv_bipush (v := 48) hx hb dX5_takesNumber_94 (by decide) ?_
        refine lv_isub hx hb dX5_takesNumber_96 ?_
        refine lv_istore (lv' := [(5, .int (((10 * x) + (chF bt ln n)) - 48)), (4, .int (nI a1)), (3, .int (b2i sg)), (0, .ref oM), (1, .int (nI to))]) hx hb dX5_takesNumber_97 hl (by decide) rfl (fun ls hl => ?_)
        refine lv_aload_n hx hb dX5_takesNumber_99 rfl (lv_at hl 3 rfl) ?_
        refine lv_dup hx hb dX5_takesNumber_100 rfl ?_
        refine va_get (D := D) (ci := 5) (v := .int (nI n)) (C := RX5) (T := TX5) (N := 21) hx hb hts N5 hown hK hP 0 rfl rfl 18 (by decide) L212 (fun _ h9 => h9) rfl dX5_takesNumber_101 ?_
        refine lv_iconst (v := 1) hx hb dX5_takesNumber_104 (by decide) ?_
        refine lv_iadd hx hb dX5_takesNumber_105 ?_
        refine z_topi (x := (nI n) + 1) (y := nI (n + 1)) (z_add rfl rfl) ?_
        refine va_put (D := D) (ci := 5) (v := .int (nI (n + 1))) (ty := .int) (C := RX5) (T := TX5) (N := 21) hx hb hts N5 tyX5 tyX5_ok nmX5 hown hK hP hD hS 0 rfl rfl 18 (by decide) L212 (fun _ h9 => h9) rfl (by decide +kernel) rfl rfl (Nat.le_of_ble_eq_true rfl) dX5_takesNumber_106 (fun H locs hP hD hS => ?_)
        have hP : va_P D vwCl [(oM, .inr (5, [.ref mN, .ref mA, .ref mP, .int (nI ks), .ref mR, .ref mT, .int (nI ln), .long x1, .long x2, .long x3, .long x4, .long y1, .long y2, .long y3, .long y4, .ref mL, .ref mB, .int od, .int (nI (n + 1)), .int wa, .long hs])), (mT, .inl (cI, 150, .inl tx)), (mB, .inl (cI, 300, .inl nb))] H := hP
        have hD : va_D A [(oM, .inr (5, [.ref mN, .ref mA, .ref mP, .int (nI ks), .ref mR, .ref mT, .int (nI ln), .long x1, .long x2, .long x3, .long x4, .long y1, .long y2, .long y3, .long y4, .ref mL, .ref mB, .int od, .int (nI (n + 1)), .int wa, .long hs])), (mT, .inl (cI, 150, .inl tx)), (mB, .inl (cI, 300, .inl nb))] := hD
        refine lv_goto (tgt := 52) hx hb dX5_takesNumber_109 (by decide) ?_
        exact ih _ (by omega) sg a1 (t + 1) (n + 1) (((10 * x) + (chF bt ln n)) - 48) _ _ _ rfl hsg ha1 (by omega) (by omega) (by omega) (fun _ => tn_f hf1 hn1 hfg) (by rw [hinv]; exact dg_step (by omega) hfg) hP hD hS (lv_sub hl [0, 1, 2, 3, 4] rfl)
      · skip
        have c_13 := (z_eq (a := n) (b := a1 + 4) rfl (z_add rfl rfl) (by omega) (by omega)).mp c_13
        refine lv_aload_n hx hb dX5_takesNumber_74 rfl (lv_at hl 3 rfl) ?_
        refine z_VI (n := 0) (wn := (fun u : Unit => [(oM, .inr (5, [.ref mN, .ref mA, .ref mP, .int (nI ks), .ref mR, .ref mT, .int (nI ln), .long x1, .long x2, .long x3, .long x4, .long y1, .long y2, .long y3, .long y4, .ref mL, .ref mB, .int od, .int (nI n), .int (nI n), .long hs])), (mT, .inl (cI, 150, .inl tx)), (mB, .inl (cI, 300, .inl nb))])) (wr := [(mT, .inl (cI, 150, .inl tx)), (mB, .inl (cI, 300, .inl nb))]) (As := []) (rest := []) ⟨hx, hb, hml, hown, hts⟩ hK hP hD hS hA hT (kX5_fails l D cI cB tE tN oM mN mA mP mR mT mL mB ks ln x1 x2 x3 x4 y1 y2 y3 y4 od (nI n) wa hs _ ) gX5_takesNumber_X5_fails rfl rfl rfl (by decide +kernel) ⟨Nat.le_of_ble_eq_true rfl, Nat.le_of_ble_eq_true rfl⟩ [0] [1, 2] [2, 0, 1] (by decide) rfl rfl (by decide) (by decide) (by decide) (fun u => rfl) 0 5 rfl rfl rfl rfl hl.1 rfl (Nat.le_of_ble_eq_true rfl) dX5_takesNumber_75 ⟨Nat.le_of_ble_eq_true rfl, Nat.le_of_ble_eq_true rfl⟩ (fun r_14 u H locs hw_15 hP hD hS => ?_)
        try dsimp only at hw_15
        have hP : va_P D vwCl [(oM, .inr (5, [.ref mN, .ref mA, .ref mP, .int (nI ks), .ref mR, .ref mT, .int (nI ln), .long x1, .long x2, .long x3, .long x4, .long y1, .long y2, .long y3, .long y4, .ref mL, .ref mB, .int od, .int (nI n), .int (nI n), .long hs])), (mT, .inl (cI, 150, .inl tx)), (mB, .inl (cI, 300, .inl nb))] H := hP
        have hD : va_D A [(oM, .inr (5, [.ref mN, .ref mA, .ref mP, .int (nI ks), .ref mR, .ref mT, .int (nI ln), .long x1, .long x2, .long x3, .long x4, .long y1, .long y2, .long y3, .long y4, .ref mL, .ref mB, .int od, .int (nI n), .int (nI n), .long hs])), (mT, .inl (cI, 150, .inl tx)), (mB, .inl (cI, 300, .inl nb))] := hD
        subst r_14
        exact hQ (b2i false) (n, (nI n), nb) _ _ _ _ (z_nb _) (by have e := nm_eq (b := bt) (L := ln) (a := sk bt ln pn) (n := n) (x := x) (neg := neg) (by rw [ha1]; exact hf1 (by omega)) (by rw [ha1]; exact tn_d (Or.inl (by omega)) hinv); rw [hfg] at e; rw [e]; exact ⟨rfl, rfl, fun h => Bool.noConfusion h, fun _ => rfl, hn, fun j _ => rfl⟩) hP hD hS dX5_takesNumber_78
  refine lv_aload_n hx hb dX5_takesNumber_0 rfl (lv_at hl 0 rfl) ?_
  refine z_VV (n := 0) (wn := (fun u : Unit => [(oM, .inr (5, [.ref mN, .ref mA, .ref mP, .int (nI ks), .ref mR, .ref mT, .int (nI ln), .long x1, .long x2, .long x3, .long x4, .long y1, .long y2, .long y3, .long y4, .ref mL, .ref mB, .int od, .int (nI (sk bt ln pn)), .int wa, .long hs])), (mT, .inl (cI, 150, .inl tx)), (mB, .inl (cI, 300, .inl nb))])) (wr := [(mB, .inl (cI, 300, .inl nb))]) (As := []) (rest := []) ⟨hx, hb, hml, hown, hts⟩ hK hP hD hS hA hT (kX5_blanks l D cI cB tE tN oM mN mA mP mR mT mL mB ks ln x1 x2 x3 x4 y1 y2 y3 y4 od wa hs tx bt pn _ (by omega) (hTx) (by omega)) gX5_takesNumber_X5_blanks rfl rfl rfl (by decide +kernel) ⟨Nat.le_of_ble_eq_true rfl, Nat.le_of_ble_eq_true rfl⟩ [0, 1] [2] [1, 2, 0] (by decide) rfl rfl (by decide) (by decide) (by decide) (fun u => rfl) 0 5 rfl rfl rfl rfl hl.1 rfl (Nat.le_of_ble_eq_true rfl) dX5_takesNumber_1 ⟨Nat.le_of_ble_eq_true rfl, Nat.le_of_ble_eq_true rfl⟩ (fun u H locs hw_17 hP hD hS => ?_)
  try dsimp only at hw_17
  have hP : va_P D vwCl [(oM, .inr (5, [.ref mN, .ref mA, .ref mP, .int (nI ks), .ref mR, .ref mT, .int (nI ln), .long x1, .long x2, .long x3, .long x4, .long y1, .long y2, .long y3, .long y4, .ref mL, .ref mB, .int od, .int (nI (sk bt ln pn)), .int wa, .long hs])), (mT, .inl (cI, 150, .inl tx)), (mB, .inl (cI, 300, .inl nb))] H := hP
  have hD : va_D A [(oM, .inr (5, [.ref mN, .ref mA, .ref mP, .int (nI ks), .ref mR, .ref mT, .int (nI ln), .long x1, .long x2, .long x3, .long x4, .long y1, .long y2, .long y3, .long y4, .ref mL, .ref mB, .int od, .int (nI (sk bt ln pn)), .int wa, .long hs])), (mT, .inl (cI, 150, .inl tx)), (mB, .inl (cI, 300, .inl nb))] := hD
  refine lv_iload_n hx hb dX5_takesNumber_4 rfl (lv_at hl 2 rfl) ?_
  refine lv_if_eq (tgt := 23) hx hb dX5_takesNumber_5 (by decide) (fun c_18 => ?_) (fun c_18 => ?_)
  · skip
    have c_18 := z_b0 c_18
    refine lv_iconst (v := 0) hx hb dX5_takesNumber_23 (by decide) ?_
    refine lv_istore_n (lv' := [(3, .int 0), (0, .ref oM), (1, .int (nI to)), (2, .int (b2i neg))]) hx hb dX5_takesNumber_24 rfl hl (by decide) rfl (fun ls hl => ?_)
    refine lv_aload_n hx hb dX5_takesNumber_25 rfl (lv_at hl 1 rfl) ?_
    refine lv_dup hx hb dX5_takesNumber_26 rfl ?_
    refine va_get (D := D) (ci := 5) (v := .int (nI (sk bt ln pn))) (C := RX5) (T := TX5) (N := 21) hx hb hts N5 hown hK hP 0 rfl rfl 18 (by decide) L212 (fun _ h9 => h9) rfl dX5_takesNumber_27 ?_
    refine lv_iload_n hx hb dX5_takesNumber_30 rfl (lv_at hl 0 rfl) ?_
    refine lv_if_eq (tgt := 38) hx hb dX5_takesNumber_31 (by decide) (fun c_19 => ?_) (fun c_19 => ?_)
    · skip
      have c_19 := (z_eq (a := 0) (b := 0) rfl rfl (by omega) (by omega)).mp c_19
      refine lv_iconst (v := 0) hx hb dX5_takesNumber_38 (by decide) ?_
      refine lv_iadd hx hb dX5_takesNumber_39 ?_
      refine z_topi (x := (nI (sk bt ln pn)) + 0) (y := nI ((sk bt ln pn) + 0)) (z_add rfl rfl) ?_
      refine va_put (D := D) (ci := 5) (v := .int (nI ((sk bt ln pn) + 0))) (ty := .int) (C := RX5) (T := TX5) (N := 21) hx hb hts N5 tyX5 tyX5_ok nmX5 hown hK hP hD hS 0 rfl rfl 18 (by decide) L212 (fun _ h9 => h9) rfl (by decide +kernel) rfl rfl (Nat.le_of_ble_eq_true rfl) dX5_takesNumber_40 (fun H locs hP hD hS => ?_)
      have hP : va_P D vwCl [(oM, .inr (5, [.ref mN, .ref mA, .ref mP, .int (nI ks), .ref mR, .ref mT, .int (nI ln), .long x1, .long x2, .long x3, .long x4, .long y1, .long y2, .long y3, .long y4, .ref mL, .ref mB, .int od, .int (nI ((sk bt ln pn) + 0)), .int wa, .long hs])), (mT, .inl (cI, 150, .inl tx)), (mB, .inl (cI, 300, .inl nb))] H := hP
      have hD : va_D A [(oM, .inr (5, [.ref mN, .ref mA, .ref mP, .int (nI ks), .ref mR, .ref mT, .int (nI ln), .long x1, .long x2, .long x3, .long x4, .long y1, .long y2, .long y3, .long y4, .ref mL, .ref mB, .int od, .int (nI ((sk bt ln pn) + 0)), .int wa, .long hs])), (mT, .inl (cI, 150, .inl tx)), (mB, .inl (cI, 300, .inl nb))] := hD
      refine lv_aload_n hx hb dX5_takesNumber_43 rfl (lv_at hl 1 rfl) ?_
      refine va_get (D := D) (ci := 5) (v := .int (nI ((sk bt ln pn) + 0))) (C := RX5) (T := TX5) (N := 21) hx hb hts N5 hown hK hP 0 rfl rfl 18 (by decide) L212 (fun _ h9 => h9) rfl dX5_takesNumber_44 ?_
      refine lv_istore (lv' := [(4, .int (nI ((sk bt ln pn) + 0))), (3, .int 0), (0, .ref oM), (1, .int (nI to)), (2, .int (b2i neg))]) hx hb dX5_takesNumber_47 hl (by decide) rfl (fun ls hl => ?_)
      refine lv_iconst (v := 0) hx hb dX5_takesNumber_49 (by decide) ?_
      refine lv_istore (lv' := [(5, .int 0), (4, .int (nI ((sk bt ln pn) + 0))), (3, .int 0), (0, .ref oM), (1, .int (nI to)), (2, .int (b2i neg))]) hx hb dX5_takesNumber_50 hl (by decide) rfl (fun ls hl => ?_)
      exact lp52 _ false ((sk bt ln pn) + 0) 0 ((sk bt ln pn) + 0) 0 _ _ _ rfl ((tn_e0 c_18).1) ((tn_e0 c_18).2) (by omega) (by omega) (by omega) (fun h => absurd h (by omega)) rfl hP hD hS (lv_sub hl [0, 1, 2, 3, 4] rfl)
    · skip
      have c_19 := (z_eqn (a := 0) (b := 0) rfl rfl (by omega) (by omega)).mp c_19
      exact absurd c_19 (by omega)
  · skip
    have c_18 := z_b1 c_18
    refine lv_aload_n hx hb dX5_takesNumber_8 rfl (lv_at hl 0 rfl) ?_
    refine lv_bipush (v := 45) hx hb dX5_takesNumber_9 (by decide) ?_
    refine lv_bipush (v := 45) hx hb dX5_takesNumber_11 (by decide) ?_
    refine z_VI (n := 2) (wn := (fun u : Unit => [(oM, .inr (5, [.ref mN, .ref mA, .ref mP, .int (nI ks), .ref mR, .ref mT, .int (nI ln), .long x1, .long x2, .long x3, .long x4, .long y1, .long y2, .long y3, .long y4, .ref mL, .ref mB, .int od, .int (nI (sk bt ln pn)), .int wa, .long hs])), (mT, .inl (cI, 150, .inl tx)), (mB, .inl (cI, 300, .inl nb))])) (wr := [(mB, .inl (cI, 300, .inl nb))]) (As := [.int 45, .int 45]) (rest := []) ⟨hx, hb, hml, hown, hts⟩ hK hP hD hS hA hT (kX5_isAt l D cI cB tE tN oM mN mA mP mR mT mL mB ks ln x1 x2 x3 x4 y1 y2 y3 y4 od wa hs tx bt (sk bt ln pn) 45 45 _ (by omega) (hTx) (by omega)) gX5_takesNumber_X5_isAt rfl rfl rfl (by decide +kernel) ⟨Nat.le_of_ble_eq_true rfl, Nat.le_of_ble_eq_true rfl⟩ [0, 1] [2] [1, 2, 0] (by decide) rfl rfl (by decide) (by decide) (by decide) (fun u => rfl) 0 5 rfl rfl rfl rfl hl.1 rfl (Nat.le_of_ble_eq_true rfl) dX5_takesNumber_13 ⟨Nat.le_of_ble_eq_true rfl, Nat.le_of_ble_eq_true rfl⟩ (fun r_20 u H locs hw_21 hP hD hS => ?_)
    try dsimp only at hw_21
    have hP : va_P D vwCl [(oM, .inr (5, [.ref mN, .ref mA, .ref mP, .int (nI ks), .ref mR, .ref mT, .int (nI ln), .long x1, .long x2, .long x3, .long x4, .long y1, .long y2, .long y3, .long y4, .ref mL, .ref mB, .int od, .int (nI (sk bt ln pn)), .int wa, .long hs])), (mT, .inl (cI, 150, .inl tx)), (mB, .inl (cI, 300, .inl nb))] H := hP
    have hD : va_D A [(oM, .inr (5, [.ref mN, .ref mA, .ref mP, .int (nI ks), .ref mR, .ref mT, .int (nI ln), .long x1, .long x2, .long x3, .long x4, .long y1, .long y2, .long y3, .long y4, .ref mL, .ref mB, .int od, .int (nI (sk bt ln pn)), .int wa, .long hs])), (mT, .inl (cI, 150, .inl tx)), (mB, .inl (cI, 300, .inl nb))] := hD
    subst r_20
    refine lv_if_eq (tgt := 23) hx hb dX5_takesNumber_16 (by decide) (fun c_22 => ?_) (fun c_22 => ?_)
    · skip
      have c_22 := z_b0 c_22
      refine lv_iconst (v := 0) hx hb dX5_takesNumber_23 (by decide) ?_
      refine lv_istore_n (lv' := [(3, .int 0), (0, .ref oM), (1, .int (nI to)), (2, .int (b2i neg))]) hx hb dX5_takesNumber_24 rfl hl (by decide) rfl (fun ls hl => ?_)
      refine lv_aload_n hx hb dX5_takesNumber_25 rfl (lv_at hl 1 rfl) ?_
      refine lv_dup hx hb dX5_takesNumber_26 rfl ?_
      refine va_get (D := D) (ci := 5) (v := .int (nI (sk bt ln pn))) (C := RX5) (T := TX5) (N := 21) hx hb hts N5 hown hK hP 0 rfl rfl 18 (by decide) L212 (fun _ h9 => h9) rfl dX5_takesNumber_27 ?_
      refine lv_iload_n hx hb dX5_takesNumber_30 rfl (lv_at hl 0 rfl) ?_
      refine lv_if_eq (tgt := 38) hx hb dX5_takesNumber_31 (by decide) (fun c_23 => ?_) (fun c_23 => ?_)
      · skip
        have c_23 := (z_eq (a := 0) (b := 0) rfl rfl (by omega) (by omega)).mp c_23
        refine lv_iconst (v := 0) hx hb dX5_takesNumber_38 (by decide) ?_
        refine lv_iadd hx hb dX5_takesNumber_39 ?_
        refine z_topi (x := (nI (sk bt ln pn)) + 0) (y := nI ((sk bt ln pn) + 0)) (z_add rfl rfl) ?_
        refine va_put (D := D) (ci := 5) (v := .int (nI ((sk bt ln pn) + 0))) (ty := .int) (C := RX5) (T := TX5) (N := 21) hx hb hts N5 tyX5 tyX5_ok nmX5 hown hK hP hD hS 0 rfl rfl 18 (by decide) L212 (fun _ h9 => h9) rfl (by decide +kernel) rfl rfl (Nat.le_of_ble_eq_true rfl) dX5_takesNumber_40 (fun H locs hP hD hS => ?_)
        have hP : va_P D vwCl [(oM, .inr (5, [.ref mN, .ref mA, .ref mP, .int (nI ks), .ref mR, .ref mT, .int (nI ln), .long x1, .long x2, .long x3, .long x4, .long y1, .long y2, .long y3, .long y4, .ref mL, .ref mB, .int od, .int (nI ((sk bt ln pn) + 0)), .int wa, .long hs])), (mT, .inl (cI, 150, .inl tx)), (mB, .inl (cI, 300, .inl nb))] H := hP
        have hD : va_D A [(oM, .inr (5, [.ref mN, .ref mA, .ref mP, .int (nI ks), .ref mR, .ref mT, .int (nI ln), .long x1, .long x2, .long x3, .long x4, .long y1, .long y2, .long y3, .long y4, .ref mL, .ref mB, .int od, .int (nI ((sk bt ln pn) + 0)), .int wa, .long hs])), (mT, .inl (cI, 150, .inl tx)), (mB, .inl (cI, 300, .inl nb))] := hD
        refine lv_aload_n hx hb dX5_takesNumber_43 rfl (lv_at hl 1 rfl) ?_
        refine va_get (D := D) (ci := 5) (v := .int (nI ((sk bt ln pn) + 0))) (C := RX5) (T := TX5) (N := 21) hx hb hts N5 hown hK hP 0 rfl rfl 18 (by decide) L212 (fun _ h9 => h9) rfl dX5_takesNumber_44 ?_
        refine lv_istore (lv' := [(4, .int (nI ((sk bt ln pn) + 0))), (3, .int 0), (0, .ref oM), (1, .int (nI to)), (2, .int (b2i neg))]) hx hb dX5_takesNumber_47 hl (by decide) rfl (fun ls hl => ?_)
        refine lv_iconst (v := 0) hx hb dX5_takesNumber_49 (by decide) ?_
        refine lv_istore (lv' := [(5, .int 0), (4, .int (nI ((sk bt ln pn) + 0))), (3, .int 0), (0, .ref oM), (1, .int (nI to)), (2, .int (b2i neg))]) hx hb dX5_takesNumber_50 hl (by decide) rfl (fun ls hl => ?_)
        exact lp52 _ false ((sk bt ln pn) + 0) 0 ((sk bt ln pn) + 0) 0 _ _ _ rfl ((tn_e1 c_18 c_22).1) ((tn_e1 c_18 c_22).2) (by omega) (by omega) (by omega) (fun h => absurd h (by omega)) rfl hP hD hS (lv_sub hl [0, 1, 2, 3, 4] rfl)
      · skip
        have c_23 := (z_eqn (a := 0) (b := 0) rfl rfl (by omega) (by omega)).mp c_23
        exact absurd c_23 (by omega)
    · skip
      have c_22 := z_b1 c_22
      have hlt45 := at_lt c_22
      refine lv_iconst (v := 1) hx hb dX5_takesNumber_19 (by decide) ?_
      refine lv_goto (tgt := 24) hx hb dX5_takesNumber_20 (by decide) ?_
      refine lv_istore_n (lv' := [(3, .int 1), (0, .ref oM), (1, .int (nI to)), (2, .int (b2i neg))]) hx hb dX5_takesNumber_24 rfl hl (by decide) rfl (fun ls hl => ?_)
      refine lv_aload_n hx hb dX5_takesNumber_25 rfl (lv_at hl 1 rfl) ?_
      refine lv_dup hx hb dX5_takesNumber_26 rfl ?_
      refine va_get (D := D) (ci := 5) (v := .int (nI (sk bt ln pn))) (C := RX5) (T := TX5) (N := 21) hx hb hts N5 hown hK hP 0 rfl rfl 18 (by decide) L212 (fun _ h9 => h9) rfl dX5_takesNumber_27 ?_
      refine lv_iload_n hx hb dX5_takesNumber_30 rfl (lv_at hl 0 rfl) ?_
      refine lv_if_eq (tgt := 38) hx hb dX5_takesNumber_31 (by decide) (fun c_24 => ?_) (fun c_24 => ?_)
      · skip
        have c_24 := (z_eq (a := 1) (b := 0) rfl rfl (by omega) (by omega)).mp c_24
        exact absurd c_24 (by omega)
      · skip
        have c_24 := (z_eqn (a := 1) (b := 0) rfl rfl (by omega) (by omega)).mp c_24
        refine lv_iconst (v := 1) hx hb dX5_takesNumber_34 (by decide) ?_
        refine lv_goto (tgt := 39) hx hb dX5_takesNumber_35 (by decide) ?_
        refine lv_iadd hx hb dX5_takesNumber_39 ?_
        refine z_topi (x := (nI (sk bt ln pn)) + 1) (y := nI ((sk bt ln pn) + 1)) (z_add rfl rfl) ?_
        refine va_put (D := D) (ci := 5) (v := .int (nI ((sk bt ln pn) + 1))) (ty := .int) (C := RX5) (T := TX5) (N := 21) hx hb hts N5 tyX5 tyX5_ok nmX5 hown hK hP hD hS 0 rfl rfl 18 (by decide) L212 (fun _ h9 => h9) rfl (by decide +kernel) rfl rfl (Nat.le_of_ble_eq_true rfl) dX5_takesNumber_40 (fun H locs hP hD hS => ?_)
        have hP : va_P D vwCl [(oM, .inr (5, [.ref mN, .ref mA, .ref mP, .int (nI ks), .ref mR, .ref mT, .int (nI ln), .long x1, .long x2, .long x3, .long x4, .long y1, .long y2, .long y3, .long y4, .ref mL, .ref mB, .int od, .int (nI ((sk bt ln pn) + 1)), .int wa, .long hs])), (mT, .inl (cI, 150, .inl tx)), (mB, .inl (cI, 300, .inl nb))] H := hP
        have hD : va_D A [(oM, .inr (5, [.ref mN, .ref mA, .ref mP, .int (nI ks), .ref mR, .ref mT, .int (nI ln), .long x1, .long x2, .long x3, .long x4, .long y1, .long y2, .long y3, .long y4, .ref mL, .ref mB, .int od, .int (nI ((sk bt ln pn) + 1)), .int wa, .long hs])), (mT, .inl (cI, 150, .inl tx)), (mB, .inl (cI, 300, .inl nb))] := hD
        refine lv_aload_n hx hb dX5_takesNumber_43 rfl (lv_at hl 1 rfl) ?_
        refine va_get (D := D) (ci := 5) (v := .int (nI ((sk bt ln pn) + 1))) (C := RX5) (T := TX5) (N := 21) hx hb hts N5 hown hK hP 0 rfl rfl 18 (by decide) L212 (fun _ h9 => h9) rfl dX5_takesNumber_44 ?_
        refine lv_istore (lv' := [(4, .int (nI ((sk bt ln pn) + 1))), (3, .int 1), (0, .ref oM), (1, .int (nI to)), (2, .int (b2i neg))]) hx hb dX5_takesNumber_47 hl (by decide) rfl (fun ls hl => ?_)
        refine lv_iconst (v := 0) hx hb dX5_takesNumber_49 (by decide) ?_
        refine lv_istore (lv' := [(5, .int 0), (4, .int (nI ((sk bt ln pn) + 1))), (3, .int 1), (0, .ref oM), (1, .int (nI to)), (2, .int (b2i neg))]) hx hb dX5_takesNumber_50 hl (by decide) rfl (fun ls hl => ?_)
        exact lp52 _ true ((sk bt ln pn) + 1) 0 ((sk bt ln pn) + 1) 0 _ _ _ rfl ((tn_e2 c_18 c_22).1) ((tn_e2 c_18 c_22).2.1) (by omega) (by omega) (by omega) (fun h => absurd h (by omega)) rfl hP hD hS (lv_sub hl [0, 1, 2, 3, 4] rfl)
