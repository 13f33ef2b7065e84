def rmF (ks : Nat) (qa qp : Nat → Int32) (j : Nat) : Int32 := if ks < 5 then (if 39 * ks ≤ j ∧ j < 39 * ks + 39 then qa (j - 39 * ks) else qp j) else (if j < 156 then qp (j + 39) else qa (j - 156))
def rmK (v : Int32) (ks : Nat) (qa qp : Nat → Int32) (j : Nat) : Int32 := if cRef v = true then qp j else rmF ks qa qp j
theorem cp_up {n : Nat} {q1 q : Nat → Int32} (h : ∀ j, j < n → q1 j = q j) : ∀ j, j < n + 1 → upd q1 n (q n) j = q j := by
  intro j hj
  by_cases e : j = n
  · rw [e, upd_eq]
  · rw [upd_ne e]; exact h j (by omega)
theorem rm_up {kq n : Nat} {q1 qa bs : Nat → Int32} (h : ∀ j, j < 195 → q1 j = if 39 * kq ≤ j ∧ j < 39 * kq + n then qa (j - 39 * kq) else bs j) : ∀ j, j < 195 → upd q1 (39 * kq + n) (qa n) j = if 39 * kq ≤ j ∧ j < 39 * kq + (n + 1) then qa (j - 39 * kq) else bs j := by
  intro j hj
  by_cases e : j = 39 * kq + n
  · rw [e, upd_eq, if_pos (by omega)]; congr 1; omega
  · rw [upd_ne e, h j hj]
    by_cases q : 39 * kq ≤ j ∧ j < 39 * kq + n
    · rw [if_pos q, if_pos (by omega)]
    · rw [if_neg q, if_neg (by omega)]
theorem sh_up {n : Nat} {q1 q : Nat → Int32} (h : ∀ j, j < 195 → q1 j = if j < n then q (j + 39) else q j) (hn : n < 156) : ∀ j, j < 195 → upd q1 n (q1 (n + 39)) j = if j < n + 1 then q (j + 39) else q j := by
  intro j hj
  by_cases e : j = n
  · rw [e, upd_eq, if_pos (by omega), h (n + 39) (by omega), if_neg (by omega)]
  · rw [upd_ne e, h j hj]
    by_cases q : j < n
    · rw [if_pos q, if_pos (by omega)]
    · rw [if_neg q, if_neg (by omega)]
theorem rm_end {ks kq : Nat} {q1 qa qp bs : Nat → Int32} (hB : (ks < 5 ∧ kq = ks ∧ bs = qp) ∨ (ks = 5 ∧ kq = 4 ∧ ∀ j, j < 195 → bs j = if j < 156 then qp (j + 39) else qp j)) (h : ∀ j, j < 195 → q1 j = if 39 * kq ≤ j ∧ j < 39 * kq + 39 then qa (j - 39 * kq) else bs j) : kq + 1 = kpS ks ∧ ∀ j, j < 195 → q1 j = rmF ks qa qp j := by
  rcases hB with ⟨h1, rfl, rfl⟩ | ⟨rfl, rfl, h3⟩
  · exact ⟨by rw [kpS, if_pos h1], fun j hj => by rw [h j hj, rmF, if_pos h1]⟩
  · refine ⟨rfl, fun j hj => ?_⟩
    rw [h j hj, rmF, if_neg (show ¬ 5 < 5 by omega)]
    by_cases q : j < 156
    · rw [if_neg (by omega), h3 j hj, if_pos q, if_pos q]
    · rw [if_pos (by omega), if_neg q]
theorem ref_j {v : Int32} (h : v = -10002 ∨ v = -10003 ∨ v = -10004) : ∃ j : Nat, (-10002) - v = nI j ∧ j ≤ 2 := by
  rcases h with rfl | rfl | rfl
  · exact ⟨0, by decide, by omega⟩
  · exact ⟨1, by decide, by omega⟩
  · exact ⟨2, by decide, by omega⟩
theorem cRef_of {v : Int32} (h : v = -10002 ∨ v = -10003 ∨ v = -10004) : cRef v = true := decide_eq_true h
theorem cRef_gt {v : Int32} (h : -10002 < v) : cRef v = false := by
  refine decide_eq_false (fun q => ?_)
  rcases q with rfl | rfl | rfl <;> exact absurd h (by decide)
theorem Rf3_ref {cb cn cf v : Int32} {rf : Nat → Int32} {j : Nat} (hR : Rf3 cb cn cf rf) (h : v = -10002 ∨ v = -10003 ∨ v = -10004) (hj : (-10002) - v = nI j) (hj2 : j ≤ 2) : Rf3 (cnt (-10002) cb v) (cnt (-10003) cn v) (cnt (-10004) cf v) (upd rf j (rf j + 1)) := by
  obtain ⟨h0, h1, h2⟩ := hR
  rcases h with rfl | rfl | rfl
  · obtain rfl : j = 0 := ((z_eq (a := 0) (b := j) rfl rfl (by omega) (by omega)).mp hj).symm
    exact ⟨by rw [upd_eq, h0, cnt, if_pos rfl], by rw [upd_ne (by omega), h1, cnt, if_neg (by decide)], by rw [upd_ne (by omega), h2, cnt, if_neg (by decide)]⟩
  · obtain rfl : j = 1 := ((z_eq (a := 1) (b := j) rfl rfl (by omega) (by omega)).mp hj).symm
    exact ⟨by rw [upd_ne (by omega), h0, cnt, if_neg (by decide)], by rw [upd_eq, h1, cnt, if_pos rfl], by rw [upd_ne (by omega), h2, cnt, if_neg (by decide)]⟩
  · obtain rfl : j = 2 := ((z_eq (a := 2) (b := j) rfl rfl (by omega) (by omega)).mp hj).symm
    exact ⟨by rw [upd_ne (by omega), h0, cnt, if_neg (by decide)], by rw [upd_ne (by omega), h1, cnt, if_neg (by decide)], by rw [upd_eq, h2, cnt, if_pos rfl]⟩
theorem Rf3_no {cb cn cf v : Int32} {rf : Nat → Int32} (hR : Rf3 cb cn cf rf) (h : cRef v = false) : Rf3 (cnt (-10002) cb v) (cnt (-10003) cn v) (cnt (-10004) cf v) rf := by
  have q := of_decide_eq_false h
  rw [Rf3, cnt, cnt, cnt, if_neg (fun e => q (Or.inl e)), if_neg (fun e => q (Or.inr (Or.inl e))), if_neg (fun e => q (Or.inr (Or.inr e)))]
  exact hR
set_option maxHeartbeats 4000000 in
set_option maxRecDepth 100000 in
theorem kX5_laysAside (l : Launch) (D : va_G) (cI cB : ClassId) (tE tN : Nat) (oM : Nat) (mN : Nat) (mA : Nat) (mP : Nat) (mR : Nat) (mT : Nat) (mL : Nat) (mB : Nat) (ks : Nat) (ln : Nat) (x1 : Int64) (x2 : Int64) (x3 : Int64) (x4 : Int64) (y1 : Int64) (y2 : Int64) (y3 : Int64) (y4 : Int64) (od : Int32) (spt : Int32) (wa : Int32) (hs : Int64) (qn : Nat → Int32) (qa : Nat → Int32) (sz : Nat)  : zV l yX5_laysAside wsX5_laysAside ({ frames := 0, cells := 0, slots := 0, locals := 0 }) D cI cB tE tN [.ref oM] [(oM, .inr (5, [.ref mN, .ref mA, .ref mP, .int (nI ks), .ref mR, .ref mT, .int (nI ln), .long x1, .long x2, .long x3, .long x4, .long y1, .long y2, .long y3, .long y4, .ref mL, .ref mB, .int od, .int spt, .int wa, .long hs])), (mN, .inl (cI, 39, .inl qn)), (mA, .inl (cI, 39, .inl qa))] sz (fun u : (Nat → Int32) => [(oM, .inr (5, [.ref mN, .ref mA, .ref mP, .int (nI ks), .ref mR, .ref mT, .int (nI ln), .long x1, .long x2, .long x3, .long x4, .long y1, .long y2, .long y3, .long y4, .ref mL, .ref mB, .int od, .int spt, .int wa, .long hs])), (mN, .inl (cI, 39, .inl qn)), (mA, .inl (cI, 39, .inl u))]) (fun (u : (Nat → Int32)) => ∀ j, j < 39 → u j = qn j) 0 0 := by
  refine zV_mk (cc := cX5_laysAside) (maxL := 2) (by decide) rfl (Nat.le_of_ble_eq_true rfl) ?_
  intro p e s m below meth c A Q ls S0 hname hA hK hP hD hT hS hQ hl
  obtain ⟨hx, hb, hml, hown, hts⟩ := id S0
  have hl : lv_has ls 2 [(0, .ref oM)] := hl
  have L13 : (Cond.fieldLink RX5 13 "PastAndClearModel" "aside" "[I").before ([.ref oM] : List Value).toArray s = true := hts (.fieldLink RX5 13 "PastAndClearModel" "aside" "[I") (by decide +kernel)
  have N5 : ∀ w ∈ u_ws RX5 TX5 21, w ∈ wsX5_laysAside := by decide +kernel
  have L7 : (Cond.fieldLink RX5 7 "PastAndClearModel" "now" "[I").before ([.ref oM] : List Value).toArray s = true := hts (.fieldLink RX5 7 "PastAndClearModel" "now" "[I") (by decide +kernel)
  have lp2 : ∀ (k : Nat) (n : Nat) (qa1 : Nat → Int32) (H : Heap) (locs : List Loc) (ls : Array Slot), 39 - n = k → (n ≤ 39) → (∀ j, j < n → qa1 j = qn j) → va_P D vwCl [(oM, .inr (5, [.ref mN, .ref mA, .ref mP, .int (nI ks), .ref mR, .ref mT, .int (nI ln), .long x1, .long x2, .long x3, .long x4, .long y1, .long y2, .long y3, .long y4, .ref mL, .ref mB, .int od, .int spt, .int wa, .long hs])), (mN, .inl (cI, 39, .inl qn)), (mA, .inl (cI, 39, .inl qa1))] H → va_D A [(oM, .inr (5, [.ref mN, .ref mA, .ref mP, .int (nI ks), .ref mR, .ref mT, .int (nI ln), .long x1, .long x2, .long x3, .long x4, .long y1, .long y2, .long y3, .long y4, .ref mL, .ref mB, .int od, .int spt, .int wa, .long hs])), (mN, .inl (cI, 39, .inl qn)), (mA, .inl (cI, 39, .inl qa1))] → va_S A s.heap H locs → lv_has ls 2 [(1, .int (nI n)), (0, .ref oM)] → W p l e ({ frames := 0, cells := 0, slots := 0, locals := 0 } : Room) s m ([.ref oM] : List Value).toArray below meth c H locs 0 0 Q (F0 m 2 ls []) := by
    intro k
    induction k using Nat.strongRecOn with
    | ind k ih =>
    intro n qa1 H locs ls hk hn hi hP hD hS hl
    refine lv_iload_n hx hb dX5_laysAside_2 rfl (lv_at hl 0 rfl) ?_
    refine lv_bipush (v := 39) hx hb dX5_laysAside_3 (by decide) ?_
    refine lv_icmp_ge (tgt := 26) hx hb dX5_laysAside_5 (by decide) (fun c_1 => ?_) (fun c_1 => ?_)
    · skip
      have c_1 := (z_le (a := 39) (b := n) rfl rfl (by omega) (by omega)).mp c_1
      exact hQ qa1 _ _ _ _ (fun j h => hi j (by omega)) hP hD hS dX5_laysAside_26
    · skip
      have c_1 := (z_len (a := 39) (b := n) rfl rfl (by omega) (by omega)).mp c_1
      refine lv_aload_n hx hb dX5_laysAside_8 rfl (lv_at hl 1 rfl) ?_
      refine va_get (D := D) (ci := 5) (v := .ref mA) (C := RX5) (T := TX5) (N := 21) hx hb hts N5 hown hK hP 0 rfl rfl 1 (by decide) L13 (fun _ h9 => h9) rfl dX5_laysAside_9 ?_
      refine lv_iload_n hx hb dX5_laysAside_12 rfl (lv_at hl 0 rfl) ?_
      refine lv_aload_n hx hb dX5_laysAside_13 rfl (lv_at hl 1 rfl) ?_
      refine va_get (D := D) (ci := 5) (v := .ref mN) (C := RX5) (T := TX5) (N := 21) hx hb hts N5 hown hK hP 0 rfl rfl 0 (by decide) L7 (fun _ h9 => h9) rfl dX5_laysAside_14 ?_
      refine lv_iload_n hx hb dX5_laysAside_17 rfl (lv_at hl 0 rfl) ?_
      refine z_ild (v := qn n) (j := n) hx hb hK hP 1 rfl rfl (by omega) (by decide) (rfl) dX5_laysAside_18 ?_
      refine z_ist (j := n) hx hb hK hP hD hS 2 rfl rfl (by omega) (by decide) dX5_laysAside_19 (fun H locs hP hD hS => ?_)
      have hP : va_P D vwCl [(oM, .inr (5, [.ref mN, .ref mA, .ref mP, .int (nI ks), .ref mR, .ref mT, .int (nI ln), .long x1, .long x2, .long x3, .long x4, .long y1, .long y2, .long y3, .long y4, .ref mL, .ref mB, .int od, .int spt, .int wa, .long hs])), (mN, .inl (cI, 39, .inl qn)), (mA, .inl (cI, 39, .inl (upd qa1 n (qn n))))] H := hP
      have hD : va_D A [(oM, .inr (5, [.ref mN, .ref mA, .ref mP, .int (nI ks), .ref mR, .ref mT, .int (nI ln), .long x1, .long x2, .long x3, .long x4, .long y1, .long y2, .long y3, .long y4, .ref mL, .ref mB, .int od, .int spt, .int wa, .long hs])), (mN, .inl (cI, 39, .inl qn)), (mA, .inl (cI, 39, .inl (upd qa1 n (qn n))))] := hD
      refine lv_iinc (v := nI (n + 1)) (lv' := [(1, .int (nI (n + 1))), (0, .ref oM)]) hx hb dX5_laysAside_20 hl (k := 0) rfl (z_add rfl rfl) (by decide) rfl (fun ls hl => ?_)
      refine lv_goto (tgt := 2) hx hb dX5_laysAside_23 (by decide) ?_
      exact ih _ (by omega) (n + 1) (upd qa1 n (qn n)) _ _ _ rfl (by omega) (cp_up hi) hP hD hS (lv_sub hl [0, 1] rfl)
  refine lv_iconst (v := 0) hx hb dX5_laysAside_0 (by decide) ?_
  refine lv_istore_n (lv' := [(1, .int 0), (0, .ref oM)]) hx hb dX5_laysAside_1 rfl hl (by decide) rfl (fun ls hl => ?_)
  exact lp2 _ 0 qa _ _ _ rfl (by omega) (fun j h => absurd h (Nat.not_lt_zero j)) hP hD hS (lv_sub hl [0, 1] rfl)

set_option maxHeartbeats 4000000 in
set_option maxRecDepth 100000 in
theorem kX5_remembers (l : Launch) (D : va_G) (cI cB : ClassId) (tE tN : Nat) (oM : Nat) (mN : Nat) (mA : Nat) (mP : Nat) (mR : Nat) (mT : Nat) (mL : Nat) (mB : Nat) (ks : Nat) (ln : Nat) (x1 : Int64) (x2 : Int64) (x3 : Int64) (x4 : Int64) (y1 : Int64) (y2 : Int64) (y3 : Int64) (y4 : Int64) (od : Int32) (spt : Int32) (wa : Int32) (hs : Int64) (qa : Nat → Int32) (qp : Nat → Int32) (sz : Nat) (hks : ks ≤ 5) : zV l yX5_remembers wsX5_remembers ({ frames := 0, cells := 0, slots := 0, locals := 0 }) D cI cB tE tN [.ref oM] [(oM, .inr (5, [.ref mN, .ref mA, .ref mP, .int (nI ks), .ref mR, .ref mT, .int (nI ln), .long x1, .long x2, .long x3, .long x4, .long y1, .long y2, .long y3, .long y4, .ref mL, .ref mB, .int od, .int spt, .int wa, .long hs])), (mA, .inl (cI, 39, .inl qa)), (mP, .inl (cI, 195, .inl qp))] sz (fun u : Nat × (Nat → Int32) => [(oM, .inr (5, [.ref mN, .ref mA, .ref mP, .int (nI u.1), .ref mR, .ref mT, .int (nI ln), .long x1, .long x2, .long x3, .long x4, .long y1, .long y2, .long y3, .long y4, .ref mL, .ref mB, .int od, .int spt, .int wa, .long hs])), (mA, .inl (cI, 39, .inl qa)), (mP, .inl (cI, 195, .inl u.2))]) (fun (u : Nat × (Nat → Int32)) => u.1 = kpS ks ∧ ∀ j, j < 195 → u.2 j = rmF ks qa qp j) 0 0 := by
  refine zV_mk (cc := cX5_remembers) (maxL := 2) (by decide) rfl (Nat.le_of_ble_eq_true rfl) ?_
  intro p e s m below meth c A Q ls S0 hname hA hK hP hD hT hS hQ hl
  obtain ⟨hx, hb, hml, hown, hts⟩ := id S0
  have hl : lv_has ls 2 [(0, .ref oM)] := hl
  have L31 : (Cond.fieldLink RX5 31 "PastAndClearModel" "states" "I").before ([.ref oM] : List Value).toArray s = true := hts (.fieldLink RX5 31 "PastAndClearModel" "states" "I") (by decide +kernel)
  have N5 : ∀ w ∈ u_ws RX5 TX5 21, w ∈ wsX5_remembers := by decide +kernel
  have L16 : (Cond.fieldLink RX5 16 "PastAndClearModel" "past" "[I").before ([.ref oM] : List Value).toArray s = true := hts (.fieldLink RX5 16 "PastAndClearModel" "past" "[I") (by decide +kernel)
  have L13 : (Cond.fieldLink RX5 13 "PastAndClearModel" "aside" "[I").before ([.ref oM] : List Value).toArray s = true := hts (.fieldLink RX5 13 "PastAndClearModel" "aside" "[I") (by decide +kernel)
  have lp50 : ∀ (k : Nat) (kq : Nat) (n : Nat) (bs : Nat → Int32) (qp1 : Nat → Int32) (H : Heap) (locs : List Loc) (ls : Array Slot), 39 - n = k → (kq ≤ 4) → (n ≤ 39) → ((ks < 5 ∧ kq = ks ∧ bs = qp) ∨ (ks = 5 ∧ kq = 4 ∧ ∀ j, j < 195 → bs j = if j < 156 then qp (j + 39) else qp j)) → (∀ j, j < 195 → qp1 j = if 39 * kq ≤ j ∧ j < 39 * kq + n then qa (j - 39 * kq) else bs j) → va_P D vwCl [(oM, .inr (5, [.ref mN, .ref mA, .ref mP, .int (nI kq), .ref mR, .ref mT, .int (nI ln), .long x1, .long x2, .long x3, .long x4, .long y1, .long y2, .long y3, .long y4, .ref mL, .ref mB, .int od, .int spt, .int wa, .long hs])), (mA, .inl (cI, 39, .inl qa)), (mP, .inl (cI, 195, .inl qp1))] H → va_D A [(oM, .inr (5, [.ref mN, .ref mA, .ref mP, .int (nI kq), .ref mR, .ref mT, .int (nI ln), .long x1, .long x2, .long x3, .long x4, .long y1, .long y2, .long y3, .long y4, .ref mL, .ref mB, .int od, .int spt, .int wa, .long hs])), (mA, .inl (cI, 39, .inl qa)), (mP, .inl (cI, 195, .inl qp1))] → va_S A s.heap H locs → lv_has ls 2 [(1, .int (nI n)), (0, .ref oM)] → W p l e ({ frames := 0, cells := 0, slots := 0, locals := 0 } : Room) s m ([.ref oM] : List Value).toArray below meth c H locs 0 0 Q (F0 m 50 ls []) := by
    intro k
    induction k using Nat.strongRecOn with
    | ind k ih =>
    intro kq n bs qp1 H locs ls hk hq4 hn hB hi hP hD hS hl
    refine lv_iload_n hx hb dX5_remembers_50 rfl (lv_at hl 0 rfl) ?_
    refine lv_bipush (v := 39) hx hb dX5_remembers_51 (by decide) ?_
    refine lv_icmp_ge (tgt := 82) hx hb dX5_remembers_53 (by decide) (fun c_1 => ?_) (fun c_1 => ?_)
    · skip
      have c_1 := (z_le (a := 39) (b := n) rfl rfl (by omega) (by omega)).mp c_1
      refine lv_aload_n hx hb dX5_remembers_82 rfl (lv_at hl 1 rfl) ?_
      refine lv_dup hx hb dX5_remembers_83 rfl ?_
      refine va_get (D := D) (ci := 5) (v := .int (nI kq)) (C := RX5) (T := TX5) (N := 21) hx hb hts N5 hown hK hP 0 rfl rfl 3 (by decide) L31 (fun _ h9 => h9) rfl dX5_remembers_84 ?_
      refine lv_iconst (v := 1) hx hb dX5_remembers_87 (by decide) ?_
      refine lv_iadd hx hb dX5_remembers_88 ?_
      refine z_topi (x := (nI kq) + 1) (y := nI (kq + 1)) (z_add rfl rfl) ?_
      refine va_put (D := D) (ci := 5) (v := .int (nI (kq + 1))) (ty := .int) (C := RX5) (T := TX5) (N := 21) hx hb hts N5 tyX5 tyX5_ok nmX5 hown hK hP hD hS 0 rfl rfl 3 (by decide) L31 (fun _ h9 => h9) rfl (by decide +kernel) rfl rfl (Nat.le_of_ble_eq_true rfl) dX5_remembers_89 (fun H locs hP hD hS => ?_)
      have hP : va_P D vwCl [(oM, .inr (5, [.ref mN, .ref mA, .ref mP, .int (nI (kq + 1)), .ref mR, .ref mT, .int (nI ln), .long x1, .long x2, .long x3, .long x4, .long y1, .long y2, .long y3, .long y4, .ref mL, .ref mB, .int od, .int spt, .int wa, .long hs])), (mA, .inl (cI, 39, .inl qa)), (mP, .inl (cI, 195, .inl qp1))] H := hP
      have hD : va_D A [(oM, .inr (5, [.ref mN, .ref mA, .ref mP, .int (nI (kq + 1)), .ref mR, .ref mT, .int (nI ln), .long x1, .long x2, .long x3, .long x4, .long y1, .long y2, .long y3, .long y4, .ref mL, .ref mB, .int od, .int spt, .int wa, .long hs])), (mA, .inl (cI, 39, .inl qa)), (mP, .inl (cI, 195, .inl qp1))] := hD
      exact hQ (kq + 1, qp1) _ _ _ _ (rm_end hB (fun j h => by have e := hi j h; rw [show n = 39 by omega] at e; exact e)) hP hD hS dX5_remembers_92
    · skip
      have c_1 := (z_len (a := 39) (b := n) rfl rfl (by omega) (by omega)).mp c_1
      refine lv_aload_n hx hb dX5_remembers_56 rfl (lv_at hl 1 rfl) ?_
      refine va_get (D := D) (ci := 5) (v := .ref mP) (C := RX5) (T := TX5) (N := 21) hx hb hts N5 hown hK hP 0 rfl rfl 2 (by decide) L16 (fun _ h9 => h9) rfl dX5_remembers_57 ?_
      refine lv_bipush (v := 39) hx hb dX5_remembers_60 (by decide) ?_
      refine lv_aload_n hx hb dX5_remembers_62 rfl (lv_at hl 1 rfl) ?_
      refine va_get (D := D) (ci := 5) (v := .int (nI kq)) (C := RX5) (T := TX5) (N := 21) hx hb hts N5 hown hK hP 0 rfl rfl 3 (by decide) L31 (fun _ h9 => h9) rfl dX5_remembers_63 ?_
      refine lv_imul hx hb dX5_remembers_66 ?_
      refine lv_iload_n hx hb dX5_remembers_67 rfl (lv_at hl 0 rfl) ?_
      refine lv_iadd hx hb dX5_remembers_68 ?_
      refine lv_aload_n hx hb dX5_remembers_69 rfl (lv_at hl 1 rfl) ?_
      refine va_get (D := D) (ci := 5) (v := .ref mA) (C := RX5) (T := TX5) (N := 21) hx hb hts N5 hown hK hP 0 rfl rfl 1 (by decide) L13 (fun _ h9 => h9) rfl dX5_remembers_70 ?_
      refine lv_iload_n hx hb dX5_remembers_73 rfl (lv_at hl 0 rfl) ?_
      refine z_ild (v := qa n) (j := n) hx hb hK hP 1 rfl rfl (by omega) (by decide) (rfl) dX5_remembers_74 ?_
      refine z_ist (j := (39 * kq) + n) hx hb hK hP hD hS 2 rfl (z_add (z_mul rfl rfl) rfl) (by omega) (by decide) dX5_remembers_75 (fun H locs hP hD hS => ?_)
      have hP : va_P D vwCl [(oM, .inr (5, [.ref mN, .ref mA, .ref mP, .int (nI kq), .ref mR, .ref mT, .int (nI ln), .long x1, .long x2, .long x3, .long x4, .long y1, .long y2, .long y3, .long y4, .ref mL, .ref mB, .int od, .int spt, .int wa, .long hs])), (mA, .inl (cI, 39, .inl qa)), (mP, .inl (cI, 195, .inl (upd qp1 ((39 * kq) + n) (qa n))))] H := hP
      have hD : va_D A [(oM, .inr (5, [.ref mN, .ref mA, .ref mP, .int (nI kq), .ref mR, .ref mT, .int (nI ln), .long x1, .long x2, .long x3, .long x4, .long y1, .long y2, .long y3, .long y4, .ref mL, .ref mB, .int od, .int spt, .int wa, .long hs])), (mA, .inl (cI, 39, .inl qa)), (mP, .inl (cI, 195, .inl (upd qp1 ((39 * kq) + n) (qa n))))] := hD
      refine lv_iinc (v := nI (n + 1)) (lv' := [(1, .int (nI (n + 1))), (0, .ref oM)]) hx hb dX5_remembers_76 hl (k := 0) rfl (z_add rfl rfl) (by decide) rfl (fun ls hl => ?_)
      refine lv_goto (tgt := 50) hx hb dX5_remembers_79 (by decide) ?_
      exact ih _ (by omega) kq (n + 1) bs (upd qp1 ((39 * kq) + n) (qa n)) _ _ _ rfl hq4 (by omega) hB (rm_up hi) hP hD hS (lv_sub hl [0, 1] rfl)
  have lp10 : ∀ (k : Nat) (n : Nat) (qp1 : Nat → Int32) (H : Heap) (locs : List Loc) (ls : Array Slot), 156 - n = k → (n ≤ 156) → (ks = 5) → (∀ j, j < 195 → qp1 j = if j < n then qp (j + 39) else qp j) → va_P D vwCl [(oM, .inr (5, [.ref mN, .ref mA, .ref mP, .int (nI ks), .ref mR, .ref mT, .int (nI ln), .long x1, .long x2, .long x3, .long x4, .long y1, .long y2, .long y3, .long y4, .ref mL, .ref mB, .int od, .int spt, .int wa, .long hs])), (mA, .inl (cI, 39, .inl qa)), (mP, .inl (cI, 195, .inl qp1))] H → va_D A [(oM, .inr (5, [.ref mN, .ref mA, .ref mP, .int (nI ks), .ref mR, .ref mT, .int (nI ln), .long x1, .long x2, .long x3, .long x4, .long y1, .long y2, .long y3, .long y4, .ref mL, .ref mB, .int od, .int spt, .int wa, .long hs])), (mA, .inl (cI, 39, .inl qa)), (mP, .inl (cI, 195, .inl qp1))] → va_S A s.heap H locs → lv_has ls 2 [(1, .int (nI n)), (0, .ref oM)] → W p l e ({ frames := 0, cells := 0, slots := 0, locals := 0 } : Room) s m ([.ref oM] : List Value).toArray below meth c H locs 0 0 Q (F0 m 10 ls []) := by
    intro k
    induction k using Nat.strongRecOn with
    | ind k ih =>
    intro n qp1 H locs ls hk hn h5 hi hP hD hS hl
    refine lv_iload_n hx hb dX5_remembers_10 rfl (lv_at hl 0 rfl) ?_
    refine lv_sipush (v := 156) hx hb dX5_remembers_11 (by decide) ?_
    refine lv_icmp_ge (tgt := 38) hx hb dX5_remembers_14 (by decide) (fun c_2 => ?_) (fun c_2 => ?_)
    · skip
      have c_2 := (z_le (a := 156) (b := n) rfl rfl (by omega) (by omega)).mp c_2
      refine lv_aload_n hx hb dX5_remembers_38 rfl (lv_at hl 1 rfl) ?_
      refine lv_dup hx hb dX5_remembers_39 rfl ?_
      refine va_get (D := D) (ci := 5) (v := .int (nI ks)) (C := RX5) (T := TX5) (N := 21) hx hb hts N5 hown hK hP 0 rfl rfl 3 (by decide) L31 (fun _ h9 => h9) rfl dX5_remembers_40 ?_
      refine lv_iconst (v := 1) hx hb dX5_remembers_43 (by decide) ?_
      refine lv_isub hx hb dX5_remembers_44 ?_
      refine z_topi (x := (nI ks) - 1) (y := nI 4) (by rw [h5]; decide) ?_
      refine va_put (D := D) (ci := 5) (v := .int (nI 4)) (ty := .int) (C := RX5) (T := TX5) (N := 21) hx hb hts N5 tyX5 tyX5_ok nmX5 hown hK hP hD hS 0 rfl rfl 3 (by decide) L31 (fun _ h9 => h9) rfl (by decide +kernel) rfl rfl (Nat.le_of_ble_eq_true rfl) dX5_remembers_45 (fun H locs hP hD hS => ?_)
      have hP : va_P D vwCl [(oM, .inr (5, [.ref mN, .ref mA, .ref mP, .int (nI 4), .ref mR, .ref mT, .int (nI ln), .long x1, .long x2, .long x3, .long x4, .long y1, .long y2, .long y3, .long y4, .ref mL, .ref mB, .int od, .int spt, .int wa, .long hs])), (mA, .inl (cI, 39, .inl qa)), (mP, .inl (cI, 195, .inl qp1))] H := hP
      have hD : va_D A [(oM, .inr (5, [.ref mN, .ref mA, .ref mP, .int (nI 4), .ref mR, .ref mT, .int (nI ln), .long x1, .long x2, .long x3, .long x4, .long y1, .long y2, .long y3, .long y4, .ref mL, .ref mB, .int od, .int spt, .int wa, .long hs])), (mA, .inl (cI, 39, .inl qa)), (mP, .inl (cI, 195, .inl qp1))] := hD
      refine lv_iconst (v := 0) hx hb dX5_remembers_48 (by decide) ?_
      refine lv_istore_n (lv' := [(1, .int 0), (0, .ref oM)]) hx hb dX5_remembers_49 rfl hl (by decide) rfl (fun ls hl => ?_)
      exact lp50 _ 4 0 qp1 qp1 _ _ _ rfl (by omega) (by omega) (Or.inr ⟨h5, rfl, fun j h => by rw [hi j h, show n = 156 by omega]⟩) (fun j h => by rw [if_neg (by omega)]) hP hD hS (lv_sub hl [0, 1] rfl)
    · skip
      have c_2 := (z_len (a := 156) (b := n) rfl rfl (by omega) (by omega)).mp c_2
      refine lv_aload_n hx hb dX5_remembers_17 rfl (lv_at hl 1 rfl) ?_
      refine va_get (D := D) (ci := 5) (v := .ref mP) (C := RX5) (T := TX5) (N := 21) hx hb hts N5 hown hK hP 0 rfl rfl 2 (by decide) L16 (fun _ h9 => h9) rfl dX5_remembers_18 ?_
      refine lv_iload_n hx hb dX5_remembers_21 rfl (lv_at hl 0 rfl) ?_
      refine lv_aload_n hx hb dX5_remembers_22 rfl (lv_at hl 1 rfl) ?_
      refine va_get (D := D) (ci := 5) (v := .ref mP) (C := RX5) (T := TX5) (N := 21) hx hb hts N5 hown hK hP 0 rfl rfl 2 (by decide) L16 (fun _ h9 => h9) rfl dX5_remembers_23 ?_
      refine lv_iload_n hx hb dX5_remembers_26 rfl (lv_at hl 0 rfl) ?_
      refine lv_bipush (v := 39) hx hb dX5_remembers_27 (by decide) ?_
      refine lv_iadd hx hb dX5_remembers_29 ?_
      refine z_ild (v := qp1 (n + 39)) (j := n + 39) hx hb hK hP 2 rfl (z_add rfl rfl) (by omega) (by decide) (rfl) dX5_remembers_30 ?_
      refine z_ist (j := n) hx hb hK hP hD hS 2 rfl rfl (by omega) (by decide) dX5_remembers_31 (fun H locs hP hD hS => ?_)
      have hP : va_P D vwCl [(oM, .inr (5, [.ref mN, .ref mA, .ref mP, .int (nI ks), .ref mR, .ref mT, .int (nI ln), .long x1, .long x2, .long x3, .long x4, .long y1, .long y2, .long y3, .long y4, .ref mL, .ref mB, .int od, .int spt, .int wa, .long hs])), (mA, .inl (cI, 39, .inl qa)), (mP, .inl (cI, 195, .inl (upd qp1 n (qp1 (n + 39)))))] H := hP
      have hD : va_D A [(oM, .inr (5, [.ref mN, .ref mA, .ref mP, .int (nI ks), .ref mR, .ref mT, .int (nI ln), .long x1, .long x2, .long x3, .long x4, .long y1, .long y2, .long y3, .long y4, .ref mL, .ref mB, .int od, .int spt, .int wa, .long hs])), (mA, .inl (cI, 39, .inl qa)), (mP, .inl (cI, 195, .inl (upd qp1 n (qp1 (n + 39)))))] := hD
      refine lv_iinc (v := nI (n + 1)) (lv' := [(1, .int (nI (n + 1))), (0, .ref oM)]) hx hb dX5_remembers_32 hl (k := 0) rfl (z_add rfl rfl) (by decide) rfl (fun ls hl => ?_)
      refine lv_goto (tgt := 10) hx hb dX5_remembers_35 (by decide) ?_
      exact ih _ (by omega) (n + 1) (upd qp1 n (qp1 (n + 39))) _ _ _ rfl (by omega) h5 (sh_up hi (by omega)) hP hD hS (lv_sub hl [0, 1] rfl)
  refine lv_aload_n hx hb dX5_remembers_0 rfl (lv_at hl 0 rfl) ?_
  refine va_get (D := D) (ci := 5) (v := .int (nI ks)) (C := RX5) (T := TX5) (N := 21) hx hb hts N5 hown hK hP 0 rfl rfl 3 (by decide) L31 (fun _ h9 => h9) rfl dX5_remembers_1 ?_
  refine lv_iconst (v := 5) hx hb dX5_remembers_4 (by decide) ?_
  refine lv_icmp_ne (tgt := 48) hx hb dX5_remembers_5 (by decide) (fun c_3 => ?_) (fun c_3 => ?_)
  · skip
    have c_3 := (z_eqn (a := ks) (b := 5) rfl rfl (by omega) (by omega)).mp c_3
    refine lv_iconst (v := 0) hx hb dX5_remembers_48 (by decide) ?_
    refine lv_istore_n (lv' := [(1, .int 0), (0, .ref oM)]) hx hb dX5_remembers_49 rfl hl (by decide) rfl (fun ls hl => ?_)
    exact lp50 _ ks 0 qp qp _ _ _ rfl (by omega) (by omega) (Or.inl ⟨by omega, rfl, rfl⟩) (fun j h => by rw [if_neg (by omega)]) hP hD hS (lv_sub hl [0, 1] rfl)
  · skip
    have c_3 := (z_eq (a := ks) (b := 5) rfl rfl (by omega) (by omega)).mp c_3
    refine lv_iconst (v := 0) hx hb dX5_remembers_8 (by decide) ?_
    refine lv_istore_n (lv' := [(1, .int 0), (0, .ref oM)]) hx hb dX5_remembers_9 rfl hl (by decide) rfl (fun ls hl => ?_)
    exact lp10 _ 0 qp _ _ _ rfl (by omega) c_3 (fun j h => by rw [if_neg (Nat.not_lt_zero j)]) hP hD hS (lv_sub hl [0, 1] rfl)

set_option maxHeartbeats 4000000 in
set_option maxRecDepth 100000 in
theorem kX5_finished (l : Launch) (D : va_G) (cI cB : ClassId) (tE tN : Nat) (oM : Nat) (mN : Nat) (mA : Nat) (mP : Nat) (mR : Nat) (mT : Nat) (mL : Nat) (mB : Nat) (ks : Nat) (ln : Nat) (x1 : Int64) (x2 : Int64) (x3 : Int64) (x4 : Int64) (y1 : Int64) (y2 : Int64) (y3 : Int64) (y4 : Int64) (od : Int32) (spt : Int32) (wa : Int32) (hs : Int64) (qa : Nat → Int32) (qp : Nat → Int32) (rf : Nat → Int32) (cb : Int32) (cn : Int32) (cf : Int32) (v : Int32) (sz : Nat) (hks : ks ≤ 5) (hRf : Rf3 cb cn cf rf) (hv : v ≤ -10002 → (v = -10002 ∨ v = -10003 ∨ v = -10004)) : zI l yX5_finished wsX5_finished ({ frames := 1, cells := 0, slots := 0, locals := 21 }) D cI cB tE tN [.ref oM, .int v] [(oM, .inr (5, [.ref mN, .ref mA, .ref mP, .int (nI ks), .ref mR, .ref mT, .int (nI ln), .long x1, .long x2, .long x3, .long x4, .long y1, .long y2, .long y3, .long y4, .ref mL, .ref mB, .int od, .int spt, .int wa, .long hs])), (mA, .inl (cI, 39, .inl qa)), (mP, .inl (cI, 195, .inl qp)), (mR, .inl (cI, 3, .inl rf))] sz (fun u : Nat × (Nat → Int32) × (Nat → Int32) => [(oM, .inr (5, [.ref mN, .ref mA, .ref mP, .int (nI u.1), .ref mR, .ref mT, .int (nI ln), .long x1, .long x2, .long x3, .long x4, .long y1, .long y2, .long y3, .long y4, .ref mL, .ref mB, .int od, .int spt, .int wa, .long hs])), (mA, .inl (cI, 39, .inl qa)), (mP, .inl (cI, 195, .inl u.2.1)), (mR, .inl (cI, 3, .inl u.2.2))]) (fun (r : Int32) (u : Nat × (Nat → Int32) × (Nat → Int32)) => r = v ∧ (Rf3 (cnt (-10002) cb v) (cnt (-10003) cn v) (cnt (-10004) cf v) u.2.2 ∧ u.1 = kpK v ks ∧ ∀ j, j < 195 → u.2.1 j = rmK v ks qa qp j)) 0 0 := by
  refine zI_mk (cc := cX5_finished) (maxL := 2) (rt := .int) (by decide) rfl (Nat.le_of_ble_eq_true rfl) ?_
  intro p e s m below meth c A Q ls S0 hname hA hK hP hD hT hS hQ hl
  obtain ⟨hx, hb, hml, hown, hts⟩ := id S0
  have hl : lv_has ls 2 [(0, .ref oM), (1, .int v)] := hl
  refine lv_iload_n hx hb dX5_finished_0 rfl (lv_at hl 1 rfl) ?_
  refine lv_sipush (v := (-10002)) hx hb dX5_finished_1 (by decide) ?_
  refine lv_icmp_gt (tgt := 13) hx hb dX5_finished_4 (by decide) (fun c_1 => ?_) (fun c_1 => ?_)
  · skip
    have hrf := cRef_gt c_1
    refine lv_aload_n hx hb dX5_finished_13 rfl (lv_at hl 0 rfl) ?_
    refine z_VV (n := 0) (wn := (fun u : Nat × (Nat → Int32) => [(oM, .inr (5, [.ref mN, .ref mA, .ref mP, .int (nI u.1), .ref mR, .ref mT, .int (nI ln), .long x1, .long x2, .long x3, .long x4, .long y1, .long y2, .long y3, .long y4, .ref mL, .ref mB, .int od, .int spt, .int wa, .long hs])), (mA, .inl (cI, 39, .inl qa)), (mP, .inl (cI, 195, .inl u.2)), (mR, .inl (cI, 3, .inl rf))])) (wr := [(mR, .inl (cI, 3, .inl rf))]) (As := []) (rest := []) ⟨hx, hb, hml, hown, hts⟩ hK hP hD hS hA hT (kX5_remembers l D cI cB tE tN oM mN mA mP mR mT mL mB ks ln x1 x2 x3 x4 y1 y2 y3 y4 od spt wa hs qa qp _ (by omega)) gX5_finished_X5_remembers rfl rfl rfl (by decide +kernel) ⟨Nat.le_of_ble_eq_true rfl, Nat.le_of_ble_eq_true rfl⟩ [0, 1, 2] [3] [1, 2, 3, 0] (by decide) rfl rfl (by decide) (by decide) (by decide) (fun u => rfl) 0 5 rfl rfl rfl rfl hl.1 rfl (Nat.le_of_ble_eq_true rfl) dX5_finished_14 ⟨Nat.le_of_ble_eq_true rfl, Nat.le_of_ble_eq_true rfl⟩ (fun u H locs hw_5 hP hD hS => ?_)
    obtain ⟨ks2_2, qp2_3⟩ := u
    try dsimp only at hw_5
    have hP : va_P D vwCl [(oM, .inr (5, [.ref mN, .ref mA, .ref mP, .int (nI ks2_2), .ref mR, .ref mT, .int (nI ln), .long x1, .long x2, .long x3, .long x4, .long y1, .long y2, .long y3, .long y4, .ref mL, .ref mB, .int od, .int spt, .int wa, .long hs])), (mA, .inl (cI, 39, .inl qa)), (mP, .inl (cI, 195, .inl qp2_3)), (mR, .inl (cI, 3, .inl rf))] H := hP
    have hD : va_D A [(oM, .inr (5, [.ref mN, .ref mA, .ref mP, .int (nI ks2_2), .ref mR, .ref mT, .int (nI ln), .long x1, .long x2, .long x3, .long x4, .long y1, .long y2, .long y3, .long y4, .ref mL, .ref mB, .int od, .int spt, .int wa, .long hs])), (mA, .inl (cI, 39, .inl qa)), (mP, .inl (cI, 195, .inl qp2_3)), (mR, .inl (cI, 3, .inl rf))] := hD
    have hk := hw_5
    refine lv_iload_n hx hb dX5_finished_17 rfl (lv_at hl 1 rfl) ?_
    exact hQ v (ks2_2, qp2_3, rf) _ _ _ _ (rfl) (⟨rfl, Rf3_no hRf hrf, by rw [kpK, if_neg (by rw [hrf]; decide)]; exact hk.1, fun j h => by rw [rmK, if_neg (by rw [hrf]; decide)]; exact hk.2 j h⟩) hP hD hS dX5_finished_18
  · skip
    obtain ⟨jj, hj, hj2⟩ := ref_j (hv (Int32.not_lt.mp c_1))
    have hrf := cRef_of (hv (Int32.not_lt.mp c_1))
    refine lv_aload_n hx hb dX5_finished_7 rfl (lv_at hl 0 rfl) ?_
    refine lv_iload_n hx hb dX5_finished_8 rfl (lv_at hl 1 rfl) ?_
    refine z_VI (n := 1) (wn := (fun u : Unit => [(oM, .inr (5, [.ref mN, .ref mA, .ref mP, .int (nI ks), .ref mR, .ref mT, .int (nI ln), .long x1, .long x2, .long x3, .long x4, .long y1, .long y2, .long y3, .long y4, .ref mL, .ref mB, .int od, .int spt, .int wa, .long hs])), (mA, .inl (cI, 39, .inl qa)), (mP, .inl (cI, 195, .inl qp)), (mR, .inl (cI, 3, .inl (upd rf jj (rf jj + 1))))])) (wr := [(mA, .inl (cI, 39, .inl qa)), (mP, .inl (cI, 195, .inl qp))]) (As := [.int v]) (rest := []) ⟨hx, hb, hml, hown, hts⟩ hK hP hD hS hA hT (kX5_refuses l D cI cB tE tN oM mN mA mP mR mT mL mB ks ln x1 x2 x3 x4 y1 y2 y3 y4 od spt wa hs rf v jj _ (hj) (hj2)) gX5_finished_X5_refuses rfl rfl rfl (by decide +kernel) ⟨Nat.le_of_ble_eq_true rfl, Nat.le_of_ble_eq_true rfl⟩ [0, 3] [1, 2] [2, 0, 1, 3] (by decide) rfl rfl (by decide) (by decide) (by decide) (fun u => rfl) 0 5 rfl rfl rfl rfl hl.1 rfl (Nat.le_of_ble_eq_true rfl) dX5_finished_9 ⟨Nat.le_of_ble_eq_true rfl, Nat.le_of_ble_eq_true rfl⟩ (fun r_6 u H locs hw_7 hP hD hS => ?_)
    try dsimp only at hw_7
    have hP : va_P D vwCl [(oM, .inr (5, [.ref mN, .ref mA, .ref mP, .int (nI ks), .ref mR, .ref mT, .int (nI ln), .long x1, .long x2, .long x3, .long x4, .long y1, .long y2, .long y3, .long y4, .ref mL, .ref mB, .int od, .int spt, .int wa, .long hs])), (mA, .inl (cI, 39, .inl qa)), (mP, .inl (cI, 195, .inl qp)), (mR, .inl (cI, 3, .inl (upd rf jj (rf jj + 1))))] H := hP
    have hD : va_D A [(oM, .inr (5, [.ref mN, .ref mA, .ref mP, .int (nI ks), .ref mR, .ref mT, .int (nI ln), .long x1, .long x2, .long x3, .long x4, .long y1, .long y2, .long y3, .long y4, .ref mL, .ref mB, .int od, .int spt, .int wa, .long hs])), (mA, .inl (cI, 39, .inl qa)), (mP, .inl (cI, 195, .inl qp)), (mR, .inl (cI, 3, .inl (upd rf jj (rf jj + 1))))] := hD
    subst r_6
    exact hQ v (ks, qp, upd rf jj (rf jj + 1)) _ _ _ _ (rfl) (⟨rfl, Rf3_ref hRf (hv (Int32.not_lt.mp c_1)) hj hj2, by rw [kpK, if_pos hrf], fun j h => by rw [rmK, if_pos hrf]⟩) hP hD hS dX5_finished_12
