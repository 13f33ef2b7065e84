def flF (b : Nat → Int32) (L : Nat) : Nat → Nat → Int32
  | 0, _ => -1
  | k + 1, a => if a < L then (if odOk b L a = true then flF b L k (odPos b L a) else nI (odPos b L a)) else -1
def cFault (b : Nat → Int32) (L : Nat) : Int32 := if sk b L 0 < L then flF b L 75 (sk b L 0) else nI L
theorem fl_ok {b : Nat → Int32} {L t n : Nat} (ht : t < 75) (hn : n < L) (h : odOk b L n = true) : flF b L (75 - t) n = flF b L (75 - (t + 1)) (odPos b L n) := by
  rw [show 75 - t = (75 - (t + 1)) + 1 by omega, flF, if_pos hn, if_pos h]
theorem fl_bad {b : Nat → Int32} {L t n : Nat} (ht : t < 75) (hn : n < L) (h : odOk b L n = false) : flF b L (75 - t) n = nI (odPos b L n) := by
  rw [show 75 - t = (75 - (t + 1)) + 1 by omega, flF, if_pos hn, if_neg (by rw [h]; decide)]
theorem fl_end {b : Nat → Int32} {L k n : Nat} (hn : ¬ n < L) : flF b L k n = -1 := by
  cases k with
  | zero => rfl
  | succ k => rw [flF, if_neg hn]
set_option maxHeartbeats 4000000 in
set_option maxRecDepth 100000 in
theorem kX3_readNumber (l : Launch) (D : va_G) (cI cB : ClassId) (tE tN : Nat) (hC : Nat) (bF : Nat) (nF : Nat) (ln : Nat) (pa : Nat) (kd : Int32) (bt : Nat → Int32) (nu : Nat → Int32) (kq : Nat) (neg : Bool) (sz : Nat) (hln : ln ≤ 150) (hpa : pa ≤ ln) (hkq : kq ≤ 3) : zI l yX3_readNumber wsX3_readNumber ({ frames := 1, cells := 0, slots := 0, locals := 20 }) D cI cB tE tN [.ref hC, .int (nI kq), .int (b2i neg)] [(hC, .inr (3, [.ref bF, .int (nI ln), .int (nI pa), .int kd, .ref nF])), (bF, .inl (cB, 150, .inl bt)), (nF, .inl (cI, 4, .inl nu))] sz (fun u : Nat × (Nat → Int32) => [(hC, .inr (3, [.ref bF, .int (nI ln), .int (nI u.1), .int kd, .ref nF])), (bF, .inl (cB, 150, .inl bt)), (nF, .inl (cI, 4, .inl u.2))]) (fun (r : Int32) (u : Nat × (Nat → Int32)) => r = b2i (nmF bt ln pa neg).1 ∧ u.1 = (nmF bt ln pa neg).2.1 ∧ ((nmF bt ln pa neg).1 = true → u.2 = upd nu kq (nmF bt ln pa neg).2.2) ∧ u.1 ≤ ln) 0 0 := by
  refine zI_mk (cc := cX3_readNumber) (maxL := 6) (rt := .boolean) (by decide) rfl (Nat.le_of_ble_eq_true rfl) ?_
  intro p e s m below meth c A Q ls S0 hname hA hK hP hD hT hS hQ hl
  obtain ⟨hx, hb, hml, hown, hts⟩ := id S0
  have hl : lv_has ls 6 [(0, .ref hC), (1, .int (nI kq)), (2, .int (b2i neg))] := hl
  have L15 : (Cond.fieldLink RX3 15 "PastAndClear$Script" "numbers" "[I").before ([.ref hC, .int (nI kq), .int (b2i neg)] : List Value).toArray s = true := hts (.fieldLink RX3 15 "PastAndClear$Script" "numbers" "[I") (by decide +kernel)
  have N3 : ∀ w ∈ u_ws RX3 TX3 5, w ∈ wsX3_readNumber := by decide +kernel
  have L33 : (Cond.fieldLink RX3 33 "PastAndClear$Script" "at" "I").before ([.ref hC, .int (nI kq), .int (b2i neg)] : List Value).toArray s = true := hts (.fieldLink RX3 33 "PastAndClear$Script" "at" "I") (by decide +kernel)
  have lp51 : ∀ (k : Nat) (sg : Bool) (t : Nat) (n : Nat) (x : Int32) (H : Heap) (locs : List Loc) (ls : Array Slot), 4 - t = k → (t ≤ 4) → (n ≤ ln) → (sgF bt ln pa neg = sg) → (isFig (chF bt ln (a1F bt ln pa neg)) = true) → (dgF bt ln 4 (a1F bt ln pa neg) 0 = dgF bt ln (4 - t) n x) → va_P D vwCl [(hC, .inr (3, [.ref bF, .int (nI ln), .int (nI n), .int kd, .ref nF])), (bF, .inl (cB, 150, .inl bt)), (nF, .inl (cI, 4, .inl nu))] H → va_D A [(hC, .inr (3, [.ref bF, .int (nI ln), .int (nI n), .int kd, .ref nF])), (bF, .inl (cB, 150, .inl bt)), (nF, .inl (cI, 4, .inl nu))] → va_S A s.heap H locs → lv_has ls 6 [(5, .int (nI t)), (4, .int x), (3, .int (b2i sg)), (0, .ref hC), (1, .int (nI kq))] → W p l e ({ frames := 1, cells := 0, slots := 0, locals := 20 } : Room) s m ([.ref hC, .int (nI kq), .int (b2i neg)] : List Value).toArray below meth c H locs 0 0 Q (F0 m 51 ls []) := by
    intro k
    induction k using Nat.strongRecOn with
    | ind k ih =>
    intro sg t n x H locs ls hk ht hn hsg hf hinv hP hD hS hl
    refine lv_iload hx hb dX3_readNumber_51 (lv_at hl 0 rfl) ?_
    refine lv_iconst (v := 4) hx hb dX3_readNumber_53 (by decide) ?_
    refine lv_icmp_ge (tgt := 98) hx hb dX3_readNumber_54 (by decide) (fun c_1 => ?_) (fun c_1 => ?_)
    · skip
      have c_1 := (z_le (a := 4) (b := t) rfl rfl (by omega) (by omega)).mp c_1
      have hd : dgF bt ln 4 (a1F bt ln pa neg) 0 = (n, x) := by rw [hinv, show 4 - t = 0 by omega]; rfl
      refine lv_aload_n hx hb dX3_readNumber_98 rfl (lv_at hl 3 rfl) ?_
      refine va_get (D := D) (ci := 3) (v := .ref nF) (C := RX3) (T := TX3) (N := 5) hx hb hts N3 hown hK hP 0 rfl rfl 4 (by decide) L15 (fun _ h9 => h9) rfl dX3_readNumber_99 ?_
      refine lv_iload_n hx hb dX3_readNumber_102 rfl (lv_at hl 4 rfl) ?_
      refine lv_iload_n hx hb dX3_readNumber_103 rfl (lv_at hl 2 rfl) ?_
      refine lv_if_eq (tgt := 113) hx hb dX3_readNumber_104 (by decide) (fun c_2 => ?_) (fun c_2 => ?_)
      · skip
        have c_2 := z_b0 c_2
        refine lv_iload hx hb dX3_readNumber_113 (lv_at hl 1 rfl) ?_
        refine z_ist (j := kq) hx hb hK hP hD hS 2 rfl rfl (by omega) (by decide) dX3_readNumber_115 (fun H locs hP hD hS => ?_)
        have hP : va_P D vwCl [(hC, .inr (3, [.ref bF, .int (nI ln), .int (nI n), .int kd, .ref nF])), (bF, .inl (cB, 150, .inl bt)), (nF, .inl (cI, 4, .inl (upd nu kq x)))] H := hP
        have hD : va_D A [(hC, .inr (3, [.ref bF, .int (nI ln), .int (nI n), .int kd, .ref nF])), (bF, .inl (cB, 150, .inl bt)), (nF, .inl (cI, 4, .inl (upd nu kq x)))] := hD
        refine lv_aload_n hx hb dX3_readNumber_116 rfl (lv_at hl 3 rfl) ?_
        refine z_VI (n := 0) (wn := (fun u : Unit => [(hC, .inr (3, [.ref bF, .int (nI ln), .int (nI n), .int kd, .ref nF])), (bF, .inl (cB, 150, .inl bt)), (nF, .inl (cI, 4, .inl (upd nu kq x)))])) (wr := [(nF, .inl (cI, 4, .inl (upd nu kq x)))]) (As := []) (rest := []) ⟨hx, hb, hml, hown, hts⟩ hK hP hD hS hA hT (kX3_next l D cI cB tE tN hC bF nF ln n kd bt _ (by omega) (by omega)) gX3_readNumber_X3_next rfl rfl rfl (by decide +kernel) ⟨Nat.le_of_ble_eq_true rfl, Nat.le_of_ble_eq_true rfl⟩ [0, 1] [2] [1, 2, 0] (by decide) rfl rfl (by decide) (by decide) (by decide) (fun u => rfl) 0 3 rfl rfl rfl rfl hl.1 rfl (Nat.le_of_ble_eq_true rfl) dX3_readNumber_117 ⟨Nat.le_of_ble_eq_true rfl, Nat.le_of_ble_eq_true rfl⟩ (fun r_3 u H locs hw_4 hP hD hS => ?_)
        try dsimp only at hw_4
        have hP : va_P D vwCl [(hC, .inr (3, [.ref bF, .int (nI ln), .int (nI n), .int kd, .ref nF])), (bF, .inl (cB, 150, .inl bt)), (nF, .inl (cI, 4, .inl (upd nu kq x)))] H := hP
        have hD : va_D A [(hC, .inr (3, [.ref bF, .int (nI ln), .int (nI n), .int kd, .ref nF])), (bF, .inl (cB, 150, .inl bt)), (nF, .inl (cI, 4, .inl (upd nu kq x)))] := hD
        subst r_3
        refine z_SI (n := 1) (wn := (fun u : Unit => [(hC, .inr (3, [.ref bF, .int (nI ln), .int (nI n), .int kd, .ref nF])), (bF, .inl (cB, 150, .inl bt)), (nF, .inl (cI, 4, .inl (upd nu kq x)))])) (wr := [(hC, .inr (3, [.ref bF, .int (nI ln), .int (nI n), .int kd, .ref nF])), (bF, .inl (cB, 150, .inl bt)), (nF, .inl (cI, 4, .inl (upd nu kq x)))]) (As := [.int (chF bt ln n)]) (rest := []) ⟨hx, hb, hml, hown, hts⟩ hK hP hD hS hA hT (kX3_isFigure l D cI cB tE tN (chF bt ln n) _ ) gX3_readNumber_X3_isFigure rfl rfl rfl (by decide +kernel) ⟨Nat.le_of_ble_eq_true rfl, Nat.le_of_ble_eq_true rfl⟩ [] [0, 1, 2] [0, 1, 2] (by decide) rfl rfl (by decide) (by decide) (by decide) (fun u => rfl) rfl hl.1 rfl (Nat.le_of_ble_eq_true rfl) dX3_readNumber_120 ⟨Nat.le_of_ble_eq_true rfl, Nat.le_of_ble_eq_true rfl⟩ (fun r_5 u H locs hw_6 hP hD hS => ?_)
        try dsimp only at hw_6
        have hP : va_P D vwCl [(hC, .inr (3, [.ref bF, .int (nI ln), .int (nI n), .int kd, .ref nF])), (bF, .inl (cB, 150, .inl bt)), (nF, .inl (cI, 4, .inl (upd nu kq x)))] H := hP
        have hD : va_D A [(hC, .inr (3, [.ref bF, .int (nI ln), .int (nI n), .int kd, .ref nF])), (bF, .inl (cB, 150, .inl bt)), (nF, .inl (cI, 4, .inl (upd nu kq x)))] := hD
        subst r_5
        refine lv_if_ne (tgt := 130) hx hb dX3_readNumber_123 (by decide) (fun c_7 => ?_) (fun c_7 => ?_)
        · skip
          have c_7 := z_b1 c_7
          refine lv_iconst (v := 0) hx hb dX3_readNumber_130 (by decide) ?_
          exact hQ 0 (n, upd nu kq x) _ _ _ _ (rfl) (by rw [nm_eq hf hd, hsg]; refine ⟨?_, rfl, ?_, hn⟩ <;> simp [b2i, c_2, c_7]) hP hD hS dX3_readNumber_131
        · skip
          have c_7 := z_b0 c_7
          refine lv_iconst (v := 1) hx hb dX3_readNumber_126 (by decide) ?_
          refine lv_goto (tgt := 131) hx hb dX3_readNumber_127 (by decide) ?_
          exact hQ 1 (n, upd nu kq x) _ _ _ _ (rfl) (by rw [nm_eq hf hd, hsg]; refine ⟨?_, rfl, ?_, hn⟩ <;> simp [b2i, c_2, c_7]) hP hD hS dX3_readNumber_131
      · skip
        have c_2 := z_b1 c_2
        refine lv_iload hx hb dX3_readNumber_107 (lv_at hl 1 rfl) ?_
        refine lv_ineg hx hb dX3_readNumber_109 ?_
        refine lv_goto (tgt := 115) hx hb dX3_readNumber_110 (by decide) ?_
        refine z_ist (j := kq) hx hb hK hP hD hS 2 rfl rfl (by omega) (by decide) dX3_readNumber_115 (fun H locs hP hD hS => ?_)
        have hP : va_P D vwCl [(hC, .inr (3, [.ref bF, .int (nI ln), .int (nI n), .int kd, .ref nF])), (bF, .inl (cB, 150, .inl bt)), (nF, .inl (cI, 4, .inl (upd nu kq (-x))))] H := hP
        have hD : va_D A [(hC, .inr (3, [.ref bF, .int (nI ln), .int (nI n), .int kd, .ref nF])), (bF, .inl (cB, 150, .inl bt)), (nF, .inl (cI, 4, .inl (upd nu kq (-x))))] := hD
        refine lv_aload_n hx hb dX3_readNumber_116 rfl (lv_at hl 3 rfl) ?_
        refine z_VI (n := 0) (wn := (fun u : Unit => [(hC, .inr (3, [.ref bF, .int (nI ln), .int (nI n), .int kd, .ref nF])), (bF, .inl (cB, 150, .inl bt)), (nF, .inl (cI, 4, .inl (upd nu kq (-x))))])) (wr := [(nF, .inl (cI, 4, .inl (upd nu kq (-x))))]) (As := []) (rest := []) ⟨hx, hb, hml, hown, hts⟩ hK hP hD hS hA hT (kX3_next l D cI cB tE tN hC bF nF ln n kd bt _ (by omega) (by omega)) gX3_readNumber_X3_next rfl rfl rfl (by decide +kernel) ⟨Nat.le_of_ble_eq_true rfl, Nat.le_of_ble_eq_true rfl⟩ [0, 1] [2] [1, 2, 0] (by decide) rfl rfl (by decide) (by decide) (by decide) (fun u => rfl) 0 3 rfl rfl rfl rfl hl.1 rfl (Nat.le_of_ble_eq_true rfl) dX3_readNumber_117 ⟨Nat.le_of_ble_eq_true rfl, Nat.le_of_ble_eq_true rfl⟩ (fun r_8 u H locs hw_9 hP hD hS => ?_)
        try dsimp only at hw_9
        have hP : va_P D vwCl [(hC, .inr (3, [.ref bF, .int (nI ln), .int (nI n), .int kd, .ref nF])), (bF, .inl (cB, 150, .inl bt)), (nF, .inl (cI, 4, .inl (upd nu kq (-x))))] H := hP
        have hD : va_D A [(hC, .inr (3, [.ref bF, .int (nI ln), .int (nI n), .int kd, .ref nF])), (bF, .inl (cB, 150, .inl bt)), (nF, .inl (cI, 4, .inl (upd nu kq (-x))))] := hD
        subst r_8
        refine z_SI (n := 1) (wn := (fun u : Unit => [(hC, .inr (3, [.ref bF, .int (nI ln), .int (nI n), .int kd, .ref nF])), (bF, .inl (cB, 150, .inl bt)), (nF, .inl (cI, 4, .inl (upd nu kq (-x))))])) (wr := [(hC, .inr (3, [.ref bF, .int (nI ln), .int (nI n), .int kd, .ref nF])), (bF, .inl (cB, 150, .inl bt)), (nF, .inl (cI, 4, .inl (upd nu kq (-x))))]) (As := [.int (chF bt ln n)]) (rest := []) ⟨hx, hb, hml, hown, hts⟩ hK hP hD hS hA hT (kX3_isFigure l D cI cB tE tN (chF bt ln n) _ ) gX3_readNumber_X3_isFigure rfl rfl rfl (by decide +kernel) ⟨Nat.le_of_ble_eq_true rfl, Nat.le_of_ble_eq_true rfl⟩ [] [0, 1, 2] [0, 1, 2] (by decide) rfl rfl (by decide) (by decide) (by decide) (fun u => rfl) rfl hl.1 rfl (Nat.le_of_ble_eq_true rfl) dX3_readNumber_120 ⟨Nat.le_of_ble_eq_true rfl, Nat.le_of_ble_eq_true rfl⟩ (fun r_10 u H locs hw_11 hP hD hS => ?_)
        try dsimp only at hw_11
        have hP : va_P D vwCl [(hC, .inr (3, [.ref bF, .int (nI ln), .int (nI n), .int kd, .ref nF])), (bF, .inl (cB, 150, .inl bt)), (nF, .inl (cI, 4, .inl (upd nu kq (-x))))] H := hP
        have hD : va_D A [(hC, .inr (3, [.ref bF, .int (nI ln), .int (nI n), .int kd, .ref nF])), (bF, .inl (cB, 150, .inl bt)), (nF, .inl (cI, 4, .inl (upd nu kq (-x))))] := hD
        subst r_10
        refine lv_if_ne (tgt := 130) hx hb dX3_readNumber_123 (by decide) (fun c_12 => ?_) (fun c_12 => ?_)
        · skip
          have c_12 := z_b1 c_12
          refine lv_iconst (v := 0) hx hb dX3_readNumber_130 (by decide) ?_
          exact hQ 0 (n, upd nu kq (-x)) _ _ _ _ (rfl) (by rw [nm_eq hf hd, hsg]; refine ⟨?_, rfl, ?_, hn⟩ <;> simp [b2i, c_2, c_12]) hP hD hS dX3_readNumber_131
        · skip
          have c_12 := z_b0 c_12
          refine lv_iconst (v := 1) hx hb dX3_readNumber_126 (by decide) ?_
          refine lv_goto (tgt := 131) hx hb dX3_readNumber_127 (by decide) ?_
          exact hQ 1 (n, upd nu kq (-x)) _ _ _ _ (rfl) (by rw [nm_eq hf hd, hsg]; refine ⟨?_, rfl, ?_, hn⟩ <;> simp [b2i, c_2, c_12]) hP hD hS dX3_readNumber_131
    · skip
      have c_1 := (z_len (a := 4) (b := t) rfl rfl (by omega) (by omega)).mp c_1
      refine lv_aload_n hx hb dX3_readNumber_57 rfl (lv_at hl 3 rfl) ?_
      refine z_VI (n := 0) (wn := (fun u : Unit => [(hC, .inr (3, [.ref bF, .int (nI ln), .int (nI n), .int kd, .ref nF])), (bF, .inl (cB, 150, .inl bt)), (nF, .inl (cI, 4, .inl nu))])) (wr := [(nF, .inl (cI, 4, .inl nu))]) (As := []) (rest := []) ⟨hx, hb, hml, hown, hts⟩ hK hP hD hS hA hT (kX3_next l D cI cB tE tN hC bF nF ln n kd bt _ (by omega) (by omega)) gX3_readNumber_X3_next rfl rfl rfl (by decide +kernel) ⟨Nat.le_of_ble_eq_true rfl, Nat.le_of_ble_eq_true rfl⟩ [0, 1] [2] [1, 2, 0] (by decide) rfl rfl (by decide) (by decide) (by decide) (fun u => rfl) 0 3 rfl rfl rfl rfl hl.1 rfl (Nat.le_of_ble_eq_true rfl) dX3_readNumber_58 ⟨Nat.le_of_ble_eq_true rfl, Nat.le_of_ble_eq_true rfl⟩ (fun r_13 u H locs hw_14 hP hD hS => ?_)
      try dsimp only at hw_14
      have hP : va_P D vwCl [(hC, .inr (3, [.ref bF, .int (nI ln), .int (nI n), .int kd, .ref nF])), (bF, .inl (cB, 150, .inl bt)), (nF, .inl (cI, 4, .inl nu))] H := hP
      have hD : va_D A [(hC, .inr (3, [.ref bF, .int (nI ln), .int (nI n), .int kd, .ref nF])), (bF, .inl (cB, 150, .inl bt)), (nF, .inl (cI, 4, .inl nu))] := hD
      subst r_13
      refine z_SI (n := 1) (wn := (fun u : Unit => [(hC, .inr (3, [.ref bF, .int (nI ln), .int (nI n), .int kd, .ref nF])), (bF, .inl (cB, 150, .inl bt)), (nF, .inl (cI, 4, .inl nu))])) (wr := [(hC, .inr (3, [.ref bF, .int (nI ln), .int (nI n), .int kd, .ref nF])), (bF, .inl (cB, 150, .inl bt)), (nF, .inl (cI, 4, .inl nu))]) (As := [.int (chF bt ln n)]) (rest := []) ⟨hx, hb, hml, hown, hts⟩ hK hP hD hS hA hT (kX3_isFigure l D cI cB tE tN (chF bt ln n) _ ) gX3_readNumber_X3_isFigure rfl rfl rfl (by decide +kernel) ⟨Nat.le_of_ble_eq_true rfl, Nat.le_of_ble_eq_true rfl⟩ [] [0, 1, 2] [0, 1, 2] (by decide) rfl rfl (by decide) (by decide) (by decide) (fun u => rfl) rfl hl.1 rfl (Nat.le_of_ble_eq_true rfl) dX3_readNumber_61 ⟨Nat.le_of_ble_eq_true rfl, Nat.le_of_ble_eq_true rfl⟩ (fun r_15 u H locs hw_16 hP hD hS => ?_)
      try dsimp only at hw_16
      have hP : va_P D vwCl [(hC, .inr (3, [.ref bF, .int (nI ln), .int (nI n), .int kd, .ref nF])), (bF, .inl (cB, 150, .inl bt)), (nF, .inl (cI, 4, .inl nu))] H := hP
      have hD : va_D A [(hC, .inr (3, [.ref bF, .int (nI ln), .int (nI n), .int kd, .ref nF])), (bF, .inl (cB, 150, .inl bt)), (nF, .inl (cI, 4, .inl nu))] := hD
      subst r_15
      refine lv_if_eq (tgt := 98) hx hb dX3_readNumber_64 (by decide) (fun c_17 => ?_) (fun c_17 => ?_)
      · skip
        have c_17 := z_b0 c_17
        have hd : dgF bt ln 4 (a1F bt ln pa neg) 0 = (n, x) := by rw [hinv]; exact dg_stop c_17
        refine lv_aload_n hx hb dX3_readNumber_98 rfl (lv_at hl 3 rfl) ?_
        refine va_get (D := D) (ci := 3) (v := .ref nF) (C := RX3) (T := TX3) (N := 5) hx hb hts N3 hown hK hP 0 rfl rfl 4 (by decide) L15 (fun _ h9 => h9) rfl dX3_readNumber_99 ?_
        refine lv_iload_n hx hb dX3_readNumber_102 rfl (lv_at hl 4 rfl) ?_
        refine lv_iload_n hx hb dX3_readNumber_103 rfl (lv_at hl 2 rfl) ?_
        refine lv_if_eq (tgt := 113) hx hb dX3_readNumber_104 (by decide) (fun c_18 => ?_) (fun c_18 => ?_)
        · skip
          have c_18 := z_b0 c_18
          refine lv_iload hx hb dX3_readNumber_113 (lv_at hl 1 rfl) ?_
          refine z_ist (j := kq) hx hb hK hP hD hS 2 rfl rfl (by omega) (by decide) dX3_readNumber_115 (fun H locs hP hD hS => ?_)
          have hP : va_P D vwCl [(hC, .inr (3, [.ref bF, .int (nI ln), .int (nI n), .int kd, .ref nF])), (bF, .inl (cB, 150, .inl bt)), (nF, .inl (cI, 4, .inl (upd nu kq x)))] H := hP
          have hD : va_D A [(hC, .inr (3, [.ref bF, .int (nI ln), .int (nI n), .int kd, .ref nF])), (bF, .inl (cB, 150, .inl bt)), (nF, .inl (cI, 4, .inl (upd nu kq x)))] := hD
          refine lv_aload_n hx hb dX3_readNumber_116 rfl (lv_at hl 3 rfl) ?_
          refine z_VI (n := 0) (wn := (fun u : Unit => [(hC, .inr (3, [.ref bF, .int (nI ln), .int (nI n), .int kd, .ref nF])), (bF, .inl (cB, 150, .inl bt)), (nF, .inl (cI, 4, .inl (upd nu kq x)))])) (wr := [(nF, .inl (cI, 4, .inl (upd nu kq x)))]) (As := []) (rest := []) ⟨hx, hb, hml, hown, hts⟩ hK hP hD hS hA hT (kX3_next l D cI cB tE tN hC bF nF ln n kd bt _ (by omega) (by omega)) gX3_readNumber_X3_next rfl rfl rfl (by decide +kernel) ⟨Nat.le_of_ble_eq_true rfl, Nat.le_of_ble_eq_true rfl⟩ [0, 1] [2] [1, 2, 0] (by decide) rfl rfl (by decide) (by decide) (by decide) (fun u => rfl) 0 3 rfl rfl rfl rfl hl.1 rfl (Nat.le_of_ble_eq_true rfl) dX3_readNumber_117 ⟨Nat.le_of_ble_eq_true rfl, Nat.le_of_ble_eq_true rfl⟩ (fun r_19 u H locs hw_20 hP hD hS => ?_)
          try dsimp only at hw_20
          have hP : va_P D vwCl [(hC, .inr (3, [.ref bF, .int (nI ln), .int (nI n), .int kd, .ref nF])), (bF, .inl (cB, 150, .inl bt)), (nF, .inl (cI, 4, .inl (upd nu kq x)))] H := hP
          have hD : va_D A [(hC, .inr (3, [.ref bF, .int (nI ln), .int (nI n), .int kd, .ref nF])), (bF, .inl (cB, 150, .inl bt)), (nF, .inl (cI, 4, .inl (upd nu kq x)))] := hD
          subst r_19
          refine z_SI (n := 1) (wn := (fun u : Unit => [(hC, .inr (3, [.ref bF, .int (nI ln), .int (nI n), .int kd, .ref nF])), (bF, .inl (cB, 150, .inl bt)), (nF, .inl (cI, 4, .inl (upd nu kq x)))])) (wr := [(hC, .inr (3, [.ref bF, .int (nI ln), .int (nI n), .int kd, .ref nF])), (bF, .inl (cB, 150, .inl bt)), (nF, .inl (cI, 4, .inl (upd nu kq x)))]) (As := [.int (chF bt ln n)]) (rest := []) ⟨hx, hb, hml, hown, hts⟩ hK hP hD hS hA hT (kX3_isFigure l D cI cB tE tN (chF bt ln n) _ ) gX3_readNumber_X3_isFigure rfl rfl rfl (by decide +kernel) ⟨Nat.le_of_ble_eq_true rfl, Nat.le_of_ble_eq_true rfl⟩ [] [0, 1, 2] [0, 1, 2] (by decide) rfl rfl (by decide) (by decide) (by decide) (fun u => rfl) rfl hl.1 rfl (Nat.le_of_ble_eq_true rfl) dX3_readNumber_120 ⟨Nat.le_of_ble_eq_true rfl, Nat.le_of_ble_eq_true rfl⟩ (fun r_21 u H locs hw_22 hP hD hS => ?_)
          try dsimp only at hw_22
          have hP : va_P D vwCl [(hC, .inr (3, [.ref bF, .int (nI ln), .int (nI n), .int kd, .ref nF])), (bF, .inl (cB, 150, .inl bt)), (nF, .inl (cI, 4, .inl (upd nu kq x)))] H := hP
          have hD : va_D A [(hC, .inr (3, [.ref bF, .int (nI ln), .int (nI n), .int kd, .ref nF])), (bF, .inl (cB, 150, .inl bt)), (nF, .inl (cI, 4, .inl (upd nu kq x)))] := hD
          subst r_21
          refine lv_if_ne (tgt := 130) hx hb dX3_readNumber_123 (by decide) (fun c_23 => ?_) (fun c_23 => ?_)
          · skip
            have c_23 := z_b1 c_23
            refine lv_iconst (v := 0) hx hb dX3_readNumber_130 (by decide) ?_
            exact hQ 0 (n, upd nu kq x) _ _ _ _ (rfl) (by rw [nm_eq hf hd, hsg]; refine ⟨?_, rfl, ?_, hn⟩ <;> simp [b2i, c_18, c_23]) hP hD hS dX3_readNumber_131
          · skip
            have c_23 := z_b0 c_23
            refine lv_iconst (v := 1) hx hb dX3_readNumber_126 (by decide) ?_
            refine lv_goto (tgt := 131) hx hb dX3_readNumber_127 (by decide) ?_
            exact hQ 1 (n, upd nu kq x) _ _ _ _ (rfl) (by rw [nm_eq hf hd, hsg]; refine ⟨?_, rfl, ?_, hn⟩ <;> simp [b2i, c_18, c_23]) hP hD hS dX3_readNumber_131
        · skip
          have c_18 := z_b1 c_18
          refine lv_iload hx hb dX3_readNumber_107 (lv_at hl 1 rfl) ?_
          refine lv_ineg hx hb dX3_readNumber_109 ?_
          refine lv_goto (tgt := 115) hx hb dX3_readNumber_110 (by decide) ?_
          refine z_ist (j := kq) hx hb hK hP hD hS 2 rfl rfl (by omega) (by decide) dX3_readNumber_115 (fun H locs hP hD hS => ?_)
          have hP : va_P D vwCl [(hC, .inr (3, [.ref bF, .int (nI ln), .int (nI n), .int kd, .ref nF])), (bF, .inl (cB, 150, .inl bt)), (nF, .inl (cI, 4, .inl (upd nu kq (-x))))] H := hP
          have hD : va_D A [(hC, .inr (3, [.ref bF, .int (nI ln), .int (nI n), .int kd, .ref nF])), (bF, .inl (cB, 150, .inl bt)), (nF, .inl (cI, 4, .inl (upd nu kq (-x))))] := hD
          refine lv_aload_n hx hb dX3_readNumber_116 rfl (lv_at hl 3 rfl) ?_
          refine z_VI (n := 0) (wn := (fun u : Unit => [(hC, .inr (3, [.ref bF, .int (nI ln), .int (nI n), .int kd, .ref nF])), (bF, .inl (cB, 150, .inl bt)), (nF, .inl (cI, 4, .inl (upd nu kq (-x))))])) (wr := [(nF, .inl (cI, 4, .inl (upd nu kq (-x))))]) (As := []) (rest := []) ⟨hx, hb, hml, hown, hts⟩ hK hP hD hS hA hT (kX3_next l D cI cB tE tN hC bF nF ln n kd bt _ (by omega) (by omega)) gX3_readNumber_X3_next rfl rfl rfl (by decide +kernel) ⟨Nat.le_of_ble_eq_true rfl, Nat.le_of_ble_eq_true rfl⟩ [0, 1] [2] [1, 2, 0] (by decide) rfl rfl (by decide) (by decide) (by decide) (fun u => rfl) 0 3 rfl rfl rfl rfl hl.1 rfl (Nat.le_of_ble_eq_true rfl) dX3_readNumber_117 ⟨Nat.le_of_ble_eq_true rfl, Nat.le_of_ble_eq_true rfl⟩ (fun r_24 u H locs hw_25 hP hD hS => ?_)
          try dsimp only at hw_25
          have hP : va_P D vwCl [(hC, .inr (3, [.ref bF, .int (nI ln), .int (nI n), .int kd, .ref nF])), (bF, .inl (cB, 150, .inl bt)), (nF, .inl (cI, 4, .inl (upd nu kq (-x))))] H := hP
          have hD : va_D A [(hC, .inr (3, [.ref bF, .int (nI ln), .int (nI n), .int kd, .ref nF])), (bF, .inl (cB, 150, .inl bt)), (nF, .inl (cI, 4, .inl (upd nu kq (-x))))] := hD
          subst r_24
          refine z_SI (n := 1) (wn := (fun u : Unit => [(hC, .inr (3, [.ref bF, .int (nI ln), .int (nI n), .int kd, .ref nF])), (bF, .inl (cB, 150, .inl bt)), (nF, .inl (cI, 4, .inl (upd nu kq (-x))))])) (wr := [(hC, .inr (3, [.ref bF, .int (nI ln), .int (nI n), .int kd, .ref nF])), (bF, .inl (cB, 150, .inl bt)), (nF, .inl (cI, 4, .inl (upd nu kq (-x))))]) (As := [.int (chF bt ln n)]) (rest := []) ⟨hx, hb, hml, hown, hts⟩ hK hP hD hS hA hT (kX3_isFigure l D cI cB tE tN (chF bt ln n) _ ) gX3_readNumber_X3_isFigure rfl rfl rfl (by decide +kernel) ⟨Nat.le_of_ble_eq_true rfl, Nat.le_of_ble_eq_true rfl⟩ [] [0, 1, 2] [0, 1, 2] (by decide) rfl rfl (by decide) (by decide) (by decide) (fun u => rfl) rfl hl.1 rfl (Nat.le_of_ble_eq_true rfl) dX3_readNumber_120 ⟨Nat.le_of_ble_eq_true rfl, Nat.le_of_ble_eq_true rfl⟩ (fun r_26 u H locs hw_27 hP hD hS => ?_)
          try dsimp only at hw_27
          have hP : va_P D vwCl [(hC, .inr (3, [.ref bF, .int (nI ln), .int (nI n), .int kd, .ref nF])), (bF, .inl (cB, 150, .inl bt)), (nF, .inl (cI, 4, .inl (upd nu kq (-x))))] H := hP
          have hD : va_D A [(hC, .inr (3, [.ref bF, .int (nI ln), .int (nI n), .int kd, .ref nF])), (bF, .inl (cB, 150, .inl bt)), (nF, .inl (cI, 4, .inl (upd nu kq (-x))))] := hD
          subst r_26
          refine lv_if_ne (tgt := 130) hx hb dX3_readNumber_123 (by decide) (fun c_28 => ?_) (fun c_28 => ?_)
          · skip
            have c_28 := z_b1 c_28
            refine lv_iconst (v := 0) hx hb dX3_readNumber_130 (by decide) ?_
            exact hQ 0 (n, upd nu kq (-x)) _ _ _ _ (rfl) (by rw [nm_eq hf hd, hsg]; refine ⟨?_, rfl, ?_, hn⟩ <;> simp [b2i, c_18, c_28]) hP hD hS dX3_readNumber_131
          · skip
            have c_28 := z_b0 c_28
            refine lv_iconst (v := 1) hx hb dX3_readNumber_126 (by decide) ?_
            refine lv_goto (tgt := 131) hx hb dX3_readNumber_127 (by decide) ?_
            exact hQ 1 (n, upd nu kq (-x)) _ _ _ _ (rfl) (by rw [nm_eq hf hd, hsg]; refine ⟨?_, rfl, ?_, hn⟩ <;> simp [b2i, c_18, c_28]) hP hD hS dX3_readNumber_131
      · skip
        have c_17 := z_b1 c_17
        have hlt := fig_lt c_17
        refine lv_bipush (v := 10) hx hb dX3_readNumber_67 (by decide) ?_
        refine lv_iload hx hb dX3_readNumber_69 (lv_at hl 1 rfl) ?_
        refine lv_imul hx hb dX3_readNumber_71 ?_
        refine lv_aload_n hx hb dX3_readNumber_72 rfl (lv_at hl 3 rfl) ?_
        refine z_VI (n := 0) (wn := (fun u : Unit => [(hC, .inr (3, [.ref bF, .int (nI ln), .int (nI n), .int kd, .ref nF])), (bF, .inl (cB, 150, .inl bt)), (nF, .inl (cI, 4, .inl nu))])) (wr := [(nF, .inl (cI, 4, .inl nu))]) (As := []) (rest := [.int (10 * x)]) ⟨hx, hb, hml, hown, hts⟩ hK hP hD hS hA hT (kX3_next l D cI cB tE tN hC bF nF ln n kd bt _ (by omega) (by omega)) gX3_readNumber_X3_next rfl rfl rfl (by decide +kernel) ⟨Nat.le_of_ble_eq_true rfl, Nat.le_of_ble_eq_true rfl⟩ [0, 1] [2] [1, 2, 0] (by decide) rfl rfl (by decide) (by decide) (by decide) (fun u => rfl) 0 3 rfl rfl rfl rfl hl.1 rfl (Nat.le_of_ble_eq_true rfl) dX3_readNumber_73 ⟨Nat.le_of_ble_eq_true rfl, Nat.le_of_ble_eq_true rfl⟩ (fun r_29 u H locs hw_30 hP hD hS => ?_)
        try dsimp only at hw_30
        have hP : va_P D vwCl [(hC, .inr (3, [.ref bF, .int (nI ln), .int (nI n), .int kd, .ref nF])), (bF, .inl (cB, 150, .inl bt)), (nF, .inl (cI, 4, .inl nu))] H := hP
        have hD : va_D A [(hC, .inr (3, [.ref bF, .int (nI ln), .int (nI n), .int kd, .ref nF])), (bF, .inl (cB, 150, .inl bt)), (nF, .inl (cI, 4, .inl nu))] := hD
        subst r_29
        refine lv_iadd hx hb dX3_readNumber_76 ?_
        refine lv_bipush (v := 48) hx hb dX3_readNumber_77 (by decide) ?_
        refine lv_isub hx hb dX3_readNumber_79 ?_
        refine lv_istore (lv' := [(4, .int (((10 * x) + (chF bt ln n)) - 48)), (5, .int (nI t)), (3, .int (b2i sg)), (0, .ref hC), (1, .int (nI kq))]) hx hb dX3_readNumber_80 hl (by decide) rfl (fun ls hl => ?_)
        refine lv_aload_n hx hb dX3_readNumber_82 rfl (lv_at hl 3 rfl) ?_
        refine lv_dup hx hb dX3_readNumber_83 rfl ?_
        refine va_get (D := D) (ci := 3) (v := .int (nI n)) (C := RX3) (T := TX3) (N := 5) hx hb hts N3 hown hK hP 0 rfl rfl 2 (by decide) L33 (fun _ h9 => h9) rfl dX3_readNumber_84 ?_
        refine lv_iconst (v := 1) hx hb dX3_readNumber_87 (by decide) ?_
        refine lv_iadd hx hb dX3_readNumber_88 ?_
        refine z_topi (x := (nI n) + 1) (y := nI (n + 1)) (z_add rfl rfl) ?_
        refine va_put (D := D) (ci := 3) (v := .int (nI (n + 1))) (ty := .int) (C := RX3) (T := TX3) (N := 5) hx hb hts N3 tyX3 tyX3_ok nmX3 hown hK hP hD hS 0 rfl rfl 2 (by decide) L33 (fun _ h9 => h9) rfl (by decide +kernel) rfl rfl (Nat.le_of_ble_eq_true rfl) dX3_readNumber_89 (fun H locs hP hD hS => ?_)
        have hP : va_P D vwCl [(hC, .inr (3, [.ref bF, .int (nI ln), .int (nI (n + 1)), .int kd, .ref nF])), (bF, .inl (cB, 150, .inl bt)), (nF, .inl (cI, 4, .inl nu))] H := hP
        have hD : va_D A [(hC, .inr (3, [.ref bF, .int (nI ln), .int (nI (n + 1)), .int kd, .ref nF])), (bF, .inl (cB, 150, .inl bt)), (nF, .inl (cI, 4, .inl nu))] := hD
        refine lv_iinc (v := nI (t + 1)) (lv' := [(5, .int (nI (t + 1))), (4, .int (((10 * x) + (chF bt ln n)) - 48)), (3, .int (b2i sg)), (0, .ref hC), (1, .int (nI kq))]) hx hb dX3_readNumber_92 hl (k := 1) rfl (z_add rfl rfl) (by decide) rfl (fun ls hl => ?_)
        refine lv_goto (tgt := 51) hx hb dX3_readNumber_95 (by decide) ?_
        exact ih _ (by omega) sg (t + 1) (n + 1) (((10 * x) + (chF bt ln n)) - 48) _ _ _ rfl (by omega) (by have := fig_lt c_17; omega) hsg hf (by rw [hinv]; exact dg_step (by omega) c_17) hP hD hS (lv_sub hl [0, 1, 2, 3, 4] rfl)
  refine lv_iload_n hx hb dX3_readNumber_0 rfl (lv_at hl 2 rfl) ?_
  refine lv_if_eq (tgt := 17) hx hb dX3_readNumber_1 (by decide) (fun c_31 => ?_) (fun c_31 => ?_)
  · skip
    have c_31 := z_b0 c_31
    refine lv_iconst (v := 0) hx hb dX3_readNumber_17 (by decide) ?_
    refine lv_istore_n (lv' := [(3, .int 0), (0, .ref hC), (1, .int (nI kq)), (2, .int (b2i neg))]) hx hb dX3_readNumber_18 rfl hl (by decide) rfl (fun ls hl => ?_)
    refine lv_iload_n hx hb dX3_readNumber_19 rfl (lv_at hl 0 rfl) ?_
    refine lv_if_eq (tgt := 33) hx hb dX3_readNumber_20 (by decide) (fun c_32 => ?_) (fun c_32 => ?_)
    · skip
      have c_32 := (z_eq (a := 0) (b := 0) rfl rfl (by omega) (by omega)).mp c_32
      refine lv_aload_n hx hb dX3_readNumber_33 rfl (lv_at hl 1 rfl) ?_
      refine z_VI (n := 0) (wn := (fun u : Unit => [(hC, .inr (3, [.ref bF, .int (nI ln), .int (nI pa), .int kd, .ref nF])), (bF, .inl (cB, 150, .inl bt)), (nF, .inl (cI, 4, .inl nu))])) (wr := [(nF, .inl (cI, 4, .inl nu))]) (As := []) (rest := []) ⟨hx, hb, hml, hown, hts⟩ hK hP hD hS hA hT (kX3_next l D cI cB tE tN hC bF nF ln pa kd bt _ (by omega) (by omega)) gX3_readNumber_X3_next rfl rfl rfl (by decide +kernel) ⟨Nat.le_of_ble_eq_true rfl, Nat.le_of_ble_eq_true rfl⟩ [0, 1] [2] [1, 2, 0] (by decide) rfl rfl (by decide) (by decide) (by decide) (fun u => rfl) 0 3 rfl rfl rfl rfl hl.1 rfl (Nat.le_of_ble_eq_true rfl) dX3_readNumber_34 ⟨Nat.le_of_ble_eq_true rfl, Nat.le_of_ble_eq_true rfl⟩ (fun r_33 u H locs hw_34 hP hD hS => ?_)
      try dsimp only at hw_34
      have hP : va_P D vwCl [(hC, .inr (3, [.ref bF, .int (nI ln), .int (nI pa), .int kd, .ref nF])), (bF, .inl (cB, 150, .inl bt)), (nF, .inl (cI, 4, .inl nu))] H := hP
      have hD : va_D A [(hC, .inr (3, [.ref bF, .int (nI ln), .int (nI pa), .int kd, .ref nF])), (bF, .inl (cB, 150, .inl bt)), (nF, .inl (cI, 4, .inl nu))] := hD
      subst r_33
      refine z_SI (n := 1) (wn := (fun u : Unit => [(hC, .inr (3, [.ref bF, .int (nI ln), .int (nI pa), .int kd, .ref nF])), (bF, .inl (cB, 150, .inl bt)), (nF, .inl (cI, 4, .inl nu))])) (wr := [(hC, .inr (3, [.ref bF, .int (nI ln), .int (nI pa), .int kd, .ref nF])), (bF, .inl (cB, 150, .inl bt)), (nF, .inl (cI, 4, .inl nu))]) (As := [.int (chF bt ln pa)]) (rest := []) ⟨hx, hb, hml, hown, hts⟩ hK hP hD hS hA hT (kX3_isFigure l D cI cB tE tN (chF bt ln pa) _ ) gX3_readNumber_X3_isFigure rfl rfl rfl (by decide +kernel) ⟨Nat.le_of_ble_eq_true rfl, Nat.le_of_ble_eq_true rfl⟩ [] [0, 1, 2] [0, 1, 2] (by decide) rfl rfl (by decide) (by decide) (by decide) (fun u => rfl) rfl hl.1 rfl (Nat.le_of_ble_eq_true rfl) dX3_readNumber_37 ⟨Nat.le_of_ble_eq_true rfl, Nat.le_of_ble_eq_true rfl⟩ (fun r_35 u H locs hw_36 hP hD hS => ?_)
      try dsimp only at hw_36
      have hP : va_P D vwCl [(hC, .inr (3, [.ref bF, .int (nI ln), .int (nI pa), .int kd, .ref nF])), (bF, .inl (cB, 150, .inl bt)), (nF, .inl (cI, 4, .inl nu))] H := hP
      have hD : va_D A [(hC, .inr (3, [.ref bF, .int (nI ln), .int (nI pa), .int kd, .ref nF])), (bF, .inl (cB, 150, .inl bt)), (nF, .inl (cI, 4, .inl nu))] := hD
      subst r_35
      refine lv_if_ne (tgt := 45) hx hb dX3_readNumber_40 (by decide) (fun c_37 => ?_) (fun c_37 => ?_)
      · skip
        have c_37 := z_b1 c_37
        refine lv_iconst (v := 0) hx hb dX3_readNumber_45 (by decide) ?_
        refine lv_istore (lv' := [(4, .int 0), (3, .int 0), (0, .ref hC), (1, .int (nI kq)), (2, .int (b2i neg))]) hx hb dX3_readNumber_46 hl (by decide) rfl (fun ls hl => ?_)
        refine lv_iconst (v := 0) hx hb dX3_readNumber_48 (by decide) ?_
        refine lv_istore (lv' := [(5, .int 0), (4, .int 0), (3, .int 0), (0, .ref hC), (1, .int (nI kq)), (2, .int (b2i neg))]) hx hb dX3_readNumber_49 hl (by decide) rfl (fun ls hl => ?_)
        exact lp51 _ false 0 pa 0 _ _ _ rfl (by omega) (by omega) (by simp [sgF, c_31]) (by rw [show a1F bt ln pa neg = pa by simp [a1F, sgF, c_31]]; exact c_37) (by rw [show a1F bt ln pa neg = pa by simp [a1F, sgF, c_31]]) hP hD hS (lv_sub hl [0, 1, 2, 3, 4] rfl)
      · skip
        have c_37 := z_b0 c_37
        refine lv_iconst (v := 0) hx hb dX3_readNumber_43 (by decide) ?_
        exact hQ 0 (pa, nu) _ _ _ _ (rfl) (by have ha : a1F bt ln pa neg = pa := (by simp [a1F, sgF, c_31]); rw [nm_bad (by rw [ha]; exact c_37), ha]; exact ⟨rfl, rfl, fun h => Bool.noConfusion h, by omega⟩) hP hD hS dX3_readNumber_44
    · skip
      have c_32 := (z_eqn (a := 0) (b := 0) rfl rfl (by omega) (by omega)).mp c_32
      exact absurd c_32 (by omega)
  · skip
    have c_31 := z_b1 c_31
    refine lv_aload_n hx hb dX3_readNumber_4 rfl (lv_at hl 0 rfl) ?_
    refine z_VI (n := 0) (wn := (fun u : Unit => [(hC, .inr (3, [.ref bF, .int (nI ln), .int (nI pa), .int kd, .ref nF])), (bF, .inl (cB, 150, .inl bt)), (nF, .inl (cI, 4, .inl nu))])) (wr := [(nF, .inl (cI, 4, .inl nu))]) (As := []) (rest := []) ⟨hx, hb, hml, hown, hts⟩ hK hP hD hS hA hT (kX3_next l D cI cB tE tN hC bF nF ln pa kd bt _ (by omega) (by omega)) gX3_readNumber_X3_next rfl rfl rfl (by decide +kernel) ⟨Nat.le_of_ble_eq_true rfl, Nat.le_of_ble_eq_true rfl⟩ [0, 1] [2] [1, 2, 0] (by decide) rfl rfl (by decide) (by decide) (by decide) (fun u => rfl) 0 3 rfl rfl rfl rfl hl.1 rfl (Nat.le_of_ble_eq_true rfl) dX3_readNumber_5 ⟨Nat.le_of_ble_eq_true rfl, Nat.le_of_ble_eq_true rfl⟩ (fun r_38 u H locs hw_39 hP hD hS => ?_)
    try dsimp only at hw_39
    have hP : va_P D vwCl [(hC, .inr (3, [.ref bF, .int (nI ln), .int (nI pa), .int kd, .ref nF])), (bF, .inl (cB, 150, .inl bt)), (nF, .inl (cI, 4, .inl nu))] H := hP
    have hD : va_D A [(hC, .inr (3, [.ref bF, .int (nI ln), .int (nI pa), .int kd, .ref nF])), (bF, .inl (cB, 150, .inl bt)), (nF, .inl (cI, 4, .inl nu))] := hD
    subst r_38
    refine lv_bipush (v := 45) hx hb dX3_readNumber_8 (by decide) ?_
    refine lv_icmp_ne (tgt := 17) hx hb dX3_readNumber_10 (by decide) (fun c_40 => ?_) (fun c_40 => ?_)
    · skip
      refine lv_iconst (v := 0) hx hb dX3_readNumber_17 (by decide) ?_
      refine lv_istore_n (lv' := [(3, .int 0), (0, .ref hC), (1, .int (nI kq)), (2, .int (b2i neg))]) hx hb dX3_readNumber_18 rfl hl (by decide) rfl (fun ls hl => ?_)
      refine lv_iload_n hx hb dX3_readNumber_19 rfl (lv_at hl 0 rfl) ?_
      refine lv_if_eq (tgt := 33) hx hb dX3_readNumber_20 (by decide) (fun c_41 => ?_) (fun c_41 => ?_)
      · skip
        have c_41 := (z_eq (a := 0) (b := 0) rfl rfl (by omega) (by omega)).mp c_41
        refine lv_aload_n hx hb dX3_readNumber_33 rfl (lv_at hl 1 rfl) ?_
        refine z_VI (n := 0) (wn := (fun u : Unit => [(hC, .inr (3, [.ref bF, .int (nI ln), .int (nI pa), .int kd, .ref nF])), (bF, .inl (cB, 150, .inl bt)), (nF, .inl (cI, 4, .inl nu))])) (wr := [(nF, .inl (cI, 4, .inl nu))]) (As := []) (rest := []) ⟨hx, hb, hml, hown, hts⟩ hK hP hD hS hA hT (kX3_next l D cI cB tE tN hC bF nF ln pa kd bt _ (by omega) (by omega)) gX3_readNumber_X3_next rfl rfl rfl (by decide +kernel) ⟨Nat.le_of_ble_eq_true rfl, Nat.le_of_ble_eq_true rfl⟩ [0, 1] [2] [1, 2, 0] (by decide) rfl rfl (by decide) (by decide) (by decide) (fun u => rfl) 0 3 rfl rfl rfl rfl hl.1 rfl (Nat.le_of_ble_eq_true rfl) dX3_readNumber_34 ⟨Nat.le_of_ble_eq_true rfl, Nat.le_of_ble_eq_true rfl⟩ (fun r_42 u H locs hw_43 hP hD hS => ?_)
        try dsimp only at hw_43
        have hP : va_P D vwCl [(hC, .inr (3, [.ref bF, .int (nI ln), .int (nI pa), .int kd, .ref nF])), (bF, .inl (cB, 150, .inl bt)), (nF, .inl (cI, 4, .inl nu))] H := hP
        have hD : va_D A [(hC, .inr (3, [.ref bF, .int (nI ln), .int (nI pa), .int kd, .ref nF])), (bF, .inl (cB, 150, .inl bt)), (nF, .inl (cI, 4, .inl nu))] := hD
        subst r_42
        refine z_SI (n := 1) (wn := (fun u : Unit => [(hC, .inr (3, [.ref bF, .int (nI ln), .int (nI pa), .int kd, .ref nF])), (bF, .inl (cB, 150, .inl bt)), (nF, .inl (cI, 4, .inl nu))])) (wr := [(hC, .inr (3, [.ref bF, .int (nI ln), .int (nI pa), .int kd, .ref nF])), (bF, .inl (cB, 150, .inl bt)), (nF, .inl (cI, 4, .inl nu))]) (As := [.int (chF bt ln pa)]) (rest := []) ⟨hx, hb, hml, hown, hts⟩ hK hP hD hS hA hT (kX3_isFigure l D cI cB tE tN (chF bt ln pa) _ ) gX3_readNumber_X3_isFigure rfl rfl rfl (by decide +kernel) ⟨Nat.le_of_ble_eq_true rfl, Nat.le_of_ble_eq_true rfl⟩ [] [0, 1, 2] [0, 1, 2] (by decide) rfl rfl (by decide) (by decide) (by decide) (fun u => rfl) rfl hl.1 rfl (Nat.le_of_ble_eq_true rfl) dX3_readNumber_37 ⟨Nat.le_of_ble_eq_true rfl, Nat.le_of_ble_eq_true rfl⟩ (fun r_44 u H locs hw_45 hP hD hS => ?_)
        try dsimp only at hw_45
        have hP : va_P D vwCl [(hC, .inr (3, [.ref bF, .int (nI ln), .int (nI pa), .int kd, .ref nF])), (bF, .inl (cB, 150, .inl bt)), (nF, .inl (cI, 4, .inl nu))] H := hP
        have hD : va_D A [(hC, .inr (3, [.ref bF, .int (nI ln), .int (nI pa), .int kd, .ref nF])), (bF, .inl (cB, 150, .inl bt)), (nF, .inl (cI, 4, .inl nu))] := hD
        subst r_44
        refine lv_if_ne (tgt := 45) hx hb dX3_readNumber_40 (by decide) (fun c_46 => ?_) (fun c_46 => ?_)
        · skip
          have c_46 := z_b1 c_46
          refine lv_iconst (v := 0) hx hb dX3_readNumber_45 (by decide) ?_
          refine lv_istore (lv' := [(4, .int 0), (3, .int 0), (0, .ref hC), (1, .int (nI kq)), (2, .int (b2i neg))]) hx hb dX3_readNumber_46 hl (by decide) rfl (fun ls hl => ?_)
          refine lv_iconst (v := 0) hx hb dX3_readNumber_48 (by decide) ?_
          refine lv_istore (lv' := [(5, .int 0), (4, .int 0), (3, .int 0), (0, .ref hC), (1, .int (nI kq)), (2, .int (b2i neg))]) hx hb dX3_readNumber_49 hl (by decide) rfl (fun ls hl => ?_)
          exact lp51 _ false 0 pa 0 _ _ _ rfl (by omega) (by omega) (by simp [sgF, c_31, c_40]) (by rw [show a1F bt ln pa neg = pa by simp [a1F, sgF, c_31, c_40]]; exact c_46) (by rw [show a1F bt ln pa neg = pa by simp [a1F, sgF, c_31, c_40]]) hP hD hS (lv_sub hl [0, 1, 2, 3, 4] rfl)
        · skip
          have c_46 := z_b0 c_46
          refine lv_iconst (v := 0) hx hb dX3_readNumber_43 (by decide) ?_
          exact hQ 0 (pa, nu) _ _ _ _ (rfl) (by have ha : a1F bt ln pa neg = pa := (by simp [a1F, sgF, c_31, c_40]); rw [nm_bad (by rw [ha]; exact c_46), ha]; exact ⟨rfl, rfl, fun h => Bool.noConfusion h, by omega⟩) hP hD hS dX3_readNumber_44
      · skip
        have c_41 := (z_eqn (a := 0) (b := 0) rfl rfl (by omega) (by omega)).mp c_41
        exact absurd c_41 (by omega)
    · skip
      have hpl : pa < ln := ch_lt c_40 (by decide)
      refine lv_iconst (v := 1) hx hb dX3_readNumber_13 (by decide) ?_
      refine lv_goto (tgt := 18) hx hb dX3_readNumber_14 (by decide) ?_
      refine lv_istore_n (lv' := [(3, .int 1), (0, .ref hC), (1, .int (nI kq)), (2, .int (b2i neg))]) hx hb dX3_readNumber_18 rfl hl (by decide) rfl (fun ls hl => ?_)
      refine lv_iload_n hx hb dX3_readNumber_19 rfl (lv_at hl 0 rfl) ?_
      refine lv_if_eq (tgt := 33) hx hb dX3_readNumber_20 (by decide) (fun c_47 => ?_) (fun c_47 => ?_)
      · skip
        have c_47 := (z_eq (a := 1) (b := 0) rfl rfl (by omega) (by omega)).mp c_47
        exact absurd c_47 (by omega)
      · skip
        have c_47 := (z_eqn (a := 1) (b := 0) rfl rfl (by omega) (by omega)).mp c_47
        refine lv_aload_n hx hb dX3_readNumber_23 rfl (lv_at hl 1 rfl) ?_
        refine lv_dup hx hb dX3_readNumber_24 rfl ?_
        refine va_get (D := D) (ci := 3) (v := .int (nI pa)) (C := RX3) (T := TX3) (N := 5) hx hb hts N3 hown hK hP 0 rfl rfl 2 (by decide) L33 (fun _ h9 => h9) rfl dX3_readNumber_25 ?_
        refine lv_iconst (v := 1) hx hb dX3_readNumber_28 (by decide) ?_
        refine lv_iadd hx hb dX3_readNumber_29 ?_
        refine z_topi (x := (nI pa) + 1) (y := nI (pa + 1)) (z_add rfl rfl) ?_
        refine va_put (D := D) (ci := 3) (v := .int (nI (pa + 1))) (ty := .int) (C := RX3) (T := TX3) (N := 5) hx hb hts N3 tyX3 tyX3_ok nmX3 hown hK hP hD hS 0 rfl rfl 2 (by decide) L33 (fun _ h9 => h9) rfl (by decide +kernel) rfl rfl (Nat.le_of_ble_eq_true rfl) dX3_readNumber_30 (fun H locs hP hD hS => ?_)
        have hP : va_P D vwCl [(hC, .inr (3, [.ref bF, .int (nI ln), .int (nI (pa + 1)), .int kd, .ref nF])), (bF, .inl (cB, 150, .inl bt)), (nF, .inl (cI, 4, .inl nu))] H := hP
        have hD : va_D A [(hC, .inr (3, [.ref bF, .int (nI ln), .int (nI (pa + 1)), .int kd, .ref nF])), (bF, .inl (cB, 150, .inl bt)), (nF, .inl (cI, 4, .inl nu))] := hD
        refine lv_aload_n hx hb dX3_readNumber_33 rfl (lv_at hl 1 rfl) ?_
        refine z_VI (n := 0) (wn := (fun u : Unit => [(hC, .inr (3, [.ref bF, .int (nI ln), .int (nI (pa + 1)), .int kd, .ref nF])), (bF, .inl (cB, 150, .inl bt)), (nF, .inl (cI, 4, .inl nu))])) (wr := [(nF, .inl (cI, 4, .inl nu))]) (As := []) (rest := []) ⟨hx, hb, hml, hown, hts⟩ hK hP hD hS hA hT (kX3_next l D cI cB tE tN hC bF nF ln (pa + 1) kd bt _ (by omega) (by omega)) gX3_readNumber_X3_next rfl rfl rfl (by decide +kernel) ⟨Nat.le_of_ble_eq_true rfl, Nat.le_of_ble_eq_true rfl⟩ [0, 1] [2] [1, 2, 0] (by decide) rfl rfl (by decide) (by decide) (by decide) (fun u => rfl) 0 3 rfl rfl rfl rfl hl.1 rfl (Nat.le_of_ble_eq_true rfl) dX3_readNumber_34 ⟨Nat.le_of_ble_eq_true rfl, Nat.le_of_ble_eq_true rfl⟩ (fun r_48 u H locs hw_49 hP hD hS => ?_)
        try dsimp only at hw_49
        have hP : va_P D vwCl [(hC, .inr (3, [.ref bF, .int (nI ln), .int (nI (pa + 1)), .int kd, .ref nF])), (bF, .inl (cB, 150, .inl bt)), (nF, .inl (cI, 4, .inl nu))] H := hP
        have hD : va_D A [(hC, .inr (3, [.ref bF, .int (nI ln), .int (nI (pa + 1)), .int kd, .ref nF])), (bF, .inl (cB, 150, .inl bt)), (nF, .inl (cI, 4, .inl nu))] := hD
        subst r_48
        refine z_SI (n := 1) (wn := (fun u : Unit => [(hC, .inr (3, [.ref bF, .int (nI ln), .int (nI (pa + 1)), .int kd, .ref nF])), (bF, .inl (cB, 150, .inl bt)), (nF, .inl (cI, 4, .inl nu))])) (wr := [(hC, .inr (3, [.ref bF, .int (nI ln), .int (nI (pa + 1)), .int kd, .ref nF])), (bF, .inl (cB, 150, .inl bt)), (nF, .inl (cI, 4, .inl nu))]) (As := [.int (chF bt ln (pa + 1))]) (rest := []) ⟨hx, hb, hml, hown, hts⟩ hK hP hD hS hA hT (kX3_isFigure l D cI cB tE tN (chF bt ln (pa + 1)) _ ) gX3_readNumber_X3_isFigure rfl rfl rfl (by decide +kernel) ⟨Nat.le_of_ble_eq_true rfl, Nat.le_of_ble_eq_true rfl⟩ [] [0, 1, 2] [0, 1, 2] (by decide) rfl rfl (by decide) (by decide) (by decide) (fun u => rfl) rfl hl.1 rfl (Nat.le_of_ble_eq_true rfl) dX3_readNumber_37 ⟨Nat.le_of_ble_eq_true rfl, Nat.le_of_ble_eq_true rfl⟩ (fun r_50 u H locs hw_51 hP hD hS => ?_)
        try dsimp only at hw_51
        have hP : va_P D vwCl [(hC, .inr (3, [.ref bF, .int (nI ln), .int (nI (pa + 1)), .int kd, .ref nF])), (bF, .inl (cB, 150, .inl bt)), (nF, .inl (cI, 4, .inl nu))] H := hP
        have hD : va_D A [(hC, .inr (3, [.ref bF, .int (nI ln), .int (nI (pa + 1)), .int kd, .ref nF])), (bF, .inl (cB, 150, .inl bt)), (nF, .inl (cI, 4, .inl nu))] := hD
        subst r_50
        refine lv_if_ne (tgt := 45) hx hb dX3_readNumber_40 (by decide) (fun c_52 => ?_) (fun c_52 => ?_)
        · skip
          have c_52 := z_b1 c_52
          refine lv_iconst (v := 0) hx hb dX3_readNumber_45 (by decide) ?_
          refine lv_istore (lv' := [(4, .int 0), (3, .int 1), (0, .ref hC), (1, .int (nI kq)), (2, .int (b2i neg))]) hx hb dX3_readNumber_46 hl (by decide) rfl (fun ls hl => ?_)
          refine lv_iconst (v := 0) hx hb dX3_readNumber_48 (by decide) ?_
          refine lv_istore (lv' := [(5, .int 0), (4, .int 0), (3, .int 1), (0, .ref hC), (1, .int (nI kq)), (2, .int (b2i neg))]) hx hb dX3_readNumber_49 hl (by decide) rfl (fun ls hl => ?_)
          exact lp51 _ true 0 (pa + 1) 0 _ _ _ rfl (by omega) (by omega) (by simp [sgF, c_31, c_40]) (by rw [show a1F bt ln pa neg = pa + 1 by simp [a1F, sgF, c_31, c_40]]; exact c_52) (by rw [show a1F bt ln pa neg = pa + 1 by simp [a1F, sgF, c_31, c_40]]) hP hD hS (lv_sub hl [0, 1, 2, 3, 4] rfl)
        · skip
          have c_52 := z_b0 c_52
          refine lv_iconst (v := 0) hx hb dX3_readNumber_43 (by decide) ?_
          exact hQ 0 (pa + 1, nu) _ _ _ _ (rfl) (by have ha : a1F bt ln pa neg = pa + 1 := (by simp [a1F, sgF, c_31, c_40]); rw [nm_bad (by rw [ha]; exact c_52), ha]; exact ⟨rfl, rfl, fun h => Bool.noConfusion h, by omega⟩) hP hD hS dX3_readNumber_44

set_option maxHeartbeats 4000000 in
set_option maxRecDepth 100000 in
theorem kX3_readOrder (l : Launch) (D : va_G) (cI cB : ClassId) (tE tN : Nat) (hC : Nat) (bF : Nat) (nF : Nat) (ln : Nat) (pa : Nat) (kd : Int32) (bt : Nat → Int32) (nu : Nat → Int32) (sz : Nat) (hln : ln ≤ 150) (hpa : pa ≤ ln) : zI l yX3_readOrder wsX3_readOrder ({ frames := 2, cells := 0, slots := 0, locals := 45 }) D cI cB tE tN [.ref hC] [(hC, .inr (3, [.ref bF, .int (nI ln), .int (nI pa), .int kd, .ref nF])), (bF, .inl (cB, 150, .inl bt)), (nF, .inl (cI, 4, .inl nu))] sz (fun u : Nat × (Nat → Int32) => [(hC, .inr (3, [.ref bF, .int (nI ln), .int (nI u.1), .int (chF bt ln pa), .ref nF])), (bF, .inl (cB, 150, .inl bt)), (nF, .inl (cI, 4, .inl u.2))]) (fun (r : Int32) (u : Nat × (Nat → Int32)) => r = b2i (odOk bt ln pa) ∧ u.1 = odPos bt ln pa ∧ (odOk bt ln pa = true → ∀ i wn, nOf (chF bt ln pa) = nI wn → wn ≤ 4 → i < wn → u.2 i = odVal bt ln pa i) ∧ u.1 ≤ ln) 0 0 := by
  refine zI_mk (cc := cX3_readOrder) (maxL := 4) (rt := .boolean) (by decide) rfl (Nat.le_of_ble_eq_true rfl) ?_
  intro p e s m below meth c A Q ls S0 hname hA hK hP hD hT hS hQ hl
  obtain ⟨hx, hb, hml, hown, hts⟩ := id S0
  have hl : lv_has ls 4 [(0, .ref hC)] := hl
  have L33 : (Cond.fieldLink RX3 33 "PastAndClear$Script" "at" "I").before ([.ref hC] : List Value).toArray s = true := hts (.fieldLink RX3 33 "PastAndClear$Script" "at" "I") (by decide +kernel)
  have N3 : ∀ w ∈ u_ws RX3 TX3 5, w ∈ wsX3_readOrder := by decide +kernel
  have L43 : (Cond.fieldLink RX3 43 "PastAndClear$Script" "kind" "I").before ([.ref hC] : List Value).toArray s = true := hts (.fieldLink RX3 43 "PastAndClear$Script" "kind" "I") (by decide +kernel)
  have lp58 : ∀ (k : Nat) (hp : Bool) (wn : Nat) (j : Nat) (n : Nat) (nu1 : Nat → Int32) (H : Heap) (locs : List Loc) (ls : Array Slot), wn - j = k → (nOf (chF bt ln pa) = nI wn) → (wn ≤ 4) → (j ≤ wn) → (pa < ln) → (n ≤ ln) → (hpF (chF bt ln pa) = hp) → (nsF bt ln hp wn 0 (pa + 1) nu = nsF bt ln hp (wn - j) j n nu1) → va_P D vwCl [(hC, .inr (3, [.ref bF, .int (nI ln), .int (nI n), .int (chF bt ln pa), .ref nF])), (bF, .inl (cB, 150, .inl bt)), (nF, .inl (cI, 4, .inl nu1))] H → va_D A [(hC, .inr (3, [.ref bF, .int (nI ln), .int (nI n), .int (chF bt ln pa), .ref nF])), (bF, .inl (cB, 150, .inl bt)), (nF, .inl (cI, 4, .inl nu1))] → va_S A s.heap H locs → lv_has ls 4 [(3, .int (nI j)), (2, .int (b2i hp)), (1, .int (nOf (chF bt ln pa))), (0, .ref hC)] → W p l e ({ frames := 2, cells := 0, slots := 0, locals := 45 } : Room) s m ([.ref hC] : List Value).toArray below meth c H locs 0 0 Q (F0 m 58 ls []) := by
    intro k
    induction k using Nat.strongRecOn with
    | ind k ih =>
    intro hp wn j n nu1 H locs ls hk hwn hw4 hj hpl hn hhp hinv hP hD hS hl
    refine lv_iload_n hx hb dX3_readOrder_58 rfl (lv_at hl 0 rfl) ?_
    refine lv_iload_n hx hb dX3_readOrder_59 rfl (lv_at hl 2 rfl) ?_
    refine lv_icmp_ge (tgt := 97) hx hb dX3_readOrder_60 (by decide) (fun c_1 => ?_) (fun c_1 => ?_)
    · skip
      have c_1 := (z_le (a := wn) (b := j) hwn rfl (by omega) (by omega)).mp c_1
      refine lv_aload_n hx hb dX3_readOrder_97 rfl (lv_at hl 3 rfl) ?_
      refine z_VV (n := 0) (wn := (fun u : Unit => [(hC, .inr (3, [.ref bF, .int (nI ln), .int (nI (sk bt ln n)), .int (chF bt ln pa), .ref nF])), (bF, .inl (cB, 150, .inl bt)), (nF, .inl (cI, 4, .inl nu1))])) (wr := [(nF, .inl (cI, 4, .inl nu1))]) (As := []) (rest := []) ⟨hx, hb, hml, hown, hts⟩ hK hP hD hS hA hT (kX3_skipBlanks l D cI cB tE tN hC bF nF ln n (chF bt ln pa) bt _ (by omega) (hn)) gX3_readOrder_X3_skipBlanks rfl rfl rfl (by decide +kernel) ⟨Nat.le_of_ble_eq_true rfl, Nat.le_of_ble_eq_true rfl⟩ [0, 1] [2] [1, 2, 0] (by decide) rfl rfl (by decide) (by decide) (by decide) (fun u => rfl) 0 3 rfl rfl rfl rfl hl.1 rfl (Nat.le_of_ble_eq_true rfl) dX3_readOrder_98 ⟨Nat.le_of_ble_eq_true rfl, Nat.le_of_ble_eq_true rfl⟩ (fun u H locs hw_3 hP hD hS => ?_)
      try dsimp only at hw_3
      have hP : va_P D vwCl [(hC, .inr (3, [.ref bF, .int (nI ln), .int (nI (sk bt ln n)), .int (chF bt ln pa), .ref nF])), (bF, .inl (cB, 150, .inl bt)), (nF, .inl (cI, 4, .inl nu1))] H := hP
      have hD : va_D A [(hC, .inr (3, [.ref bF, .int (nI ln), .int (nI (sk bt ln n)), .int (chF bt ln pa), .ref nF])), (bF, .inl (cB, 150, .inl bt)), (nF, .inl (cI, 4, .inl nu1))] := hD
      refine lv_aload_n hx hb dX3_readOrder_101 rfl (lv_at hl 3 rfl) ?_
      refine z_VI (n := 0) (wn := (fun u : Unit => [(hC, .inr (3, [.ref bF, .int (nI ln), .int (nI (sk bt ln n)), .int (chF bt ln pa), .ref nF])), (bF, .inl (cB, 150, .inl bt)), (nF, .inl (cI, 4, .inl nu1))])) (wr := [(nF, .inl (cI, 4, .inl nu1))]) (As := []) (rest := []) ⟨hx, hb, hml, hown, hts⟩ hK hP hD hS hA hT (kX3_next l D cI cB tE tN hC bF nF ln (sk bt ln n) (chF bt ln pa) bt _ (by omega) ((sk_le hn).2)) gX3_readOrder_X3_next rfl rfl rfl (by decide +kernel) ⟨Nat.le_of_ble_eq_true rfl, Nat.le_of_ble_eq_true rfl⟩ [0, 1] [2] [1, 2, 0] (by decide) rfl rfl (by decide) (by decide) (by decide) (fun u => rfl) 0 3 rfl rfl rfl rfl hl.1 rfl (Nat.le_of_ble_eq_true rfl) dX3_readOrder_102 ⟨Nat.le_of_ble_eq_true rfl, Nat.le_of_ble_eq_true rfl⟩ (fun r_4 u H locs hw_5 hP hD hS => ?_)
      try dsimp only at hw_5
      have hP : va_P D vwCl [(hC, .inr (3, [.ref bF, .int (nI ln), .int (nI (sk bt ln n)), .int (chF bt ln pa), .ref nF])), (bF, .inl (cB, 150, .inl bt)), (nF, .inl (cI, 4, .inl nu1))] H := hP
      have hD : va_D A [(hC, .inr (3, [.ref bF, .int (nI ln), .int (nI (sk bt ln n)), .int (chF bt ln pa), .ref nF])), (bF, .inl (cB, 150, .inl bt)), (nF, .inl (cI, 4, .inl nu1))] := hD
      subst r_4
      refine lv_bipush (v := 59) hx hb dX3_readOrder_105 (by decide) ?_
      refine lv_icmp_eq (tgt := 112) hx hb dX3_readOrder_107 (by decide) (fun c_6 => ?_) (fun c_6 => ?_)
      · skip
        have hsl : sk bt ln n < ln := ch_lt c_6 (by decide)
        refine lv_aload_n hx hb dX3_readOrder_112 rfl (lv_at hl 3 rfl) ?_
        refine lv_dup hx hb dX3_readOrder_113 rfl ?_
        refine va_get (D := D) (ci := 3) (v := .int (nI (sk bt ln n))) (C := RX3) (T := TX3) (N := 5) hx hb hts N3 hown hK hP 0 rfl rfl 2 (by decide) L33 (fun _ h9 => h9) rfl dX3_readOrder_114 ?_
        refine lv_iconst (v := 1) hx hb dX3_readOrder_117 (by decide) ?_
        refine lv_iadd hx hb dX3_readOrder_118 ?_
        refine z_topi (x := (nI (sk bt ln n)) + 1) (y := nI ((sk bt ln n) + 1)) (z_add rfl rfl) ?_
        refine va_put (D := D) (ci := 3) (v := .int (nI ((sk bt ln n) + 1))) (ty := .int) (C := RX3) (T := TX3) (N := 5) hx hb hts N3 tyX3 tyX3_ok nmX3 hown hK hP hD hS 0 rfl rfl 2 (by decide) L33 (fun _ h9 => h9) rfl (by decide +kernel) rfl rfl (Nat.le_of_ble_eq_true rfl) dX3_readOrder_119 (fun H locs hP hD hS => ?_)
        have hP : va_P D vwCl [(hC, .inr (3, [.ref bF, .int (nI ln), .int (nI ((sk bt ln n) + 1)), .int (chF bt ln pa), .ref nF])), (bF, .inl (cB, 150, .inl bt)), (nF, .inl (cI, 4, .inl nu1))] H := hP
        have hD : va_D A [(hC, .inr (3, [.ref bF, .int (nI ln), .int (nI ((sk bt ln n) + 1)), .int (chF bt ln pa), .ref nF])), (bF, .inl (cB, 150, .inl bt)), (nF, .inl (cI, 4, .inl nu1))] := hD
        refine lv_aload_n hx hb dX3_readOrder_122 rfl (lv_at hl 3 rfl) ?_
        refine z_VV (n := 0) (wn := (fun u : Unit => [(hC, .inr (3, [.ref bF, .int (nI ln), .int (nI (sk bt ln ((sk bt ln n) + 1))), .int (chF bt ln pa), .ref nF])), (bF, .inl (cB, 150, .inl bt)), (nF, .inl (cI, 4, .inl nu1))])) (wr := [(nF, .inl (cI, 4, .inl nu1))]) (As := []) (rest := []) ⟨hx, hb, hml, hown, hts⟩ hK hP hD hS hA hT (kX3_skipBlanks l D cI cB tE tN hC bF nF ln ((sk bt ln n) + 1) (chF bt ln pa) bt _ (by omega) (by omega)) gX3_readOrder_X3_skipBlanks rfl rfl rfl (by decide +kernel) ⟨Nat.le_of_ble_eq_true rfl, Nat.le_of_ble_eq_true rfl⟩ [0, 1] [2] [1, 2, 0] (by decide) rfl rfl (by decide) (by decide) (by decide) (fun u => rfl) 0 3 rfl rfl rfl rfl hl.1 rfl (Nat.le_of_ble_eq_true rfl) dX3_readOrder_123 ⟨Nat.le_of_ble_eq_true rfl, Nat.le_of_ble_eq_true rfl⟩ (fun u H locs hw_8 hP hD hS => ?_)
        try dsimp only at hw_8
        have hP : va_P D vwCl [(hC, .inr (3, [.ref bF, .int (nI ln), .int (nI (sk bt ln ((sk bt ln n) + 1))), .int (chF bt ln pa), .ref nF])), (bF, .inl (cB, 150, .inl bt)), (nF, .inl (cI, 4, .inl nu1))] H := hP
        have hD : va_D A [(hC, .inr (3, [.ref bF, .int (nI ln), .int (nI (sk bt ln ((sk bt ln n) + 1))), .int (chF bt ln pa), .ref nF])), (bF, .inl (cB, 150, .inl bt)), (nF, .inl (cI, 4, .inl nu1))] := hD
        refine lv_iconst (v := 1) hx hb dX3_readOrder_126 (by decide) ?_
        exact hQ 1 (sk bt ln ((sk bt ln n) + 1), nu1) _ _ _ _ (rfl) (by have e2 := hinv; rw [ns_end (by omega)] at e2; have e := od_ind bt ln pa nu; rw [od_ok hwn hw4 (by rw [hhp]; exact e2) c_6] at e; exact ⟨by rw [← e.1]; rfl, e.2.1, e.2.2, (sk_le (by omega)).2⟩) hP hD hS dX3_readOrder_127
      · skip
        refine lv_iconst (v := 0) hx hb dX3_readOrder_110 (by decide) ?_
        exact hQ 0 (sk bt ln n, nu1) _ _ _ _ (rfl) (by have e2 := hinv; rw [ns_end (by omega)] at e2; have e := od_ind bt ln pa nu; rw [od_b3 hwn hw4 (by rw [hhp]; exact e2) c_6] at e; exact ⟨by rw [← e.1]; rfl, e.2.1, fun h => by rw [← e.1] at h; exact Bool.noConfusion h, (sk_le hn).2⟩) hP hD hS dX3_readOrder_111
    · skip
      have c_1 := (z_len (a := wn) (b := j) hwn rfl (by omega) (by omega)).mp c_1
      refine lv_aload_n hx hb dX3_readOrder_63 rfl (lv_at hl 3 rfl) ?_
      refine z_VV (n := 0) (wn := (fun u : Unit => [(hC, .inr (3, [.ref bF, .int (nI ln), .int (nI (sk bt ln n)), .int (chF bt ln pa), .ref nF])), (bF, .inl (cB, 150, .inl bt)), (nF, .inl (cI, 4, .inl nu1))])) (wr := [(nF, .inl (cI, 4, .inl nu1))]) (As := []) (rest := []) ⟨hx, hb, hml, hown, hts⟩ hK hP hD hS hA hT (kX3_skipBlanks l D cI cB tE tN hC bF nF ln n (chF bt ln pa) bt _ (by omega) (hn)) gX3_readOrder_X3_skipBlanks rfl rfl rfl (by decide +kernel) ⟨Nat.le_of_ble_eq_true rfl, Nat.le_of_ble_eq_true rfl⟩ [0, 1] [2] [1, 2, 0] (by decide) rfl rfl (by decide) (by decide) (by decide) (fun u => rfl) 0 3 rfl rfl rfl rfl hl.1 rfl (Nat.le_of_ble_eq_true rfl) dX3_readOrder_64 ⟨Nat.le_of_ble_eq_true rfl, Nat.le_of_ble_eq_true rfl⟩ (fun u H locs hw_10 hP hD hS => ?_)
      try dsimp only at hw_10
      have hP : va_P D vwCl [(hC, .inr (3, [.ref bF, .int (nI ln), .int (nI (sk bt ln n)), .int (chF bt ln pa), .ref nF])), (bF, .inl (cB, 150, .inl bt)), (nF, .inl (cI, 4, .inl nu1))] H := hP
      have hD : va_D A [(hC, .inr (3, [.ref bF, .int (nI ln), .int (nI (sk bt ln n)), .int (chF bt ln pa), .ref nF])), (bF, .inl (cB, 150, .inl bt)), (nF, .inl (cI, 4, .inl nu1))] := hD
      refine lv_aload_n hx hb dX3_readOrder_67 rfl (lv_at hl 3 rfl) ?_
      refine lv_iload_n hx hb dX3_readOrder_68 rfl (lv_at hl 0 rfl) ?_
      refine lv_iload_n hx hb dX3_readOrder_69 rfl (lv_at hl 1 rfl) ?_
      refine lv_if_eq (tgt := 82) hx hb dX3_readOrder_70 (by decide) (fun c_11 => ?_) (fun c_11 => ?_)
      · skip
        have c_11 := z_b0 c_11
        refine lv_iconst (v := 0) hx hb dX3_readOrder_82 (by decide) ?_
        refine z_VI (n := 2) (wn := (fun u : Nat × (Nat → Int32) => [(hC, .inr (3, [.ref bF, .int (nI ln), .int (nI u.1), .int (chF bt ln pa), .ref nF])), (bF, .inl (cB, 150, .inl bt)), (nF, .inl (cI, 4, .inl u.2))])) (wr := []) (As := [.int (nI j), .int 0]) (rest := []) ⟨hx, hb, hml, hown, hts⟩ hK hP hD hS hA hT (kX3_readNumber l D cI cB tE tN hC bF nF ln (sk bt ln n) (chF bt ln pa) bt nu1 j false _ (by omega) ((sk_le hn).2) (by omega)) gX3_readOrder_X3_readNumber rfl rfl rfl (by decide +kernel) ⟨Nat.le_of_ble_eq_true rfl, Nat.le_of_ble_eq_true rfl⟩ [0, 1, 2] [] [0, 1, 2] (by decide) rfl rfl (by decide) (by decide) (by decide) (fun u => rfl) 0 3 rfl rfl rfl rfl hl.1 rfl (Nat.le_of_ble_eq_true rfl) dX3_readOrder_83 ⟨Nat.le_of_ble_eq_true rfl, Nat.le_of_ble_eq_true rfl⟩ (fun r_14 u H locs hw_15 hP hD hS => ?_)
        obtain ⟨pa2_12, nu2_13⟩ := u
        try dsimp only at hw_15
        have hP : va_P D vwCl [(hC, .inr (3, [.ref bF, .int (nI ln), .int (nI pa2_12), .int (chF bt ln pa), .ref nF])), (bF, .inl (cB, 150, .inl bt)), (nF, .inl (cI, 4, .inl nu2_13))] H := hP
        have hD : va_D A [(hC, .inr (3, [.ref bF, .int (nI ln), .int (nI pa2_12), .int (chF bt ln pa), .ref nF])), (bF, .inl (cB, 150, .inl bt)), (nF, .inl (cI, 4, .inl nu2_13))] := hD
        obtain ⟨hw_15, hq_16⟩ := hw_15
        subst r_14
        refine lv_if_ne (tgt := 91) hx hb dX3_readOrder_86 (by decide) (fun c_17 => ?_) (fun c_17 => ?_)
        · skip
          have c_17 := z_b1 c_17
          refine lv_iinc (v := nI (j + 1)) (lv' := [(3, .int (nI (j + 1))), (2, .int (b2i hp)), (1, .int (nOf (chF bt ln pa))), (0, .ref hC)]) hx hb dX3_readOrder_91 hl (k := 0) rfl (z_add rfl rfl) (by decide) rfl (fun ls hl => ?_)
          refine lv_goto (tgt := 58) hx hb dX3_readOrder_94 (by decide) ?_
          exact ih _ (by omega) hp wn (j + 1) pa2_12 nu2_13 _ _ _ rfl hwn hw4 (by omega) hpl hq_16.2.2 hhp (by rw [hinv]; have e : (hp && decide (j < 2)) = false := (by simp [c_11]); rw [ns_ok (by omega) (by rw [e]; exact c_17), e, ← hq_16.1, ← hq_16.2.1 c_17]) hP hD hS (lv_sub hl [0, 1, 2, 3] rfl)
        · skip
          have c_17 := z_b0 c_17
          refine lv_iconst (v := 0) hx hb dX3_readOrder_89 (by decide) ?_
          exact hQ 0 (pa2_12, nu2_13) _ _ _ _ (rfl) (by have e1 : (hp && decide (j < 2)) = false := (by simp [c_11]); have e2 := hinv; rw [ns_bad (by omega) (by rw [e1]; exact c_17), e1, ← hq_16.1] at e2; have e := od_ind bt ln pa nu; rw [od_b2 hwn hw4 (by rw [hhp]; exact e2)] at e; exact ⟨by rw [← e.1]; rfl, e.2.1, fun h => by rw [← e.1] at h; exact Bool.noConfusion h, hq_16.2.2⟩) hP hD hS dX3_readOrder_90
      · skip
        have c_11 := z_b1 c_11
        refine lv_iload_n hx hb dX3_readOrder_73 rfl (lv_at hl 0 rfl) ?_
        refine lv_iconst (v := 2) hx hb dX3_readOrder_74 (by decide) ?_
        refine lv_icmp_ge (tgt := 82) hx hb dX3_readOrder_75 (by decide) (fun c_18 => ?_) (fun c_18 => ?_)
        · skip
          have c_18 := (z_le (a := 2) (b := j) rfl rfl (by omega) (by omega)).mp c_18
          refine lv_iconst (v := 0) hx hb dX3_readOrder_82 (by decide) ?_
          refine z_VI (n := 2) (wn := (fun u : Nat × (Nat → Int32) => [(hC, .inr (3, [.ref bF, .int (nI ln), .int (nI u.1), .int (chF bt ln pa), .ref nF])), (bF, .inl (cB, 150, .inl bt)), (nF, .inl (cI, 4, .inl u.2))])) (wr := []) (As := [.int (nI j), .int 0]) (rest := []) ⟨hx, hb, hml, hown, hts⟩ hK hP hD hS hA hT (kX3_readNumber l D cI cB tE tN hC bF nF ln (sk bt ln n) (chF bt ln pa) bt nu1 j false _ (by omega) ((sk_le hn).2) (by omega)) gX3_readOrder_X3_readNumber rfl rfl rfl (by decide +kernel) ⟨Nat.le_of_ble_eq_true rfl, Nat.le_of_ble_eq_true rfl⟩ [0, 1, 2] [] [0, 1, 2] (by decide) rfl rfl (by decide) (by decide) (by decide) (fun u => rfl) 0 3 rfl rfl rfl rfl hl.1 rfl (Nat.le_of_ble_eq_true rfl) dX3_readOrder_83 ⟨Nat.le_of_ble_eq_true rfl, Nat.le_of_ble_eq_true rfl⟩ (fun r_21 u H locs hw_22 hP hD hS => ?_)
          obtain ⟨pa2_19, nu2_20⟩ := u
          try dsimp only at hw_22
          have hP : va_P D vwCl [(hC, .inr (3, [.ref bF, .int (nI ln), .int (nI pa2_19), .int (chF bt ln pa), .ref nF])), (bF, .inl (cB, 150, .inl bt)), (nF, .inl (cI, 4, .inl nu2_20))] H := hP
          have hD : va_D A [(hC, .inr (3, [.ref bF, .int (nI ln), .int (nI pa2_19), .int (chF bt ln pa), .ref nF])), (bF, .inl (cB, 150, .inl bt)), (nF, .inl (cI, 4, .inl nu2_20))] := hD
          obtain ⟨hw_22, hq_23⟩ := hw_22
          subst r_21
          refine lv_if_ne (tgt := 91) hx hb dX3_readOrder_86 (by decide) (fun c_24 => ?_) (fun c_24 => ?_)
          · skip
            have c_24 := z_b1 c_24
            refine lv_iinc (v := nI (j + 1)) (lv' := [(3, .int (nI (j + 1))), (2, .int (b2i hp)), (1, .int (nOf (chF bt ln pa))), (0, .ref hC)]) hx hb dX3_readOrder_91 hl (k := 0) rfl (z_add rfl rfl) (by decide) rfl (fun ls hl => ?_)
            refine lv_goto (tgt := 58) hx hb dX3_readOrder_94 (by decide) ?_
            exact ih _ (by omega) hp wn (j + 1) pa2_19 nu2_20 _ _ _ rfl hwn hw4 (by omega) hpl hq_23.2.2 hhp (by rw [hinv]; have e : (hp && decide (j < 2)) = false := (by simp [c_11, c_18]); rw [ns_ok (by omega) (by rw [e]; exact c_24), e, ← hq_23.1, ← hq_23.2.1 c_24]) hP hD hS (lv_sub hl [0, 1, 2, 3] rfl)
          · skip
            have c_24 := z_b0 c_24
            refine lv_iconst (v := 0) hx hb dX3_readOrder_89 (by decide) ?_
            exact hQ 0 (pa2_19, nu2_20) _ _ _ _ (rfl) (by have e1 : (hp && decide (j < 2)) = false := (by simp [c_11, c_18]); have e2 := hinv; rw [ns_bad (by omega) (by rw [e1]; exact c_24), e1, ← hq_23.1] at e2; have e := od_ind bt ln pa nu; rw [od_b2 hwn hw4 (by rw [hhp]; exact e2)] at e; exact ⟨by rw [← e.1]; rfl, e.2.1, fun h => by rw [← e.1] at h; exact Bool.noConfusion h, hq_23.2.2⟩) hP hD hS dX3_readOrder_90
        · skip
          have c_18 := (z_len (a := 2) (b := j) rfl rfl (by omega) (by omega)).mp c_18
          refine lv_iconst (v := 1) hx hb dX3_readOrder_78 (by decide) ?_
          refine lv_goto (tgt := 83) hx hb dX3_readOrder_79 (by decide) ?_
          refine z_VI (n := 2) (wn := (fun u : Nat × (Nat → Int32) => [(hC, .inr (3, [.ref bF, .int (nI ln), .int (nI u.1), .int (chF bt ln pa), .ref nF])), (bF, .inl (cB, 150, .inl bt)), (nF, .inl (cI, 4, .inl u.2))])) (wr := []) (As := [.int (nI j), .int 1]) (rest := []) ⟨hx, hb, hml, hown, hts⟩ hK hP hD hS hA hT (kX3_readNumber l D cI cB tE tN hC bF nF ln (sk bt ln n) (chF bt ln pa) bt nu1 j true _ (by omega) ((sk_le hn).2) (by omega)) gX3_readOrder_X3_readNumber rfl rfl rfl (by decide +kernel) ⟨Nat.le_of_ble_eq_true rfl, Nat.le_of_ble_eq_true rfl⟩ [0, 1, 2] [] [0, 1, 2] (by decide) rfl rfl (by decide) (by decide) (by decide) (fun u => rfl) 0 3 rfl rfl rfl rfl hl.1 rfl (Nat.le_of_ble_eq_true rfl) dX3_readOrder_83 ⟨Nat.le_of_ble_eq_true rfl, Nat.le_of_ble_eq_true rfl⟩ (fun r_27 u H locs hw_28 hP hD hS => ?_)
          obtain ⟨pa2_25, nu2_26⟩ := u
          try dsimp only at hw_28
          have hP : va_P D vwCl [(hC, .inr (3, [.ref bF, .int (nI ln), .int (nI pa2_25), .int (chF bt ln pa), .ref nF])), (bF, .inl (cB, 150, .inl bt)), (nF, .inl (cI, 4, .inl nu2_26))] H := hP
          have hD : va_D A [(hC, .inr (3, [.ref bF, .int (nI ln), .int (nI pa2_25), .int (chF bt ln pa), .ref nF])), (bF, .inl (cB, 150, .inl bt)), (nF, .inl (cI, 4, .inl nu2_26))] := hD
          obtain ⟨hw_28, hq_29⟩ := hw_28
          subst r_27
          refine lv_if_ne (tgt := 91) hx hb dX3_readOrder_86 (by decide) (fun c_30 => ?_) (fun c_30 => ?_)
          · skip
            have c_30 := z_b1 c_30
            refine lv_iinc (v := nI (j + 1)) (lv' := [(3, .int (nI (j + 1))), (2, .int (b2i hp)), (1, .int (nOf (chF bt ln pa))), (0, .ref hC)]) hx hb dX3_readOrder_91 hl (k := 0) rfl (z_add rfl rfl) (by decide) rfl (fun ls hl => ?_)
            refine lv_goto (tgt := 58) hx hb dX3_readOrder_94 (by decide) ?_
            exact ih _ (by omega) hp wn (j + 1) pa2_25 nu2_26 _ _ _ rfl hwn hw4 (by omega) hpl hq_29.2.2 hhp (by rw [hinv]; have e : (hp && decide (j < 2)) = true := (by simp [c_11, c_18]); rw [ns_ok (by omega) (by rw [e]; exact c_30), e, ← hq_29.1, ← hq_29.2.1 c_30]) hP hD hS (lv_sub hl [0, 1, 2, 3] rfl)
          · skip
            have c_30 := z_b0 c_30
            refine lv_iconst (v := 0) hx hb dX3_readOrder_89 (by decide) ?_
            exact hQ 0 (pa2_25, nu2_26) _ _ _ _ (rfl) (by have e1 : (hp && decide (j < 2)) = true := (by simp [c_11, c_18]); have e2 := hinv; rw [ns_bad (by omega) (by rw [e1]; exact c_30), e1, ← hq_29.1] at e2; have e := od_ind bt ln pa nu; rw [od_b2 hwn hw4 (by rw [hhp]; exact e2)] at e; exact ⟨by rw [← e.1]; rfl, e.2.1, fun h => by rw [← e.1] at h; exact Bool.noConfusion h, hq_29.2.2⟩) hP hD hS dX3_readOrder_90
  refine lv_aload_n hx hb dX3_readOrder_0 rfl (lv_at hl 0 rfl) ?_
  refine lv_aload_n hx hb dX3_readOrder_1 rfl (lv_at hl 0 rfl) ?_
  refine z_VI (n := 0) (wn := (fun u : Unit => [(hC, .inr (3, [.ref bF, .int (nI ln), .int (nI pa), .int kd, .ref nF])), (bF, .inl (cB, 150, .inl bt)), (nF, .inl (cI, 4, .inl nu))])) (wr := [(nF, .inl (cI, 4, .inl nu))]) (As := []) (rest := [.ref hC]) ⟨hx, hb, hml, hown, hts⟩ hK hP hD hS hA hT (kX3_next l D cI cB tE tN hC bF nF ln pa kd bt _ (by omega) (by omega)) gX3_readOrder_X3_next rfl rfl rfl (by decide +kernel) ⟨Nat.le_of_ble_eq_true rfl, Nat.le_of_ble_eq_true rfl⟩ [0, 1] [2] [1, 2, 0] (by decide) rfl rfl (by decide) (by decide) (by decide) (fun u => rfl) 0 3 rfl rfl rfl rfl hl.1 rfl (Nat.le_of_ble_eq_true rfl) dX3_readOrder_2 ⟨Nat.le_of_ble_eq_true rfl, Nat.le_of_ble_eq_true rfl⟩ (fun r_31 u H locs hw_32 hP hD hS => ?_)
  try dsimp only at hw_32
  have hP : va_P D vwCl [(hC, .inr (3, [.ref bF, .int (nI ln), .int (nI pa), .int kd, .ref nF])), (bF, .inl (cB, 150, .inl bt)), (nF, .inl (cI, 4, .inl nu))] H := hP
  have hD : va_D A [(hC, .inr (3, [.ref bF, .int (nI ln), .int (nI pa), .int kd, .ref nF])), (bF, .inl (cB, 150, .inl bt)), (nF, .inl (cI, 4, .inl nu))] := hD
  subst r_31
  refine va_put (D := D) (ci := 3) (v := .int (chF bt ln pa)) (ty := .int) (C := RX3) (T := TX3) (N := 5) hx hb hts N3 tyX3 tyX3_ok nmX3 hown hK hP hD hS 0 rfl rfl 3 (by decide) L43 (fun _ h9 => h9) rfl (by decide +kernel) rfl rfl (Nat.le_of_ble_eq_true rfl) dX3_readOrder_5 (fun H locs hP hD hS => ?_)
  have hP : va_P D vwCl [(hC, .inr (3, [.ref bF, .int (nI ln), .int (nI pa), .int (chF bt ln pa), .ref nF])), (bF, .inl (cB, 150, .inl bt)), (nF, .inl (cI, 4, .inl nu))] H := hP
  have hD : va_D A [(hC, .inr (3, [.ref bF, .int (nI ln), .int (nI pa), .int (chF bt ln pa), .ref nF])), (bF, .inl (cB, 150, .inl bt)), (nF, .inl (cI, 4, .inl nu))] := hD
  refine lv_aload_n hx hb dX3_readOrder_8 rfl (lv_at hl 0 rfl) ?_
  refine va_get (D := D) (ci := 3) (v := .int (chF bt ln pa)) (C := RX3) (T := TX3) (N := 5) hx hb hts N3 hown hK hP 0 rfl rfl 3 (by decide) L43 (fun _ h9 => h9) rfl dX3_readOrder_9 ?_
  refine z_SI (n := 1) (wn := (fun u : Unit => [(hC, .inr (3, [.ref bF, .int (nI ln), .int (nI pa), .int (chF bt ln pa), .ref nF])), (bF, .inl (cB, 150, .inl bt)), (nF, .inl (cI, 4, .inl nu))])) (wr := [(hC, .inr (3, [.ref bF, .int (nI ln), .int (nI pa), .int (chF bt ln pa), .ref nF])), (bF, .inl (cB, 150, .inl bt)), (nF, .inl (cI, 4, .inl nu))]) (As := [.int (chF bt ln pa)]) (rest := []) ⟨hx, hb, hml, hown, hts⟩ hK hP hD hS hA hT (kX3_numbersOf l D cI cB tE tN (chF bt ln pa) _ ) gX3_readOrder_X3_numbersOf rfl rfl rfl (by decide +kernel) ⟨Nat.le_of_ble_eq_true rfl, Nat.le_of_ble_eq_true rfl⟩ [] [0, 1, 2] [0, 1, 2] (by decide) rfl rfl (by decide) (by decide) (by decide) (fun u => rfl) rfl hl.1 rfl (Nat.le_of_ble_eq_true rfl) dX3_readOrder_12 ⟨Nat.le_of_ble_eq_true rfl, Nat.le_of_ble_eq_true rfl⟩ (fun r_33 u H locs hw_34 hP hD hS => ?_)
  try dsimp only at hw_34
  have hP : va_P D vwCl [(hC, .inr (3, [.ref bF, .int (nI ln), .int (nI pa), .int (chF bt ln pa), .ref nF])), (bF, .inl (cB, 150, .inl bt)), (nF, .inl (cI, 4, .inl nu))] H := hP
  have hD : va_D A [(hC, .inr (3, [.ref bF, .int (nI ln), .int (nI pa), .int (chF bt ln pa), .ref nF])), (bF, .inl (cB, 150, .inl bt)), (nF, .inl (cI, 4, .inl nu))] := hD
  subst r_33
  refine lv_istore_n (lv' := [(1, .int (nOf (chF bt ln pa))), (0, .ref hC)]) hx hb dX3_readOrder_15 rfl hl (by decide) rfl (fun ls hl => ?_)
  refine lv_iload_n hx hb dX3_readOrder_16 rfl (lv_at hl 0 rfl) ?_
  refine lv_if_ge (tgt := 22) hx hb dX3_readOrder_17 (by decide) (fun c_35 => ?_) (fun c_35 => ?_)
  · skip
    obtain ⟨wn, hwn, hw4⟩ := nOf_nat c_35
    have hpl := nOf_lt c_35
    refine lv_aload_n hx hb dX3_readOrder_22 rfl (lv_at hl 1 rfl) ?_
    refine lv_dup hx hb dX3_readOrder_23 rfl ?_
    refine va_get (D := D) (ci := 3) (v := .int (nI pa)) (C := RX3) (T := TX3) (N := 5) hx hb hts N3 hown hK hP 0 rfl rfl 2 (by decide) L33 (fun _ h9 => h9) rfl dX3_readOrder_24 ?_
    refine lv_iconst (v := 1) hx hb dX3_readOrder_27 (by decide) ?_
    refine lv_iadd hx hb dX3_readOrder_28 ?_
    refine z_topi (x := (nI pa) + 1) (y := nI (pa + 1)) (z_add rfl rfl) ?_
    refine va_put (D := D) (ci := 3) (v := .int (nI (pa + 1))) (ty := .int) (C := RX3) (T := TX3) (N := 5) hx hb hts N3 tyX3 tyX3_ok nmX3 hown hK hP hD hS 0 rfl rfl 2 (by decide) L33 (fun _ h9 => h9) rfl (by decide +kernel) rfl rfl (Nat.le_of_ble_eq_true rfl) dX3_readOrder_29 (fun H locs hP hD hS => ?_)
    have hP : va_P D vwCl [(hC, .inr (3, [.ref bF, .int (nI ln), .int (nI (pa + 1)), .int (chF bt ln pa), .ref nF])), (bF, .inl (cB, 150, .inl bt)), (nF, .inl (cI, 4, .inl nu))] H := hP
    have hD : va_D A [(hC, .inr (3, [.ref bF, .int (nI ln), .int (nI (pa + 1)), .int (chF bt ln pa), .ref nF])), (bF, .inl (cB, 150, .inl bt)), (nF, .inl (cI, 4, .inl nu))] := hD
    refine lv_aload_n hx hb dX3_readOrder_32 rfl (lv_at hl 1 rfl) ?_
    refine va_get (D := D) (ci := 3) (v := .int (chF bt ln pa)) (C := RX3) (T := TX3) (N := 5) hx hb hts N3 hown hK hP 0 rfl rfl 3 (by decide) L43 (fun _ h9 => h9) rfl dX3_readOrder_33 ?_
    refine lv_bipush (v := 97) hx hb dX3_readOrder_36 (by decide) ?_
    refine lv_icmp_eq (tgt := 50) hx hb dX3_readOrder_38 (by decide) (fun c_36 => ?_) (fun c_36 => ?_)
    · skip
      refine lv_iconst (v := 1) hx hb dX3_readOrder_50 (by decide) ?_
      refine lv_goto (tgt := 55) hx hb dX3_readOrder_51 (by decide) ?_
      refine lv_istore_n (lv' := [(2, .int 1), (1, .int (nOf (chF bt ln pa))), (0, .ref hC)]) hx hb dX3_readOrder_55 rfl hl (by decide) rfl (fun ls hl => ?_)
      refine lv_iconst (v := 0) hx hb dX3_readOrder_56 (by decide) ?_
      refine lv_istore_n (lv' := [(3, .int 0), (2, .int 1), (1, .int (nOf (chF bt ln pa))), (0, .ref hC)]) hx hb dX3_readOrder_57 rfl hl (by decide) rfl (fun ls hl => ?_)
      exact lp58 _ true wn 0 (pa + 1) nu _ _ _ rfl hwn hw4 (by omega) (by omega) (by omega) (by simp [hpF, c_36]) rfl hP hD hS (lv_sub hl [0, 1, 2, 3] rfl)
    · skip
      refine lv_aload_n hx hb dX3_readOrder_41 rfl (lv_at hl 1 rfl) ?_
      refine va_get (D := D) (ci := 3) (v := .int (chF bt ln pa)) (C := RX3) (T := TX3) (N := 5) hx hb hts N3 hown hK hP 0 rfl rfl 3 (by decide) L43 (fun _ h9 => h9) rfl dX3_readOrder_42 ?_
      refine lv_bipush (v := 111) hx hb dX3_readOrder_45 (by decide) ?_
      refine lv_icmp_ne (tgt := 54) hx hb dX3_readOrder_47 (by decide) (fun c_37 => ?_) (fun c_37 => ?_)
      · skip
        refine lv_iconst (v := 0) hx hb dX3_readOrder_54 (by decide) ?_
        refine lv_istore_n (lv' := [(2, .int 0), (1, .int (nOf (chF bt ln pa))), (0, .ref hC)]) hx hb dX3_readOrder_55 rfl hl (by decide) rfl (fun ls hl => ?_)
        refine lv_iconst (v := 0) hx hb dX3_readOrder_56 (by decide) ?_
        refine lv_istore_n (lv' := [(3, .int 0), (2, .int 0), (1, .int (nOf (chF bt ln pa))), (0, .ref hC)]) hx hb dX3_readOrder_57 rfl hl (by decide) rfl (fun ls hl => ?_)
        exact lp58 _ false wn 0 (pa + 1) nu _ _ _ rfl hwn hw4 (by omega) (by omega) (by omega) (by simp [hpF, c_36, c_37]) rfl hP hD hS (lv_sub hl [0, 1, 2, 3] rfl)
      · skip
        refine lv_iconst (v := 1) hx hb dX3_readOrder_50 (by decide) ?_
        refine lv_goto (tgt := 55) hx hb dX3_readOrder_51 (by decide) ?_
        refine lv_istore_n (lv' := [(2, .int 1), (1, .int (nOf (chF bt ln pa))), (0, .ref hC)]) hx hb dX3_readOrder_55 rfl hl (by decide) rfl (fun ls hl => ?_)
        refine lv_iconst (v := 0) hx hb dX3_readOrder_56 (by decide) ?_
        refine lv_istore_n (lv' := [(3, .int 0), (2, .int 1), (1, .int (nOf (chF bt ln pa))), (0, .ref hC)]) hx hb dX3_readOrder_57 rfl hl (by decide) rfl (fun ls hl => ?_)
        exact lp58 _ true wn 0 (pa + 1) nu _ _ _ rfl hwn hw4 (by omega) (by omega) (by omega) (by simp [hpF, c_36, c_37]) rfl hP hD hS (lv_sub hl [0, 1, 2, 3] rfl)
  · skip
    refine lv_iconst (v := 0) hx hb dX3_readOrder_20 (by decide) ?_
    exact hQ 0 (pa, nu) _ _ _ _ (rfl) (by have e := od_ind bt ln pa nu; rw [od_b1 (nOf_neg c_35)] at e; exact ⟨by rw [← e.1]; rfl, e.2.1, fun h => by rw [← e.1] at h; exact Bool.noConfusion h, by omega⟩) hP hD hS dX3_readOrder_21

set_option maxHeartbeats 4000000 in
set_option maxRecDepth 100000 in
theorem kX3_faultPlace (l : Launch) (D : va_G) (cI cB : ClassId) (tE tN : Nat) (hC : Nat) (bF : Nat) (nF : Nat) (ln : Nat) (xat : Int32) (kd : Int32) (bt : Nat → Int32) (nu : Nat → Int32) (sz : Nat) (hln : ln ≤ 150) : zI l yX3_faultPlace wsX3_faultPlace ({ frames := 3, cells := 0, slots := 0, locals := 68 }) D cI cB tE tN [.ref hC] [(hC, .inr (3, [.ref bF, .int (nI ln), .int xat, .int kd, .ref nF])), (bF, .inl (cB, 150, .inl bt)), (nF, .inl (cI, 4, .inl nu))] sz (fun u : Nat × Int32 × (Nat → Int32) => [(hC, .inr (3, [.ref bF, .int (nI ln), .int (nI u.1), .int u.2.1, .ref nF])), (bF, .inl (cB, 150, .inl bt)), (nF, .inl (cI, 4, .inl u.2.2))]) (fun (r : Int32) (u : Nat × Int32 × (Nat → Int32)) => r = cFault bt ln) 0 0 := by
  refine zI_mk (cc := cX3_faultPlace) (maxL := 2) (rt := .int) (by decide) rfl (Nat.le_of_ble_eq_true rfl) ?_
  intro p e s m below meth c A Q ls S0 hname hA hK hP hD hT hS hQ hl
  obtain ⟨hx, hb, hml, hown, hts⟩ := id S0
  have hl : lv_has ls 2 [(0, .ref hC)] := hl
  have L33 : (Cond.fieldLink RX3 33 "PastAndClear$Script" "at" "I").before ([.ref hC] : List Value).toArray s = true := hts (.fieldLink RX3 33 "PastAndClear$Script" "at" "I") (by decide +kernel)
  have N3 : ∀ w ∈ u_ws RX3 TX3 5, w ∈ wsX3_faultPlace := by decide +kernel
  have L19 : (Cond.fieldLink RX3 19 "PastAndClear$Script" "length" "I").before ([.ref hC] : List Value).toArray s = true := hts (.fieldLink RX3 19 "PastAndClear$Script" "length" "I") (by decide +kernel)
  have lp18 : ∀ (k : Nat) (t : Nat) (n : Nat) (kd1 : Int32) (nu1 : Nat → Int32) (H : Heap) (locs : List Loc) (ls : Array Slot), 75 - t = k → (t ≤ 75) → (n ≤ ln) → (cFault bt ln = flF bt ln (75 - t) n) → va_P D vwCl [(hC, .inr (3, [.ref bF, .int (nI ln), .int (nI n), .int kd1, .ref nF])), (bF, .inl (cB, 150, .inl bt)), (nF, .inl (cI, 4, .inl nu1))] H → va_D A [(hC, .inr (3, [.ref bF, .int (nI ln), .int (nI n), .int kd1, .ref nF])), (bF, .inl (cB, 150, .inl bt)), (nF, .inl (cI, 4, .inl nu1))] → va_S A s.heap H locs → lv_has ls 2 [(1, .int (nI t)), (0, .ref hC)] → W p l e ({ frames := 3, cells := 0, slots := 0, locals := 68 } : Room) s m ([.ref hC] : List Value).toArray below meth c H locs 0 0 Q (F0 m 18 ls []) := by
    intro k
    induction k using Nat.strongRecOn with
    | ind k ih =>
    intro t n kd1 nu1 H locs ls hk ht hn hinv hP hD hS hl
    refine lv_iload_n hx hb dX3_faultPlace_18 rfl (lv_at hl 0 rfl) ?_
    refine lv_bipush (v := 75) hx hb dX3_faultPlace_19 (by decide) ?_
    refine lv_icmp_ge (tgt := 49) hx hb dX3_faultPlace_21 (by decide) (fun c_1 => ?_) (fun c_1 => ?_)
    · skip
      have c_1 := (z_le (a := 75) (b := t) rfl rfl (by omega) (by omega)).mp c_1
      refine lv_iconst (v := (-1)) hx hb dX3_faultPlace_49 (by decide) ?_
      exact hQ (-1) (n, kd1, nu1) _ _ _ _ (rfl) (by rw [hinv, show 75 - t = 0 by omega]; rfl) hP hD hS dX3_faultPlace_50
    · skip
      have c_1 := (z_len (a := 75) (b := t) rfl rfl (by omega) (by omega)).mp c_1
      refine lv_aload_n hx hb dX3_faultPlace_24 rfl (lv_at hl 1 rfl) ?_
      refine z_VI (n := 0) (wn := (fun u : Unit => [(hC, .inr (3, [.ref bF, .int (nI ln), .int (nI n), .int kd1, .ref nF])), (bF, .inl (cB, 150, .inl bt)), (nF, .inl (cI, 4, .inl nu1))])) (wr := [(bF, .inl (cB, 150, .inl bt)), (nF, .inl (cI, 4, .inl nu1))]) (As := []) (rest := []) ⟨hx, hb, hml, hown, hts⟩ hK hP hD hS hA hT (kX3_hasMore l D cI cB tE tN hC bF nF ln n kd1 _ (by omega) (by omega)) gX3_faultPlace_X3_hasMore rfl rfl rfl (by decide +kernel) ⟨Nat.le_of_ble_eq_true rfl, Nat.le_of_ble_eq_true rfl⟩ [0] [1, 2] [2, 0, 1] (by decide) rfl rfl (by decide) (by decide) (by decide) (fun u => rfl) 0 3 rfl rfl rfl rfl hl.1 rfl (Nat.le_of_ble_eq_true rfl) dX3_faultPlace_25 ⟨Nat.le_of_ble_eq_true rfl, Nat.le_of_ble_eq_true rfl⟩ (fun r_2 u H locs hw_3 hP hD hS => ?_)
      try dsimp only at hw_3
      have hP : va_P D vwCl [(hC, .inr (3, [.ref bF, .int (nI ln), .int (nI n), .int kd1, .ref nF])), (bF, .inl (cB, 150, .inl bt)), (nF, .inl (cI, 4, .inl nu1))] H := hP
      have hD : va_D A [(hC, .inr (3, [.ref bF, .int (nI ln), .int (nI n), .int kd1, .ref nF])), (bF, .inl (cB, 150, .inl bt)), (nF, .inl (cI, 4, .inl nu1))] := hD
      subst r_2
      refine lv_if_eq (tgt := 49) hx hb dX3_faultPlace_28 (by decide) (fun c_4 => ?_) (fun c_4 => ?_)
      · skip
        have c_4 := z_b0 c_4
        refine lv_iconst (v := (-1)) hx hb dX3_faultPlace_49 (by decide) ?_
        exact hQ (-1) (n, kd1, nu1) _ _ _ _ (rfl) (by rw [hinv]; exact (fl_end (of_decide_eq_false c_4)).symm) hP hD hS dX3_faultPlace_50
      · skip
        have c_4 := z_b1 c_4
        refine lv_aload_n hx hb dX3_faultPlace_31 rfl (lv_at hl 1 rfl) ?_
        refine z_VI (n := 0) (wn := (fun u : Nat × (Nat → Int32) => [(hC, .inr (3, [.ref bF, .int (nI ln), .int (nI u.1), .int (chF bt ln n), .ref nF])), (bF, .inl (cB, 150, .inl bt)), (nF, .inl (cI, 4, .inl u.2))])) (wr := []) (As := []) (rest := []) ⟨hx, hb, hml, hown, hts⟩ hK hP hD hS hA hT (kX3_readOrder l D cI cB tE tN hC bF nF ln n kd1 bt nu1 _ (by omega) (by omega)) gX3_faultPlace_X3_readOrder rfl rfl rfl (by decide +kernel) ⟨Nat.le_of_ble_eq_true rfl, Nat.le_of_ble_eq_true rfl⟩ [0, 1, 2] [] [0, 1, 2] (by decide) rfl rfl (by decide) (by decide) (by decide) (fun u => rfl) 0 3 rfl rfl rfl rfl hl.1 rfl (Nat.le_of_ble_eq_true rfl) dX3_faultPlace_32 ⟨Nat.le_of_ble_eq_true rfl, Nat.le_of_ble_eq_true rfl⟩ (fun r_7 u H locs hw_8 hP hD hS => ?_)
        obtain ⟨pa2_5, nu2_6⟩ := u
        try dsimp only at hw_8
        have hP : va_P D vwCl [(hC, .inr (3, [.ref bF, .int (nI ln), .int (nI pa2_5), .int (chF bt ln n), .ref nF])), (bF, .inl (cB, 150, .inl bt)), (nF, .inl (cI, 4, .inl nu2_6))] H := hP
        have hD : va_D A [(hC, .inr (3, [.ref bF, .int (nI ln), .int (nI pa2_5), .int (chF bt ln n), .ref nF])), (bF, .inl (cB, 150, .inl bt)), (nF, .inl (cI, 4, .inl nu2_6))] := hD
        obtain ⟨hw_8, hq_9⟩ := hw_8
        subst r_7
        refine lv_if_ne (tgt := 43) hx hb dX3_faultPlace_35 (by decide) (fun c_10 => ?_) (fun c_10 => ?_)
        · skip
          have c_10 := z_b1 c_10
          refine lv_iinc (v := nI (t + 1)) (lv' := [(1, .int (nI (t + 1))), (0, .ref hC)]) hx hb dX3_faultPlace_43 hl (k := 0) rfl (z_add rfl rfl) (by decide) rfl (fun ls hl => ?_)
          refine lv_goto (tgt := 18) hx hb dX3_faultPlace_46 (by decide) ?_
          exact ih _ (by omega) (t + 1) pa2_5 (chF bt ln n) nu2_6 _ _ _ rfl (by omega) hq_9.2.2 (by rw [hinv, hq_9.1]; exact fl_ok (by omega) (of_decide_eq_true c_4) c_10) hP hD hS (lv_sub hl [0, 1] rfl)
        · skip
          have c_10 := z_b0 c_10
          refine lv_aload_n hx hb dX3_faultPlace_38 rfl (lv_at hl 1 rfl) ?_
          refine va_get (D := D) (ci := 3) (v := .int (nI pa2_5)) (C := RX3) (T := TX3) (N := 5) hx hb hts N3 hown hK hP 0 rfl rfl 2 (by decide) L33 (fun _ h9 => h9) rfl dX3_faultPlace_39 ?_
          exact hQ (nI pa2_5) (pa2_5, chF bt ln n, nu2_6) _ _ _ _ (rfl) (by rw [hinv, hq_9.1]; exact (fl_bad (by omega) (of_decide_eq_true c_4) c_10).symm) hP hD hS dX3_faultPlace_42
  refine lv_aload_n hx hb dX3_faultPlace_0 rfl (lv_at hl 0 rfl) ?_
  refine z_VV (n := 0) (wn := (fun u : Unit => [(hC, .inr (3, [.ref bF, .int (nI ln), .int (nI (sk bt ln 0)), .int kd, .ref nF])), (bF, .inl (cB, 150, .inl bt)), (nF, .inl (cI, 4, .inl nu))])) (wr := [(nF, .inl (cI, 4, .inl nu))]) (As := []) (rest := []) ⟨hx, hb, hml, hown, hts⟩ hK hP hD hS hA hT (kX3_rewind l D cI cB tE tN hC bF nF ln xat kd bt _ (by omega)) gX3_faultPlace_X3_rewind rfl rfl rfl (by decide +kernel) ⟨Nat.le_of_ble_eq_true rfl, Nat.le_of_ble_eq_true rfl⟩ [0, 1] [2] [1, 2, 0] (by decide) rfl rfl (by decide) (by decide) (by decide) (fun u => rfl) 0 3 rfl rfl rfl rfl hl.1 rfl (Nat.le_of_ble_eq_true rfl) dX3_faultPlace_1 ⟨Nat.le_of_ble_eq_true rfl, Nat.le_of_ble_eq_true rfl⟩ (fun u H locs hw_12 hP hD hS => ?_)
  try dsimp only at hw_12
  have hP : va_P D vwCl [(hC, .inr (3, [.ref bF, .int (nI ln), .int (nI (sk bt ln 0)), .int kd, .ref nF])), (bF, .inl (cB, 150, .inl bt)), (nF, .inl (cI, 4, .inl nu))] H := hP
  have hD : va_D A [(hC, .inr (3, [.ref bF, .int (nI ln), .int (nI (sk bt ln 0)), .int kd, .ref nF])), (bF, .inl (cB, 150, .inl bt)), (nF, .inl (cI, 4, .inl nu))] := hD
  refine lv_aload_n hx hb dX3_faultPlace_4 rfl (lv_at hl 0 rfl) ?_
  refine z_VI (n := 0) (wn := (fun u : Unit => [(hC, .inr (3, [.ref bF, .int (nI ln), .int (nI (sk bt ln 0)), .int kd, .ref nF])), (bF, .inl (cB, 150, .inl bt)), (nF, .inl (cI, 4, .inl nu))])) (wr := [(bF, .inl (cB, 150, .inl bt)), (nF, .inl (cI, 4, .inl nu))]) (As := []) (rest := []) ⟨hx, hb, hml, hown, hts⟩ hK hP hD hS hA hT (kX3_hasMore l D cI cB tE tN hC bF nF ln (sk bt ln 0) kd _ (by omega) ((sk_le (by omega)).2)) gX3_faultPlace_X3_hasMore rfl rfl rfl (by decide +kernel) ⟨Nat.le_of_ble_eq_true rfl, Nat.le_of_ble_eq_true rfl⟩ [0] [1, 2] [2, 0, 1] (by decide) rfl rfl (by decide) (by decide) (by decide) (fun u => rfl) 0 3 rfl rfl rfl rfl hl.1 rfl (Nat.le_of_ble_eq_true rfl) dX3_faultPlace_5 ⟨Nat.le_of_ble_eq_true rfl, Nat.le_of_ble_eq_true rfl⟩ (fun r_13 u H locs hw_14 hP hD hS => ?_)
  try dsimp only at hw_14
  have hP : va_P D vwCl [(hC, .inr (3, [.ref bF, .int (nI ln), .int (nI (sk bt ln 0)), .int kd, .ref nF])), (bF, .inl (cB, 150, .inl bt)), (nF, .inl (cI, 4, .inl nu))] H := hP
  have hD : va_D A [(hC, .inr (3, [.ref bF, .int (nI ln), .int (nI (sk bt ln 0)), .int kd, .ref nF])), (bF, .inl (cB, 150, .inl bt)), (nF, .inl (cI, 4, .inl nu))] := hD
  subst r_13
  refine lv_if_ne (tgt := 16) hx hb dX3_faultPlace_8 (by decide) (fun c_15 => ?_) (fun c_15 => ?_)
  · skip
    have c_15 := z_b1 c_15
    refine lv_iconst (v := 0) hx hb dX3_faultPlace_16 (by decide) ?_
    refine lv_istore_n (lv' := [(1, .int 0), (0, .ref hC)]) hx hb dX3_faultPlace_17 rfl hl (by decide) rfl (fun ls hl => ?_)
    exact lp18 _ 0 (sk bt ln 0) kd nu _ _ _ rfl (by omega) ((sk_le (by omega)).2) (by rw [cFault, if_pos (of_decide_eq_true c_15)]) hP hD hS (lv_sub hl [0, 1] rfl)
  · skip
    have c_15 := z_b0 c_15
    refine lv_aload_n hx hb dX3_faultPlace_11 rfl (lv_at hl 0 rfl) ?_
    refine va_get (D := D) (ci := 3) (v := .int (nI ln)) (C := RX3) (T := TX3) (N := 5) hx hb hts N3 hown hK hP 0 rfl rfl 1 (by decide) L19 (fun _ h9 => h9) rfl dX3_faultPlace_12 ?_
    exact hQ (nI ln) (sk bt ln 0, kd, nu) _ _ _ _ (rfl) (by rw [cFault, if_neg (of_decide_eq_false c_15)]) hP hD hS dX3_faultPlace_15
