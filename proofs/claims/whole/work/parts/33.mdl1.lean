def cIn (v lo hi : Int32) : Bool := decide (¬ v < lo ∧ ¬ hi < v)
theorem cCourse_in2 (h s : Int32) : cCourse h s = (cIn h 0 15 && cIn s 0 9) := by
  have e : (¬ 16 ≤ h) ↔ (¬ 15 < h) := by
    rw [Int32.le_iff_toInt_le, Int32.lt_iff_toInt_lt, show (16 : Int32).toInt = 16 from rfl, show (15 : Int32).toInt = 15 from rfl]; omega
  unfold cCourse cIn
  simp only [e]
  by_cases h1 : h < 0 <;> by_cases h2 : 15 < h <;> by_cases h3 : s < 0 <;> by_cases h4 : 9 < s <;> simp [h1, h2, h3, h4]
theorem cPlace_in2 (v : Int32) : cPlace v = cIn v (-9999) 9999 := rfl
theorem cShip_cIn {f : Nat → Int32} {N : Nat} {i : Int32} (hI : Iv f) (hNN : nN f = N) : cShip f i = cIn i 0 (nI N) := by
  rw [cShip, hI.2.1, hNN]; rfl
theorem cOther_of {f : Nat → Int32} {i : Int32} (h : ¬ i ≤ 0) : cOther f i = cShip f i := by
  have h0 : ¬ i < 0 := fun q => h (Int32.le_of_lt q)
  unfold cOther cShip
  simp [h, h0]
theorem z_rem {x y : Int32} {a b : Nat} (hx : x = nI a) (hy : y = nI b) (ha : a < 2147483648) (hb : b < 2147483648) (h0 : 0 < b) : x - x / y * y = nI (a % b) := by
  subst hx; subst hy
  have ea : (nI a).toInt = (a : Int) := z_toInt ha
  have eb : (nI b).toInt = (b : Int) := z_toInt hb
  have hq : (nI a / nI b).toInt = ((a / b : Nat) : Int) := by
    rw [Int32.toInt_div_of_ne_right _ _ (fun e => by have : (nI b).toInt = -1 := by rw [e]; rfl
                                                     omega), ea, eb, Int.tdiv_eq_ediv_of_nonneg (by omega)]
    rfl
  have hm := Nat.div_add_mod a b
  have hle : a / b * b ≤ a := Nat.div_mul_le_self a b
  have hmul : (nI a / nI b * nI b).toInt = ((a / b * b : Nat) : Int) := by
    have e : (nI a / nI b).toInt * (nI b).toInt = ((a / b * b : Nat) : Int) := by rw [hq, eb]; exact (Int.natCast_mul _ _).symm
    rw [i_mul (by rw [e]; omega) (by rw [e]; omega), e]
  rw [← Int32.toInt_inj, i_sub (by rw [ea, hmul]; omega) (by rw [ea, hmul]; omega), ea, hmul, z_toInt (by have := Nat.mod_lt a h0; omega)]
  have : b * (a / b) = a / b * b := Nat.mul_comm _ _
  omega
theorem vE_vN : ∀ k, k ≤ 15 → vN (nI ((k + 12) % 16)) = vE (nI k) := by
  have h : ∀ k : Fin 16, vN (nI ((k.val + 12) % 16)) = vE (nI k.val) := by decide +kernel
  exact fun k hk => h ⟨k, by omega⟩
theorem cm_pos {y : Int64} (h : 0 ≤ y.toInt) (h2 : ¬ y = 0) : 0 < y.toInt := by
  rcases Int.lt_or_eq_of_le h with q | q
  · exact q
  · exact absurd (Int64.toInt_inj.mp (by rw [w_0]; omega)) h2
theorem cm_nn {x y : Int64} (hx : 0 ≤ x.toInt) (hy : 0 ≤ y.toInt) (h2 : ¬ y = 0) : 0 ≤ (x - x / y * y).toInt := by
  rw [w_rem hx (cm_pos hy h2)]; exact Int.emod_nonneg _ (by have := cm_pos hy h2; omega)
theorem cm_dec {x y : Int64} (hx : 0 ≤ x.toInt) (hy : 0 ≤ y.toInt) (h2 : ¬ y = 0) : (x - x / y * y).toInt.toNat < y.toInt.toNat := by
  have p := cm_pos hy h2
  have := Int.emod_lt_of_pos x.toInt p
  have := Int.emod_nonneg x.toInt (show y.toInt ≠ 0 by omega)
  rw [w_rem hx p]; omega
theorem cm_end {a b x y : Int64} (hx : 0 ≤ x.toInt) (h : y = 0) (hi : gcN a b = gcN x y) : x.toInt = (gcN a b : Int) := by
  rw [hi, h, gcN, show (0 : Int64).toInt.toNat = 0 from rfl, Nat.gcd_zero_right]; omega
theorem risk_m {x1 x2 x3 x4 q1 q2 q3 q4 : Int64} {f : Nat → Int32} (hB : Bd x1 x2 x3 x4) (hI : Iv f) (hm : (q1, q2, q3, q4) = mFr x1 x2 x3 x4) :
    cRk q1 q2 q3 q4 (f 36).toInt64 (f 37).toInt64 = cRk (mS x1 x2 x3 x4).1 (mS x1 x2 x3 x4).2.1 (mS x1 x2 x3 x4).2.2.1 (mS x1 x2 x3 x4).2.2.2 (f 36).toInt64 (f 37).toInt64 := by
  rw [← risk_rd (Gd_of hB) (by rw [Int32.toInt_toInt64]; exact hI.2.2.2.1) (by rw [Int32.toInt_toInt64]; exact hI.2.2.2.2), ← mFr_rd, ← hm]
set_option maxHeartbeats 4000000 in
set_option maxRecDepth 100000 in
theorem kX5_in (l : Launch) (D : va_G) (cI cB : ClassId) (tE tN : Nat) (v : Int32) (lo : Int32) (hi : Int32) (sz : Nat)  : zI l yX5_in wsX5_in ({ frames := 0, cells := 0, slots := 0, locals := 0 }) D cI cB tE tN [.int v, .int lo, .int hi] [] sz (fun u : Unit => []) (fun (r : Int32) (u : Unit) => r = b2i (cIn v lo hi)) 0 0 := by
  refine zI_mk (cc := cX5_in) (maxL := 3) (rt := .boolean) (by decide) rfl (Nat.le_of_ble_eq_true rfl) ?_
  intro p e s m below meth c A Q ls S0 hname hA hK hP hD hT hS hQ hl
  obtain ⟨hx, hb, hml, hown, hts⟩ := id S0
  have hl : lv_has ls 3 [(0, .int v), (1, .int lo), (2, .int hi)] := hl
  refine lv_iload_n hx hb dX5_in_0 rfl (lv_at hl 0 rfl) ?_
  refine lv_iload_n hx hb dX5_in_1 rfl (lv_at hl 1 rfl) ?_
  refine lv_icmp_lt (tgt := 14) hx hb dX5_in_2 (by decide) (fun c_1 => ?_) (fun c_1 => ?_)
  · skip
    refine lv_iconst (v := 0) hx hb dX5_in_14 (by decide) ?_
    exact hQ 0 () _ _ _ _ (rfl) (by simp [b2i, cIn, c_1]) hP hD hS dX5_in_15
  · skip
    refine lv_iload_n hx hb dX5_in_5 rfl (lv_at hl 0 rfl) ?_
    refine lv_iload_n hx hb dX5_in_6 rfl (lv_at hl 2 rfl) ?_
    refine lv_icmp_gt (tgt := 14) hx hb dX5_in_7 (by decide) (fun c_2 => ?_) (fun c_2 => ?_)
    · skip
      refine lv_iconst (v := 0) hx hb dX5_in_14 (by decide) ?_
      exact hQ 0 () _ _ _ _ (rfl) (by simp [b2i, cIn, c_1, c_2]) hP hD hS dX5_in_15
    · skip
      refine lv_iconst (v := 1) hx hb dX5_in_10 (by decide) ?_
      refine lv_goto (tgt := 15) hx hb dX5_in_11 (by decide) ?_
      exact hQ 1 () _ _ _ _ (rfl) (by simp [b2i, cIn, c_1, c_2]) hP hD hS dX5_in_15

set_option maxHeartbeats 4000000 in
set_option maxRecDepth 100000 in
theorem kX5_isCourse (l : Launch) (D : va_G) (cI cB : ClassId) (tE tN : Nat) (ph : Int32) (ps : Int32) (sz : Nat)  : zI l yX5_isCourse wsX5_isCourse ({ frames := 1, cells := 0, slots := 0, locals := 22 }) D cI cB tE tN [.int ph, .int ps] [] sz (fun u : Unit => []) (fun (r : Int32) (u : Unit) => r = b2i (cCourse ph ps)) 0 0 := by
  refine zI_mk (cc := cX5_isCourse) (maxL := 2) (rt := .boolean) (by decide) rfl (Nat.le_of_ble_eq_true rfl) ?_
  intro p e s m below meth c A Q ls S0 hname hA hK hP hD hT hS hQ hl
  obtain ⟨hx, hb, hml, hown, hts⟩ := id S0
  have hl : lv_has ls 2 [(0, .int ph), (1, .int ps)] := hl
  refine lv_iload_n hx hb dX5_isCourse_0 rfl (lv_at hl 0 rfl) ?_
  refine lv_iconst (v := 0) hx hb dX5_isCourse_1 (by decide) ?_
  refine lv_bipush (v := 15) hx hb dX5_isCourse_2 (by decide) ?_
  refine z_SI (n := 3) (wn := (fun u : Unit => [])) (wr := []) (As := [.int ph, .int 0, .int 15]) (rest := []) ⟨hx, hb, hml, hown, hts⟩ hK hP hD hS hA hT (kX5_in l D cI cB tE tN ph 0 15 _ ) gX5_isCourse_X5_in rfl rfl rfl (by decide +kernel) ⟨Nat.le_of_ble_eq_true rfl, Nat.le_of_ble_eq_true rfl⟩ [] [] [] (by decide) rfl rfl (by decide) (by decide) (by decide) (fun u => rfl) rfl hl.1 rfl (Nat.le_of_ble_eq_true rfl) dX5_isCourse_4 ⟨Nat.le_of_ble_eq_true rfl, Nat.le_of_ble_eq_true rfl⟩ (fun r_1 u H locs hw_2 hP hD hS => ?_)
  try dsimp only at hw_2
  have hP : va_P D vwCl [] H := hP
  have hD : va_D A [] := hD
  subst r_1
  refine lv_if_eq (tgt := 24) hx hb dX5_isCourse_7 (by decide) (fun c_3 => ?_) (fun c_3 => ?_)
  · skip
    have c_3 := z_b0 c_3
    refine lv_iconst (v := 0) hx hb dX5_isCourse_24 (by decide) ?_
    exact hQ 0 () _ _ _ _ (rfl) (by rw [cCourse_in2]; simp [b2i, c_3]) hP hD hS dX5_isCourse_25
  · skip
    have c_3 := z_b1 c_3
    refine lv_iload_n hx hb dX5_isCourse_10 rfl (lv_at hl 1 rfl) ?_
    refine lv_iconst (v := 0) hx hb dX5_isCourse_11 (by decide) ?_
    refine lv_bipush (v := 9) hx hb dX5_isCourse_12 (by decide) ?_
    refine z_SI (n := 3) (wn := (fun u : Unit => [])) (wr := []) (As := [.int ps, .int 0, .int 9]) (rest := []) ⟨hx, hb, hml, hown, hts⟩ hK hP hD hS hA hT (kX5_in l D cI cB tE tN ps 0 9 _ ) gX5_isCourse_X5_in rfl rfl rfl (by decide +kernel) ⟨Nat.le_of_ble_eq_true rfl, Nat.le_of_ble_eq_true rfl⟩ [] [] [] (by decide) rfl rfl (by decide) (by decide) (by decide) (fun u => rfl) rfl hl.1 rfl (Nat.le_of_ble_eq_true rfl) dX5_isCourse_14 ⟨Nat.le_of_ble_eq_true rfl, Nat.le_of_ble_eq_true rfl⟩ (fun r_4 u H locs hw_5 hP hD hS => ?_)
    try dsimp only at hw_5
    have hP : va_P D vwCl [] H := hP
    have hD : va_D A [] := hD
    subst r_4
    refine lv_if_eq (tgt := 24) hx hb dX5_isCourse_17 (by decide) (fun c_6 => ?_) (fun c_6 => ?_)
    · skip
      have c_6 := z_b0 c_6
      refine lv_iconst (v := 0) hx hb dX5_isCourse_24 (by decide) ?_
      exact hQ 0 () _ _ _ _ (rfl) (by rw [cCourse_in2]; simp [b2i, c_3, c_6]) hP hD hS dX5_isCourse_25
    · skip
      have c_6 := z_b1 c_6
      refine lv_iconst (v := 1) hx hb dX5_isCourse_20 (by decide) ?_
      refine lv_goto (tgt := 25) hx hb dX5_isCourse_21 (by decide) ?_
      exact hQ 1 () _ _ _ _ (rfl) (by rw [cCourse_in2]; simp [b2i, c_3, c_6]) hP hD hS dX5_isCourse_25

set_option maxHeartbeats 4000000 in
set_option maxRecDepth 100000 in
theorem kX5_isPlace (l : Launch) (D : va_G) (cI cB : ClassId) (tE tN : Nat) (px : Int32) (py : Int32) (sz : Nat)  : zI l yX5_isPlace wsX5_isPlace ({ frames := 1, cells := 0, slots := 0, locals := 22 }) D cI cB tE tN [.int px, .int py] [] sz (fun u : Unit => []) (fun (r : Int32) (u : Unit) => r = b2i (cPlace px && cPlace py)) 0 0 := by
  refine zI_mk (cc := cX5_isPlace) (maxL := 2) (rt := .boolean) (by decide) rfl (Nat.le_of_ble_eq_true rfl) ?_
  intro p e s m below meth c A Q ls S0 hname hA hK hP hD hT hS hQ hl
  obtain ⟨hx, hb, hml, hown, hts⟩ := id S0
  have hl : lv_has ls 2 [(0, .int px), (1, .int py)] := hl
  refine lv_iload_n hx hb dX5_isPlace_0 rfl (lv_at hl 0 rfl) ?_
  refine lv_sipush (v := (-9999)) hx hb dX5_isPlace_1 (by decide) ?_
  refine lv_sipush (v := 9999) hx hb dX5_isPlace_4 (by decide) ?_
  refine z_SI (n := 3) (wn := (fun u : Unit => [])) (wr := []) (As := [.int px, .int (-9999), .int 9999]) (rest := []) ⟨hx, hb, hml, hown, hts⟩ hK hP hD hS hA hT (kX5_in l D cI cB tE tN px (-9999) 9999 _ ) gX5_isPlace_X5_in rfl rfl rfl (by decide +kernel) ⟨Nat.le_of_ble_eq_true rfl, Nat.le_of_ble_eq_true rfl⟩ [] [] [] (by decide) rfl rfl (by decide) (by decide) (by decide) (fun u => rfl) rfl hl.1 rfl (Nat.le_of_ble_eq_true rfl) dX5_isPlace_7 ⟨Nat.le_of_ble_eq_true rfl, Nat.le_of_ble_eq_true rfl⟩ (fun r_1 u H locs hw_2 hP hD hS => ?_)
  try dsimp only at hw_2
  have hP : va_P D vwCl [] H := hP
  have hD : va_D A [] := hD
  subst r_1
  refine lv_if_eq (tgt := 30) hx hb dX5_isPlace_10 (by decide) (fun c_3 => ?_) (fun c_3 => ?_)
  · skip
    have c_3 := z_b0 c_3
    refine lv_iconst (v := 0) hx hb dX5_isPlace_30 (by decide) ?_
    exact hQ 0 () _ _ _ _ (rfl) (by rw [cPlace_in2, cPlace_in2]; simp [b2i, c_3]) hP hD hS dX5_isPlace_31
  · skip
    have c_3 := z_b1 c_3
    refine lv_iload_n hx hb dX5_isPlace_13 rfl (lv_at hl 1 rfl) ?_
    refine lv_sipush (v := (-9999)) hx hb dX5_isPlace_14 (by decide) ?_
    refine lv_sipush (v := 9999) hx hb dX5_isPlace_17 (by decide) ?_
    refine z_SI (n := 3) (wn := (fun u : Unit => [])) (wr := []) (As := [.int py, .int (-9999), .int 9999]) (rest := []) ⟨hx, hb, hml, hown, hts⟩ hK hP hD hS hA hT (kX5_in l D cI cB tE tN py (-9999) 9999 _ ) gX5_isPlace_X5_in rfl rfl rfl (by decide +kernel) ⟨Nat.le_of_ble_eq_true rfl, Nat.le_of_ble_eq_true rfl⟩ [] [] [] (by decide) rfl rfl (by decide) (by decide) (by decide) (fun u => rfl) rfl hl.1 rfl (Nat.le_of_ble_eq_true rfl) dX5_isPlace_20 ⟨Nat.le_of_ble_eq_true rfl, Nat.le_of_ble_eq_true rfl⟩ (fun r_4 u H locs hw_5 hP hD hS => ?_)
    try dsimp only at hw_5
    have hP : va_P D vwCl [] H := hP
    have hD : va_D A [] := hD
    subst r_4
    refine lv_if_eq (tgt := 30) hx hb dX5_isPlace_23 (by decide) (fun c_6 => ?_) (fun c_6 => ?_)
    · skip
      have c_6 := z_b0 c_6
      refine lv_iconst (v := 0) hx hb dX5_isPlace_30 (by decide) ?_
      exact hQ 0 () _ _ _ _ (rfl) (by rw [cPlace_in2, cPlace_in2]; simp [b2i, c_3, c_6]) hP hD hS dX5_isPlace_31
    · skip
      have c_6 := z_b1 c_6
      refine lv_iconst (v := 1) hx hb dX5_isPlace_26 (by decide) ?_
      refine lv_goto (tgt := 31) hx hb dX5_isPlace_27 (by decide) ?_
      exact hQ 1 () _ _ _ _ (rfl) (by rw [cPlace_in2, cPlace_in2]; simp [b2i, c_3, c_6]) hP hD hS dX5_isPlace_31

set_option maxHeartbeats 4000000 in
set_option maxRecDepth 100000 in
theorem kX5_northOf (l : Launch) (D : va_G) (cI cB : ClassId) (tE tN : Nat) (ph : Int32) (kh : Nat) (sz : Nat) (hkh : ph = nI kh) (hkh15 : kh ≤ 15) : zI l yX5_northOf wsX5_northOf ({ frames := 0, cells := 0, slots := 0, locals := 0 }) D cI cB tE tN [.int ph] [] sz (fun u : Unit => []) (fun (r : Int32) (u : Unit) => r = vN ph) 0 0 := by
  refine zI_mk (cc := cX5_northOf) (maxL := 4) (rt := .int) (by decide) rfl (Nat.le_of_ble_eq_true rfl) ?_
  intro p e s m below meth c A Q ls S0 hname hA hK hP hD hT hS hQ hl
  obtain ⟨hx, hb, hml, hown, hts⟩ := id S0
  have hl : lv_has ls 4 [(0, .int ph)] := hl
  subst hkh
  obtain ⟨k, rfl⟩ : ∃ k, k = kh := ⟨_, rfl⟩
  refine lv_iload_n hx hb dX5_northOf_0 rfl (lv_at hl 0 rfl) ?_
  refine lv_bipush (v := 8) hx hb dX5_northOf_1 (by decide) ?_
  refine lv_icmp_le (tgt := 13) hx hb dX5_northOf_3 (by decide) (fun c_1 => ?_) (fun c_1 => ?_)
  · skip
    have c_1 := (z_le (a := k) (b := 8) rfl rfl (by omega) (by omega)).mp c_1
    refine lv_iload_n hx hb dX5_northOf_13 rfl (lv_at hl 0 rfl) ?_
    refine lv_istore_n (lv' := [(1, .int (nI k)), (0, .int (nI k))]) hx hb dX5_northOf_14 rfl hl (by decide) rfl (fun ls hl => ?_)
    refine lv_iload_n hx hb dX5_northOf_15 rfl (lv_at hl 0 rfl) ?_
    refine lv_iconst (v := 4) hx hb dX5_northOf_16 (by decide) ?_
    refine lv_icmp_le (tgt := 27) hx hb dX5_northOf_17 (by decide) (fun c_2 => ?_) (fun c_2 => ?_)
    · skip
      have c_2 := (z_le (a := k) (b := 4) rfl rfl (by omega) (by omega)).mp c_2
      refine lv_iload_n hx hb dX5_northOf_27 rfl (lv_at hl 0 rfl) ?_
      refine lv_istore_n (lv' := [(2, .int (nI k)), (1, .int (nI k)), (0, .int (nI k))]) hx hb dX5_northOf_28 rfl hl (by decide) rfl (fun ls hl => ?_)
      refine lv_iload_n hx hb dX5_northOf_29 rfl (lv_at hl 0 rfl) ?_
      refine lv_if_ne (tgt := 38) hx hb dX5_northOf_30 (by decide) (fun c_3 => ?_) (fun c_3 => ?_)
      · skip
        have c_3 := (z_eqn (a := k) (b := 0) rfl rfl (by omega) (by omega)).mp c_3
        refine lv_iload_n hx hb dX5_northOf_38 rfl (lv_at hl 0 rfl) ?_
        refine lv_iconst (v := 1) hx hb dX5_northOf_39 (by decide) ?_
        refine lv_icmp_ne (tgt := 48) hx hb dX5_northOf_40 (by decide) (fun c_4 => ?_) (fun c_4 => ?_)
        · skip
          have c_4 := (z_eqn (a := k) (b := 1) rfl rfl (by omega) (by omega)).mp c_4
          refine lv_iload_n hx hb dX5_northOf_48 rfl (lv_at hl 0 rfl) ?_
          refine lv_iconst (v := 2) hx hb dX5_northOf_49 (by decide) ?_
          refine lv_icmp_ne (tgt := 58) hx hb dX5_northOf_50 (by decide) (fun c_5 => ?_) (fun c_5 => ?_)
          · skip
            have c_5 := (z_eqn (a := k) (b := 2) rfl rfl (by omega) (by omega)).mp c_5
            refine lv_iload_n hx hb dX5_northOf_58 rfl (lv_at hl 0 rfl) ?_
            refine lv_iconst (v := 3) hx hb dX5_northOf_59 (by decide) ?_
            refine lv_icmp_ne (tgt := 67) hx hb dX5_northOf_60 (by decide) (fun c_6 => ?_) (fun c_6 => ?_)
            · skip
              have c_6 := (z_eqn (a := k) (b := 3) rfl rfl (by omega) (by omega)).mp c_6
              refine lv_iconst (v := 0) hx hb dX5_northOf_67 (by decide) ?_
              refine lv_istore_n (lv' := [(3, .int 0), (2, .int (nI k)), (1, .int (nI k)), (0, .int (nI k))]) hx hb dX5_northOf_68 rfl hl (by decide) rfl (fun ls hl => ?_)
              refine lv_iload_n hx hb dX5_northOf_69 rfl (lv_at hl 2 rfl) ?_
              refine lv_iconst (v := 4) hx hb dX5_northOf_70 (by decide) ?_
              refine lv_icmp_le (tgt := 79) hx hb dX5_northOf_71 (by decide) (fun c_7 => ?_) (fun c_7 => ?_)
              · skip
                have c_7 := (z_le (a := k) (b := 4) rfl rfl (by omega) (by omega)).mp c_7
                refine lv_iload_n hx hb dX5_northOf_79 rfl (lv_at hl 0 rfl) ?_
                exact hQ 0 () _ _ _ _ (rfl) ((by decide +kernel : ∀ k : Fin 16, (k.val ≤ 8) → (k.val ≤ 4) → (k.val ≠ 0) → (k.val ≠ 1) → (k.val ≠ 2) → (k.val ≠ 3) → (k.val ≤ 4) → (0 : Int32) = vN (nI k.val)) ⟨k, by omega⟩ c_1 c_2 c_3 c_4 c_5 c_6 c_7) hP hD hS dX5_northOf_80
              · skip
                have c_7 := (z_len (a := k) (b := 4) rfl rfl (by omega) (by omega)).mp c_7
                refine lv_iload_n hx hb dX5_northOf_74 rfl (lv_at hl 0 rfl) ?_
                refine lv_ineg hx hb dX5_northOf_75 ?_
                refine lv_goto (tgt := 80) hx hb dX5_northOf_76 (by decide) ?_
                exact hQ (-0) () _ _ _ _ (rfl) ((by decide +kernel : ∀ k : Fin 16, (k.val ≤ 8) → (k.val ≤ 4) → (k.val ≠ 0) → (k.val ≠ 1) → (k.val ≠ 2) → (k.val ≠ 3) → (4 < k.val) → (-0 : Int32) = vN (nI k.val)) ⟨k, by omega⟩ c_1 c_2 c_3 c_4 c_5 c_6 c_7) hP hD hS dX5_northOf_80
            · skip
              have c_6 := (z_eq (a := k) (b := 3) rfl rfl (by omega) (by omega)).mp c_6
              refine lv_iconst (v := 4) hx hb dX5_northOf_63 (by decide) ?_
              refine lv_goto (tgt := 68) hx hb dX5_northOf_64 (by decide) ?_
              refine lv_istore_n (lv' := [(3, .int 4), (2, .int (nI k)), (1, .int (nI k)), (0, .int (nI k))]) hx hb dX5_northOf_68 rfl hl (by decide) rfl (fun ls hl => ?_)
              refine lv_iload_n hx hb dX5_northOf_69 rfl (lv_at hl 2 rfl) ?_
              refine lv_iconst (v := 4) hx hb dX5_northOf_70 (by decide) ?_
              refine lv_icmp_le (tgt := 79) hx hb dX5_northOf_71 (by decide) (fun c_8 => ?_) (fun c_8 => ?_)
              · skip
                have c_8 := (z_le (a := k) (b := 4) rfl rfl (by omega) (by omega)).mp c_8
                refine lv_iload_n hx hb dX5_northOf_79 rfl (lv_at hl 0 rfl) ?_
                exact hQ 4 () _ _ _ _ (rfl) ((by decide +kernel : ∀ k : Fin 16, (k.val ≤ 8) → (k.val ≤ 4) → (k.val ≠ 0) → (k.val ≠ 1) → (k.val ≠ 2) → (k.val = 3) → (k.val ≤ 4) → (4 : Int32) = vN (nI k.val)) ⟨k, by omega⟩ c_1 c_2 c_3 c_4 c_5 c_6 c_8) hP hD hS dX5_northOf_80
              · skip
                have c_8 := (z_len (a := k) (b := 4) rfl rfl (by omega) (by omega)).mp c_8
                refine lv_iload_n hx hb dX5_northOf_74 rfl (lv_at hl 0 rfl) ?_
                refine lv_ineg hx hb dX5_northOf_75 ?_
                refine lv_goto (tgt := 80) hx hb dX5_northOf_76 (by decide) ?_
                exact hQ (-4) () _ _ _ _ (rfl) ((by decide +kernel : ∀ k : Fin 16, (k.val ≤ 8) → (k.val ≤ 4) → (k.val ≠ 0) → (k.val ≠ 1) → (k.val ≠ 2) → (k.val = 3) → (4 < k.val) → (-4 : Int32) = vN (nI k.val)) ⟨k, by omega⟩ c_1 c_2 c_3 c_4 c_5 c_6 c_8) hP hD hS dX5_northOf_80
          · skip
            have c_5 := (z_eq (a := k) (b := 2) rfl rfl (by omega) (by omega)).mp c_5
            refine lv_bipush (v := 7) hx hb dX5_northOf_53 (by decide) ?_
            refine lv_goto (tgt := 68) hx hb dX5_northOf_55 (by decide) ?_
            refine lv_istore_n (lv' := [(3, .int 7), (2, .int (nI k)), (1, .int (nI k)), (0, .int (nI k))]) hx hb dX5_northOf_68 rfl hl (by decide) rfl (fun ls hl => ?_)
            refine lv_iload_n hx hb dX5_northOf_69 rfl (lv_at hl 2 rfl) ?_
            refine lv_iconst (v := 4) hx hb dX5_northOf_70 (by decide) ?_
            refine lv_icmp_le (tgt := 79) hx hb dX5_northOf_71 (by decide) (fun c_9 => ?_) (fun c_9 => ?_)
            · skip
              have c_9 := (z_le (a := k) (b := 4) rfl rfl (by omega) (by omega)).mp c_9
              refine lv_iload_n hx hb dX5_northOf_79 rfl (lv_at hl 0 rfl) ?_
              exact hQ 7 () _ _ _ _ (rfl) ((by decide +kernel : ∀ k : Fin 16, (k.val ≤ 8) → (k.val ≤ 4) → (k.val ≠ 0) → (k.val ≠ 1) → (k.val = 2) → (k.val ≤ 4) → (7 : Int32) = vN (nI k.val)) ⟨k, by omega⟩ c_1 c_2 c_3 c_4 c_5 c_9) hP hD hS dX5_northOf_80
            · skip
              have c_9 := (z_len (a := k) (b := 4) rfl rfl (by omega) (by omega)).mp c_9
              refine lv_iload_n hx hb dX5_northOf_74 rfl (lv_at hl 0 rfl) ?_
              refine lv_ineg hx hb dX5_northOf_75 ?_
              refine lv_goto (tgt := 80) hx hb dX5_northOf_76 (by decide) ?_
              exact hQ (-7) () _ _ _ _ (rfl) ((by decide +kernel : ∀ k : Fin 16, (k.val ≤ 8) → (k.val ≤ 4) → (k.val ≠ 0) → (k.val ≠ 1) → (k.val = 2) → (4 < k.val) → (-7 : Int32) = vN (nI k.val)) ⟨k, by omega⟩ c_1 c_2 c_3 c_4 c_5 c_9) hP hD hS dX5_northOf_80
        · skip
          have c_4 := (z_eq (a := k) (b := 1) rfl rfl (by omega) (by omega)).mp c_4
          refine lv_bipush (v := 9) hx hb dX5_northOf_43 (by decide) ?_
          refine lv_goto (tgt := 68) hx hb dX5_northOf_45 (by decide) ?_
          refine lv_istore_n (lv' := [(3, .int 9), (2, .int (nI k)), (1, .int (nI k)), (0, .int (nI k))]) hx hb dX5_northOf_68 rfl hl (by decide) rfl (fun ls hl => ?_)
          refine lv_iload_n hx hb dX5_northOf_69 rfl (lv_at hl 2 rfl) ?_
          refine lv_iconst (v := 4) hx hb dX5_northOf_70 (by decide) ?_
          refine lv_icmp_le (tgt := 79) hx hb dX5_northOf_71 (by decide) (fun c_10 => ?_) (fun c_10 => ?_)
          · skip
            have c_10 := (z_le (a := k) (b := 4) rfl rfl (by omega) (by omega)).mp c_10
            refine lv_iload_n hx hb dX5_northOf_79 rfl (lv_at hl 0 rfl) ?_
            exact hQ 9 () _ _ _ _ (rfl) ((by decide +kernel : ∀ k : Fin 16, (k.val ≤ 8) → (k.val ≤ 4) → (k.val ≠ 0) → (k.val = 1) → (k.val ≤ 4) → (9 : Int32) = vN (nI k.val)) ⟨k, by omega⟩ c_1 c_2 c_3 c_4 c_10) hP hD hS dX5_northOf_80
          · skip
            have c_10 := (z_len (a := k) (b := 4) rfl rfl (by omega) (by omega)).mp c_10
            refine lv_iload_n hx hb dX5_northOf_74 rfl (lv_at hl 0 rfl) ?_
            refine lv_ineg hx hb dX5_northOf_75 ?_
            refine lv_goto (tgt := 80) hx hb dX5_northOf_76 (by decide) ?_
            exact hQ (-9) () _ _ _ _ (rfl) ((by decide +kernel : ∀ k : Fin 16, (k.val ≤ 8) → (k.val ≤ 4) → (k.val ≠ 0) → (k.val = 1) → (4 < k.val) → (-9 : Int32) = vN (nI k.val)) ⟨k, by omega⟩ c_1 c_2 c_3 c_4 c_10) hP hD hS dX5_northOf_80
      · skip
        have c_3 := (z_eq (a := k) (b := 0) rfl rfl (by omega) (by omega)).mp c_3
        refine lv_bipush (v := 10) hx hb dX5_northOf_33 (by decide) ?_
        refine lv_goto (tgt := 68) hx hb dX5_northOf_35 (by decide) ?_
        refine lv_istore_n (lv' := [(3, .int 10), (2, .int (nI k)), (1, .int (nI k)), (0, .int (nI k))]) hx hb dX5_northOf_68 rfl hl (by decide) rfl (fun ls hl => ?_)
        refine lv_iload_n hx hb dX5_northOf_69 rfl (lv_at hl 2 rfl) ?_
        refine lv_iconst (v := 4) hx hb dX5_northOf_70 (by decide) ?_
        refine lv_icmp_le (tgt := 79) hx hb dX5_northOf_71 (by decide) (fun c_11 => ?_) (fun c_11 => ?_)
        · skip
          have c_11 := (z_le (a := k) (b := 4) rfl rfl (by omega) (by omega)).mp c_11
          refine lv_iload_n hx hb dX5_northOf_79 rfl (lv_at hl 0 rfl) ?_
          exact hQ 10 () _ _ _ _ (rfl) ((by decide +kernel : ∀ k : Fin 16, (k.val ≤ 8) → (k.val ≤ 4) → (k.val = 0) → (k.val ≤ 4) → (10 : Int32) = vN (nI k.val)) ⟨k, by omega⟩ c_1 c_2 c_3 c_11) hP hD hS dX5_northOf_80
        · skip
          have c_11 := (z_len (a := k) (b := 4) rfl rfl (by omega) (by omega)).mp c_11
          refine lv_iload_n hx hb dX5_northOf_74 rfl (lv_at hl 0 rfl) ?_
          refine lv_ineg hx hb dX5_northOf_75 ?_
          refine lv_goto (tgt := 80) hx hb dX5_northOf_76 (by decide) ?_
          exact hQ (-10) () _ _ _ _ (rfl) ((by decide +kernel : ∀ k : Fin 16, (k.val ≤ 8) → (k.val ≤ 4) → (k.val = 0) → (4 < k.val) → (-10 : Int32) = vN (nI k.val)) ⟨k, by omega⟩ c_1 c_2 c_3 c_11) hP hD hS dX5_northOf_80
    · skip
      have c_2 := (z_len (a := k) (b := 4) rfl rfl (by omega) (by omega)).mp c_2
      refine lv_bipush (v := 8) hx hb dX5_northOf_20 (by decide) ?_
      refine lv_iload_n hx hb dX5_northOf_22 rfl (lv_at hl 0 rfl) ?_
      refine lv_isub hx hb dX5_northOf_23 ?_
      refine z_topi (x := 8 - (nI k)) (y := nI (8 - k)) (z_sub (a := 8) (by omega)) ?_
      refine lv_goto (tgt := 28) hx hb dX5_northOf_24 (by decide) ?_
      refine lv_istore_n (lv' := [(2, .int (nI (8 - k))), (1, .int (nI k)), (0, .int (nI k))]) hx hb dX5_northOf_28 rfl hl (by decide) rfl (fun ls hl => ?_)
      refine lv_iload_n hx hb dX5_northOf_29 rfl (lv_at hl 0 rfl) ?_
      refine lv_if_ne (tgt := 38) hx hb dX5_northOf_30 (by decide) (fun c_12 => ?_) (fun c_12 => ?_)
      · skip
        have c_12 := (z_eqn (a := 8 - k) (b := 0) rfl rfl (by omega) (by omega)).mp c_12
        refine lv_iload_n hx hb dX5_northOf_38 rfl (lv_at hl 0 rfl) ?_
        refine lv_iconst (v := 1) hx hb dX5_northOf_39 (by decide) ?_
        refine lv_icmp_ne (tgt := 48) hx hb dX5_northOf_40 (by decide) (fun c_13 => ?_) (fun c_13 => ?_)
        · skip
          have c_13 := (z_eqn (a := 8 - k) (b := 1) rfl rfl (by omega) (by omega)).mp c_13
          refine lv_iload_n hx hb dX5_northOf_48 rfl (lv_at hl 0 rfl) ?_
          refine lv_iconst (v := 2) hx hb dX5_northOf_49 (by decide) ?_
          refine lv_icmp_ne (tgt := 58) hx hb dX5_northOf_50 (by decide) (fun c_14 => ?_) (fun c_14 => ?_)
          · skip
            have c_14 := (z_eqn (a := 8 - k) (b := 2) rfl rfl (by omega) (by omega)).mp c_14
            refine lv_iload_n hx hb dX5_northOf_58 rfl (lv_at hl 0 rfl) ?_
            refine lv_iconst (v := 3) hx hb dX5_northOf_59 (by decide) ?_
            refine lv_icmp_ne (tgt := 67) hx hb dX5_northOf_60 (by decide) (fun c_15 => ?_) (fun c_15 => ?_)
            · skip
              have c_15 := (z_eqn (a := 8 - k) (b := 3) rfl rfl (by omega) (by omega)).mp c_15
              refine lv_iconst (v := 0) hx hb dX5_northOf_67 (by decide) ?_
              refine lv_istore_n (lv' := [(3, .int 0), (2, .int (nI (8 - k))), (1, .int (nI k)), (0, .int (nI k))]) hx hb dX5_northOf_68 rfl hl (by decide) rfl (fun ls hl => ?_)
              refine lv_iload_n hx hb dX5_northOf_69 rfl (lv_at hl 2 rfl) ?_
              refine lv_iconst (v := 4) hx hb dX5_northOf_70 (by decide) ?_
              refine lv_icmp_le (tgt := 79) hx hb dX5_northOf_71 (by decide) (fun c_16 => ?_) (fun c_16 => ?_)
              · skip
                have c_16 := (z_le (a := k) (b := 4) rfl rfl (by omega) (by omega)).mp c_16
                refine lv_iload_n hx hb dX5_northOf_79 rfl (lv_at hl 0 rfl) ?_
                exact hQ 0 () _ _ _ _ (rfl) ((by decide +kernel : ∀ k : Fin 16, (k.val ≤ 8) → (4 < k.val) → (8 - k.val ≠ 0) → (8 - k.val ≠ 1) → (8 - k.val ≠ 2) → (8 - k.val ≠ 3) → (k.val ≤ 4) → (0 : Int32) = vN (nI k.val)) ⟨k, by omega⟩ c_1 c_2 c_12 c_13 c_14 c_15 c_16) hP hD hS dX5_northOf_80
              · skip
                have c_16 := (z_len (a := k) (b := 4) rfl rfl (by omega) (by omega)).mp c_16
                refine lv_iload_n hx hb dX5_northOf_74 rfl (lv_at hl 0 rfl) ?_
                refine lv_ineg hx hb dX5_northOf_75 ?_
                refine lv_goto (tgt := 80) hx hb dX5_northOf_76 (by decide) ?_
                exact hQ (-0) () _ _ _ _ (rfl) ((by decide +kernel : ∀ k : Fin 16, (k.val ≤ 8) → (4 < k.val) → (8 - k.val ≠ 0) → (8 - k.val ≠ 1) → (8 - k.val ≠ 2) → (8 - k.val ≠ 3) → (4 < k.val) → (-0 : Int32) = vN (nI k.val)) ⟨k, by omega⟩ c_1 c_2 c_12 c_13 c_14 c_15 c_16) hP hD hS dX5_northOf_80
            · skip
              have c_15 := (z_eq (a := 8 - k) (b := 3) rfl rfl (by omega) (by omega)).mp c_15
              refine lv_iconst (v := 4) hx hb dX5_northOf_63 (by decide) ?_
              refine lv_goto (tgt := 68) hx hb dX5_northOf_64 (by decide) ?_
              refine lv_istore_n (lv' := [(3, .int 4), (2, .int (nI (8 - k))), (1, .int (nI k)), (0, .int (nI k))]) hx hb dX5_northOf_68 rfl hl (by decide) rfl (fun ls hl => ?_)
              refine lv_iload_n hx hb dX5_northOf_69 rfl (lv_at hl 2 rfl) ?_
              refine lv_iconst (v := 4) hx hb dX5_northOf_70 (by decide) ?_
              refine lv_icmp_le (tgt := 79) hx hb dX5_northOf_71 (by decide) (fun c_17 => ?_) (fun c_17 => ?_)
              · skip
                have c_17 := (z_le (a := k) (b := 4) rfl rfl (by omega) (by omega)).mp c_17
                refine lv_iload_n hx hb dX5_northOf_79 rfl (lv_at hl 0 rfl) ?_
                exact hQ 4 () _ _ _ _ (rfl) ((by decide +kernel : ∀ k : Fin 16, (k.val ≤ 8) → (4 < k.val) → (8 - k.val ≠ 0) → (8 - k.val ≠ 1) → (8 - k.val ≠ 2) → (8 - k.val = 3) → (k.val ≤ 4) → (4 : Int32) = vN (nI k.val)) ⟨k, by omega⟩ c_1 c_2 c_12 c_13 c_14 c_15 c_17) hP hD hS dX5_northOf_80
              · skip
                have c_17 := (z_len (a := k) (b := 4) rfl rfl (by omega) (by omega)).mp c_17
                refine lv_iload_n hx hb dX5_northOf_74 rfl (lv_at hl 0 rfl) ?_
                refine lv_ineg hx hb dX5_northOf_75 ?_
                refine lv_goto (tgt := 80) hx hb dX5_northOf_76 (by decide) ?_
                exact hQ (-4) () _ _ _ _ (rfl) ((by decide +kernel : ∀ k : Fin 16, (k.val ≤ 8) → (4 < k.val) → (8 - k.val ≠ 0) → (8 - k.val ≠ 1) → (8 - k.val ≠ 2) → (8 - k.val = 3) → (4 < k.val) → (-4 : Int32) = vN (nI k.val)) ⟨k, by omega⟩ c_1 c_2 c_12 c_13 c_14 c_15 c_17) hP hD hS dX5_northOf_80
          · skip
            have c_14 := (z_eq (a := 8 - k) (b := 2) rfl rfl (by omega) (by omega)).mp c_14
            refine lv_bipush (v := 7) hx hb dX5_northOf_53 (by decide) ?_
            refine lv_goto (tgt := 68) hx hb dX5_northOf_55 (by decide) ?_
            refine lv_istore_n (lv' := [(3, .int 7), (2, .int (nI (8 - k))), (1, .int (nI k)), (0, .int (nI k))]) hx hb dX5_northOf_68 rfl hl (by decide) rfl (fun ls hl => ?_)
            refine lv_iload_n hx hb dX5_northOf_69 rfl (lv_at hl 2 rfl) ?_
            refine lv_iconst (v := 4) hx hb dX5_northOf_70 (by decide) ?_
            refine lv_icmp_le (tgt := 79) hx hb dX5_northOf_71 (by decide) (fun c_18 => ?_) (fun c_18 => ?_)
            · skip
              have c_18 := (z_le (a := k) (b := 4) rfl rfl (by omega) (by omega)).mp c_18
              refine lv_iload_n hx hb dX5_northOf_79 rfl (lv_at hl 0 rfl) ?_
              exact hQ 7 () _ _ _ _ (rfl) ((by decide +kernel : ∀ k : Fin 16, (k.val ≤ 8) → (4 < k.val) → (8 - k.val ≠ 0) → (8 - k.val ≠ 1) → (8 - k.val = 2) → (k.val ≤ 4) → (7 : Int32) = vN (nI k.val)) ⟨k, by omega⟩ c_1 c_2 c_12 c_13 c_14 c_18) hP hD hS dX5_northOf_80
            · skip
              have c_18 := (z_len (a := k) (b := 4) rfl rfl (by omega) (by omega)).mp c_18
              refine lv_iload_n hx hb dX5_northOf_74 rfl (lv_at hl 0 rfl) ?_
              refine lv_ineg hx hb dX5_northOf_75 ?_
              refine lv_goto (tgt := 80) hx hb dX5_northOf_76 (by decide) ?_
              exact hQ (-7) () _ _ _ _ (rfl) ((by decide +kernel : ∀ k : Fin 16, (k.val ≤ 8) → (4 < k.val) → (8 - k.val ≠ 0) → (8 - k.val ≠ 1) → (8 - k.val = 2) → (4 < k.val) → (-7 : Int32) = vN (nI k.val)) ⟨k, by omega⟩ c_1 c_2 c_12 c_13 c_14 c_18) hP hD hS dX5_northOf_80
        · skip
          have c_13 := (z_eq (a := 8 - k) (b := 1) rfl rfl (by omega) (by omega)).mp c_13
          refine lv_bipush (v := 9) hx hb dX5_northOf_43 (by decide) ?_
          refine lv_goto (tgt := 68) hx hb dX5_northOf_45 (by decide) ?_
          refine lv_istore_n (lv' := [(3, .int 9), (2, .int (nI (8 - k))), (1, .int (nI k)), (0, .int (nI k))]) hx hb dX5_northOf_68 rfl hl (by decide) rfl (fun ls hl => ?_)
          refine lv_iload_n hx hb dX5_northOf_69 rfl (lv_at hl 2 rfl) ?_
          refine lv_iconst (v := 4) hx hb dX5_northOf_70 (by decide) ?_
          refine lv_icmp_le (tgt := 79) hx hb dX5_northOf_71 (by decide) (fun c_19 => ?_) (fun c_19 => ?_)
          · skip
            have c_19 := (z_le (a := k) (b := 4) rfl rfl (by omega) (by omega)).mp c_19
            refine lv_iload_n hx hb dX5_northOf_79 rfl (lv_at hl 0 rfl) ?_
            exact hQ 9 () _ _ _ _ (rfl) ((by decide +kernel : ∀ k : Fin 16, (k.val ≤ 8) → (4 < k.val) → (8 - k.val ≠ 0) → (8 - k.val = 1) → (k.val ≤ 4) → (9 : Int32) = vN (nI k.val)) ⟨k, by omega⟩ c_1 c_2 c_12 c_13 c_19) hP hD hS dX5_northOf_80
          · skip
            have c_19 := (z_len (a := k) (b := 4) rfl rfl (by omega) (by omega)).mp c_19
            refine lv_iload_n hx hb dX5_northOf_74 rfl (lv_at hl 0 rfl) ?_
            refine lv_ineg hx hb dX5_northOf_75 ?_
            refine lv_goto (tgt := 80) hx hb dX5_northOf_76 (by decide) ?_
            exact hQ (-9) () _ _ _ _ (rfl) ((by decide +kernel : ∀ k : Fin 16, (k.val ≤ 8) → (4 < k.val) → (8 - k.val ≠ 0) → (8 - k.val = 1) → (4 < k.val) → (-9 : Int32) = vN (nI k.val)) ⟨k, by omega⟩ c_1 c_2 c_12 c_13 c_19) hP hD hS dX5_northOf_80
      · skip
        have c_12 := (z_eq (a := 8 - k) (b := 0) rfl rfl (by omega) (by omega)).mp c_12
        refine lv_bipush (v := 10) hx hb dX5_northOf_33 (by decide) ?_
        refine lv_goto (tgt := 68) hx hb dX5_northOf_35 (by decide) ?_
        refine lv_istore_n (lv' := [(3, .int 10), (2, .int (nI (8 - k))), (1, .int (nI k)), (0, .int (nI k))]) hx hb dX5_northOf_68 rfl hl (by decide) rfl (fun ls hl => ?_)
        refine lv_iload_n hx hb dX5_northOf_69 rfl (lv_at hl 2 rfl) ?_
        refine lv_iconst (v := 4) hx hb dX5_northOf_70 (by decide) ?_
        refine lv_icmp_le (tgt := 79) hx hb dX5_northOf_71 (by decide) (fun c_20 => ?_) (fun c_20 => ?_)
        · skip
          have c_20 := (z_le (a := k) (b := 4) rfl rfl (by omega) (by omega)).mp c_20
          refine lv_iload_n hx hb dX5_northOf_79 rfl (lv_at hl 0 rfl) ?_
          exact hQ 10 () _ _ _ _ (rfl) ((by decide +kernel : ∀ k : Fin 16, (k.val ≤ 8) → (4 < k.val) → (8 - k.val = 0) → (k.val ≤ 4) → (10 : Int32) = vN (nI k.val)) ⟨k, by omega⟩ c_1 c_2 c_12 c_20) hP hD hS dX5_northOf_80
        · skip
          have c_20 := (z_len (a := k) (b := 4) rfl rfl (by omega) (by omega)).mp c_20
          refine lv_iload_n hx hb dX5_northOf_74 rfl (lv_at hl 0 rfl) ?_
          refine lv_ineg hx hb dX5_northOf_75 ?_
          refine lv_goto (tgt := 80) hx hb dX5_northOf_76 (by decide) ?_
          exact hQ (-10) () _ _ _ _ (rfl) ((by decide +kernel : ∀ k : Fin 16, (k.val ≤ 8) → (4 < k.val) → (8 - k.val = 0) → (4 < k.val) → (-10 : Int32) = vN (nI k.val)) ⟨k, by omega⟩ c_1 c_2 c_12 c_20) hP hD hS dX5_northOf_80
  · skip
    have c_1 := (z_len (a := k) (b := 8) rfl rfl (by omega) (by omega)).mp c_1
    refine lv_bipush (v := 16) hx hb dX5_northOf_6 (by decide) ?_
    refine lv_iload_n hx hb dX5_northOf_8 rfl (lv_at hl 0 rfl) ?_
    refine lv_isub hx hb dX5_northOf_9 ?_
    refine z_topi (x := 16 - (nI k)) (y := nI (16 - k)) (z_sub (a := 16) (by omega)) ?_
    refine lv_goto (tgt := 14) hx hb dX5_northOf_10 (by decide) ?_
    refine lv_istore_n (lv' := [(1, .int (nI (16 - k))), (0, .int (nI k))]) hx hb dX5_northOf_14 rfl hl (by decide) rfl (fun ls hl => ?_)
    refine lv_iload_n hx hb dX5_northOf_15 rfl (lv_at hl 0 rfl) ?_
    refine lv_iconst (v := 4) hx hb dX5_northOf_16 (by decide) ?_
    refine lv_icmp_le (tgt := 27) hx hb dX5_northOf_17 (by decide) (fun c_21 => ?_) (fun c_21 => ?_)
    · skip
      have c_21 := (z_le (a := 16 - k) (b := 4) rfl rfl (by omega) (by omega)).mp c_21
      refine lv_iload_n hx hb dX5_northOf_27 rfl (lv_at hl 0 rfl) ?_
      refine lv_istore_n (lv' := [(2, .int (nI (16 - k))), (1, .int (nI (16 - k))), (0, .int (nI k))]) hx hb dX5_northOf_28 rfl hl (by decide) rfl (fun ls hl => ?_)
      refine lv_iload_n hx hb dX5_northOf_29 rfl (lv_at hl 0 rfl) ?_
      refine lv_if_ne (tgt := 38) hx hb dX5_northOf_30 (by decide) (fun c_22 => ?_) (fun c_22 => ?_)
      · skip
        have c_22 := (z_eqn (a := 16 - k) (b := 0) rfl rfl (by omega) (by omega)).mp c_22
        refine lv_iload_n hx hb dX5_northOf_38 rfl (lv_at hl 0 rfl) ?_
        refine lv_iconst (v := 1) hx hb dX5_northOf_39 (by decide) ?_
        refine lv_icmp_ne (tgt := 48) hx hb dX5_northOf_40 (by decide) (fun c_23 => ?_) (fun c_23 => ?_)
        · skip
          have c_23 := (z_eqn (a := 16 - k) (b := 1) rfl rfl (by omega) (by omega)).mp c_23
          refine lv_iload_n hx hb dX5_northOf_48 rfl (lv_at hl 0 rfl) ?_
          refine lv_iconst (v := 2) hx hb dX5_northOf_49 (by decide) ?_
          refine lv_icmp_ne (tgt := 58) hx hb dX5_northOf_50 (by decide) (fun c_24 => ?_) (fun c_24 => ?_)
          · skip
            have c_24 := (z_eqn (a := 16 - k) (b := 2) rfl rfl (by omega) (by omega)).mp c_24
            refine lv_iload_n hx hb dX5_northOf_58 rfl (lv_at hl 0 rfl) ?_
            refine lv_iconst (v := 3) hx hb dX5_northOf_59 (by decide) ?_
            refine lv_icmp_ne (tgt := 67) hx hb dX5_northOf_60 (by decide) (fun c_25 => ?_) (fun c_25 => ?_)
            · skip
              have c_25 := (z_eqn (a := 16 - k) (b := 3) rfl rfl (by omega) (by omega)).mp c_25
              refine lv_iconst (v := 0) hx hb dX5_northOf_67 (by decide) ?_
              refine lv_istore_n (lv' := [(3, .int 0), (2, .int (nI (16 - k))), (1, .int (nI (16 - k))), (0, .int (nI k))]) hx hb dX5_northOf_68 rfl hl (by decide) rfl (fun ls hl => ?_)
              refine lv_iload_n hx hb dX5_northOf_69 rfl (lv_at hl 2 rfl) ?_
              refine lv_iconst (v := 4) hx hb dX5_northOf_70 (by decide) ?_
              refine lv_icmp_le (tgt := 79) hx hb dX5_northOf_71 (by decide) (fun c_26 => ?_) (fun c_26 => ?_)
              · skip
                have c_26 := (z_le (a := 16 - k) (b := 4) rfl rfl (by omega) (by omega)).mp c_26
                refine lv_iload_n hx hb dX5_northOf_79 rfl (lv_at hl 0 rfl) ?_
                exact hQ 0 () _ _ _ _ (rfl) ((by decide +kernel : ∀ k : Fin 16, (8 < k.val) → (16 - k.val ≤ 4) → (16 - k.val ≠ 0) → (16 - k.val ≠ 1) → (16 - k.val ≠ 2) → (16 - k.val ≠ 3) → (16 - k.val ≤ 4) → (0 : Int32) = vN (nI k.val)) ⟨k, by omega⟩ c_1 c_21 c_22 c_23 c_24 c_25 c_26) hP hD hS dX5_northOf_80
              · skip
                have c_26 := (z_len (a := 16 - k) (b := 4) rfl rfl (by omega) (by omega)).mp c_26
                refine lv_iload_n hx hb dX5_northOf_74 rfl (lv_at hl 0 rfl) ?_
                refine lv_ineg hx hb dX5_northOf_75 ?_
                refine lv_goto (tgt := 80) hx hb dX5_northOf_76 (by decide) ?_
                exact hQ (-0) () _ _ _ _ (rfl) ((by decide +kernel : ∀ k : Fin 16, (8 < k.val) → (16 - k.val ≤ 4) → (16 - k.val ≠ 0) → (16 - k.val ≠ 1) → (16 - k.val ≠ 2) → (16 - k.val ≠ 3) → (4 < 16 - k.val) → (-0 : Int32) = vN (nI k.val)) ⟨k, by omega⟩ c_1 c_21 c_22 c_23 c_24 c_25 c_26) hP hD hS dX5_northOf_80
            · skip
              have c_25 := (z_eq (a := 16 - k) (b := 3) rfl rfl (by omega) (by omega)).mp c_25
              refine lv_iconst (v := 4) hx hb dX5_northOf_63 (by decide) ?_
              refine lv_goto (tgt := 68) hx hb dX5_northOf_64 (by decide) ?_
              refine lv_istore_n (lv' := [(3, .int 4), (2, .int (nI (16 - k))), (1, .int (nI (16 - k))), (0, .int (nI k))]) hx hb dX5_northOf_68 rfl hl (by decide) rfl (fun ls hl => ?_)
              refine lv_iload_n hx hb dX5_northOf_69 rfl (lv_at hl 2 rfl) ?_
              refine lv_iconst (v := 4) hx hb dX5_northOf_70 (by decide) ?_
              refine lv_icmp_le (tgt := 79) hx hb dX5_northOf_71 (by decide) (fun c_27 => ?_) (fun c_27 => ?_)
              · skip
                have c_27 := (z_le (a := 16 - k) (b := 4) rfl rfl (by omega) (by omega)).mp c_27
                refine lv_iload_n hx hb dX5_northOf_79 rfl (lv_at hl 0 rfl) ?_
                exact hQ 4 () _ _ _ _ (rfl) ((by decide +kernel : ∀ k : Fin 16, (8 < k.val) → (16 - k.val ≤ 4) → (16 - k.val ≠ 0) → (16 - k.val ≠ 1) → (16 - k.val ≠ 2) → (16 - k.val = 3) → (16 - k.val ≤ 4) → (4 : Int32) = vN (nI k.val)) ⟨k, by omega⟩ c_1 c_21 c_22 c_23 c_24 c_25 c_27) hP hD hS dX5_northOf_80
              · skip
                have c_27 := (z_len (a := 16 - k) (b := 4) rfl rfl (by omega) (by omega)).mp c_27
                refine lv_iload_n hx hb dX5_northOf_74 rfl (lv_at hl 0 rfl) ?_
                refine lv_ineg hx hb dX5_northOf_75 ?_
                refine lv_goto (tgt := 80) hx hb dX5_northOf_76 (by decide) ?_
                exact hQ (-4) () _ _ _ _ (rfl) ((by decide +kernel : ∀ k : Fin 16, (8 < k.val) → (16 - k.val ≤ 4) → (16 - k.val ≠ 0) → (16 - k.val ≠ 1) → (16 - k.val ≠ 2) → (16 - k.val = 3) → (4 < 16 - k.val) → (-4 : Int32) = vN (nI k.val)) ⟨k, by omega⟩ c_1 c_21 c_22 c_23 c_24 c_25 c_27) hP hD hS dX5_northOf_80
          · skip
            have c_24 := (z_eq (a := 16 - k) (b := 2) rfl rfl (by omega) (by omega)).mp c_24
            refine lv_bipush (v := 7) hx hb dX5_northOf_53 (by decide) ?_
            refine lv_goto (tgt := 68) hx hb dX5_northOf_55 (by decide) ?_
            refine lv_istore_n (lv' := [(3, .int 7), (2, .int (nI (16 - k))), (1, .int (nI (16 - k))), (0, .int (nI k))]) hx hb dX5_northOf_68 rfl hl (by decide) rfl (fun ls hl => ?_)
            refine lv_iload_n hx hb dX5_northOf_69 rfl (lv_at hl 2 rfl) ?_
            refine lv_iconst (v := 4) hx hb dX5_northOf_70 (by decide) ?_
            refine lv_icmp_le (tgt := 79) hx hb dX5_northOf_71 (by decide) (fun c_28 => ?_) (fun c_28 => ?_)
            · skip
              have c_28 := (z_le (a := 16 - k) (b := 4) rfl rfl (by omega) (by omega)).mp c_28
              refine lv_iload_n hx hb dX5_northOf_79 rfl (lv_at hl 0 rfl) ?_
              exact hQ 7 () _ _ _ _ (rfl) ((by decide +kernel : ∀ k : Fin 16, (8 < k.val) → (16 - k.val ≤ 4) → (16 - k.val ≠ 0) → (16 - k.val ≠ 1) → (16 - k.val = 2) → (16 - k.val ≤ 4) → (7 : Int32) = vN (nI k.val)) ⟨k, by omega⟩ c_1 c_21 c_22 c_23 c_24 c_28) hP hD hS dX5_northOf_80
            · skip
              have c_28 := (z_len (a := 16 - k) (b := 4) rfl rfl (by omega) (by omega)).mp c_28
              refine lv_iload_n hx hb dX5_northOf_74 rfl (lv_at hl 0 rfl) ?_
              refine lv_ineg hx hb dX5_northOf_75 ?_
              refine lv_goto (tgt := 80) hx hb dX5_northOf_76 (by decide) ?_
              exact hQ (-7) () _ _ _ _ (rfl) ((by decide +kernel : ∀ k : Fin 16, (8 < k.val) → (16 - k.val ≤ 4) → (16 - k.val ≠ 0) → (16 - k.val ≠ 1) → (16 - k.val = 2) → (4 < 16 - k.val) → (-7 : Int32) = vN (nI k.val)) ⟨k, by omega⟩ c_1 c_21 c_22 c_23 c_24 c_28) hP hD hS dX5_northOf_80
        · skip
          have c_23 := (z_eq (a := 16 - k) (b := 1) rfl rfl (by omega) (by omega)).mp c_23
          refine lv_bipush (v := 9) hx hb dX5_northOf_43 (by decide) ?_
          refine lv_goto (tgt := 68) hx hb dX5_northOf_45 (by decide) ?_
          refine lv_istore_n (lv' := [(3, .int 9), (2, .int (nI (16 - k))), (1, .int (nI (16 - k))), (0, .int (nI k))]) hx hb dX5_northOf_68 rfl hl (by decide) rfl (fun ls hl => ?_)
          refine lv_iload_n hx hb dX5_northOf_69 rfl (lv_at hl 2 rfl) ?_
          refine lv_iconst (v := 4) hx hb dX5_northOf_70 (by decide) ?_
          refine lv_icmp_le (tgt := 79) hx hb dX5_northOf_71 (by decide) (fun c_29 => ?_) (fun c_29 => ?_)
          · skip
            have c_29 := (z_le (a := 16 - k) (b := 4) rfl rfl (by omega) (by omega)).mp c_29
            refine lv_iload_n hx hb dX5_northOf_79 rfl (lv_at hl 0 rfl) ?_
            exact hQ 9 () _ _ _ _ (rfl) ((by decide +kernel : ∀ k : Fin 16, (8 < k.val) → (16 - k.val ≤ 4) → (16 - k.val ≠ 0) → (16 - k.val = 1) → (16 - k.val ≤ 4) → (9 : Int32) = vN (nI k.val)) ⟨k, by omega⟩ c_1 c_21 c_22 c_23 c_29) hP hD hS dX5_northOf_80
          · skip
            have c_29 := (z_len (a := 16 - k) (b := 4) rfl rfl (by omega) (by omega)).mp c_29
            refine lv_iload_n hx hb dX5_northOf_74 rfl (lv_at hl 0 rfl) ?_
            refine lv_ineg hx hb dX5_northOf_75 ?_
            refine lv_goto (tgt := 80) hx hb dX5_northOf_76 (by decide) ?_
            exact hQ (-9) () _ _ _ _ (rfl) ((by decide +kernel : ∀ k : Fin 16, (8 < k.val) → (16 - k.val ≤ 4) → (16 - k.val ≠ 0) → (16 - k.val = 1) → (4 < 16 - k.val) → (-9 : Int32) = vN (nI k.val)) ⟨k, by omega⟩ c_1 c_21 c_22 c_23 c_29) hP hD hS dX5_northOf_80
      · skip
        have c_22 := (z_eq (a := 16 - k) (b := 0) rfl rfl (by omega) (by omega)).mp c_22
        refine lv_bipush (v := 10) hx hb dX5_northOf_33 (by decide) ?_
        refine lv_goto (tgt := 68) hx hb dX5_northOf_35 (by decide) ?_
        refine lv_istore_n (lv' := [(3, .int 10), (2, .int (nI (16 - k))), (1, .int (nI (16 - k))), (0, .int (nI k))]) hx hb dX5_northOf_68 rfl hl (by decide) rfl (fun ls hl => ?_)
        refine lv_iload_n hx hb dX5_northOf_69 rfl (lv_at hl 2 rfl) ?_
        refine lv_iconst (v := 4) hx hb dX5_northOf_70 (by decide) ?_
        refine lv_icmp_le (tgt := 79) hx hb dX5_northOf_71 (by decide) (fun c_30 => ?_) (fun c_30 => ?_)
        · skip
          have c_30 := (z_le (a := 16 - k) (b := 4) rfl rfl (by omega) (by omega)).mp c_30
          refine lv_iload_n hx hb dX5_northOf_79 rfl (lv_at hl 0 rfl) ?_
          exact hQ 10 () _ _ _ _ (rfl) ((by decide +kernel : ∀ k : Fin 16, (8 < k.val) → (16 - k.val ≤ 4) → (16 - k.val = 0) → (16 - k.val ≤ 4) → (10 : Int32) = vN (nI k.val)) ⟨k, by omega⟩ c_1 c_21 c_22 c_30) hP hD hS dX5_northOf_80
        · skip
          have c_30 := (z_len (a := 16 - k) (b := 4) rfl rfl (by omega) (by omega)).mp c_30
          refine lv_iload_n hx hb dX5_northOf_74 rfl (lv_at hl 0 rfl) ?_
          refine lv_ineg hx hb dX5_northOf_75 ?_
          refine lv_goto (tgt := 80) hx hb dX5_northOf_76 (by decide) ?_
          exact hQ (-10) () _ _ _ _ (rfl) ((by decide +kernel : ∀ k : Fin 16, (8 < k.val) → (16 - k.val ≤ 4) → (16 - k.val = 0) → (4 < 16 - k.val) → (-10 : Int32) = vN (nI k.val)) ⟨k, by omega⟩ c_1 c_21 c_22 c_30) hP hD hS dX5_northOf_80
    · skip
      have c_21 := (z_len (a := 16 - k) (b := 4) rfl rfl (by omega) (by omega)).mp c_21
      refine lv_bipush (v := 8) hx hb dX5_northOf_20 (by decide) ?_
      refine lv_iload_n hx hb dX5_northOf_22 rfl (lv_at hl 0 rfl) ?_
      refine lv_isub hx hb dX5_northOf_23 ?_
      refine z_topi (x := 8 - (nI (16 - k))) (y := nI (8 - (16 - k))) (z_sub (a := 8) (by omega)) ?_
      refine lv_goto (tgt := 28) hx hb dX5_northOf_24 (by decide) ?_
      refine lv_istore_n (lv' := [(2, .int (nI (8 - (16 - k)))), (1, .int (nI (16 - k))), (0, .int (nI k))]) hx hb dX5_northOf_28 rfl hl (by decide) rfl (fun ls hl => ?_)
      refine lv_iload_n hx hb dX5_northOf_29 rfl (lv_at hl 0 rfl) ?_
      refine lv_if_ne (tgt := 38) hx hb dX5_northOf_30 (by decide) (fun c_31 => ?_) (fun c_31 => ?_)
      · skip
        have c_31 := (z_eqn (a := 8 - (16 - k)) (b := 0) rfl rfl (by omega) (by omega)).mp c_31
        refine lv_iload_n hx hb dX5_northOf_38 rfl (lv_at hl 0 rfl) ?_
        refine lv_iconst (v := 1) hx hb dX5_northOf_39 (by decide) ?_
        refine lv_icmp_ne (tgt := 48) hx hb dX5_northOf_40 (by decide) (fun c_32 => ?_) (fun c_32 => ?_)
        · skip
          have c_32 := (z_eqn (a := 8 - (16 - k)) (b := 1) rfl rfl (by omega) (by omega)).mp c_32
          refine lv_iload_n hx hb dX5_northOf_48 rfl (lv_at hl 0 rfl) ?_
          refine lv_iconst (v := 2) hx hb dX5_northOf_49 (by decide) ?_
          refine lv_icmp_ne (tgt := 58) hx hb dX5_northOf_50 (by decide) (fun c_33 => ?_) (fun c_33 => ?_)
          · skip
            have c_33 := (z_eqn (a := 8 - (16 - k)) (b := 2) rfl rfl (by omega) (by omega)).mp c_33
            refine lv_iload_n hx hb dX5_northOf_58 rfl (lv_at hl 0 rfl) ?_
            refine lv_iconst (v := 3) hx hb dX5_northOf_59 (by decide) ?_
            refine lv_icmp_ne (tgt := 67) hx hb dX5_northOf_60 (by decide) (fun c_34 => ?_) (fun c_34 => ?_)
            · skip
              have c_34 := (z_eqn (a := 8 - (16 - k)) (b := 3) rfl rfl (by omega) (by omega)).mp c_34
              refine lv_iconst (v := 0) hx hb dX5_northOf_67 (by decide) ?_
              refine lv_istore_n (lv' := [(3, .int 0), (2, .int (nI (8 - (16 - k)))), (1, .int (nI (16 - k))), (0, .int (nI k))]) hx hb dX5_northOf_68 rfl hl (by decide) rfl (fun ls hl => ?_)
              refine lv_iload_n hx hb dX5_northOf_69 rfl (lv_at hl 2 rfl) ?_
              refine lv_iconst (v := 4) hx hb dX5_northOf_70 (by decide) ?_
              refine lv_icmp_le (tgt := 79) hx hb dX5_northOf_71 (by decide) (fun c_35 => ?_) (fun c_35 => ?_)
              · skip
                have c_35 := (z_le (a := 16 - k) (b := 4) rfl rfl (by omega) (by omega)).mp c_35
                refine lv_iload_n hx hb dX5_northOf_79 rfl (lv_at hl 0 rfl) ?_
                exact hQ 0 () _ _ _ _ (rfl) ((by decide +kernel : ∀ k : Fin 16, (8 < k.val) → (4 < 16 - k.val) → (8 - (16 - k.val) ≠ 0) → (8 - (16 - k.val) ≠ 1) → (8 - (16 - k.val) ≠ 2) → (8 - (16 - k.val) ≠ 3) → (16 - k.val ≤ 4) → (0 : Int32) = vN (nI k.val)) ⟨k, by omega⟩ c_1 c_21 c_31 c_32 c_33 c_34 c_35) hP hD hS dX5_northOf_80
              · skip
                have c_35 := (z_len (a := 16 - k) (b := 4) rfl rfl (by omega) (by omega)).mp c_35
                refine lv_iload_n hx hb dX5_northOf_74 rfl (lv_at hl 0 rfl) ?_
                refine lv_ineg hx hb dX5_northOf_75 ?_
                refine lv_goto (tgt := 80) hx hb dX5_northOf_76 (by decide) ?_
                exact hQ (-0) () _ _ _ _ (rfl) ((by decide +kernel : ∀ k : Fin 16, (8 < k.val) → (4 < 16 - k.val) → (8 - (16 - k.val) ≠ 0) → (8 - (16 - k.val) ≠ 1) → (8 - (16 - k.val) ≠ 2) → (8 - (16 - k.val) ≠ 3) → (4 < 16 - k.val) → (-0 : Int32) = vN (nI k.val)) ⟨k, by omega⟩ c_1 c_21 c_31 c_32 c_33 c_34 c_35) hP hD hS dX5_northOf_80
            · skip
              have c_34 := (z_eq (a := 8 - (16 - k)) (b := 3) rfl rfl (by omega) (by omega)).mp c_34
              refine lv_iconst (v := 4) hx hb dX5_northOf_63 (by decide) ?_
              refine lv_goto (tgt := 68) hx hb dX5_northOf_64 (by decide) ?_
              refine lv_istore_n (lv' := [(3, .int 4), (2, .int (nI (8 - (16 - k)))), (1, .int (nI (16 - k))), (0, .int (nI k))]) hx hb dX5_northOf_68 rfl hl (by decide) rfl (fun ls hl => ?_)
              refine lv_iload_n hx hb dX5_northOf_69 rfl (lv_at hl 2 rfl) ?_
              refine lv_iconst (v := 4) hx hb dX5_northOf_70 (by decide) ?_
              refine lv_icmp_le (tgt := 79) hx hb dX5_northOf_71 (by decide) (fun c_36 => ?_) (fun c_36 => ?_)
              · skip
                have c_36 := (z_le (a := 16 - k) (b := 4) rfl rfl (by omega) (by omega)).mp c_36
                refine lv_iload_n hx hb dX5_northOf_79 rfl (lv_at hl 0 rfl) ?_
                exact hQ 4 () _ _ _ _ (rfl) ((by decide +kernel : ∀ k : Fin 16, (8 < k.val) → (4 < 16 - k.val) → (8 - (16 - k.val) ≠ 0) → (8 - (16 - k.val) ≠ 1) → (8 - (16 - k.val) ≠ 2) → (8 - (16 - k.val) = 3) → (16 - k.val ≤ 4) → (4 : Int32) = vN (nI k.val)) ⟨k, by omega⟩ c_1 c_21 c_31 c_32 c_33 c_34 c_36) hP hD hS dX5_northOf_80
              · skip
                have c_36 := (z_len (a := 16 - k) (b := 4) rfl rfl (by omega) (by omega)).mp c_36
                refine lv_iload_n hx hb dX5_northOf_74 rfl (lv_at hl 0 rfl) ?_
                refine lv_ineg hx hb dX5_northOf_75 ?_
                refine lv_goto (tgt := 80) hx hb dX5_northOf_76 (by decide) ?_
                exact hQ (-4) () _ _ _ _ (rfl) ((by decide +kernel : ∀ k : Fin 16, (8 < k.val) → (4 < 16 - k.val) → (8 - (16 - k.val) ≠ 0) → (8 - (16 - k.val) ≠ 1) → (8 - (16 - k.val) ≠ 2) → (8 - (16 - k.val) = 3) → (4 < 16 - k.val) → (-4 : Int32) = vN (nI k.val)) ⟨k, by omega⟩ c_1 c_21 c_31 c_32 c_33 c_34 c_36) hP hD hS dX5_northOf_80
          · skip
            have c_33 := (z_eq (a := 8 - (16 - k)) (b := 2) rfl rfl (by omega) (by omega)).mp c_33
            refine lv_bipush (v := 7) hx hb dX5_northOf_53 (by decide) ?_
            refine lv_goto (tgt := 68) hx hb dX5_northOf_55 (by decide) ?_
            refine lv_istore_n (lv' := [(3, .int 7), (2, .int (nI (8 - (16 - k)))), (1, .int (nI (16 - k))), (0, .int (nI k))]) hx hb dX5_northOf_68 rfl hl (by decide) rfl (fun ls hl => ?_)
            refine lv_iload_n hx hb dX5_northOf_69 rfl (lv_at hl 2 rfl) ?_
            refine lv_iconst (v := 4) hx hb dX5_northOf_70 (by decide) ?_
            refine lv_icmp_le (tgt := 79) hx hb dX5_northOf_71 (by decide) (fun c_37 => ?_) (fun c_37 => ?_)
            · skip
              have c_37 := (z_le (a := 16 - k) (b := 4) rfl rfl (by omega) (by omega)).mp c_37
              refine lv_iload_n hx hb dX5_northOf_79 rfl (lv_at hl 0 rfl) ?_
              exact hQ 7 () _ _ _ _ (rfl) ((by decide +kernel : ∀ k : Fin 16, (8 < k.val) → (4 < 16 - k.val) → (8 - (16 - k.val) ≠ 0) → (8 - (16 - k.val) ≠ 1) → (8 - (16 - k.val) = 2) → (16 - k.val ≤ 4) → (7 : Int32) = vN (nI k.val)) ⟨k, by omega⟩ c_1 c_21 c_31 c_32 c_33 c_37) hP hD hS dX5_northOf_80
            · skip
              have c_37 := (z_len (a := 16 - k) (b := 4) rfl rfl (by omega) (by omega)).mp c_37
              refine lv_iload_n hx hb dX5_northOf_74 rfl (lv_at hl 0 rfl) ?_
              refine lv_ineg hx hb dX5_northOf_75 ?_
              refine lv_goto (tgt := 80) hx hb dX5_northOf_76 (by decide) ?_
              exact hQ (-7) () _ _ _ _ (rfl) ((by decide +kernel : ∀ k : Fin 16, (8 < k.val) → (4 < 16 - k.val) → (8 - (16 - k.val) ≠ 0) → (8 - (16 - k.val) ≠ 1) → (8 - (16 - k.val) = 2) → (4 < 16 - k.val) → (-7 : Int32) = vN (nI k.val)) ⟨k, by omega⟩ c_1 c_21 c_31 c_32 c_33 c_37) hP hD hS dX5_northOf_80
        · skip
          have c_32 := (z_eq (a := 8 - (16 - k)) (b := 1) rfl rfl (by omega) (by omega)).mp c_32
          refine lv_bipush (v := 9) hx hb dX5_northOf_43 (by decide) ?_
          refine lv_goto (tgt := 68) hx hb dX5_northOf_45 (by decide) ?_
          refine lv_istore_n (lv' := [(3, .int 9), (2, .int (nI (8 - (16 - k)))), (1, .int (nI (16 - k))), (0, .int (nI k))]) hx hb dX5_northOf_68 rfl hl (by decide) rfl (fun ls hl => ?_)
          refine lv_iload_n hx hb dX5_northOf_69 rfl (lv_at hl 2 rfl) ?_
          refine lv_iconst (v := 4) hx hb dX5_northOf_70 (by decide) ?_
          refine lv_icmp_le (tgt := 79) hx hb dX5_northOf_71 (by decide) (fun c_38 => ?_) (fun c_38 => ?_)
          · skip
            have c_38 := (z_le (a := 16 - k) (b := 4) rfl rfl (by omega) (by omega)).mp c_38
            refine lv_iload_n hx hb dX5_northOf_79 rfl (lv_at hl 0 rfl) ?_
            exact hQ 9 () _ _ _ _ (rfl) ((by decide +kernel : ∀ k : Fin 16, (8 < k.val) → (4 < 16 - k.val) → (8 - (16 - k.val) ≠ 0) → (8 - (16 - k.val) = 1) → (16 - k.val ≤ 4) → (9 : Int32) = vN (nI k.val)) ⟨k, by omega⟩ c_1 c_21 c_31 c_32 c_38) hP hD hS dX5_northOf_80
          · skip
            have c_38 := (z_len (a := 16 - k) (b := 4) rfl rfl (by omega) (by omega)).mp c_38
            refine lv_iload_n hx hb dX5_northOf_74 rfl (lv_at hl 0 rfl) ?_
            refine lv_ineg hx hb dX5_northOf_75 ?_
            refine lv_goto (tgt := 80) hx hb dX5_northOf_76 (by decide) ?_
            exact hQ (-9) () _ _ _ _ (rfl) ((by decide +kernel : ∀ k : Fin 16, (8 < k.val) → (4 < 16 - k.val) → (8 - (16 - k.val) ≠ 0) → (8 - (16 - k.val) = 1) → (4 < 16 - k.val) → (-9 : Int32) = vN (nI k.val)) ⟨k, by omega⟩ c_1 c_21 c_31 c_32 c_38) hP hD hS dX5_northOf_80
      · skip
        have c_31 := (z_eq (a := 8 - (16 - k)) (b := 0) rfl rfl (by omega) (by omega)).mp c_31
        refine lv_bipush (v := 10) hx hb dX5_northOf_33 (by decide) ?_
        refine lv_goto (tgt := 68) hx hb dX5_northOf_35 (by decide) ?_
        refine lv_istore_n (lv' := [(3, .int 10), (2, .int (nI (8 - (16 - k)))), (1, .int (nI (16 - k))), (0, .int (nI k))]) hx hb dX5_northOf_68 rfl hl (by decide) rfl (fun ls hl => ?_)
        refine lv_iload_n hx hb dX5_northOf_69 rfl (lv_at hl 2 rfl) ?_
        refine lv_iconst (v := 4) hx hb dX5_northOf_70 (by decide) ?_
        refine lv_icmp_le (tgt := 79) hx hb dX5_northOf_71 (by decide) (fun c_39 => ?_) (fun c_39 => ?_)
        · skip
          have c_39 := (z_le (a := 16 - k) (b := 4) rfl rfl (by omega) (by omega)).mp c_39
          refine lv_iload_n hx hb dX5_northOf_79 rfl (lv_at hl 0 rfl) ?_
          exact hQ 10 () _ _ _ _ (rfl) ((by decide +kernel : ∀ k : Fin 16, (8 < k.val) → (4 < 16 - k.val) → (8 - (16 - k.val) = 0) → (16 - k.val ≤ 4) → (10 : Int32) = vN (nI k.val)) ⟨k, by omega⟩ c_1 c_21 c_31 c_39) hP hD hS dX5_northOf_80
        · skip
          have c_39 := (z_len (a := 16 - k) (b := 4) rfl rfl (by omega) (by omega)).mp c_39
          refine lv_iload_n hx hb dX5_northOf_74 rfl (lv_at hl 0 rfl) ?_
          refine lv_ineg hx hb dX5_northOf_75 ?_
          refine lv_goto (tgt := 80) hx hb dX5_northOf_76 (by decide) ?_
          exact hQ (-10) () _ _ _ _ (rfl) ((by decide +kernel : ∀ k : Fin 16, (8 < k.val) → (4 < 16 - k.val) → (8 - (16 - k.val) = 0) → (4 < 16 - k.val) → (-10 : Int32) = vN (nI k.val)) ⟨k, by omega⟩ c_1 c_21 c_31 c_39) hP hD hS dX5_northOf_80

set_option maxHeartbeats 4000000 in
set_option maxRecDepth 100000 in
theorem kX5_eastOf (l : Launch) (D : va_G) (cI cB : ClassId) (tE tN : Nat) (ph : Int32) (kh : Nat) (sz : Nat) (hkh : ph = nI kh) (hkh15 : kh ≤ 15) : zI l yX5_eastOf wsX5_eastOf ({ frames := 1, cells := 0, slots := 0, locals := 23 }) D cI cB tE tN [.int ph] [] sz (fun u : Unit => []) (fun (r : Int32) (u : Unit) => r = vE ph) 0 0 := by
  refine zI_mk (cc := cX5_eastOf) (maxL := 1) (rt := .int) (by decide) rfl (Nat.le_of_ble_eq_true rfl) ?_
  intro p e s m below meth c A Q ls S0 hname hA hK hP hD hT hS hQ hl
  obtain ⟨hx, hb, hml, hown, hts⟩ := id S0
  have hl : lv_has ls 1 [(0, .int ph)] := hl
  subst hkh
  refine lv_iload_n hx hb dX5_eastOf_0 rfl (lv_at hl 0 rfl) ?_
  refine lv_bipush (v := 12) hx hb dX5_eastOf_1 (by decide) ?_
  refine lv_iadd hx hb dX5_eastOf_3 ?_
  refine lv_bipush (v := 16) hx hb dX5_eastOf_4 (by decide) ?_
  refine lv_irem hx hb dX5_eastOf_6 (by decide) ?_
  refine z_topi (x := ((nI kh) + 12) - ((nI kh) + 12) / 16 * 16) (y := nI ((kh + 12) % 16)) (z_rem (z_add rfl rfl) rfl (by omega) (by omega) (by omega)) ?_
  refine z_SI (n := 1) (wn := (fun u : Unit => [])) (wr := []) (As := [.int (nI ((kh + 12) % 16))]) (rest := []) ⟨hx, hb, hml, hown, hts⟩ hK hP hD hS hA hT (kX5_northOf l D cI cB tE tN (nI ((kh + 12) % 16)) ((kh + 12) % 16) _ (rfl) (by omega)) gX5_eastOf_X5_northOf rfl rfl rfl (by decide +kernel) ⟨Nat.le_of_ble_eq_true rfl, Nat.le_of_ble_eq_true rfl⟩ [] [] [] (by decide) rfl rfl (by decide) (by decide) (by decide) (fun u => rfl) rfl hl.1 rfl (Nat.le_of_ble_eq_true rfl) dX5_eastOf_7 ⟨Nat.le_of_ble_eq_true rfl, Nat.le_of_ble_eq_true rfl⟩ (fun r_1 u H locs hw_2 hP hD hS => ?_)
  try dsimp only at hw_2
  have hP : va_P D vwCl [] H := hP
  have hD : va_D A [] := hD
  subst r_1
  exact hQ (vN (nI ((kh + 12) % 16))) () _ _ _ _ (rfl) (vE_vN kh hkh15) hP hD hS dX5_eastOf_10
