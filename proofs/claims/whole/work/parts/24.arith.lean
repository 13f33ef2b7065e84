/-! numbers without overflow -/
theorem ab_mul {a b A B : Int} (h1 : -A ≤ a) (h2 : a ≤ A) (h3 : -B ≤ b) (h4 : b ≤ B) : -(A * B) ≤ a * b ∧ a * b ≤ A * B := by
  have hA : 0 ≤ A := by omega
  have hB : 0 ≤ B := by omega
  have hP : 0 ≤ A * B := Int.mul_nonneg hA hB
  have h : (a * b).natAbs ≤ (A * B).natAbs := by
    rw [Int.natAbs_mul, Int.natAbs_mul]
    exact Nat.mul_le_mul (by omega) (by omega)
  omega
theorem w_mul {x y : Int64} (h1 : -9223372036854775808 ≤ x.toInt * y.toInt) (h2 : x.toInt * y.toInt < 9223372036854775808) : (x * y).toInt = x.toInt * y.toInt := by
  rw [Int64.toInt_mul]; exact Int.bmod_eq_of_le_mul_two (by omega) (by omega)
theorem w_add {x y : Int64} (h1 : -9223372036854775808 ≤ x.toInt + y.toInt) (h2 : x.toInt + y.toInt < 9223372036854775808) : (x + y).toInt = x.toInt + y.toInt := by
  rw [Int64.toInt_add]; exact Int.bmod_eq_of_le_mul_two (by omega) (by omega)
theorem w_sub {x y : Int64} (h1 : -9223372036854775808 ≤ x.toInt - y.toInt) (h2 : x.toInt - y.toInt < 9223372036854775808) : (x - y).toInt = x.toInt - y.toInt := by
  rw [Int64.toInt_sub]; exact Int.bmod_eq_of_le_mul_two (by omega) (by omega)
theorem w_neg {x : Int64} (h1 : -9223372036854775808 < x.toInt) : (-x).toInt = -x.toInt := by
  have := x.toInt_lt
  rw [Int64.toInt_neg]; exact Int.bmod_eq_of_le_mul_two (by omega) (by omega)
theorem i_mul {x y : Int32} (h1 : -2147483648 ≤ x.toInt * y.toInt) (h2 : x.toInt * y.toInt < 2147483648) : (x * y).toInt = x.toInt * y.toInt := by
  rw [Int32.toInt_mul]; exact Int.bmod_eq_of_le_mul_two (by omega) (by omega)
theorem i_add {x y : Int32} (h1 : -2147483648 ≤ x.toInt + y.toInt) (h2 : x.toInt + y.toInt < 2147483648) : (x + y).toInt = x.toInt + y.toInt := by
  rw [Int32.toInt_add]; exact Int.bmod_eq_of_le_mul_two (by omega) (by omega)
theorem i_sub {x y : Int32} (h1 : -2147483648 ≤ x.toInt - y.toInt) (h2 : x.toInt - y.toInt < 2147483648) : (x - y).toInt = x.toInt - y.toInt := by
  rw [Int32.toInt_sub]; exact Int.bmod_eq_of_le_mul_two (by omega) (by omega)
theorem w_0 : (0 : Int64).toInt = 0 := rfl
theorem w_1 : (1 : Int64).toInt = 1 := rfl
/-- the rest of a division, as the machine has it, of numbers that aren't below 0 -/
theorem w_rem {x y : Int64} (hx : 0 ≤ x.toInt) (hy : 0 < y.toInt) : (x - x / y * y).toInt = x.toInt % y.toInt := by
  have hq : (x / y).toInt = x.toInt / y.toInt := by
    rw [Int64.toInt_div_of_ne_right _ _ (fun e => by rw [e] at hy; exact absurd hy (by decide)), Int.tdiv_eq_ediv_of_nonneg hx]
  have h1 := Int.mul_ediv_add_emod x.toInt y.toInt
  have h2 := Int.emod_nonneg x.toInt (show y.toInt ≠ 0 by omega)
  have h3 : 0 ≤ x.toInt / y.toInt := Int.ediv_nonneg hx (by omega)
  have h4 : 0 ≤ y.toInt * (x.toInt / y.toInt) := Int.mul_nonneg (by omega) h3
  have hlt := x.toInt_lt
  have hm : (x / y * y).toInt = y.toInt * (x.toInt / y.toInt) := by
    rw [w_mul (by rw [hq, Int.mul_comm]; omega) (by rw [hq, Int.mul_comm]; omega), hq, Int.mul_comm]
  rw [w_sub (by rw [hm]; omega) (by rw [hm]; omega), hm]
  omega
def gcN (x y : Int64) : Nat := Nat.gcd x.toInt.toNat y.toInt.toNat
theorem mod_nat {a b : Int} (ha : 0 ≤ a) (hb : 0 < b) : a.toNat % b.toNat = (a % b).toNat := by
  obtain ⟨m, rfl⟩ := Int.eq_ofNat_of_zero_le ha
  obtain ⟨n, rfl⟩ := Int.eq_ofNat_of_zero_le (Int.le_of_lt hb)
  rfl
theorem gcN_step {x y : Int64} (hx : 0 ≤ x.toInt) (hy : 0 < y.toInt) : gcN x y = gcN y (x - x / y * y) := by
  rw [gcN, gcN, w_rem hx hy, ← mod_nat hx hy, Nat.gcd_comm, Nat.gcd_rec, Nat.gcd_comm]
theorem sdF_gc : ∀ (k n : Nat) (x y : Int64), 2 * k + 1 ≤ n → 0 ≤ x.toInt → 0 ≤ y.toInt → y.toInt < 2 ^ k → ((sdF n x y).toInt = (gcN x y : Int)) := by
  intro k
  induction k with
  | zero =>
    intro n x y hn hx hy h
    have e : y = 0 := Int64.toInt_inj.mp (by rw [w_0]; omega)
    subst e
    rw [sdF_zero rfl, gcN]
    rw [show (0 : Int64).toInt.toNat = 0 from rfl, Nat.gcd_zero_right]
    omega
  | succ k ih =>
    intro n x y hn hx hy h
    by_cases e : y = 0
    · subst e
      rw [sdF_zero rfl, gcN]
      rw [show (0 : Int64).toInt.toNat = 0 from rfl, Nat.gcd_zero_right]
      omega
    · have hy1 : 0 < y.toInt := by
        rcases Int.lt_or_eq_of_le hy with q | q
        · exact q
        · exact absurd (Int64.toInt_inj.mp (by rw [w_0]; omega)) e
      obtain ⟨n, rfl⟩ : ∃ m, n = m + 2 := ⟨n - 2, by omega⟩
      rw [sdF, if_neg e, gcN_step hx hy1]
      have hr := w_rem hx hy1
      have hr0 := Int.emod_nonneg x.toInt (show y.toInt ≠ 0 by omega)
      have hr1 := Int.emod_lt_of_pos x.toInt hy1
      generalize x - x / y * y = r at hr ⊢
      rw [← hr] at hr0 hr1
      by_cases e2 : r = 0
      · subst e2
        rw [sdF_zero rfl, gcN]
        rw [show (0 : Int64).toInt.toNat = 0 from rfl, Nat.gcd_zero_right]
        omega
      · have hr2 : 0 < r.toInt := by
          rcases Int.lt_or_eq_of_le hr0 with q | q
          · exact q
          · exact absurd (Int64.toInt_inj.mp (by rw [w_0]; omega)) e2
        rw [sdF, if_neg e2, gcN_step hy hr2]
        have hz := w_rem hy hr2
        have hz0 := Int.emod_nonneg y.toInt (show r.toInt ≠ 0 by omega)
        have hz1 := Int.emod_lt_of_pos y.toInt hr2
        refine ih n r _ (by omega) hr0 (by rw [hz]; exact hz0) ?_
        rw [hz]
        have hp : (2 : Int) ^ (k + 1) = 2 * 2 ^ k := by rw [Int.pow_succ, Int.mul_comm]
        rw [hp] at h
        rcases Int.lt_or_le r.toInt (2 ^ k) with q | q
        · omega
        · have hd := Int.mul_ediv_add_emod y.toInt r.toInt
          have hq1 : 1 ≤ y.toInt / r.toInt := by
            rw [Int.le_ediv_iff_mul_le hr2]; omega
          have : r.toInt * 1 ≤ r.toInt * (y.toInt / r.toInt) := Int.mul_le_mul_of_nonneg_left hq1 (by omega)
          omega
