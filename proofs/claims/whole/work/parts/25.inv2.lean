/-! the steps stay inside -/
theorem spd_in {a s : Int32} (ha : inr a (-10) 10) (hs : inr s 0 9) : (s * a).toInt = s.toInt * a.toInt ∧ -90 ≤ s.toInt * a.toInt ∧ s.toInt * a.toInt ≤ 90 := by
  have h := ab_mul (a := s.toInt) (b := a.toInt) (A := 9) (B := 10) (by have := hs.1; omega) (by have := hs.2; omega) (by have := ha.1; omega) ha.2
  refine ⟨i_mul (by omega) (by omega), by omega, by omega⟩
theorem tv_in {x v : Int32} {t k : Nat} (hx : inr x (-9999) 9999) (hv : -90 ≤ v.toInt ∧ v.toInt ≤ 90) (ht : t ≤ k) (hk : k ≤ 60) : (x + nI t * v).toInt = x.toInt + (t : Int) * v.toInt := by
  have h := ab_mul (a := (t : Int)) (b := v.toInt) (A := 60) (B := 90) (by omega) (by omega) (by omega) (by omega)
  have e : (nI t).toInt = (t : Int) := z_toInt (by omega)
  have h1 := hx.1; have h2 := hx.2
  have m : (nI t * v).toInt = (t : Int) * v.toInt := by rw [← e]; exact i_mul (by rw [e]; omega) (by rw [e]; omega)
  rw [i_add (by rw [m]; omega) (by rw [m]; omega), m]
theorem mid_in {x v : Int} {t k : Nat} (ht : t ≤ k) (h0 : -9999 ≤ x ∧ x ≤ 9999) (h1 : -9999 ≤ x + (k : Int) * v ∧ x + (k : Int) * v ≤ 9999) : -9999 ≤ x + (t : Int) * v ∧ x + (t : Int) * v ≤ 9999 := by
  obtain ⟨d, rfl⟩ : ∃ d, k = t + d := ⟨k - t, by omega⟩
  have e : ((t + d : Nat) : Int) * v = (t : Int) * v + (d : Int) * v := by rw [Int.natCast_add, Int.add_mul]
  rw [e] at h1
  rcases Int.le_total 0 v with q | q
  · have a1 : 0 ≤ (t : Int) * v := Int.mul_nonneg (by omega) q
    have a2 : 0 ≤ (d : Int) * v := Int.mul_nonneg (by omega) q
    omega
  · have a1 : (t : Int) * v ≤ 0 := Int.mul_nonpos_of_nonneg_of_nonpos (by omega) q
    have a2 : (d : Int) * v ≤ 0 := Int.mul_nonpos_of_nonneg_of_nonpos (by omega) q
    omega
theorem goF_in {f : Nat → Int32} {k t : Nat} (hI : Iv f) (hk : k ≤ 60) (ht : t ≤ k) (hst : cStay f (nN f) (nI k) = true) : Iv (goF f (nN f) t) := by
  have h6 := hI.1
  have hh := hI.2.2
  refine Iv.mk (N := nN f) (by rw [goF_ge (by omega)]; exact hI.2.1) h6 (fun i hi => ?_) (by rw [goF_ge (by omega)]; exact hh.2.1) (by rw [goF_ge (by omega)]; exact hh.2.2)
  have hs := hh.1 i hi
  have hp := List.all_eq_true.mp hst i (List.mem_range.mpr (by omega))
  rw [Bool.and_eq_true] at hp
  have g := goF_hs (f := f) (N := nN f) (i := i) t
  have gx := goF_xy (f := f) hi t
  have ve := spd_in (vE_in (f (5 * i + 2))) hs.2.2.2
  have vn := spd_in (vN_in (f (5 * i + 2))) hs.2.2.2
  have e1 : -90 ≤ (cEast f i).toInt ∧ (cEast f i).toInt ≤ 90 := by rw [cEast, ve.1]; exact ve.2
  have e2 : -90 ≤ (cNorth f i).toInt ∧ (cNorth f i).toInt ≤ 90 := by rw [cNorth, vn.1]; exact vn.2
  have p1 := cPlace_in hp.1
  have p2 := cPlace_in hp.2
  rw [inr, tv_in hs.1 e1 (Nat.le_refl k) hk] at p1
  rw [inr, tv_in hs.2.1 e2 (Nat.le_refl k) hk] at p2
  refine ⟨?_, ?_, by rw [g.1]; exact hs.2.2.1, by rw [g.2]; exact hs.2.2.2⟩
  · rw [gx.1, inr, tv_in hs.1 e1 ht hk]; exact mid_in ht hs.1 p1
  · rw [gx.2, inr, tv_in hs.2.1 e2 ht hk]; exact mid_in ht hs.2.1 p2
theorem Iv_go {f f2 : Nat → Int32} {r k : Int32} (hI : Iv f) (e : (r, f2) = cGo f (nN f) k) : Iv f2 := by
  rw [cGo] at e
  by_cases q : ¬ k < 1 ∧ k ≤ 60
  · rw [if_pos q] at e
    by_cases q2 : cStay f (nN f) k = true
    · rw [if_pos q2] at e
      obtain ⟨n, hn, hn2⟩ := z_nat (b := 60) (z_ge0 q.1) q.2 (by decide)
      rw [hn] at q2
      rw [hn, nI_clamp (by omega)] at e
      cases e
      have g := goF_in hI hn2 (Nat.le_refl n) q2
      have h6 := g.1
      exact Iv_congr g (fun j h1 h2 => upd_ne (by omega)) (fun i k hi hk => upd_ne (by omega))
    · rw [if_neg q2] at e; cases e; exact hI
  · rw [if_neg q] at e; cases e; exact hI
def cPerf (f : Nat → Int32) (N : Nat) (kd : Int32) (v : Nat → Int32) : Int32 × (Nat → Int32) :=
  if kd = 97 then cJoin f N (v 0) (v 1) (v 2) (v 3) else if kd = 98 then (cAdv f N 0, cFol f (cAdv f N 0)) else if kd = 110 then cGo f N (v 0)
  else if kd = 111 then cOwn f N (v 0) (v 1) (v 2) (v 3) else if kd = 116 then cSteer f 0 (v 0) (v 1) else cRule f (v 0) (v 1)
theorem Iv_perf {f f2 : Nat → Int32} {r kd : Int32} {v : Nat → Int32} (hI : Iv f) (e : (r, f2) = cPerf f (nN f) kd v) : Iv f2 := by
  rw [cPerf] at e
  by_cases h1 : kd = 97
  · rw [if_pos h1] at e; exact Iv_join hI e
  rw [if_neg h1] at e
  by_cases h2 : kd = 98
  · rw [if_pos h2] at e; cases e; exact Iv_fol hI
  rw [if_neg h2] at e
  by_cases h3 : kd = 110
  · rw [if_pos h3] at e; exact Iv_go hI e
  rw [if_neg h3] at e
  by_cases h4 : kd = 111
  · rw [if_pos h4] at e; exact Iv_own hI e
  rw [if_neg h4] at e
  by_cases h5 : kd = 116
  · rw [if_pos h5] at e; exact Iv_steer hI e
  rw [if_neg h5] at e
  exact Iv_rule hI e
