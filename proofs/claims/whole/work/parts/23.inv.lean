/-! what holds of the cells at every time -/
def nN (f : Nat → Int32) : Nat := (f 35).toNatClampNeg
def inr (v : Int32) (lo hi : Int) : Prop := lo ≤ v.toInt ∧ v.toInt ≤ hi
def Sh (f : Nat → Int32) (i : Nat) : Prop := inr (f (5 * i + 0)) (-9999) 9999 ∧ inr (f (5 * i + 1)) (-9999) 9999 ∧ inr (f (5 * i + 2)) 0 15 ∧ inr (f (5 * i + 3)) 0 9
def Iv (f : Nat → Int32) : Prop := nN f ≤ 6 ∧ f 35 = nI (nN f) ∧ (∀ i, i ≤ nN f → Sh f i) ∧ inr (f 36) 1 999 ∧ inr (f 37) 1 99
theorem nN_of {f : Nat → Int32} {N : Nat} (h : f 35 = nI N) (hN : N ≤ 6) : nN f = N := by rw [nN, h]; exact nI_clamp (by omega)
theorem inr_nat {v : Int32} {hi : Nat} (h : inr v 0 hi) (hb : hi < 2147483648) : ∃ k : Nat, v = nI k ∧ k ≤ hi := by
  refine ⟨v.toInt.toNat, ?_, by have := h.2; omega⟩
  have h1 := h.1; have h2 := h.2
  rw [← Int32.toInt_inj, z_toInt (by omega)]
  omega
theorem inr_of {k hi : Nat} (h : k ≤ hi) (hb : hi < 2147483648) : inr (nI k) 0 hi := by
  rw [inr, z_toInt (by omega)]; omega
theorem Iv.hN {f : Nat → Int32} (h : Iv f) : f 35 = nI (nN f) := h.2.1
theorem Iv.mk {f : Nat → Int32} {N : Nat} (h0 : f 35 = nI N) (hN : N ≤ 6) (h1 : ∀ i, i ≤ N → Sh f i) (h2 : inr (f 36) 1 999) (h3 : inr (f 37) 1 99) : Iv f := by
  have e := nN_of h0 hN
  exact ⟨by omega, by rw [e]; exact h0, by rw [e]; exact h1, h2, h3⟩
theorem Sh_congr {f g : Nat → Int32} {i j : Nat} (h : Sh f i) (q : ∀ k, k < 4 → g (5 * j + k) = f (5 * i + k)) : Sh g j := by
  rw [Sh, q 0 (by omega), q 1 (by omega), q 2 (by omega), q 3 (by omega)]; exact h
theorem Iv_congr {f g : Nat → Int32} (h : Iv f) (q : ∀ j, 35 ≤ j → j < 38 → g j = f j) (q2 : ∀ i k, i ≤ nN f → k < 4 → g (5 * i + k) = f (5 * i + k)) : Iv g :=
  Iv.mk (N := nN f) (by rw [q 35 (by omega) (by omega)]; exact h.2.1) h.1 (fun i hi => Sh_congr (h.2.2.1 i hi) (fun k hk => q2 i k hi hk)) (by rw [q 36 (by omega) (by omega)]; exact h.2.2.2.1) (by rw [q 37 (by omega) (by omega)]; exact h.2.2.2.2)
theorem cPlace_in {v : Int32} (h : cPlace v = true) : inr v (-9999) 9999 := by
  have h := of_decide_eq_true h
  have h1 := Int32.le_iff_toInt_le.mp (Int32.not_lt.mp h.1)
  have h2 := Int32.le_iff_toInt_le.mp (Int32.not_lt.mp h.2)
  exact ⟨h1, h2⟩
theorem cPlace_of {v : Int32} (h : inr v (-9999) 9999) : cPlace v = true := by
  refine decide_eq_true ⟨Int32.not_lt.mpr (Int32.le_iff_toInt_le.mpr h.1), Int32.not_lt.mpr (Int32.le_iff_toInt_le.mpr h.2)⟩
theorem cCourse_in {h s : Int32} (q : cCourse h s = true) : inr h 0 15 ∧ inr s 0 9 := by
  have q := of_decide_eq_true q
  have h1 := Int32.le_iff_toInt_le.mp (Int32.not_lt.mp q.1)
  have h2 := Int32.lt_iff_toInt_lt.mp (Int32.not_le.mp q.2.1)
  have h3 := Int32.le_iff_toInt_le.mp (Int32.not_lt.mp q.2.2.1)
  have h4 := Int32.le_iff_toInt_le.mp (Int32.not_lt.mp q.2.2.2)
  have e : (16 : Int32).toInt = 16 := rfl
  have h1' : (0 : Int) ≤ h.toInt := h1
  have h3' : (0 : Int) ≤ s.toInt := h3
  have h4' : s.toInt ≤ 9 := h4
  exact ⟨⟨h1', by omega⟩, ⟨h3', h4'⟩⟩
theorem putF_at0 {f : Nat → Int32} {n : Nat} {x y h s : Int32} : putF f n x y h s (5 * n + 0) = x := by
  rw [putF, upd_ne (by omega), upd_ne (by omega), upd_ne (by omega), upd_ne (by omega), upd_eq]
theorem putF_at1 {f : Nat → Int32} {n : Nat} {x y h s : Int32} : putF f n x y h s (5 * n + 1) = y := by
  rw [putF, upd_ne (by omega), upd_ne (by omega), upd_ne (by omega), upd_eq]
theorem putF_at2 {f : Nat → Int32} {n : Nat} {x y h s : Int32} : putF f n x y h s (5 * n + 2) = h := by
  rw [putF, upd_ne (by omega), upd_ne (by omega), upd_eq]
theorem putF_at3 {f : Nat → Int32} {n : Nat} {x y h s : Int32} : putF f n x y h s (5 * n + 3) = s := by
  rw [putF, upd_ne (by omega), upd_eq]
theorem putF_at4 {f : Nat → Int32} {n : Nat} {x y h s : Int32} : putF f n x y h s (5 * n + 4) = 0 := by
  rw [putF, upd_eq]
theorem putF_lt {f : Nat → Int32} {n j : Nat} {x y h s : Int32} (q : j < 5 * n) : putF f n x y h s j = f j := by
  rw [putF, upd_ne (by omega), upd_ne (by omega), upd_ne (by omega), upd_ne (by omega), upd_ne (by omega)]
theorem Sh_put {f : Nat → Int32} {n : Nat} {x y h s : Int32} (hx : cPlace x = true) (hy : cPlace y = true) (hc : cCourse h s = true) : Sh (putF f n x y h s) n := by
  rw [Sh, putF_at0, putF_at1, putF_at2, putF_at3]
  exact ⟨cPlace_in hx, cPlace_in hy, (cCourse_in hc).1, (cCourse_in hc).2⟩
theorem Iv_join {f f2 : Nat → Int32} {r x y h s : Int32} (hI : Iv f) (e : (r, f2) = cJoin f (nN f) x y h s) : Iv f2 := by
  rw [cJoin] at e
  split at e
  · next q =>
    split at e
    · next q2 =>
      cases e
      have hh := hI.2.2
      refine Iv.mk (N := nN f + 1) (by rw [putF_ge (by omega), upd_eq]) (by omega) (fun i hi => ?_) ?_ ?_
      · by_cases ei : i = nN f + 1
        · subst ei; exact Sh_put q.1 q.2.1 q.2.2
        · exact Sh_congr (hh.1 i (by omega)) (fun k hk => by rw [putF_lt (by omega), upd_ne (by omega)])
      · rw [putF_ge (by omega), upd_ne (by omega)]; exact hh.2.1
      · rw [putF_ge (by omega), upd_ne (by omega)]; exact hh.2.2
    · cases e; exact hI
  · cases e; exact hI
theorem nodF_ne {f : Nat → Int32} {j : Nat} : ∀ {n : Nat}, (∀ k, ¬ j = 5 * k + 4) → nodF f n j = f j
  | 0, _ => rfl
  | n + 1, q => by rw [nodF, upd_ne (q (n + 1))]; exact nodF_ne q
theorem lkF_ne {f : Nat → Int32} {j : Nat} : ∀ {n : Nat}, (∀ k, ¬ j = 5 * k + 4) → lkF f n j = f j
  | 0, _ => rfl
  | n + 1, q => by rw [lkF, upd_ne (q (n + 1))]; exact lkF_ne q
theorem Iv_own {f f2 : Nat → Int32} {r x y h s : Int32} (hI : Iv f) (e : (r, f2) = cOwn f (nN f) x y h s) : Iv f2 := by
  rw [cOwn] at e
  split at e
  · next q =>
    cases e
    have hh := hI.2.2
    have h6 := hI.1
    refine Iv.mk (N := nN f) (by rw [upd_ne (by omega), nodF_ge (by omega), putF_ge (by omega)]; exact hI.2.1) h6 (fun i hi => ?_) ?_ ?_
    · by_cases ei : i = 0
      · subst ei
        exact Sh_congr (Sh_put (f := f) (n := 0) q.1 q.2.1 q.2.2) (fun k hk => by rw [upd_ne (by omega), nodF_ne (fun z => by omega)])
      · exact Sh_congr (hh.1 i (by omega)) (fun k hk => by rw [upd_ne (by omega), nodF_ne (fun z => by omega), putF_ge (by omega)])
    · rw [upd_ne (by omega), nodF_ge (by omega), putF_ge (by omega)]; exact hh.2.1
    · rw [upd_ne (by omega), nodF_ge (by omega), putF_ge (by omega)]; exact hh.2.2
  · cases e; exact hI
theorem Iv_leave {f f2 : Nat → Int32} {r i : Int32} (hI : Iv f) (e : (r, f2) = cLeave f (nN f) i) : Iv f2 := by
  rw [cLeave] at e
  split at e
  · next q =>
    have h6 := hI.1
    obtain ⟨n, hn, hn1, hn2⟩ := cOther_n hI.2.1 hI.1 q
    rw [hn, nI_clamp (by omega)] at e
    cases e
    have hh := hI.2.2
    refine Iv.mk (N := nN f - 1) (by rw [upd_eq]) (by omega) (fun j hj => ?_) ?_ ?_
    · by_cases ej : j < n
      · exact Sh_congr (hh.1 j (by omega)) (fun k hk => by rw [upd_ne (by omega), pk_cpy_out (by omega)])
      · exact Sh_congr (hh.1 (j + 1) (by omega)) (fun k hk => by rw [upd_ne (by omega), pk_cpy_in (by omega) (by omega)]; congr 1; omega)
    · rw [upd_ne (by omega), pk_cpy_out (by omega)]; exact hh.2.1
    · rw [upd_ne (by omega), pk_cpy_out (by omega)]; exact hh.2.2
  · cases e; exact hI
theorem Sh_turn {f : Nat → Int32} {n : Nat} {h s : Int32} (hS : Sh f n) (hc : cCourse h s = true) : Sh (upd (upd f (5 * n + 2) h) (5 * n + 3) s) n := by
  rw [Sh, upd_eq, upd_ne (show ¬ 5 * n + 0 = 5 * n + 3 by omega), upd_ne (show ¬ 5 * n + 0 = 5 * n + 2 by omega), upd_ne (show ¬ 5 * n + 1 = 5 * n + 3 by omega), upd_ne (show ¬ 5 * n + 1 = 5 * n + 2 by omega), upd_ne (show ¬ 5 * n + 2 = 5 * n + 3 by omega), upd_eq]
  exact ⟨hS.1, hS.2.1, (cCourse_in hc).1, (cCourse_in hc).2⟩
theorem Iv_steer {f f2 : Nat → Int32} {r i h s : Int32} (hI : Iv f) (e : (r, f2) = cSteer f i h s) : Iv f2 := by
  rw [cSteer] at e
  split at e
  · next q =>
    have h6 := hI.1
    obtain ⟨n, hn, hn2⟩ := cShip_n hI.2.1 hI.1 q.1
    rw [hn, nI_clamp (by omega)] at e
    cases e
    have hh := hI.2.2
    refine Iv.mk (N := nN f) (by rw [upd_ne (by omega), upd_ne (by omega)]; exact hI.2.1) h6 (fun j hj => ?_) ?_ ?_
    · by_cases ej : j = n
      · subst ej; exact Sh_turn (hh.1 j hj) q.2
      · exact Sh_congr (hh.1 j hj) (fun k hk => by rw [upd_ne (by omega), upd_ne (by omega)])
    · rw [upd_ne (by omega), upd_ne (by omega)]; exact hh.2.1
    · rw [upd_ne (by omega), upd_ne (by omega)]; exact hh.2.2
  · cases e; exact hI
theorem Iv_rule {f f2 : Nat → Int32} {r k v : Int32} (hI : Iv f) (e : (r, f2) = cRule f k v) : Iv f2 := by
  rw [cRule] at e
  by_cases q : ¬ k < 0 ∧ ¬ 1 < k ∧ ¬ v < 1 ∧ v ≤ (if k = 0 then 999 else 99)
  · rw [if_pos q] at e
    have h6 := hI.1
    have hh := hI.2.2
    obtain ⟨n, hn, hn2⟩ := z_nat (b := 1) (Int32.not_lt.mp q.1) (Int32.not_lt.mp q.2.1) (by decide)
    have h1 : (1 : Int) ≤ v.toInt := Int32.le_iff_toInt_le.mp (Int32.not_lt.mp q.2.2.1)
    have h2 := q.2.2.2
    rw [hn] at h2
    rw [hn, nI_clamp (by omega)] at e
    cases e
    rcases (show n = 0 ∨ n = 1 by omega) with rfl | rfl
    · rw [if_pos (show nI 0 = 0 from rfl)] at h2
      have h2 : v.toInt ≤ 999 := Int32.le_iff_toInt_le.mp h2
      refine Iv.mk (N := nN f) (by rw [upd_ne (by omega)]; exact hI.2.1) h6 (fun j hj => Sh_congr (hh.1 j hj) (fun k hk => by rw [upd_ne (by omega)])) ?_ ?_
      · rw [upd_eq]; exact ⟨h1, h2⟩
      · rw [upd_ne (by omega)]; exact hh.2.2
    · rw [if_neg (show ¬ nI 1 = 0 by decide)] at h2
      have h2 : v.toInt ≤ 99 := Int32.le_iff_toInt_le.mp h2
      refine Iv.mk (N := nN f) (by rw [upd_ne (by omega)]; exact hI.2.1) h6 (fun j hj => Sh_congr (hh.1 j hj) (fun k hk => by rw [upd_ne (by omega)])) ?_ ?_
      · rw [upd_ne (by omega)]; exact hh.2.1
      · rw [upd_eq]; exact ⟨h1, h2⟩
  · rw [if_neg q] at e; cases e; exact hI
theorem Iv_look {f : Nat → Int32} {n : Nat} (hI : Iv f) (hn : n ≤ 6) : Iv (lkF f n) := by
  have h6 := hI.1
  exact Iv_congr hI (fun j h1 h2 => lkF_ge (by omega)) (fun i k hi hk => lkF_ne (fun z => by omega))
theorem and15_in (x : Int32) : inr (x &&& 15) 0 15 := by
  obtain ⟨j, hj, e⟩ := pk_andE x (m := 15) 4 (by decide)
  rw [e]
  exact inr_of (hi := 15) (by omega) (by decide)
theorem adv_in {f : Nat → Int32} {a : Nat} (hI : Iv f) (ha : a ≤ nN f) (h : ¬ 16 ≤ cAdv f (nN f) a) : inr (cAdv f (nN f) a) 0 15 := by
  rw [cAdv] at h ⊢
  split at h
  · next q =>
    rw [if_pos q, cTurn]
    rw [cTurn] at h
    split
    · next k hk =>
      rw [cTh]; split <;> exact and15_in _
    · next hk =>
      rw [hk] at h
      dsimp only at h
      split at h <;> exact absurd (by decide) h
  · next q =>
    rw [if_neg q]
    exact ((hI.2.2.1 a ha).2.2.1)
theorem Iv_fol {f : Nat → Int32} (hI : Iv f) : Iv (cFol f (cAdv f (nN f) 0)) := by
  have h6 := hI.1
  have hh := hI.2.2
  have hA : ¬ 16 ≤ cAdv f (nN f) 0 → inr (cAdv f (nN f) 0) 0 15 := adv_in hI (Nat.zero_le _)
  generalize cAdv f (nN f) 0 = r at hA ⊢
  have s1 : Iv (if 16 ≤ r then f else upd f 2 r) := by
    split
    · exact hI
    · next q =>
      have hr := hA q
      refine Iv.mk (N := nN f) (by rw [upd_ne (by omega)]; exact hI.2.1) h6 (fun j hj => ?_) (by rw [upd_ne (by omega)]; exact hh.2.1) (by rw [upd_ne (by omega)]; exact hh.2.2)
      by_cases ej : j = 0
      · subst ej
        have hs := hh.1 0 hj
        exact ⟨by rw [upd_ne (by omega)]; exact hs.1, by rw [upd_ne (by omega)]; exact hs.2.1, by rw [show 5 * 0 + 2 = 2 from rfl, upd_eq]; exact hr, by rw [upd_ne (by omega)]; exact hs.2.2.2⟩
      · exact Sh_congr (hh.1 j hj) (fun k hk => by rw [upd_ne (by omega)])
  rw [cFol]
  split
  · have h6' := s1.1
    have hh' := s1.2.2
    generalize (if 16 ≤ r then f else upd f 2 r) = g at s1 h6' hh' ⊢
    refine Iv.mk (N := nN g) (by rw [upd_ne (by omega)]; exact s1.2.1) h6' (fun j hj => ?_) (by rw [upd_ne (by omega)]; exact hh'.2.1) (by rw [upd_ne (by omega)]; exact hh'.2.2)
    by_cases ej : j = 0
    · subst ej
      have hs := hh'.1 0 hj
      exact ⟨by rw [upd_ne (by omega)]; exact hs.1, by rw [upd_ne (by omega)]; exact hs.2.1, by rw [upd_ne (by omega)]; exact hs.2.2.1, by rw [show 5 * 0 + 3 = 3 from rfl, upd_eq]; exact ⟨by decide, by decide⟩⟩
    · exact Sh_congr (hh'.1 j hj) (fun k hk => by rw [upd_ne (by omega)])
  · exact s1
theorem mvS_x {g : Nat → Int32} {k : Nat} : mvS g k (5 * k + 0) = g (5 * k + 0) + cEast g k := by rw [mvS, upd_ne (by omega), upd_eq]
theorem mvS_y {g : Nat → Int32} {k : Nat} : mvS g k (5 * k + 1) = g (5 * k + 1) + cNorth g k := by
  rw [mvS, upd_eq, upd_ne (by omega), cNorth, cNorth, upd_ne (by omega), upd_ne (by omega)]
theorem mvS_ne {g : Nat → Int32} {k j : Nat} (h0 : ¬ j = 5 * k + 0) (h1 : ¬ j = 5 * k + 1) : mvS g k j = g j := by rw [mvS, upd_ne h1, upd_ne h0]
theorem mvF_ne {f : Nat → Int32} {j : Nat} : ∀ {n : Nat}, (∀ k, k < n → ¬ j = 5 * k + 0 ∧ ¬ j = 5 * k + 1) → mvF f n j = f j
  | 0, _ => rfl
  | n + 1, q => by rw [mvF, mvS_ne (q n (by omega)).1 (q n (by omega)).2]; exact mvF_ne (fun k hk => q k (by omega))
theorem mvF_x {f : Nat → Int32} {i n : Nat} (h : i < n) : mvF f n (5 * i + 0) = f (5 * i + 0) + cEast f i := by
  induction n with
  | zero => omega
  | succ n ih =>
    by_cases e : i = n
    · subst e
      rw [mvF, mvS_x, cEast, cEast, mvF_ne (fun k hk => by omega), mvF_ne (fun k hk => by omega), mvF_ne (fun k hk => by omega)]
    · rw [mvF, mvS_ne (by omega) (by omega)]; exact ih (by omega)
theorem mvF_y {f : Nat → Int32} {i n : Nat} (h : i < n) : mvF f n (5 * i + 1) = f (5 * i + 1) + cNorth f i := by
  induction n with
  | zero => omega
  | succ n ih =>
    by_cases e : i = n
    · subst e
      rw [mvF, mvS_y, cNorth, cNorth, mvF_ne (fun k hk => by omega), mvF_ne (fun k hk => by omega), mvF_ne (fun k hk => by omega)]
    · rw [mvF, mvS_ne (by omega) (by omega)]; exact ih (by omega)
theorem goF_hs {f : Nat → Int32} {N i : Nat} : ∀ (t : Nat), goF f N t (5 * i + 2) = f (5 * i + 2) ∧ goF f N t (5 * i + 3) = f (5 * i + 3)
  | 0 => ⟨rfl, rfl⟩
  | t + 1 => by
    have ih := goF_hs (f := f) (N := N) (i := i) t
    rw [goF, lkF_ne (fun z => by omega), lkF_ne (fun z => by omega), mvF_ne (fun k hk => by omega), mvF_ne (fun k hk => by omega)]
    exact ih
theorem goF_xy {f : Nat → Int32} {N i : Nat} (hi : i ≤ N) : ∀ (t : Nat), goF f N t (5 * i + 0) = f (5 * i + 0) + nI t * cEast f i ∧ goF f N t (5 * i + 1) = f (5 * i + 1) + nI t * cNorth f i
  | 0 => ⟨by rw [goF, show nI 0 = 0 from rfl, Int32.zero_mul, Int32.add_zero], by rw [goF, show nI 0 = 0 from rfl, Int32.zero_mul, Int32.add_zero]⟩
  | t + 1 => by
    have ih := goF_xy (f := f) (N := N) (i := i) hi t
    have hs := goF_hs (f := f) (N := N) (i := i) t
    have e1 : cEast (goF f N t) i = cEast f i := by rw [cEast, cEast, hs.1, hs.2]
    have e2 : cNorth (goF f N t) i = cNorth f i := by rw [cNorth, cNorth, hs.1, hs.2]
    have key : ∀ x v : Int32, x + nI t * v + v = x + nI (t + 1) * v := fun x v => by
      rw [← nI_1, Int32.add_mul, Int32.one_mul, Int32.add_assoc]
    rw [goF, lkF_ne (fun z => by omega), lkF_ne (fun z => by omega), mvF_x (by omega), mvF_y (by omega), e1, e2, ih.1, ih.2, key, key]
    exact ⟨rfl, rfl⟩
theorem vE_in (h : Int32) : inr (vE h) (-10) 10 := by
  obtain ⟨j, hj, e⟩ := pk_andE h (m := 15) 4 (by decide)
  rw [vE, e, nI_clamp (by omega)]
  have : ∀ j : Fin 16, inr (eE j.val) (-10) 10 := by unfold inr; decide +kernel
  exact this ⟨j, hj⟩
theorem vN_in (h : Int32) : inr (vN h) (-10) 10 := by
  obtain ⟨j, hj, e⟩ := pk_andE h (m := 15) 4 (by decide)
  rw [vN, e, nI_clamp (by omega)]
  have : ∀ j : Fin 16, inr (eN j.val) (-10) 10 := by unfold inr; decide +kernel
  exact this ⟨j, hj⟩
