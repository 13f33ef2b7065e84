theorem i_sub_in {x y : Int32} {A B : Int} (hx : inr x (-A) A) (hy : inr y (-B) B) (h : A + B ≤ 2000000000) : (x - y).toInt = x.toInt - y.toInt ∧ inr (x - y) (-(A + B)) (A + B) := by
  have h1 := hx.1; have h2 := hx.2; have h3 := hy.1; have h4 := hy.2
  have e := i_sub (x := x) (y := y) (by omega) (by omega)
  exact ⟨e, by rw [inr, e]; omega⟩
theorem i_add_in {x y : Int32} {A B : Int} (hx : inr x (-A) A) (hy : inr y (-B) B) (h : A + B ≤ 2000000000) : (x + y).toInt = x.toInt + y.toInt ∧ inr (x + y) (-(A + B)) (A + B) := by
  have h1 := hx.1; have h2 := hx.2; have h3 := hy.1; have h4 := hy.2
  have e := i_add (x := x) (y := y) (by omega) (by omega)
  exact ⟨e, by rw [inr, e]; omega⟩
theorem i_mul_in {x y : Int32} {A B : Int} (hx : inr x (-A) A) (hy : inr y (-B) B) (h : A * B ≤ 2000000000) : (x * y).toInt = x.toInt * y.toInt ∧ inr (x * y) (-(A * B)) (A * B) := by
  have q := ab_mul hx.1 hx.2 hy.1 hy.2
  have e := i_mul (x := x) (y := y) (by omega) (by omega)
  exact ⟨e, by rw [inr, e]; exact q⟩
theorem jn_of {x : Int32} {A : Int} (h : inr x (-A) A) : jn x.toInt64 A := by rw [jn, Int32.toInt_toInt64]; exact h
theorem s9 {x : Int32} (h : inr x 0 9) : inr x (-9) 9 := ⟨by have := h.1; omega, h.2⟩
theorem Bd_of {f : Nat → Int32} {a b : Nat} {h s : Int32} (hI : Iv f) (ha : a ≤ nN f) (hb : b ≤ nN f) (hs : inr s 0 9) : Bd (cRx f a b) (cRy f a b) (cVx f h s b) (cVy f h s b) := by
  have sa := hI.2.2.1 a ha
  have sb := hI.2.2.1 b hb
  refine ⟨jn_of (i_sub_in sb.1 sa.1 (by decide)).2, jn_of (i_sub_in sb.2.1 sa.2.1 (by decide)).2, ?_, ?_⟩
  · exact jn_of (i_sub_in (i_mul_in (s9 sb.2.2.2) (vE_in _) (by decide)).2 (i_mul_in (s9 hs) (vE_in h) (by decide)).2 (by decide)).2
  · exact jn_of (i_sub_in (i_mul_in (s9 sb.2.2.2) (vN_in _) (by decide)).2 (i_mul_in (s9 hs) (vN_in h) (by decide)).2 (by decide)).2
def Gd (m : Int64 × Int64 × Int64 × Int64) : Prop := (0 ≤ m.1.toInt ∧ m.1.toInt ≤ 7199280) ∧ (0 < m.2.1.toInt ∧ m.2.1.toInt ≤ 64800) ∧ (0 ≤ m.2.2.1.toInt ∧ m.2.2.1.toInt ≤ 51829632518400) ∧ (0 < m.2.2.2.toInt ∧ m.2.2.2.toInt ≤ 64800)
theorem Gd_of {x1 x2 x3 x4 : Int64} (hB : Bd x1 x2 x3 x4) : Gd (mS x1 x2 x3 x4) := by
  by_cases h : x1 * x3 + x2 * x4 < 0
  · rw [mS, if_pos h]
    have hv := bd_vpos hB h
    have hv2 := (bd_vv hB).2.2
    have hd := (bd_dot hB).2
    have hlt := Int64.lt_iff_toInt_lt.mp h
    rw [w_0] at hlt
    have h1 := hd.1
    have hn : (-(x1 * x3 + x2 * x4)).toInt = -(x1 * x3 + x2 * x4).toInt := w_neg (by omega)
    have hc := bd_cr hB
    exact ⟨⟨by dsimp only; omega, by dsimp only; omega⟩, ⟨hv, hv2⟩, ⟨hc.2.1, hc.2.2.2⟩, ⟨hv, hv2⟩⟩
  · rw [mS, if_neg h]
    have hr := bd_rr hB
    have s1 := sq_nn x1.toInt
    have s2 := sq_nn x2.toInt
    have h2 := hr.2.2
    exact ⟨⟨(by decide : (0 : Int) ≤ (0 : Int64).toInt), (by decide : (0 : Int64).toInt ≤ 7199280)⟩, ⟨(by decide : (0 : Int) < (1 : Int64).toInt), (by decide : (1 : Int64).toInt ≤ 64800)⟩, ⟨by dsimp only; rw [hr.1]; omega, by dsimp only; omega⟩, ⟨(by decide : (0 : Int) < (1 : Int64).toInt), (by decide : (1 : Int64).toInt ≤ 64800)⟩⟩
theorem low_mul {p q : Int64} (hp : 0 ≤ p.toInt) (hq : 0 < q.toInt) (hq2 : q.toInt ≤ 64800) : ∃ g : Int, 0 < g ∧ p.toInt = g * (cLow p q true).toInt ∧ q.toInt = g * (cLow p q false).toInt ∧ 0 ≤ (cLow p q true).toInt ∧ (cLow p q true).toInt ≤ p.toInt ∧ 0 < (cLow p q false).toInt ∧ (cLow p q false).toInt ≤ q.toInt := by
  obtain ⟨hg, e⟩ := gc_pos hp hq hq2
  have hne := gc_ne hp hq hq2
  have hm1 : ¬ sdF 100 p q = -1 := fun z => by rw [z] at hg; exact absurd hg (by decide)
  rw [low_t hne, low_f hne, Int64.toInt_div_of_ne_right _ _ hm1, Int64.toInt_div_of_ne_right _ _ hm1, Int.tdiv_eq_ediv_of_nonneg hp, Int.tdiv_eq_ediv_of_nonneg (by omega : 0 ≤ q.toInt)]
  have d1 : (sdF 100 p q).toInt ∣ p.toInt := by
    rw [e, show p.toInt = (p.toInt.toNat : Int) by omega]
    exact Int.natCast_dvd_natCast.mpr (Nat.gcd_dvd_left _ _)
  have d2 : (sdF 100 p q).toInt ∣ q.toInt := by
    rw [e, show q.toInt = (q.toInt.toNat : Int) by omega]
    exact Int.natCast_dvd_natCast.mpr (Nat.gcd_dvd_right _ _)
  have m1 := Int.mul_ediv_cancel' d1
  have m2 := Int.mul_ediv_cancel' d2
  generalize (sdF 100 p q).toInt = g at *
  have n1 : 0 ≤ p.toInt / g := Int.ediv_nonneg hp (by omega)
  have n2 : 0 ≤ q.toInt / g := Int.ediv_nonneg (by omega) (by omega)
  have l1 : p.toInt / g ≤ p.toInt := Int.ediv_le_self _ hp
  have l2 : q.toInt / g ≤ q.toInt := Int.ediv_le_self _ (by omega)
  refine ⟨g, hg, m1.symm, m2.symm, n1, l1, ?_, l2⟩
  rcases Int.lt_or_eq_of_le n2 with z | z
  · exact z
  · rw [← z, Int.mul_zero] at m2; omega
def rdF (m : Int64 × Int64 × Int64 × Int64) : Int64 × Int64 × Int64 × Int64 := (cLow m.1 m.2.1 true, cLow m.1 m.2.1 false, cLow m.2.2.1 m.2.2.2 true, cLow m.2.2.1 m.2.2.2 false)
theorem mFr_rd (x1 x2 x3 x4 : Int64) : mFr x1 x2 x3 x4 = rdF (mS x1 x2 x3 x4) := rfl
theorem jn_of2 {x : Int64} {A : Int} (h0 : 0 ≤ x.toInt) (h : x.toInt ≤ A) : jn x A := ⟨by omega, h⟩
theorem le_scale {g a b : Int} (hg : 0 < g) : g * a ≤ g * b ↔ a ≤ b := Int.mul_le_mul_left hg
theorem lt_scale {g a b : Int} (hg : 0 < g) : g * a < g * b ↔ a < b := Int.mul_lt_mul_left hg
theorem risk_rd {m : Int64 × Int64 × Int64 × Int64} {sf sp : Int64} (hm : Gd m) (hs : 1 ≤ sf.toInt ∧ sf.toInt ≤ 999) (hp : 1 ≤ sp.toInt ∧ sp.toInt ≤ 99) :
    cRk (rdF m).1 (rdF m).2.1 (rdF m).2.2.1 (rdF m).2.2.2 sf sp = cRk m.1 m.2.1 m.2.2.1 m.2.2.2 sf sp := by
  obtain ⟨g1, hg1, a1, a2, a3, a4, a5, a6⟩ := low_mul hm.1.1 hm.2.1.1 hm.2.1.2
  obtain ⟨g2, hg2, b1, b2, b3, b4, b5, b6⟩ := low_mul hm.2.2.1.1 hm.2.2.2.1 hm.2.2.2.2
  have js : jn sf 999 := jn_of2 (by omega) hs.2
  have jp : jn sp 99 := jn_of2 (by omega) hp.2
  have ss := jn_mul js js (by decide)
  have c1 := jn_mul ss.2 (jn_of2 (x := m.2.2.2) (by have := hm.2.2.2.1; omega) hm.2.2.2.2) (by decide)
  have c2 := jn_mul ss.2 (jn_of2 (x := cLow m.2.2.1 m.2.2.2 false) (A := 64800) (by omega) (by have := hm.2.2.2.2; omega)) (by decide)
  have d1 := jn_mul jp (jn_of2 (x := m.2.1) (by have := hm.2.1.1; omega) hm.2.1.2) (by decide)
  have d2 := jn_mul jp (jn_of2 (x := cLow m.1 m.2.1 false) (A := 64800) (by omega) (by have := hm.2.1.2; omega)) (by decide)
  unfold cRk rdF
  dsimp only
  have k1 : (sf * sf * cLow m.2.2.1 m.2.2.2 false ≤ cLow m.2.2.1 m.2.2.2 true) ↔ (sf * sf * m.2.2.2 ≤ m.2.2.1) := by
    rw [Int64.le_iff_toInt_le, Int64.le_iff_toInt_le, c1.1, c2.1, b1, b2, Int.mul_left_comm, le_scale hg2]
  have k2 : (sp * cLow m.1 m.2.1 false < cLow m.1 m.2.1 true) ↔ (sp * m.2.1 < m.1) := by
    rw [Int64.lt_iff_toInt_lt, Int64.lt_iff_toInt_lt, d1.1, d2.1, a1, a2, Int.mul_left_comm, lt_scale hg1]
  simp only [k1, k2]
/-- which is worse, told by shortened numbers -/
theorem worse_rd {m o : Int64 × Int64 × Int64 × Int64} (hm : Gd m) (ho : Gd o) : cWorse m o = decide ((rdF m).1 * (rdF o).2.1 - (rdF o).1 * (rdF m).2.1 < 0 ∨ (rdF m).1 * (rdF o).2.1 - (rdF o).1 * (rdF m).2.1 = 0 ∧ (rdF m).2.2.1 * (rdF o).2.2.2 - (rdF o).2.2.1 * (rdF m).2.2.2 < 0) := by
  obtain ⟨g1, hg1, a1, a2, a3, a4, a5, a6⟩ := low_mul hm.1.1 hm.2.1.1 hm.2.1.2
  obtain ⟨g2, hg2, b1, b2, b3, b4, b5, b6⟩ := low_mul hm.2.2.1.1 hm.2.2.2.1 hm.2.2.2.2
  obtain ⟨g3, hg3, c1, c2, c3, c4, c5, c6⟩ := low_mul ho.1.1 ho.2.1.1 ho.2.1.2
  obtain ⟨g4, hg4, d1, d2, d3, d4, d5, d6⟩ := low_mul ho.2.2.1.1 ho.2.2.2.1 ho.2.2.2.2
  have jm1 : jn m.1 7199280 := jn_of2 hm.1.1 hm.1.2
  have jm2 : jn m.2.1 64800 := jn_of2 (by have := hm.2.1.1; omega) hm.2.1.2
  have jm3 : jn m.2.2.1 51829632518400 := jn_of2 hm.2.2.1.1 hm.2.2.1.2
  have jm4 : jn m.2.2.2 64800 := jn_of2 (by have := hm.2.2.2.1; omega) hm.2.2.2.2
  have jo1 : jn o.1 7199280 := jn_of2 ho.1.1 ho.1.2
  have jo2 : jn o.2.1 64800 := jn_of2 (by have := ho.2.1.1; omega) ho.2.1.2
  have jo3 : jn o.2.2.1 51829632518400 := jn_of2 ho.2.2.1.1 ho.2.2.1.2
  have jo4 : jn o.2.2.2 64800 := jn_of2 (by have := ho.2.2.2.1; omega) ho.2.2.2.2
  have jy1 : jn (cLow m.1 m.2.1 true) 7199280 := jn_of2 a3 (by have := hm.1.2; omega)
  have jy2 : jn (cLow m.1 m.2.1 false) 64800 := jn_of2 (by omega) (by have := hm.2.1.2; omega)
  have jy3 : jn (cLow m.2.2.1 m.2.2.2 true) 51829632518400 := jn_of2 b3 (by have := hm.2.2.1.2; omega)
  have jy4 : jn (cLow m.2.2.1 m.2.2.2 false) 64800 := jn_of2 (by omega) (by have := hm.2.2.2.2; omega)
  have jz1 : jn (cLow o.1 o.2.1 true) 7199280 := jn_of2 c3 (by have := ho.1.2; omega)
  have jz2 : jn (cLow o.1 o.2.1 false) 64800 := jn_of2 (by omega) (by have := ho.2.1.2; omega)
  have jz3 : jn (cLow o.2.2.1 o.2.2.2 true) 51829632518400 := jn_of2 d3 (by have := ho.2.2.1.2; omega)
  have jz4 : jn (cLow o.2.2.1 o.2.2.2 false) 64800 := jn_of2 (by omega) (by have := ho.2.2.2.2; omega)
  have p1 := jn_mul jo1 jm2 (by decide)
  have p2 := jn_mul jm1 jo2 (by decide)
  have p3 := jn_sub p1.2 p2.2 (by decide)
  have p4 := jn_mul jo3 jm4 (by decide)
  have p5 := jn_mul jm3 jo4 (by decide)
  have r1 := jn_mul jy1 jz2 (by decide)
  have r2 := jn_mul jz1 jy2 (by decide)
  have r3 := jn_sub r1.2 r2.2 (by decide)
  have r4 := jn_mul jy3 jz4 (by decide)
  have r5 := jn_mul jz3 jy4 (by decide)
  have r6 := jn_sub r4.2 r5.2 (by decide)
  -- the two differences, scaled
  have e1 : (o.1 * m.2.1 - m.1 * o.2.1).toInt = (g3 * g1) * -(cLow m.1 m.2.1 true * cLow o.1 o.2.1 false - cLow o.1 o.2.1 true * cLow m.1 m.2.1 false).toInt := by
    rw [p3.1, p1.1, p2.1, r3.1, r1.1, r2.1, a1, a2, c1, c2]
    generalize (cLow m.1 m.2.1 true).toInt = y1
    generalize (cLow m.1 m.2.1 false).toInt = y2
    generalize (cLow o.1 o.2.1 true).toInt = z1
    generalize (cLow o.1 o.2.1 false).toInt = z2
    have q1 : g3 * z1 * (g1 * y2) = g3 * g1 * (z1 * y2) := by rw [Int.mul_assoc, Int.mul_assoc, Int.mul_left_comm z1 g1 y2]
    have q2 : g1 * y1 * (g3 * z2) = g3 * g1 * (y1 * z2) := by rw [Int.mul_assoc, Int.mul_left_comm y1 g3 z2, Int.mul_left_comm g1 g3, Int.mul_assoc]
    rw [q1, q2, Int.neg_sub, Int.mul_sub]
  have e2 : (o.2.2.1 * m.2.2.2).toInt - (m.2.2.1 * o.2.2.2).toInt = (g4 * g2) * -(cLow m.2.2.1 m.2.2.2 true * cLow o.2.2.1 o.2.2.2 false - cLow o.2.2.1 o.2.2.2 true * cLow m.2.2.1 m.2.2.2 false).toInt := by
    rw [p4.1, p5.1, r6.1, r4.1, r5.1, b1, b2, d1, d2]
    generalize (cLow m.2.2.1 m.2.2.2 true).toInt = y1
    generalize (cLow m.2.2.1 m.2.2.2 false).toInt = y2
    generalize (cLow o.2.2.1 o.2.2.2 true).toInt = z1
    generalize (cLow o.2.2.1 o.2.2.2 false).toInt = z2
    have q1 : g4 * z1 * (g2 * y2) = g4 * g2 * (z1 * y2) := by rw [Int.mul_assoc, Int.mul_assoc, Int.mul_left_comm z1 g2 y2]
    have q2 : g2 * y1 * (g4 * z2) = g4 * g2 * (y1 * z2) := by rw [Int.mul_assoc, Int.mul_left_comm y1 g4 z2, Int.mul_left_comm g2 g4, Int.mul_assoc]
    rw [q1, q2, Int.neg_sub, Int.mul_sub]
  have hG : 0 < g3 * g1 := Int.mul_pos hg3 hg1
  have hH : 0 < g4 * g2 := Int.mul_pos hg4 hg2
  unfold cWorse rdF
  dsimp only
  generalize cLow m.1 m.2.1 true * cLow o.1 o.2.1 false - cLow o.1 o.2.1 true * cLow m.1 m.2.1 false = S at *
  generalize cLow m.2.2.1 m.2.2.2 true * cLow o.2.2.1 o.2.2.2 false - cLow o.2.2.1 o.2.2.2 true * cLow m.2.2.1 m.2.2.2 false = T at *
  generalize g3 * g1 = G at *
  generalize g4 * g2 = K at *
  have sgn : ∀ {G z : Int}, 0 < G → (0 < G * z ↔ 0 < z) := fun {G z} h => by
    have := Int.mul_lt_mul_left (a := G) (b := 0) (c := z) h
    rw [Int.mul_zero] at this; exact this
  have sg0 : ∀ {G z : Int}, 0 < G → (G * z = 0 ↔ z = 0) := fun {G z} h => by
    rw [Int.mul_eq_zero]; constructor
    · rintro (q | q)
      · omega
      · exact q
    · exact Or.inr
  have k0 : (o.1 * m.2.1 - m.1 * o.2.1 = 0) ↔ S = 0 := by
    rw [← Int64.toInt_inj, ← Int64.toInt_inj, w_0, e1, sg0 hG]; omega
  have k1 : (o.1 * m.2.1 - m.1 * o.2.1 ≤ 0) ↔ ¬ S < 0 := by
    rw [Int64.le_iff_toInt_le, Int64.lt_iff_toInt_lt, w_0, e1, ← Int.not_lt, sgn hG]; omega
  have k2 : (o.2.2.1 * m.2.2.2 ≤ m.2.2.1 * o.2.2.2) ↔ ¬ T < 0 := by
    rw [Int64.le_iff_toInt_le, Int64.lt_iff_toInt_lt, w_0]
    have := (sgn (z := -T.toInt) hH)
    rw [← e2] at this
    omega
  by_cases hS : S = 0
  · rw [if_pos (k0.mpr hS)]
    simp only [k2, hS, Classical.not_not]
    have : ¬ ((0 : Int64) < 0) := by decide
    simp [this]
  · rw [if_neg (fun z => hS (k0.mp z))]
    simp only [k1, hS, Classical.not_not, false_and, or_false]
/-- the sector, told by long numbers -/
def mSec (e n x1 x2 : Int64) : Int32 :=
  if x1 * x1 + x2 * x2 = 0 then 0
  else if ¬ e * x1 + n * x2 ≤ 0 ∧ ¬ e * x1 + n * x2 < 4 * (if 0 ≤ e * x2 - n * x1 then e * x2 - n * x1 else -(e * x2 - n * x1)) then 0
  else if ¬ 0 ≤ e * x1 + n * x2 ∧ ¬ (-2) * (e * x1 + n * x2) < (if 0 ≤ e * x2 - n * x1 then e * x2 - n * x1 else -(e * x2 - n * x1)) then 3
  else if 0 ≤ e * x2 - n * x1 then 2 else 1
theorem lo_le {a b : Int64} {c d : Int32} (h1 : a.toInt = c.toInt) (h2 : b.toInt = d.toInt) : (a ≤ b) ↔ (c ≤ d) := by rw [Int64.le_iff_toInt_le, Int32.le_iff_toInt_le, h1, h2]
theorem lo_lt {a b : Int64} {c d : Int32} (h1 : a.toInt = c.toInt) (h2 : b.toInt = d.toInt) : (a < b) ↔ (c < d) := by rw [Int64.lt_iff_toInt_lt, Int32.lt_iff_toInt_lt, h1, h2]
theorem sec_long {e n x1 x2 : Int32} (he : inr e (-10) 10) (hn : inr n (-10) 10) (h1 : inr x1 (-19998) 19998) (h2 : inr x2 (-19998) 19998) :
    mSec e.toInt64 n.toInt64 x1.toInt64 x2.toInt64 = (if x1 = 0 ∧ x2 = 0 then 0 else if ¬ e * x1 + n * x2 ≤ 0 ∧ ¬ e * x1 + n * x2 < 4 * cAbs (e * x2 - n * x1) then 0 else if ¬ 0 ≤ e * x1 + n * x2 ∧ ¬ (-2) * (e * x1 + n * x2) < cAbs (e * x2 - n * x1) then 3 else if 0 ≤ e * x2 - n * x1 then 2 else 1) := by
  have t : ∀ x : Int32, x.toInt64.toInt = x.toInt := fun x => Int32.toInt_toInt64 x
  have a1 := i_mul_in he h1 (by decide)
  have a2 := i_mul_in hn h2 (by decide)
  have a3 := i_add_in a1.2 a2.2 (by decide)
  have b1 := i_mul_in he h2 (by decide)
  have b2 := i_mul_in hn h1 (by decide)
  have b3 := i_sub_in b1.2 b2.2 (by decide)
  have c1 := jn_mul (jn_of he) (jn_of h1) (by decide)
  have c2 := jn_mul (jn_of hn) (jn_of h2) (by decide)
  have c3 := jn_add c1.2 c2.2 (by decide)
  have d1 := jn_mul (jn_of he) (jn_of h2) (by decide)
  have d2 := jn_mul (jn_of hn) (jn_of h1) (by decide)
  have d3 := jn_sub d1.2 d2.2 (by decide)
  have s1 := jn_mul (jn_of h1) (jn_of h1) (by decide)
  have s2 := jn_mul (jn_of h2) (jn_of h2) (by decide)
  have s3 := jn_add s1.2 s2.2 (by decide)
  have eP : (e.toInt64 * x1.toInt64 + n.toInt64 * x2.toInt64).toInt = (e * x1 + n * x2).toInt := by rw [c3.1, c1.1, c2.1, a3.1, a1.1, a2.1, t, t, t, t]
  have eQ : (e.toInt64 * x2.toInt64 - n.toInt64 * x1.toInt64).toInt = (e * x2 - n * x1).toInt := by rw [d3.1, d1.1, d2.1, b3.1, b1.1, b2.1, t, t, t, t]
  have e0 : (x1.toInt64 * x1.toInt64 + x2.toInt64 * x2.toInt64 = 0) ↔ (x1 = 0 ∧ x2 = 0) := by
    rw [← Int64.toInt_inj, s3.1, s1.1, s2.1, t, t, w_0, ← Int32.toInt_inj, ← Int32.toInt_inj, show (0 : Int32).toInt = 0 from rfl]
    have q1 := sq_nn x1.toInt
    have q2 := sq_nn x2.toInt
    constructor
    · intro z
      refine ⟨?_, ?_⟩
      · rcases Int.mul_eq_zero.mp (show x1.toInt * x1.toInt = 0 by omega) with q | q <;> exact q
      · rcases Int.mul_eq_zero.mp (show x2.toInt * x2.toInt = 0 by omega) with q | q <;> exact q
    · rintro ⟨z1, z2⟩
      rw [z1, z2]; rfl
  unfold mSec
  generalize e.toInt64 * x1.toInt64 + n.toInt64 * x2.toInt64 = P at *
  generalize e.toInt64 * x2.toInt64 - n.toInt64 * x1.toInt64 = Q at *
  generalize e * x1 + n * x2 = p at *
  generalize e * x2 - n * x1 = q at *
  have hp := a3.2
  have hq := b3.2
  have z64 : (0 : Int64).toInt = (0 : Int32).toInt := rfl
  have q1 : (0 ≤ Q) ↔ (0 ≤ q) := lo_le z64 eQ
  have p1 : (P ≤ 0) ↔ (p ≤ 0) := lo_le eP z64
  have p2 : (0 ≤ P) ↔ (0 ≤ p) := lo_le z64 eP
  have hab : (if 0 ≤ Q then Q else -Q).toInt = (cAbs q).toInt ∧ inr (cAbs q) (-399960) 399960 := by
    unfold cAbs
    by_cases z : 0 ≤ q
    · rw [if_pos (q1.mpr z), if_pos z]; exact ⟨eQ, hq⟩
    · rw [if_neg (fun w => z (q1.mp w)), if_neg z]
      have zz := i_sub_in (x := 0) (y := q) (A := 0) ⟨by decide, by decide⟩ hq (by decide)
      refine ⟨?_, ⟨by have := zz.2.1; omega, by have := zz.2.2; omega⟩⟩
      have := hq.1
      rw [w_neg (by rw [eQ]; omega), zz.1, eQ, show (0 : Int32).toInt = 0 from rfl]; omega
  generalize (if 0 ≤ Q then Q else -Q) = M at hab ⊢
  have m4 := jn_mul (x := 4) (y := M) (A := 4) (B := 399960) ⟨by decide, by decide⟩ (by rw [jn, hab.1]; exact hab.2) (by decide)
  have i4 := i_mul_in (x := 4) (y := cAbs q) (A := 4) ⟨by decide, by decide⟩ hab.2 (by decide)
  have m2 := jn_mul (x := -2) (y := P) (A := 2) (B := 399960) ⟨by decide, by decide⟩ (by rw [jn, eP]; exact hp) (by decide)
  have i2 := i_mul_in (x := -2) (y := p) (A := 2) ⟨by decide, by decide⟩ hp (by decide)
  have p3 : (P < 4 * M) ↔ (p < 4 * cAbs q) := lo_lt eP (by rw [m4.1, i4.1, hab.1]; rfl)
  have p4 : ((-2) * P < M) ↔ ((-2) * p < cAbs q) := lo_lt (by rw [m2.1, i2.1, eP]; rfl) hab.1
  simp only [e0, p1, p2, p3, p4, q1]
theorem cSec_long {f : Nat → Int32} {a b : Nat} (hI : Iv f) (ha : a ≤ nN f) (hb : b ≤ nN f) : cSec f a b = mSec (vE (f (5 * a + 2))).toInt64 (vN (f (5 * a + 2))).toInt64 (cRx f a b) (cRy f a b) := by
  have sa := hI.2.2.1 a ha
  have sb := hI.2.2.1 b hb
  rw [cRx, cRy, sec_long (vE_in _) (vN_in _) (i_sub_in sb.1 sa.1 (by decide)).2 (i_sub_in sb.2.1 sa.2.1 (by decide)).2]
  rfl
