/-! the reference's row beside the class's cells; closest points in lowest terms and not -/
def Rg (N : Nat) (f q : Nat → Int32) : Prop := q 0 = nI (N + 1) ∧ q 1 = f 36 ∧ q 2 = f 37 ∧ q 3 = f 38 ∧ ∀ j, j < 5 * (N + 1) → q (4 + j) = f j
theorem Rg.rd {N n k : Nat} {f q : Nat → Int32} (h : Rg N f q) (hn : n ≤ N) (hk : k ≤ 4) : q (4 + 5 * n + k) = f (5 * n + k) := by
  rw [show 4 + 5 * n + k = 4 + (5 * n + k) by omega]; exact h.2.2.2.2 _ (by omega)
theorem Rg.put {N n k : Nat} {f q : Nat → Int32} (h : Rg N f q) (hn : n ≤ N) (hk : k ≤ 4) (h6 : N ≤ 6) (v : Int32) : Rg N (upd f (5 * n + k) v) (upd q (4 + 5 * n + k) v) := by
  refine ⟨by rw [upd_ne (by omega)]; exact h.1, by rw [upd_ne (by omega), upd_ne (by omega)]; exact h.2.1, by rw [upd_ne (by omega), upd_ne (by omega)]; exact h.2.2.1, by rw [upd_ne (by omega), upd_ne (by omega)]; exact h.2.2.2.1, fun j hj => ?_⟩
  by_cases e : j = 5 * n + k
  · rw [e, show 4 + (5 * n + k) = 4 + 5 * n + k by omega, upd_eq, upd_eq]
  · rw [upd_ne (by omega), upd_ne e]; exact h.2.2.2.2 j hj
def cRx (f : Nat → Int32) (a b : Nat) : Int64 := (f (5 * b + 0) - f (5 * a + 0)).toInt64
def cRy (f : Nat → Int32) (a b : Nat) : Int64 := (f (5 * b + 1) - f (5 * a + 1)).toInt64
def cVx (f : Nat → Int32) (h s : Int32) (b : Nat) : Int64 := (f (5 * b + 3) * vE (f (5 * b + 2)) - s * vE h).toInt64
def cVy (f : Nat → Int32) (h s : Int32) (b : Nat) : Int64 := (f (5 * b + 3) * vN (f (5 * b + 2)) - s * vN h).toInt64
def mS (x1 x2 x3 x4 : Int64) : Int64 × Int64 × Int64 × Int64 :=
  if x1 * x3 + x2 * x4 < 0 then (-(x1 * x3 + x2 * x4), x3 * x3 + x4 * x4, (x1 * x4 - x2 * x3) * (x1 * x4 - x2 * x3), x3 * x3 + x4 * x4) else (0, 1, x1 * x1 + x2 * x2, 1)
theorem cMs_mS (f : Nat → Int32) (a : Nat) (h s : Int32) (b : Nat) : cMs f a h s b = mS (cRx f a b) (cRy f a b) (cVx f h s b) (cVy f h s b) := rfl
def mFr (x1 x2 x3 x4 : Int64) : Int64 × Int64 × Int64 × Int64 :=
  (cLow (mS x1 x2 x3 x4).1 (mS x1 x2 x3 x4).2.1 true, cLow (mS x1 x2 x3 x4).1 (mS x1 x2 x3 x4).2.1 false, cLow (mS x1 x2 x3 x4).2.2.1 (mS x1 x2 x3 x4).2.2.2 true, cLow (mS x1 x2 x3 x4).2.2.1 (mS x1 x2 x3 x4).2.2.2 false)
def jn (x : Int64) (b : Int) : Prop := -b ≤ x.toInt ∧ x.toInt ≤ b
def Bd (x1 x2 x3 x4 : Int64) : Prop := jn x1 19998 ∧ jn x2 19998 ∧ jn x3 180 ∧ jn x4 180
theorem jn_mul {x y : Int64} {A B : Int} (hx : jn x A) (hy : jn y B) (h : A * B ≤ 9000000000000000000) : (x * y).toInt = x.toInt * y.toInt ∧ jn (x * y) (A * B) := by
  have q := ab_mul hx.1 hx.2 hy.1 hy.2
  have e := w_mul (x := x) (y := y) (by omega) (by omega)
  exact ⟨e, by rw [jn, e]; exact q⟩
theorem jn_add {x y : Int64} {A B : Int} (hx : jn x A) (hy : jn y B) (h : A + B ≤ 9000000000000000000) : (x + y).toInt = x.toInt + y.toInt ∧ jn (x + y) (A + B) := by
  have h1 := hx.1; have h2 := hx.2; have h3 := hy.1; have h4 := hy.2
  have e := w_add (x := x) (y := y) (by omega) (by omega)
  exact ⟨e, by rw [jn, e]; omega⟩
theorem jn_sub {x y : Int64} {A B : Int} (hx : jn x A) (hy : jn y B) (h : A + B ≤ 9000000000000000000) : (x - y).toInt = x.toInt - y.toInt ∧ jn (x - y) (A + B) := by
  have h1 := hx.1; have h2 := hx.2; have h3 := hy.1; have h4 := hy.2
  have e := w_sub (x := x) (y := y) (by omega) (by omega)
  exact ⟨e, by rw [jn, e]; omega⟩
theorem bd_dot {x1 x2 x3 x4 : Int64} (h : Bd x1 x2 x3 x4) : (x1 * x3 + x2 * x4).toInt = x1.toInt * x3.toInt + x2.toInt * x4.toInt ∧ jn (x1 * x3 + x2 * x4) 7199280 := by
  have a := jn_mul h.1 h.2.2.1 (by decide)
  have b := jn_mul h.2.1 h.2.2.2 (by decide)
  have c := jn_add a.2 b.2 (by decide)
  exact ⟨by rw [c.1, a.1, b.1], c.2⟩
theorem bd_vv {x1 x2 x3 x4 : Int64} (h : Bd x1 x2 x3 x4) : (x3 * x3 + x4 * x4).toInt = x3.toInt * x3.toInt + x4.toInt * x4.toInt ∧ jn (x3 * x3 + x4 * x4) 64800 := by
  have a := jn_mul h.2.2.1 h.2.2.1 (by decide)
  have b := jn_mul h.2.2.2 h.2.2.2 (by decide)
  have c := jn_add a.2 b.2 (by decide)
  exact ⟨by rw [c.1, a.1, b.1], c.2⟩
theorem bd_rr {x1 x2 x3 x4 : Int64} (h : Bd x1 x2 x3 x4) : (x1 * x1 + x2 * x2).toInt = x1.toInt * x1.toInt + x2.toInt * x2.toInt ∧ jn (x1 * x1 + x2 * x2) 799840008 := by
  have a := jn_mul h.1 h.1 (by decide)
  have b := jn_mul h.2.1 h.2.1 (by decide)
  have c := jn_add a.2 b.2 (by decide)
  exact ⟨by rw [c.1, a.1, b.1], c.2⟩
theorem bd_cr {x1 x2 x3 x4 : Int64} (h : Bd x1 x2 x3 x4) : jn (x1 * x4 - x2 * x3) 7199280 ∧ 0 ≤ ((x1 * x4 - x2 * x3) * (x1 * x4 - x2 * x3)).toInt ∧ jn ((x1 * x4 - x2 * x3) * (x1 * x4 - x2 * x3)) 51829632518400 := by
  have a := jn_mul h.1 h.2.2.2 (by decide)
  have b := jn_mul h.2.1 h.2.2.1 (by decide)
  have c := jn_sub a.2 b.2 (by decide)
  have d := jn_mul c.2 c.2 (by decide)
  refine ⟨c.2, ?_, d.2⟩
  rw [d.1]
  generalize (x1 * x4 - x2 * x3).toInt = z
  rcases Int.le_total 0 z with q | q
  · exact Int.mul_nonneg q q
  · exact Int.mul_nonneg_of_nonpos_of_nonpos q q
theorem sq_nn (z : Int) : 0 ≤ z * z := by
  rcases Int.le_total 0 z with q | q
  · exact Int.mul_nonneg q q
  · exact Int.mul_nonneg_of_nonpos_of_nonpos q q
theorem bd_vpos {x1 x2 x3 x4 : Int64} (h : Bd x1 x2 x3 x4) (hd : x1 * x3 + x2 * x4 < 0) : 0 < (x3 * x3 + x4 * x4).toInt := by
  have e := bd_dot h
  have v := bd_vv h
  have hd := Int64.lt_iff_toInt_lt.mp hd
  rw [e.1, w_0] at hd
  rw [v.1]
  have s3 := sq_nn x3.toInt
  have s4 := sq_nn x4.toInt
  rcases Int.lt_or_eq_of_le (show 0 ≤ x3.toInt * x3.toInt + x4.toInt * x4.toInt by omega) with q | q
  · exact q
  · exfalso
    have z3 : x3.toInt * x3.toInt = 0 := by omega
    have z4 : x4.toInt * x4.toInt = 0 := by omega
    have z3 : x3.toInt = 0 := by rcases Int.mul_eq_zero.mp z3 with q | q <;> exact q
    have z4 : x4.toInt = 0 := by rcases Int.mul_eq_zero.mp z4 with q | q <;> exact q
    rw [z3, z4] at hd
    simp at hd
theorem gcN_comm (x y : Int64) : gcN x y = gcN y x := by rw [gcN, gcN, Nat.gcd_comm]
theorem lt17 {z : Int} (h : z ≤ 64800) : z < 2 ^ 17 := by
  have e : (2 : Int) ^ 17 = 131072 := by decide
  omega
/-- the divisor by which both sides shorten is the same -/
theorem gc_eq {r p q : Int64} (hp : 0 ≤ p.toInt) (hq : 0 < q.toInt) (hq2 : q.toInt ≤ 64800) (h : r.toInt = (gcN q p : Int)) : r = sdF 100 p q := by
  refine Int64.toInt_inj.mp ?_
  rw [h, sdF_gc 17 100 p q (by omega) hp (by omega) (lt17 hq2), gcN_comm]
theorem gc_pos {p q : Int64} (hp : 0 ≤ p.toInt) (hq : 0 < q.toInt) (hq2 : q.toInt ≤ 64800) : 0 < (sdF 100 p q).toInt ∧ ((sdF 100 p q).toInt = (gcN p q : Int)) := by
  have e := sdF_gc 17 100 p q (by omega) hp (by omega) (lt17 hq2)
  refine ⟨?_, e⟩
  rw [e]
  have : 0 < gcN p q := Nat.gcd_pos_of_pos_right _ (by omega)
  omega
theorem gc_ne {p q : Int64} (hp : 0 ≤ p.toInt) (hq : 0 < q.toInt) (hq2 : q.toInt ≤ 64800) : ¬ sdF 100 p q = 0 := fun e => by
  have := (gc_pos hp hq hq2).1
  rw [e] at this
  exact absurd this (by decide)
theorem low_t {p q : Int64} (h : ¬ sdF 100 p q = 0) : cLow p q true = p / sdF 100 p q := by rw [cLow, if_neg h, if_pos rfl]
theorem low_f {p q : Int64} (h : ¬ sdF 100 p q = 0) : cLow p q false = q / sdF 100 p q := by rw [cLow, if_neg h, if_neg Bool.false_ne_true]
theorem div_1 (x : Int64) : x / 1 = x := by
  refine Int64.toInt_inj.mp ?_
  rw [Int64.toInt_div_of_ne_right _ _ (by decide), w_1, Int.tdiv_one]
theorem sd_1 (x : Int64) : sdF 100 x 1 = 1 := by
  rw [show (100 : Nat) = 99 + 1 from rfl, sdF, if_neg (by decide), div_1]
  have e : x - x * 1 = 0 := by simp
  rw [e, sdF_zero rfl]
theorem fr_pos {x1 x2 x3 x4 : Int64} (h : ¬ x1 * x3 + x2 * x4 < 0) : (0, 1, x1 * x1 + x2 * x2, 1) = mFr x1 x2 x3 x4 := by
  have e : mS x1 x2 x3 x4 = (0, 1, x1 * x1 + x2 * x2, 1) := by rw [mS, if_neg h]
  rw [mFr, e]
  dsimp only
  have n1 : ∀ z : Int64, ¬ sdF 100 z 1 = 0 := fun z => by rw [sd_1]; decide
  rw [low_t (n1 _), low_f (n1 _), low_t (n1 _), low_f (n1 _), sd_1, sd_1, div_1, div_1, div_1]
theorem fr_neg {x1 x2 x3 x4 : Int64} (hB : Bd x1 x2 x3 x4) (h : x1 * x3 + x2 * x4 < 0) :
    (-(x1 * x3 + x2 * x4) / sdF 100 (-(x1 * x3 + x2 * x4)) (x3 * x3 + x4 * x4), (x3 * x3 + x4 * x4) / sdF 100 (-(x1 * x3 + x2 * x4)) (x3 * x3 + x4 * x4), (x1 * x4 - x2 * x3) * (x1 * x4 - x2 * x3) / sdF 100 ((x1 * x4 - x2 * x3) * (x1 * x4 - x2 * x3)) (x3 * x3 + x4 * x4), (x3 * x3 + x4 * x4) / sdF 100 ((x1 * x4 - x2 * x3) * (x1 * x4 - x2 * x3)) (x3 * x3 + x4 * x4)) = mFr x1 x2 x3 x4
    ∧ (∀ r : Int64, r.toInt = (gcN (x3 * x3 + x4 * x4) (-(x1 * x3 + x2 * x4)) : Int) → r = sdF 100 (-(x1 * x3 + x2 * x4)) (x3 * x3 + x4 * x4)) ∧ (∀ r : Int64, r.toInt = (gcN (x3 * x3 + x4 * x4) ((x1 * x4 - x2 * x3) * (x1 * x4 - x2 * x3)) : Int) → r = sdF 100 ((x1 * x4 - x2 * x3) * (x1 * x4 - x2 * x3)) (x3 * x3 + x4 * x4))
    ∧ ¬ sdF 100 (-(x1 * x3 + x2 * x4)) (x3 * x3 + x4 * x4) = 0 ∧ ¬ sdF 100 ((x1 * x4 - x2 * x3) * (x1 * x4 - x2 * x3)) (x3 * x3 + x4 * x4) = 0 ∧ 0 ≤ (x3 * x3 + x4 * x4).toInt ∧ 0 ≤ (-(x1 * x3 + x2 * x4)).toInt ∧ 0 ≤ ((x1 * x4 - x2 * x3) * (x1 * x4 - x2 * x3)).toInt := by
  have e : mS x1 x2 x3 x4 = (-(x1 * x3 + x2 * x4), x3 * x3 + x4 * x4, (x1 * x4 - x2 * x3) * (x1 * x4 - x2 * x3), x3 * x3 + x4 * x4) := by rw [mS, if_pos h]
  have hv := bd_vpos hB h
  have hv2 := (bd_vv hB).2.2
  have hd := (bd_dot hB).2
  have hlt := Int64.lt_iff_toInt_lt.mp h
  rw [w_0] at hlt
  have hn : 0 ≤ (-(x1 * x3 + x2 * x4)).toInt := by rw [w_neg (by have := hd.1; omega)]; omega
  have hc := (bd_cr hB).2.1
  have n1 := gc_ne hn hv hv2
  have n2 := gc_ne hc hv hv2
  refine ⟨?_, fun r hr => gc_eq hn hv hv2 hr, fun r hr => gc_eq hc hv hv2 hr, n1, n2, by omega, hn, hc⟩
  rw [mFr, e]
  dsimp only
  rw [low_t n1, low_f n1, low_t n2, low_f n2]
