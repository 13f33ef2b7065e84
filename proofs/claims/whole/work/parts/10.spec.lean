/-! what the class computes, as functions of its cells (row f), in the machine's own numbers -/
def cPlace (v : Int32) : Bool := decide (¬ v < -9999 ∧ ¬ 9999 < v)
def cCourse (h s : Int32) : Bool := decide (¬ h < 0 ∧ ¬ 16 ≤ h ∧ ¬ s < 0 ∧ ¬ 9 < s)
def cShip (f : Nat → Int32) (i : Int32) : Bool := decide (¬ i < 0 ∧ ¬ f 35 < i)
def cOther (f : Nat → Int32) (i : Int32) : Bool := decide (¬ i ≤ 0 ∧ ¬ f 35 < i)
def cPair (f : Nat → Int32) (a b : Int32) : Bool := cShip f a && (cShip f b && decide (¬ a = b))
def vE (h : Int32) : Int32 := eE (h &&& 15).toNatClampNeg
def vN (h : Int32) : Int32 := eN (h &&& 15).toNatClampNeg
def cEast (f : Nat → Int32) (n : Nat) : Int32 := f (5 * n + 3) * vE (f (5 * n + 2))
def cNorth (f : Nat → Int32) (n : Nat) : Int32 := f (5 * n + 3) * vN (f (5 * n + 2))
def cPart (f : Nat → Int32) (n w : Nat) : Int32 := if w = 4 then cEast f n else if w = 5 then cNorth f n else f (5 * n + w)
def putF (f : Nat → Int32) (n : Nat) (x y h s : Int32) : Nat → Int32 := upd (upd (upd (upd (upd f (5 * n + 0) x) (5 * n + 1) y) (5 * n + 2) h) (5 * n + 3) s) (5 * n + 4) 0
def cJoin (f : Nat → Int32) (N : Nat) (x y h s : Int32) : Int32 × (Nat → Int32) :=
  if cPlace x = true ∧ cPlace y = true ∧ cCourse h s = true then (if N < 6 then (nI (N + 1), putF (upd f 35 (nI (N + 1))) (N + 1) x y h s) else (-10004, f)) else (-10002, f)
def nodF (f : Nat → Int32) : Nat → (Nat → Int32)
  | 0 => f
  | k + 1 => upd (nodF f k) (5 * (k + 1) + 4) 0
def cOwn (f : Nat → Int32) (N : Nat) (x y h s : Int32) : Int32 × (Nat → Int32) :=
  if cPlace x = true ∧ cPlace y = true ∧ cCourse h s = true then (nI N, upd (nodF (putF f 0 x y h s) N) 38 0) else (-10002, f)
def cLeave (f : Nat → Int32) (N : Nat) (i : Int32) : Int32 × (Nat → Int32) :=
  if cOther f i = true then (nI (N - 1), upd (va_cpy f f (5 * (i.toNatClampNeg + 1)) (5 * i.toNatClampNeg) (5 * (N - i.toNatClampNeg))) 35 (nI (N - 1))) else (-10002, f)
def cSteer (f : Nat → Int32) (i h s : Int32) : Int32 × (Nat → Int32) :=
  if cShip f i = true ∧ cCourse h s = true then (16 * f (5 * i.toNatClampNeg + 3) + f (5 * i.toNatClampNeg + 2), upd (upd f (5 * i.toNatClampNeg + 2) h) (5 * i.toNatClampNeg + 3) s) else (-10002, f)
def cRule (f : Nat → Int32) (k v : Int32) : Int32 × (Nat → Int32) :=
  if ¬ k < 0 ∧ ¬ 1 < k ∧ ¬ v < 1 ∧ v ≤ (if k = 0 then 999 else 99) then (f (36 + k.toNatClampNeg), upd f (36 + k.toNatClampNeg) v) else (-10002, f)
/-- CLOSEST, not yet in lowest terms -/
def cMs (f : Nat → Int32) (a : Nat) (h s : Int32) (b : Nat) : Int64 × Int64 × Int64 × Int64 :=
  let rx := (f (5 * b + 0) - f (5 * a + 0)).toInt64
  let ry := (f (5 * b + 1) - f (5 * a + 1)).toInt64
  let vx := (f (5 * b + 3) * vE (f (5 * b + 2)) - s * vE h).toInt64
  let vy := (f (5 * b + 3) * vN (f (5 * b + 2)) - s * vN h).toInt64
  if rx * vx + ry * vy < 0 then (-(rx * vx + ry * vy), vx * vx + vy * vy, (rx * vy - ry * vx) * (rx * vy - ry * vx), vx * vx + vy * vy) else (0, 1, rx * rx + ry * ry, 1)
def cRk (t1 t2 t3 t4 safe span : Int64) : Bool := decide (¬ safe * safe * t4 ≤ t3 ∧ ¬ span * t2 < t1)
def cWR (f : Nat → Int32) (a : Nat) (h s : Int32) (b : Nat) : Bool := cRk (cMs f a h s b).1 (cMs f a h s b).2.1 (cMs f a h s b).2.2.1 (cMs f a h s b).2.2.2 (f 36).toInt64 (f 37).toInt64
def cHR (f : Nat → Int32) (a b : Nat) : Bool := cWR f a (f (5 * a + 2)) (f (5 * a + 3)) b
def cMh (f : Nat → Int32) (a b : Nat) : Int64 × Int64 × Int64 × Int64 := cMs f a (f (5 * a + 2)) (f (5 * a + 3)) b
def cPc (t1 t3 safe : Int64) : Bool := decide (t1 = 0 ∧ ¬ t3 < safe * safe)
def cWorse (t o : Int64 × Int64 × Int64 × Int64) : Bool :=
  if o.1 * t.2.1 - t.1 * o.2.1 = 0 then decide (¬ o.2.2.1 * t.2.2.2 ≤ t.2.2.1 * o.2.2.2) else decide (¬ o.1 * t.2.1 - t.1 * o.2.1 ≤ 0)
def sdF : Nat → Int64 → Int64 → Int64
  | 0, p, _ => p
  | k + 1, p, q => if q = 0 then p else sdF k q (p - p / q * q)
def cLow (p q : Int64) (b : Bool) : Int64 := if sdF 100 p q = 0 then 0 else (if b = true then p else q) / sdF 100 p q
def cPt (t1 t2 t3 t4 : Int64) (w : Nat) : Int64 := if w < 2 then cLow t1 t2 (decide (w = 0)) else cLow t3 t4 (decide (w = 2))
def cAbs (x : Int32) : Int32 := if 0 ≤ x then x else 0 - x
def cSec (f : Nat → Int32) (a b : Nat) : Int32 :=
  let ux := vE (f (5 * a + 2))
  let uy := vN (f (5 * a + 2))
  let rx := f (5 * b + 0) - f (5 * a + 0)
  let ry := f (5 * b + 1) - f (5 * a + 1)
  let p := ux * rx + uy * ry
  let q := ux * ry - uy * rx
  if rx = 0 ∧ ry = 0 then 0 else if ¬ p ≤ 0 ∧ ¬ p < 4 * cAbs q then 0 else if ¬ 0 ≤ p ∧ ¬ (-2) * p < cAbs q then 3 else if 0 ≤ q then 2 else 1
def cTb (m n : Int32) : Int32 := if n = 3 then 1 else if m = 3 then 2 else if m = 1 then 1 else if m = 2 then 2 else if n = 1 then 2 else 1
def cTab (f : Nat → Int32) (a b : Nat) : Int32 := if cHR f a b = true then cTb (cSec f a b) (cSec f b a) else 0
def cPC (f : Nat → Int32) (i : Nat) : Bool := cPc (cMh f 0 i).1 (cMh f 0 i).2.2.1 (f 36).toInt64
def cNd (f : Nat → Int32) (i : Nat) : Int32 := if f (5 * i + 4) = 0 then cTab f 0 i else if cPC f i = true then 0 else f (5 * i + 4)
def lkF (f : Nat → Int32) : Nat → (Nat → Int32)
  | 0 => f
  | k + 1 => upd (lkF f k) (5 * (k + 1) + 4) (cNd (lkF f k) (k + 1))
def gwF (f : Nat → Int32) : Nat → Int32
  | 0 => 0
  | k + 1 => if f (5 * (k + 1) + 4) = 1 then gwF f k ||| ((1 : Int32) <<< (nI (k + 1) &&& 31)) else gwF f k
def wsF (f : Nat → Int32) (w : Int64 × Int64 × Int64 × Int64) : Nat → Int32 × Int64 × Int64 × Int64 × Int64
  | 0 => (-10001, w)
  | k + 1 => if cHR f 0 (k + 1) = true ∧ ((wsF f w k).1 = -10001 ∨ cWorse (cMh f 0 (k + 1)) (wsF f w k).2 = true) then (nI (k + 1), cMh f 0 (k + 1)) else wsF f w k
def cClr (f : Nat → Int32) (N a : Nat) (h s : Int32) : Bool := (List.range (N + 1)).all (fun b => decide (b = a) || !cWR f a h s b)
theorem cClr_t {f : Nat → Int32} {N a : Nat} {h s : Int32} (q : ∀ b, b < N + 1 → b ≠ a → cWR f a h s b = false) : cClr f N a h s = true := by
  refine List.all_eq_true.mpr (fun b hb => ?_)
  have hb' := List.mem_range.mp hb
  by_cases e : b = a
  · simp [e]
  · simp [q b hb' e]
theorem cClr_f {f : Nat → Int32} {N a b : Nat} {h s : Int32} (hb : b ≤ N) (e : b ≠ a) (q : cWR f a h s b = true) : cClr f N a h s = false := by
  cases hc : cClr f N a h s with
  | false => rfl
  | true =>
    have := List.all_eq_true.mp hc b (List.mem_range.mpr (by omega))
    simp [e, q] at this
def blF (f : Nat → Int32) (i : Nat) : Nat → Int32
  | 0 => 0
  | k + 1 => if cWR f 0 (nI k) (f 3) i = true then blF f i k ||| ((1 : Int32) <<< (nI k &&& 31)) else blF f i k
def cMg (f : Nat → Int32) (N a : Nat) : Bool := if a = 0 then decide (¬ gwF f N = 0) else (List.range (N + 1)).any (fun b => decide (¬ b = a) && decide (cTab f a b = 1))
theorem cMg_t {f : Nat → Int32} {N a b : Nat} (ha : ¬ a = 0) (hb : b ≤ N) (e : b ≠ a) (q : cTab f a b = 1) : cMg f N a = true := by
  rw [cMg, if_neg ha]
  exact List.any_eq_true.mpr ⟨b, List.mem_range.mpr (by omega), by simp [e, q]⟩
theorem cMg_f {f : Nat → Int32} {N a : Nat} (ha : ¬ a = 0) (q : ∀ b, b < N + 1 → b ≠ a → ¬ cTab f a b = 1) : cMg f N a = false := by
  cases hc : cMg f N a with
  | false => rfl
  | true =>
    rw [cMg, if_neg ha] at hc
    obtain ⟨b, hb, h⟩ := List.any_eq_true.mp hc
    simp at h
    exact absurd h.2 (q b (List.mem_range.mp hb) h.1)
def cTh (f : Nat → Int32) (a k : Nat) : Int32 := if k < 8 then (f (5 * a + 2) + nI (k + 1)) &&& 15 else (f (5 * a + 2) - nI (k - 7)) &&& 15
def cTurn (f : Nat → Int32) (N a : Nat) : Int32 := match (List.range 15).find? (fun k => cClr f N a (cTh f a k) (f (5 * a + 3))) with
  | some k => cTh f a k
  | none => if cClr f N a (f (5 * a + 2)) 0 = true then 16 else 17
theorem find_hit {p : Nat → Bool} : ∀ (n t : Nat), t < n → (∀ j, j < t → p j = false) → p t = true → (List.range n).find? p = some t := by
  intro n t ht hj hp
  rw [List.find?_eq_some_iff_getElem]
  refine ⟨hp, t, by simpa using ht, by simp, fun j hjt => ?_⟩
  simp [hj j hjt]
theorem find_miss {p : Nat → Bool} (n : Nat) (hj : ∀ j, j < n → p j = false) : (List.range n).find? p = none := by
  rw [List.find?_eq_none]
  intro x hx
  simp [hj x (List.mem_range.mp hx)]
theorem cTurn_hit {f : Nat → Int32} {N a t : Nat} (ht : t < 15) (hj : ∀ j, j < t → cClr f N a (cTh f a j) (f (5 * a + 3)) = false) (hp : cClr f N a (cTh f a t) (f (5 * a + 3)) = true) : cTurn f N a = cTh f a t := by
  rw [cTurn, find_hit 15 t ht hj hp]
theorem cTurn_miss {f : Nat → Int32} {N a : Nat} (hj : ∀ j, j < 15 → cClr f N a (cTh f a j) (f (5 * a + 3)) = false) : cTurn f N a = if cClr f N a (f (5 * a + 2)) 0 = true then 16 else 17 := by
  rw [cTurn, find_miss 15 hj]
def cAdv (f : Nat → Int32) (N a : Nat) : Int32 := if cMg f N a = true then cTurn f N a else f (5 * a + 2)
def cFol (f : Nat → Int32) (r : Int32) : Nat → Int32 := if r = 16 then upd (if 16 ≤ r then f else upd f 2 r) 3 0 else (if 16 ≤ r then f else upd f 2 r)
def cStay (f : Nat → Int32) (N : Nat) (k : Int32) : Bool := (List.range (N + 1)).all (fun i => cPlace (f (5 * i + 0) + k * cEast f i) && cPlace (f (5 * i + 1) + k * cNorth f i))
def mvS (g : Nat → Int32) (k : Nat) : Nat → Int32 := upd (upd g (5 * k + 0) (g (5 * k + 0) + cEast g k)) (5 * k + 1) ((upd g (5 * k + 0) (g (5 * k + 0) + cEast g k)) (5 * k + 1) + cNorth (upd g (5 * k + 0) (g (5 * k + 0) + cEast g k)) k)
def mvF (f : Nat → Int32) : Nat → (Nat → Int32)
  | 0 => f
  | k + 1 => mvS (mvF f k) k
def goF (f : Nat → Int32) (N : Nat) : Nat → (Nat → Int32)
  | 0 => f
  | k + 1 => lkF (mvF (goF f N k) (N + 1)) N
def cGo (f : Nat → Int32) (N : Nat) (k : Int32) : Int32 × (Nat → Int32) :=
  if ¬ k < 1 ∧ k ≤ 60 then (if cStay f N k = true then (gwF (upd (goF f N k.toNatClampNeg) 38 ((goF f N k.toNatClampNeg) 38 + k)) N, upd (goF f N k.toNatClampNeg) 38 ((goF f N k.toNatClampNeg) 38 + k)) else (-10003, f)) else (-10002, f)
theorem upd_self (f : Nat → Int32) (k : Nat) : upd f k (f k) = f := by
  funext j
  by_cases h : j = k
  · subst h; simp [upd]
  · simp [upd, h]
theorem upd_ne {f : Nat → Int32} {k j : Nat} {v : Int32} (h : ¬ j = k) : upd f k v j = f j := by simp [upd, h]
theorem upd_eq {f : Nat → Int32} {k : Nat} {v : Int32} : upd f k v k = v := by simp [upd]
theorem putF_ge {f : Nat → Int32} {n j : Nat} {x y h s : Int32} (q : 5 * n + 4 < j) : putF f n x y h s j = f j := by
  simp only [putF, upd, if_neg (show ¬ j = 5 * n + 0 by omega), if_neg (show ¬ j = 5 * n + 1 by omega), if_neg (show ¬ j = 5 * n + 2 by omega), if_neg (show ¬ j = 5 * n + 3 by omega), if_neg (show ¬ j = 5 * n + 4 by omega)]
theorem nodF_ge {f : Nat → Int32} {j : Nat} : ∀ {n : Nat}, 5 * n + 4 < j → nodF f n j = f j
  | 0, _ => rfl
  | n + 1, q => by rw [nodF, upd_ne (by omega)]; exact nodF_ge (by omega)
theorem lkF_ge {f : Nat → Int32} {j : Nat} : ∀ {n : Nat}, 5 * n + 4 < j → lkF f n j = f j
  | 0, _ => rfl
  | n + 1, q => by rw [lkF, upd_ne (by omega)]; exact lkF_ge (by omega)
theorem mvS_ge {f : Nat → Int32} {k j : Nat} (q : 5 * k + 1 < j) : mvS f k j = f j := by rw [mvS, upd_ne (by omega), upd_ne (by omega)]
theorem mvF_ge {f : Nat → Int32} {j : Nat} : ∀ {n : Nat}, 5 * n < j + 4 → mvF f n j = f j
  | 0, _ => rfl
  | n + 1, q => by rw [mvF, mvS_ge (by omega)]; exact mvF_ge (by omega)
theorem goF_ge {f : Nat → Int32} {N j : Nat} (q : 5 * N + 4 < j) : ∀ {n : Nat}, goF f N n j = f j
  | 0 => rfl
  | n + 1 => by rw [goF, lkF_ge q, mvF_ge (by omega)]; exact goF_ge q
theorem lk_tab {g : Nat → Int32} {k : Nat} (h : g (5 * (k + 1) + 4) = 0) : upd g (5 * (k + 1) + 4) (cTab g 0 (k + 1)) = upd g (5 * (k + 1) + 4) (cNd g (k + 1)) := by rw [cNd, if_pos h]
theorem lk_clr {g : Nat → Int32} {k : Nat} (h : ¬ g (5 * (k + 1) + 4) = 0) (h2 : cPC g (k + 1) = true) : upd g (5 * (k + 1) + 4) 0 = upd g (5 * (k + 1) + 4) (cNd g (k + 1)) := by rw [cNd, if_neg h, if_pos h2]
theorem lk_keep {g : Nat → Int32} {k : Nat} (h : ¬ g (5 * (k + 1) + 4) = 0) (h2 : cPC g (k + 1) = false) : g = upd g (5 * (k + 1) + 4) (cNd g (k + 1)) := by rw [cNd, if_neg h, if_neg (by rw [h2]; decide), upd_self]
theorem cStay_t {f : Nat → Int32} {N : Nat} {k : Int32} (q : ∀ i, i < N + 1 → cPlace (f (5 * i + 0) + k * cEast f i) = true ∧ cPlace (f (5 * i + 1) + k * cNorth f i) = true) : cStay f N k = true := by
  refine List.all_eq_true.mpr (fun b hb => ?_)
  have := q b (List.mem_range.mp hb)
  rw [this.1, this.2]; rfl
theorem cStay_f {f : Nat → Int32} {N i : Nat} {k : Int32} (hi : i ≤ N) (q : cPlace (f (5 * i + 0) + k * cEast f i) = false ∨ cPlace (f (5 * i + 1) + k * cNorth f i) = false) : cStay f N k = false := by
  cases hc : cStay f N k with
  | false => rfl
  | true =>
    have := List.all_eq_true.mp hc i (List.mem_range.mpr (by omega))
    rw [Bool.and_eq_true] at this
    rcases q with q | q
    · rw [q] at this; exact absurd this.1 (by decide)
    · rw [q] at this; exact absurd this.2 (by decide)
theorem z_all {P : Nat → Prop} {n : Nat} (h : ∀ b, b < n → P b) (hn : P n) : ∀ b, b < n + 1 → P b := by
  intro b hb
  rcases Nat.lt_or_ge b n with q | q
  · exact h b q
  · rw [show b = n by omega]; exact hn
theorem cTh_lo {f : Nat → Int32} {a k : Nat} (h : k < 8) : (f (5 * a + 2) + nI (k + 1)) &&& 15 = cTh f a k := by rw [cTh, if_pos h]
theorem cTh_hi {f : Nat → Int32} {a k : Nat} : (f (5 * a + 2) - nI (k + 1)) &&& 15 = cTh f a (8 + k) := by rw [cTh, if_neg (by omega), show 8 + k - 7 = k + 1 by omega]
def fsF (f : Nat → Int32) (i : Nat) (h : Int64) : Nat → Int64
  | 0 => h
  | k + 1 => 31 * fsF f i h k + (cPart f i k).toInt64
def cFs (f : Nat → Int32) (N i : Nat) (h : Int64) : Int64 := 31 * fsF f i h 4 + (cAdv f N i).toInt64
def fpF (m : Int64 × Int64 × Int64 × Int64) (h : Int64) : Nat → Int64
  | 0 => h
  | k + 1 => 31 * fpF m h k + cPt m.1 m.2.1 m.2.2.1 m.2.2.2 k
def cFo (f : Nat → Int32) (i : Nat) (h : Int64) : Int64 := 31 * (31 * (31 * fpF (cMh f 0 i) (31 * h + (f (5 * i + 4)).toInt64) 4 + (cSec f 0 i).toInt64) + (cSec f i 0).toInt64) + (blF f i 16).toInt64
