/-! the text: what a reader of it finds, from a place on -/
def chF (b : Nat → Int32) (L a : Nat) : Int32 := if a < L then b a else -1
def skF (b : Nat → Int32) (L : Nat) : Nat → Nat → Nat
  | 0, a => a
  | k + 1, a => if a < L ∧ b a = 32 then skF b L k (a + 1) else a
def sk (b : Nat → Int32) (L a : Nat) : Nat := skF b L (L - a) a
theorem sk_step {b : Nat → Int32} {L a : Nat} (h : a < L) (h2 : b a = 32) : sk b L a = sk b L (a + 1) := by
  rw [sk, sk, show L - a = (L - (a + 1)) + 1 by omega, skF, if_pos ⟨h, h2⟩]
theorem sk_stop {b : Nat → Int32} {L a : Nat} (h : ¬ (a < L ∧ b a = 32)) : sk b L a = a := by
  rw [sk]
  cases e : L - a with
  | zero => rfl
  | succ k => rw [skF, if_neg h]
theorem skF_le {b : Nat → Int32} {L : Nat} : ∀ (k a : Nat), a ≤ L → a ≤ skF b L k a ∧ skF b L k a ≤ L
  | 0, a, h => ⟨Nat.le_refl a, h⟩
  | k + 1, a, h => by
    rw [skF]
    by_cases q : a < L ∧ b a = 32
    · rw [if_pos q]
      have := skF_le (b := b) (L := L) k (a + 1) (by omega)
      omega
    · rw [if_neg q]; omega
theorem sk_le {b : Nat → Int32} {L a : Nat} (h : a ≤ L) : a ≤ sk b L a ∧ sk b L a ≤ L := skF_le _ _ h
theorem ch_lt {b : Nat → Int32} {L a : Nat} {v : Int32} (h : chF b L a = v) (hv : ¬ v = -1) : a < L := by
  rcases Nat.lt_or_ge a L with q | q
  · exact q
  · rw [chF, if_neg (by omega)] at h; exact absurd h.symm hv
theorem ch_in {b : Nat → Int32} {L a : Nat} (h : a < L) : chF b L a = b a := if_pos h
def isFig (c : Int32) : Bool := decide (¬ c < 48 ∧ ¬ 57 < c)
theorem fig_lt {b : Nat → Int32} {L a : Nat} (h : isFig (chF b L a) = true) : a < L := by
  rcases Nat.lt_or_ge a L with q | q
  · exact q
  · rw [chF, if_neg (by omega)] at h; exact absurd h (by decide)
def dgF (b : Nat → Int32) (L : Nat) : Nat → Nat → Int32 → Nat × Int32
  | 0, a, v => (a, v)
  | k + 1, a, v => if isFig (chF b L a) = true then dgF b L k (a + 1) (10 * v + chF b L a - 48) else (a, v)
def sgF (b : Nat → Int32) (L a : Nat) (neg : Bool) : Bool := neg && decide (chF b L a = 45)
def a1F (b : Nat → Int32) (L a : Nat) (neg : Bool) : Nat := if sgF b L a neg = true then a + 1 else a
def nmF (b : Nat → Int32) (L a : Nat) (neg : Bool) : Bool × Nat × Int32 :=
  if isFig (chF b L (a1F b L a neg)) = true then
    (!isFig (chF b L (dgF b L 4 (a1F b L a neg) 0).1), (dgF b L 4 (a1F b L a neg) 0).1, if sgF b L a neg = true then -(dgF b L 4 (a1F b L a neg) 0).2 else (dgF b L 4 (a1F b L a neg) 0).2)
  else (false, a1F b L a neg, 0)
theorem dg_step {b : Nat → Int32} {L t n : Nat} {x : Int32} (ht : t < 4) (h : isFig (chF b L n) = true) : dgF b L (4 - t) n x = dgF b L (4 - (t + 1)) (n + 1) (10 * x + chF b L n - 48) := by
  rw [show 4 - t = (4 - (t + 1)) + 1 by omega, dgF, if_pos h]
theorem dg_stop {b : Nat → Int32} {L k n : Nat} {x : Int32} (h : isFig (chF b L n) = false) : dgF b L k n x = (n, x) := by
  cases k with
  | zero => rfl
  | succ k => rw [dgF, if_neg (by rw [h]; decide)]
theorem nm_eq {b : Nat → Int32} {L a n : Nat} {neg : Bool} {x : Int32} (hf : isFig (chF b L (a1F b L a neg)) = true) (hd : dgF b L 4 (a1F b L a neg) 0 = (n, x)) : nmF b L a neg = (!isFig (chF b L n), n, if sgF b L a neg = true then -x else x) := by
  rw [nmF, if_pos hf, hd]
theorem nm_bad {b : Nat → Int32} {L a : Nat} {neg : Bool} (hf : isFig (chF b L (a1F b L a neg)) = false) : nmF b L a neg = (false, a1F b L a neg, 0) := by
  rw [nmF, if_neg (by rw [hf]; decide)]
def nOf (c : Int32) : Int32 := if c = 97 ∨ c = 111 then 4 else if c = 116 ∨ c = 115 then 2 else if c = 110 then 1 else if c = 98 then 0 else -1
def nsF (b : Nat → Int32) (L : Nat) (hp : Bool) : Nat → Nat → Nat → (Nat → Int32) → Bool × Nat × (Nat → Int32)
  | 0, _, a, nu => (true, a, nu)
  | r + 1, j, a, nu => if (nmF b L (sk b L a) (hp && decide (j < 2))).1 = true then nsF b L hp r (j + 1) (nmF b L (sk b L a) (hp && decide (j < 2))).2.1 (upd nu j (nmF b L (sk b L a) (hp && decide (j < 2))).2.2) else (false, (nmF b L (sk b L a) (hp && decide (j < 2))).2.1, nu)
def hpF (c : Int32) : Bool := decide (c = 97 ∨ c = 111)
def odF (b : Nat → Int32) (L a : Nat) (nu : Nat → Int32) : Bool × Nat × (Nat → Int32) :=
  if nOf (chF b L a) = -1 then (false, a, nu)
  else if (nsF b L (hpF (chF b L a)) (nOf (chF b L a)).toNatClampNeg 0 (a + 1) nu).1 = true then
    (if chF b L (sk b L (nsF b L (hpF (chF b L a)) (nOf (chF b L a)).toNatClampNeg 0 (a + 1) nu).2.1) = 59 then (true, sk b L (sk b L (nsF b L (hpF (chF b L a)) (nOf (chF b L a)).toNatClampNeg 0 (a + 1) nu).2.1 + 1), (nsF b L (hpF (chF b L a)) (nOf (chF b L a)).toNatClampNeg 0 (a + 1) nu).2.2)
     else (false, sk b L (nsF b L (hpF (chF b L a)) (nOf (chF b L a)).toNatClampNeg 0 (a + 1) nu).2.1, (nsF b L (hpF (chF b L a)) (nOf (chF b L a)).toNatClampNeg 0 (a + 1) nu).2.2))
  else (false, (nsF b L (hpF (chF b L a)) (nOf (chF b L a)).toNatClampNeg 0 (a + 1) nu).2.1, (nsF b L (hpF (chF b L a)) (nOf (chF b L a)).toNatClampNeg 0 (a + 1) nu).2.2)
theorem ns_ok {b : Nat → Int32} {L wn j n : Nat} {hp : Bool} {nu : Nat → Int32} (hj : j < wn) (h : (nmF b L (sk b L n) (hp && decide (j < 2))).1 = true) :
    nsF b L hp (wn - j) j n nu = nsF b L hp (wn - (j + 1)) (j + 1) (nmF b L (sk b L n) (hp && decide (j < 2))).2.1 (upd nu j (nmF b L (sk b L n) (hp && decide (j < 2))).2.2) := by
  rw [show wn - j = (wn - (j + 1)) + 1 by omega, nsF, if_pos h]
theorem ns_bad {b : Nat → Int32} {L wn j n : Nat} {hp : Bool} {nu : Nat → Int32} (hj : j < wn) (h : (nmF b L (sk b L n) (hp && decide (j < 2))).1 = false) :
    nsF b L hp (wn - j) j n nu = (false, (nmF b L (sk b L n) (hp && decide (j < 2))).2.1, nu) := by
  rw [show wn - j = (wn - (j + 1)) + 1 by omega, nsF, if_neg (by rw [h]; decide)]
theorem ns_end {b : Nat → Int32} {L wn j n : Nat} {hp : Bool} {nu : Nat → Int32} (hj : wn ≤ j) : nsF b L hp (wn - j) j n nu = (true, n, nu) := by
  rw [show wn - j = 0 by omega, nsF]
theorem nOf_cases (c : Int32) : nOf c = 4 ∨ nOf c = 2 ∨ nOf c = 1 ∨ nOf c = 0 ∨ nOf c = -1 := by
  unfold nOf
  split
  · exact Or.inl rfl
  · split
    · exact Or.inr (Or.inl rfl)
    · split
      · exact Or.inr (Or.inr (Or.inl rfl))
      · split
        · exact Or.inr (Or.inr (Or.inr (Or.inl rfl)))
        · exact Or.inr (Or.inr (Or.inr (Or.inr rfl)))
theorem nOf_nat {c : Int32} (h : 0 ≤ nOf c) : ∃ wn : Nat, nOf c = nI wn ∧ wn ≤ 4 := by
  rcases nOf_cases c with e | e | e | e | e
  · exact ⟨4, e, by omega⟩
  · exact ⟨2, e, by omega⟩
  · exact ⟨1, e, by omega⟩
  · exact ⟨0, e, by omega⟩
  · rw [e] at h; exact absurd h (by decide)
theorem nOf_neg {c : Int32} (h : ¬ 0 ≤ nOf c) : nOf c = -1 := by
  rcases nOf_cases c with e | e | e | e | e
  · rw [e] at h; exact absurd (by decide) h
  · rw [e] at h; exact absurd (by decide) h
  · rw [e] at h; exact absurd (by decide) h
  · rw [e] at h; exact absurd (by decide) h
  · exact e
theorem nOf_lt {b : Nat → Int32} {L a : Nat} (h : 0 ≤ nOf (chF b L a)) : a < L := by
  rcases Nat.lt_or_ge a L with q | q
  · exact q
  · rw [chF, if_neg (by omega)] at h; exact absurd h (by decide)
theorem od_b1 {b : Nat → Int32} {L a : Nat} {nu : Nat → Int32} (h : nOf (chF b L a) = -1) : odF b L a nu = (false, a, nu) := by rw [odF, if_pos h]
theorem nI_ne {wn : Nat} (h : wn ≤ 4) : ¬ nI wn = -1 := by
  rcases (show wn = 0 ∨ wn = 1 ∨ wn = 2 ∨ wn = 3 ∨ wn = 4 by omega) with rfl | rfl | rfl | rfl | rfl <;> decide
theorem od_b2 {b : Nat → Int32} {L a n wn : Nat} {nu nu1 : Nat → Int32} (h : nOf (chF b L a) = nI wn) (hw : wn ≤ 4) (h2 : nsF b L (hpF (chF b L a)) wn 0 (a + 1) nu = (false, n, nu1)) : odF b L a nu = (false, n, nu1) := by
  rw [odF, h, if_neg (nI_ne hw), nI_clamp (by omega), h2, if_neg Bool.false_ne_true]
theorem od_b3 {b : Nat → Int32} {L a n wn : Nat} {nu nu1 : Nat → Int32} (h : nOf (chF b L a) = nI wn) (hw : wn ≤ 4) (h2 : nsF b L (hpF (chF b L a)) wn 0 (a + 1) nu = (true, n, nu1)) (h3 : ¬ chF b L (sk b L n) = 59) : odF b L a nu = (false, sk b L n, nu1) := by
  rw [odF, h, if_neg (nI_ne hw), nI_clamp (by omega), h2, if_pos rfl, if_neg h3]
theorem od_ok {b : Nat → Int32} {L a n wn : Nat} {nu nu1 : Nat → Int32} (h : nOf (chF b L a) = nI wn) (hw : wn ≤ 4) (h2 : nsF b L (hpF (chF b L a)) wn 0 (a + 1) nu = (true, n, nu1)) (h3 : chF b L (sk b L n) = 59) : odF b L a nu = (true, sk b L (sk b L n + 1), nu1) := by
  rw [odF, h, if_neg (nI_ne hw), nI_clamp (by omega), h2, if_pos rfl, if_pos h3]
/-- what the row held before matters not: whether, whereto, and the numbers that are read -/
theorem ns_ind {b : Nat → Int32} {L : Nat} {hp : Bool} : ∀ (r j a : Nat) (nu nv : Nat → Int32), (nsF b L hp r j a nu).1 = (nsF b L hp r j a nv).1 ∧ (nsF b L hp r j a nu).2.1 = (nsF b L hp r j a nv).2.1 ∧
    ((nsF b L hp r j a nu).1 = true → ∀ i, (∀ q, q < j → i = q → nu i = nv i) → i < j + r → (nsF b L hp r j a nu).2.2 i = (nsF b L hp r j a nv).2.2 i)
  | 0, j, a, nu, nv => ⟨rfl, rfl, fun _ i h h2 => h i (by omega) rfl⟩
  | r + 1, j, a, nu, nv => by
    rw [nsF, nsF]
    by_cases e : (nmF b L (sk b L a) (hp && decide (j < 2))).1 = true
    · rw [if_pos e, if_pos e]
      have h := ns_ind (b := b) (L := L) (hp := hp) r (j + 1) (nmF b L (sk b L a) (hp && decide (j < 2))).2.1 (upd nu j (nmF b L (sk b L a) (hp && decide (j < 2))).2.2) (upd nv j (nmF b L (sk b L a) (hp && decide (j < 2))).2.2)
      refine ⟨h.1, h.2.1, fun q i hi hlt => h.2.2 q i (fun z hz hzi => ?_) (by omega)⟩
      by_cases ej : i = j
      · rw [ej, upd_eq, upd_eq]
      · rw [upd_ne ej, upd_ne ej]; exact hi z (by omega) hzi
    · rw [if_neg e, if_neg e]
      exact ⟨rfl, rfl, fun q => Bool.noConfusion q⟩
def odOk (b : Nat → Int32) (L a : Nat) : Bool := (odF b L a (fun _ => 0)).1
def odPos (b : Nat → Int32) (L a : Nat) : Nat := (odF b L a (fun _ => 0)).2.1
def odVal (b : Nat → Int32) (L a : Nat) : Nat → Int32 := (odF b L a (fun _ => 0)).2.2
theorem od_ind (b : Nat → Int32) (L a : Nat) (nu : Nat → Int32) : (odF b L a nu).1 = odOk b L a ∧ (odF b L a nu).2.1 = odPos b L a ∧ (odOk b L a = true → ∀ i wn, nOf (chF b L a) = nI wn → wn ≤ 4 → i < wn → (odF b L a nu).2.2 i = odVal b L a i) := by
  unfold odOk odPos odVal
  by_cases e : nOf (chF b L a) = -1
  · rw [od_b1 e, od_b1 e]
    exact ⟨rfl, rfl, fun q => Bool.noConfusion q⟩
  · obtain ⟨wn, hw, hw4⟩ : ∃ wn : Nat, nOf (chF b L a) = nI wn ∧ wn ≤ 4 := by
      rcases nOf_cases (chF b L a) with q | q | q | q | q
      · exact ⟨4, q, by omega⟩
      · exact ⟨2, q, by omega⟩
      · exact ⟨1, q, by omega⟩
      · exact ⟨0, q, by omega⟩
      · exact absurd q e
    obtain ⟨h1, h2, h3⟩ := ns_ind (b := b) (L := L) (hp := hpF (chF b L a)) wn 0 (a + 1) nu (fun _ => 0)
    rcases hx : nsF b L (hpF (chF b L a)) wn 0 (a + 1) nu with ⟨o1, n1, v1⟩
    rcases hy : nsF b L (hpF (chF b L a)) wn 0 (a + 1) (fun _ => 0) with ⟨o2, n2, v2⟩
    rw [hx, hy] at h1 h2 h3
    dsimp only at h1 h2 h3
    subst h1; subst h2
    cases o1 with
    | false => rw [od_b2 hw hw4 hx, od_b2 hw hw4 hy]; exact ⟨rfl, rfl, fun q => Bool.noConfusion q⟩
    | true =>
      by_cases e2 : chF b L (sk b L n1) = 59
      · rw [od_ok hw hw4 hx e2, od_ok hw hw4 hy e2]
        refine ⟨rfl, rfl, fun _ i wn2 hw2 hw24 hi => h3 rfl i (fun q hq => absurd hq (Nat.not_lt_zero q)) ?_⟩
        have : wn2 = wn := (z_eq rfl rfl (by omega) (by omega)).mp (hw2.symm.trans hw)
        omega
      · rw [od_b3 hw hw4 hx e2, od_b3 hw hw4 hy e2]; exact ⟨rfl, rfl, fun q => Bool.noConfusion q⟩
