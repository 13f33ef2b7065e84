/-! the reference's writes beside the class's -/
def putQ (q : Nat → Int32) (n : Nat) (x y h s : Int32) : Nat → Int32 := upd (upd (upd (upd (upd q (4 + 5 * n + 0) x) (4 + 5 * n + 1) y) (4 + 5 * n + 2) h) (4 + 5 * n + 3) s) (4 + 5 * n + 4) 0
theorem Rg_put5 {N n : Nat} {f q : Nat → Int32} {x y h s : Int32} (hR : Rg N f q) (hn : n ≤ N) (h6 : N ≤ 6) : Rg N (putF f n x y h s) (putQ q n x y h s) :=
  ((((hR.put hn (k := 0) (by omega) h6 x).put hn (k := 1) (by omega) h6 y).put hn (k := 2) (by omega) h6 h).put hn (k := 3) (by omega) h6 s).put hn (k := 4) (by omega) h6 0
theorem putQ_ne {q : Nat → Int32} {n j : Nat} {x y h s : Int32} (h0 : j < 4 + 5 * n ∨ 4 + 5 * n + 4 < j) : putQ q n x y h s j = q j := by
  rw [putQ, upd_ne (by omega), upd_ne (by omega), upd_ne (by omega), upd_ne (by omega), upd_ne (by omega)]
theorem Rg_join {N : Nat} {f q : Nat → Int32} {x y h s : Int32} (hR : Rg N f q) (h6 : N < 6) : Rg (N + 1) (putF (upd f 35 (nI (N + 1))) (N + 1) x y h s) (putQ (upd q 0 (nI (N + 1 + 1))) (N + 1) x y h s) := by
  obtain ⟨h0, h1, h2, h3, h4⟩ := hR
  refine ⟨by rw [putQ_ne (by omega), upd_eq], by rw [putQ_ne (by omega), putF_ge (by omega), upd_ne (by omega), upd_ne (by omega)]; exact h1, by rw [putQ_ne (by omega), putF_ge (by omega), upd_ne (by omega), upd_ne (by omega)]; exact h2, by rw [putQ_ne (by omega), putF_ge (by omega), upd_ne (by omega), upd_ne (by omega)]; exact h3, fun j hj => ?_⟩
  by_cases e : j < 5 * (N + 1)
  · rw [putQ_ne (by omega), putF_lt e, upd_ne (by omega), upd_ne (by omega)]; exact h4 j e
  · obtain ⟨k, rfl⟩ : ∃ k, j = 5 * (N + 1) + k := ⟨j - 5 * (N + 1), by omega⟩
    rcases (show k = 0 ∨ k = 1 ∨ k = 2 ∨ k = 3 ∨ k = 4 by omega) with rfl | rfl | rfl | rfl | rfl
    · rw [putF_at0, putQ, upd_ne (by omega), upd_ne (by omega), upd_ne (by omega), upd_ne (by omega), show 4 + (5 * (N + 1) + 0) = 4 + 5 * (N + 1) + 0 by omega, upd_eq]
    · rw [putF_at1, putQ, upd_ne (by omega), upd_ne (by omega), upd_ne (by omega), show 4 + (5 * (N + 1) + 1) = 4 + 5 * (N + 1) + 1 by omega, upd_eq]
    · rw [putF_at2, putQ, upd_ne (by omega), upd_ne (by omega), show 4 + (5 * (N + 1) + 2) = 4 + 5 * (N + 1) + 2 by omega, upd_eq]
    · rw [putF_at3, putQ, upd_ne (by omega), show 4 + (5 * (N + 1) + 3) = 4 + 5 * (N + 1) + 3 by omega, upd_eq]
    · rw [putF_at4, putQ, show 4 + (5 * (N + 1) + 4) = 4 + 5 * (N + 1) + 4 by omega, upd_eq]
theorem Rg_cell {N k : Nat} {f q : Nat → Int32} {v : Int32} (hR : Rg N f q) (h6 : N ≤ 6) (hk : k = 1 ∨ k = 2 ∨ k = 3) : Rg N (upd f (35 + k) v) (upd q k v) := by
  obtain ⟨h0, h1, h2, h3, h4⟩ := hR
  refine ⟨by rw [upd_ne (by omega)]; exact h0, ?_, ?_, ?_, fun j hj => by rw [upd_ne (by omega), upd_ne (by omega)]; exact h4 j hj⟩
  · rcases hk with rfl | rfl | rfl
    · rw [upd_eq, show 35 + 1 = 36 from rfl, upd_eq]
    · rw [upd_ne (by omega), upd_ne (by omega)]; exact h1
    · rw [upd_ne (by omega), upd_ne (by omega)]; exact h1
  · rcases hk with rfl | rfl | rfl
    · rw [upd_ne (by omega), upd_ne (by omega)]; exact h2
    · rw [upd_eq, show 35 + 2 = 37 from rfl, upd_eq]
    · rw [upd_ne (by omega), upd_ne (by omega)]; exact h2
  · rcases hk with rfl | rfl | rfl
    · rw [upd_ne (by omega), upd_ne (by omega)]; exact h3
    · rw [upd_ne (by omega), upd_ne (by omega)]; exact h3
    · rw [upd_eq, show 35 + 3 = 38 from rfl, upd_eq]
theorem Rg_leave {N n : Nat} {f q q1 : Nat → Int32} (hR : Rg N f q) (h6 : N ≤ 6) (hn1 : 1 ≤ n) (hn : n ≤ N) (e0 : q1 0 = nI N) (e1 : ∀ j, 1 ≤ j → j < 4 + 5 * n → q1 j = q j) (e2 : ∀ j, 4 + 5 * n ≤ j → j < 39 → q1 j = if j + 5 < 39 then q (j + 5) else 0) :
    Rg (N - 1) (upd (va_cpy f f (5 * (n + 1)) (5 * n) (5 * (N - n))) 35 (nI (N - 1))) q1 := by
  obtain ⟨h0, h1, h2, h3, h4⟩ := hR
  refine ⟨by rw [e0]; congr 1; omega, ?_, ?_, ?_, fun j hj => ?_⟩
  · rw [e1 1 (by omega) (by omega), upd_ne (by omega), pk_cpy_out (by omega)]; exact h1
  · rw [e1 2 (by omega) (by omega), upd_ne (by omega), pk_cpy_out (by omega)]; exact h2
  · rw [e1 3 (by omega) (by omega), upd_ne (by omega), pk_cpy_out (by omega)]; exact h3
  · by_cases e : j < 5 * n
    · rw [e1 (4 + j) (by omega) (by omega), upd_ne (by omega), pk_cpy_out (by omega)]; exact h4 j (by omega)
    · rw [e2 (4 + j) (by omega) (by omega), if_pos (by omega), upd_ne (by omega), pk_cpy_in (by omega) (by omega), show 4 + j + 5 = 4 + (j + 5) by omega, h4 (j + 5) (by omega)]
      congr 1; omega
theorem nN_lk {f : Nat → Int32} {n : Nat} (h : n ≤ 6) : nN (lkF f n) = nN f := by rw [nN, nN, lkF_ge (by omega)]
theorem nN_nod {f : Nat → Int32} {n : Nat} (h : n ≤ 6) : nN (nodF f n) = nN f := by rw [nN, nN, nodF_ge (by omega)]
theorem nN_put {f : Nat → Int32} {n : Nat} {x y h s : Int32} (q : n ≤ 6) : nN (putF f n x y h s) = nN f := by rw [nN, nN, putF_ge (by omega)]
theorem nN_upd {f : Nat → Int32} {k : Nat} {v : Int32} (h : ¬ 35 = k) : nN (upd f k v) = nN f := by rw [nN, nN, upd_ne h]
theorem nN_mv {f : Nat → Int32} {n : Nat} (h : n ≤ 7) : nN (mvF f n) = nN f := by rw [nN, nN, mvF_ge (by omega)]
theorem nN_go {f : Nat → Int32} {N t : Nat} (h : N ≤ 6) : nN (goF f N t) = nN f := by rw [nN, nN, goF_ge (by omega)]
theorem cSec_cases (f : Nat → Int32) (a b : Nat) : cSec f a b = 0 ∨ cSec f a b = 1 ∨ cSec f a b = 2 ∨ cSec f a b = 3 := by
  unfold cSec
  dsimp only
  split
  · exact Or.inl rfl
  · split
    · exact Or.inl rfl
    · split
      · exact Or.inr (Or.inr (Or.inr rfl))
      · split
        · exact Or.inr (Or.inr (Or.inl rfl))
        · exact Or.inr (Or.inl rfl)
theorem tab_m {f : Nat → Int32} {a b : Nat} {n : Int32} (h1 : ¬ n = 3) (h2 : ¬ cSec f a b = 3) (h3 : ¬ cSec f a b = 0) : cSec f a b = cTb (cSec f a b) n := by
  rcases cSec_cases f a b with e | e | e | e
  · exact absurd e h3
  · rw [e, cTb, if_neg h1, if_neg (by decide), if_pos rfl]
  · rw [e, cTb, if_neg h1, if_neg (by decide), if_neg (by decide), if_pos rfl]
  · exact absurd e h2
theorem pc_eq {f : Nat → Int32} {i : Nat} (hI : Iv f) (hi : i ≤ nN f) : cPC f i = decide (¬ cRx f 0 i * cVx f (f (5 * 0 + 2)) (f (5 * 0 + 3)) i + cRy f 0 i * cVy f (f (5 * 0 + 2)) (f (5 * 0 + 3)) i < 0 ∧ ¬ cRx f 0 i * cRx f 0 i + cRy f 0 i * cRy f 0 i < (f 36).toInt64 * (f 36).toInt64) := by
  have hB := Bd_of (h := f (5 * 0 + 2)) hI (Nat.zero_le _) hi (hI.2.2.1 0 (Nat.zero_le _)).2.2.2
  rw [cPC, cMh, cMs_mS, mS, cPc]
  by_cases h : cRx f 0 i * cVx f (f (5 * 0 + 2)) (f (5 * 0 + 3)) i + cRy f 0 i * cVy f (f (5 * 0 + 2)) (f (5 * 0 + 3)) i < 0
  · rw [if_pos h]
    have hd := (bd_dot hB).2
    have hlt := Int64.lt_iff_toInt_lt.mp h
    rw [w_0] at hlt
    have : ¬ -(cRx f 0 i * cVx f (f (5 * 0 + 2)) (f (5 * 0 + 3)) i + cRy f 0 i * cVy f (f (5 * 0 + 2)) (f (5 * 0 + 3)) i) = 0 := fun e => by
      have e2 := congrArg Int64.toInt e
      rw [w_neg (by have := hd.1; omega), w_0] at e2
      omega
    simp only [this, h, not_true, false_and]
  · rw [if_neg h]
    simp only [h, not_false_iff, true_and]
theorem gwF_congr {f g : Nat → Int32} : ∀ {n : Nat}, (∀ k, 1 ≤ k → k ≤ n → f (5 * k + 4) = g (5 * k + 4)) → gwF f n = gwF g n
  | 0, _ => rfl
  | n + 1, h => by rw [gwF, gwF, h (n + 1) (by omega) (by omega), gwF_congr (fun k h1 h2 => h k h1 (by omega))]
theorem or_zero (x : Int32) : x ||| 0 = x := by simp
theorem gw_look {f : Nat → Int32} {n : Nat} {x y : Int32} (hx : x = gwF (lkF f n) n) (hy : (cNd (lkF f n) (n + 1) = 1 ∧ y = (1 : Int32) <<< (nI (n + 1) &&& 31)) ∨ (¬ cNd (lkF f n) (n + 1) = 1 ∧ y = 0)) : x ||| y = gwF (lkF f (n + 1)) (n + 1) := by
  have e : gwF (lkF f (n + 1)) n = gwF (lkF f n) n := gwF_congr (fun k h1 h2 => by rw [lkF, upd_ne (by omega)])
  have e2 : lkF f (n + 1) (5 * (n + 1) + 4) = cNd (lkF f n) (n + 1) := by rw [lkF, upd_eq]
  rw [gwF, e2, e, ← hx]
  rcases hy with ⟨h, rfl⟩ | ⟨h, rfl⟩
  · rw [if_pos h]
  · rw [if_neg h, or_zero]
theorem or_eq0 (a b : Int32) : a ||| b = 0 ↔ a = 0 ∧ b = 0 := by
  constructor
  · intro h
    have h := congrArg Int32.toBitVec h
    rw [Int32.toBitVec_or] at h
    have h := BitVec.or_eq_zero_iff.mp h
    exact ⟨Int32.toBitVec_inj.mp h.1, Int32.toBitVec_inj.mp h.2⟩
  · rintro ⟨rfl, rfl⟩; rfl
theorem shl_ne {k : Nat} (h : k ≤ 6) : ¬ (1 : Int32) <<< (nI k &&& 31) = 0 := by
  rcases (show k = 0 ∨ k = 1 ∨ k = 2 ∨ k = 3 ∨ k = 4 ∨ k = 5 ∨ k = 6 by omega) with rfl | rfl | rfl | rfl | rfl | rfl | rfl <;> decide
theorem gw_zero {f : Nat → Int32} : ∀ {n : Nat}, n ≤ 6 → (gwF f n = 0 ↔ ∀ k, 1 ≤ k → k ≤ n → ¬ f (5 * k + 4) = 1)
  | 0, _ => ⟨fun _ k h1 h2 => by omega, fun _ => rfl⟩
  | n + 1, h6 => by
    have ih := gw_zero (f := f) (n := n) (by omega)
    rw [gwF]
    by_cases e : f (5 * (n + 1) + 4) = 1
    · rw [if_pos e, or_eq0]
      exact ⟨fun q => absurd q.2 (shl_ne h6), fun q => absurd e (q (n + 1) (by omega) (by omega))⟩
    · rw [if_neg e, ih]
      refine ⟨fun q k h1 h2 => ?_, fun q k h1 h2 => q k h1 (by omega)⟩
      by_cases ek : k = n + 1
      · subst ek; exact e
      · exact q k h1 (by omega)
def mD (f : Nat → Int32) (a j : Nat) : Prop := if a = 0 then f (5 * j + 4) = 1 else cTab f a j = 1
theorem mg_end {f : Nat → Int32} {N a : Nat} {bz : Bool} (h6 : N ≤ 6) (h1 : bz = true → ∃ j, j < N + 1 ∧ j ≠ a ∧ mD f a j) (h2 : bz = false → ∀ j, j < N + 1 → j ≠ a → ¬ mD f a j) : bz = cMg f N a := by
  by_cases ha : a = 0
  · subst ha
    rw [cMg, if_pos rfl]
    cases bz with
    | true =>
      obtain ⟨j, hj, hne, hd⟩ := h1 rfl
      rw [mD, if_pos rfl] at hd
      exact (decide_eq_true (show ¬ gwF f N = 0 from fun e => (gw_zero h6).mp e j (by omega) (by omega) hd)).symm
    | false =>
      have := h2 rfl
      refine (decide_eq_false (fun e => e ((gw_zero h6).mpr (fun k hk1 hk2 hk => ?_)))).symm
      have q := this k (by omega) (by omega)
      rw [mD, if_pos rfl] at q
      exact q hk
  · cases bz with
    | true =>
      obtain ⟨j, hj, hne, hd⟩ := h1 rfl
      rw [mD, if_neg ha] at hd
      exact (cMg_t ha (by omega) hne hd).symm
    | false =>
      refine (cMg_f ha (fun j hj hne => ?_)).symm
      have q := h2 rfl j hj hne
      rw [mD, if_neg ha] at q
      exact q
theorem cl_end {f : Nat → Int32} {N a : Nat} {h s : Int32} {bz : Bool} (h1 : bz = true → ∀ j, j < N + 1 → j ≠ a → cWR f a h s j = false) (h2 : bz = false → ∃ j, j < N + 1 ∧ j ≠ a ∧ cWR f a h s j = true) : bz = cClr f N a h s := by
  cases bz with
  | true => exact (cClr_t (h1 rfl)).symm
  | false =>
    obtain ⟨j, hj, hne, hd⟩ := h2 rfl
    exact (cClr_f (by omega) hne hd).symm
theorem th_lo {f : Nat → Int32} {a n k : Nat} (hk : f (5 * a + 2) = nI k) (h15 : k ≤ 15) (hn : n < 8) : cTh f a n = nI ((k + (n + 1)) % 16) := by
  rw [cTh, if_pos hn, hk, nI_add]
  exact pk_andN (n := k + (n + 1)) (by omega) (m := 15) 4 (by decide)
theorem th_hi {f : Nat → Int32} {a n k : Nat} (hk : f (5 * a + 2) = nI k) (h15 : k ≤ 15) (hn : 8 ≤ n) (hn2 : n < 15) : cTh f a n = nI ((k + (24 - (n + 1))) % 16) := by
  rw [cTh, if_neg (by omega), hk]
  have h : ∀ k d : Fin 16, (nI k.val - nI d.val) &&& 15 = nI ((k.val + (16 - d.val)) % 16) := by decide +kernel
  have := h ⟨k, by omega⟩ ⟨n - 7, by omega⟩
  dsimp only at this
  rw [this]
  congr 2
  omega
theorem fol_lo {f : Nat → Int32} {r : Int32} (h : ¬ 16 ≤ r) : cFol f r = upd f 2 r := by
  have h2 : ¬ r = 16 := fun e => h (by rw [e]; decide)
  rw [cFol, if_neg h2, if_neg h]
theorem fol_16 {f : Nat → Int32} {r : Int32} (h : r = 16) : cFol f r = upd f 3 0 := by
  rw [cFol, if_pos h, if_pos (by rw [h]; decide)]
theorem fol_17 {f : Nat → Int32} {r : Int32} (h : 16 ≤ r) (h2 : ¬ r = 16) : cFol f r = f := by
  rw [cFol, if_neg h2, if_pos h]
