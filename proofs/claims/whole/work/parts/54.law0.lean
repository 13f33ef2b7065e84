/-! the law's own invariant, and what each call does to it -/
def PR (F Q : Nat → Int32) : Prop := Iv F ∧ Rg (nN F) F Q
theorem PR_congr {F G Q T : Nat → Int32} (h : PR F Q) (hF : ∀ j, j < 39 → G j = F j) (hQ : ∀ j, j < 39 → T j = Q j) : PR G T := by
  obtain ⟨hI, hR⟩ := h
  have h6 := hI.1
  have e : nN G = nN F := by rw [nN, nN, hF 35 (by omega)]
  refine ⟨Iv_congr hI (fun j _ h2 => hF j (by omega)) (fun i k hi hk => hF _ (by omega)), ?_⟩
  rw [e]
  refine ⟨by rw [hQ 0 (by omega)]; exact hR.1, by rw [hQ 1 (by omega), hF 36 (by omega)]; exact hR.2.1, by rw [hQ 2 (by omega), hF 37 (by omega)]; exact hR.2.2.1, by rw [hQ 3 (by omega), hF 38 (by omega)]; exact hR.2.2.2.1, fun j hj => ?_⟩
  rw [hQ _ (by omega), hF _ (by omega)]
  exact hR.2.2.2.2 j hj
def HH (kp : Nat) (g qp : Nat → Int32) : Prop := ∀ t, t < kp → PR (fun j => g (39 * t + j)) (fun j => qp (39 * t + j))
theorem cpy_in {f g : Nat → Int32} {sp dp n k : Nat} (h1 : dp ≤ k) (h2 : k < dp + n) : va_cpy f g sp dp n k = f (sp + (k - dp)) := if_pos ⟨h1, h2⟩
theorem cpy_out {f g : Nat → Int32} {sp dp n k : Nat} (h : ¬ (dp ≤ k ∧ k < dp + n)) : va_cpy f g sp dp n k = g k := if_neg h
theorem HH_mark {kp : Nat} {f g qp qp2 : Nat → Int32} (h : HH kp g qp) (hk : kp ≤ 5) (hq : ∀ j, j < 195 → qp2 j = qp j) : HH kp (va_cpy f g 0 (kp * 39) 39) qp2 := fun t ht =>
  PR_congr (h t ht) (fun j hj => by show va_cpy f g 0 (kp * 39) 39 (39 * t + j) = _; rw [cpy_out (by omega)]) (fun j hj => hq _ (by omega))
theorem HH_keep {kp : Nat} {f g qn qp qp2 : Nat → Int32} (h : HH kp g qp) (hk : kp ≤ 5) (hf : PR f qn) (hq : ∀ j, j < 195 → qp2 j = rmF kp qn qp j) : HH (kpS kp) (gS kp (va_cpy f g 0 (kp * 39) 39)) qp2 := by
  intro t ht
  by_cases q : kp < 5
  · rw [kpS, if_pos q] at ht
    have hq2 : ∀ j, j < 39 → qp2 (39 * t + j) = if 39 * kp ≤ 39 * t + j ∧ 39 * t + j < 39 * kp + 39 then qn (39 * t + j - 39 * kp) else qp (39 * t + j) := fun j hj => by
      rw [hq _ (by omega), rmF, if_pos q]
    have hg2 : ∀ j, gS kp (va_cpy f g 0 (kp * 39) 39) j = va_cpy f g 0 (kp * 39) 39 j := fun j => by rw [gS, if_pos q]
    by_cases e : t = kp
    · subst e
      refine PR_congr hf (fun j hj => ?_) (fun j hj => ?_)
      · show gS t _ (39 * t + j) = _
        rw [hg2, cpy_in (by omega) (by omega)]; congr 1; omega
      · show qp2 (39 * t + j) = _
        rw [hq2 j hj, if_pos (by omega)]; congr 1; omega
    · refine PR_congr (h t (by omega)) (fun j hj => ?_) (fun j hj => ?_)
      · show gS kp _ (39 * t + j) = _
        rw [hg2, cpy_out (by omega)]
      · show qp2 (39 * t + j) = _
        rw [hq2 j hj, if_neg (by omega)]
  · rw [kpS, if_neg q] at ht
    have hk5 : kp = 5 := by omega
    subst hk5
    have hq2 : ∀ j, j < 39 → qp2 (39 * t + j) = if 39 * t + j < 156 then qp (39 * t + j + 39) else qn (39 * t + j - 156) := fun j hj => by
      rw [hq _ (by omega), rmF, if_neg q]
    have hg2 : ∀ j, j < 39 → gS 5 (va_cpy f g 0 (5 * 39) 39) (39 * t + j) = va_cpy f g 0 (5 * 39) 39 (39 + (39 * t + j - 0)) := fun j hj => by rw [gS, if_neg q, cpy_in (by omega) (by omega)]
    by_cases e : t = 4
    · subst e
      refine PR_congr hf (fun j hj => ?_) (fun j hj => ?_)
      · show gS 5 _ (39 * 4 + j) = _
        rw [hg2 j hj, cpy_in (by omega) (by omega)]; exact congrArg f (by omega)
      · show qp2 (39 * 4 + j) = _
        rw [hq2 j hj, if_neg (by omega)]; exact congrArg qn (by omega)
    · refine PR_congr (h (t + 1) (by omega)) (fun j hj => ?_) (fun j hj => ?_)
      · show gS 5 _ (39 * t + j) = g (39 * (t + 1) + j)
        rw [hg2 j hj, cpy_out (by omega)]; congr 1; omega
      · show qp2 (39 * t + j) = qp (39 * (t + 1) + j)
        rw [hq2 j hj, if_pos (by omega)]; congr 1; omega
def LI (kp ln : Nat) (f g bt : Nat → Int32) (cb cn cf : Int32) (qn qp rf tx : Nat → Int32) : Prop := PR f qn ∧ kp ≤ 5 ∧ HH kp g qp ∧ Rf3 cb cn cf rf ∧ ln ≤ 150 ∧ ∀ j, j < ln → tx j = bt j
theorem kpS_le {kp : Nat} (h : kp ≤ 5) : kpS kp ≤ 5 := by rw [kpS]; split <;> omega
section LIS
variable {kp ks ln kp2 ks2 : Nat} {f g bt f2 g2 qn qp rf tx qz qp2 rf2 : Nat → Int32} {cb cn cf cb2 cn2 cf2 r r2 : Int32}
theorem li_chg {F : Int32 × (Nat → Int32)} (h : LI kp ln f g bt cb cn cf qn qp rf tx) (hI : (r, f2) = F → Iv f2)
    (hc : (r, f2) = F ∧ kp2 = kpK r kp ∧ g2 = gK r kp (va_cpy f g 0 (kp * 39) 39) ∧ cb2 = cnt (-10002) cb r ∧ cn2 = cnt (-10003) cn r ∧ cf2 = cnt (-10004) cf r)
    (hm : r2 = F.1 ∧ Rg (nN F.2) F.2 qz ∧ Rf3 (cnt (-10002) cb r2) (cnt (-10003) cn r2) (cnt (-10004) cf r2) rf2 ∧ ks2 = kpK r2 kp ∧ ∀ j, j < 195 → qp2 j = rmK r2 kp qn qp j) : r = r2 ∧ ks2 = kp2 ∧ LI kp2 ln f2 g2 bt cb2 cn2 cf2 qz qp2 rf2 tx := by
  obtain ⟨c1, c2, c3, c4, c5, c6⟩ := hc
  obtain ⟨m1, m2, m3, m4, m5⟩ := hm
  obtain ⟨h1, h2, h3, h4, h5, h6⟩ := h
  have hi := hI c1
  subst c1
  have e : r2 = r := m1
  subst e
  refine ⟨rfl, m4.trans c2.symm, ⟨hi, m2⟩, ?_, ?_, ?_, h5, h6⟩
  · rw [c2, kpK]; split
    · exact h2
    · exact kpS_le h2
  · rw [c2, c3, kpK, gK]
    by_cases q : cRef r2 = true
    · rw [if_pos q, if_pos q]
      exact HH_mark h3 h2 (fun j hj => by rw [m5 j hj, rmK, if_pos q])
    · rw [if_neg q, if_neg q]
      exact HH_keep h3 h2 h1 (fun j hj => by rw [m5 j hj, rmK, if_neg q])
  · rw [c4, c5, c6]; exact m3
theorem rf_ask {ok : Bool} (h : Rf3 cb cn cf rf) (e : (cb2, cn2, cf2) = gCt ok cb cn cf) (e2 : rf2 = gRf ok rf) : Rf3 cb2 cn2 cf2 rf2 := by
  obtain ⟨h1, h2, h3⟩ := h
  subst e2
  cases ok with
  | true =>
    rw [gCt, if_pos rfl] at e
    cases e
    rw [gRf, if_pos rfl]
    exact ⟨h1, h2, h3⟩
  | false =>
    rw [gCt, if_neg (by decide)] at e
    cases e
    rw [gRf, if_neg (by decide)]
    refine ⟨by rw [upd_eq, h1], ?_, ?_⟩
    · rw [upd_ne (by decide)]; exact h2
    · rw [upd_ne (by decide)]; exact h3
theorem li_ask {T : Type} {x y G : T} {ok : Bool} (h : LI kp ln f g bt cb cn cf qn qp rf tx) (hc : x = G ∧ (cb2, cn2, cf2) = gCt ok cb cn cf) (hm : y = G ∧ rf2 = gRf ok rf) : x = y ∧ LI kp ln f g bt cb2 cn2 cf2 qn qp rf2 tx :=
  ⟨hc.1.trans hm.1.symm, h.1, h.2.1, h.2.2.1, rf_ask h.2.2.2.1 hc.2 hm.2, h.2.2.2.2.1, h.2.2.2.2.2⟩
theorem app_le {v : Int32} (h : ln ≤ 150) : (cApp ln bt v).2.1 ≤ 150 := by
  rw [cApp]
  split
  · split
    · show ln + 1 ≤ 150
      omega
    · exact h
  · exact h
theorem li_type {v : Int32} {ln2 ln3 : Nat} {bt2 tx2 : Nat → Int32} (h : LI kp ln f g bt cb cn cf qn qp rf tx) (hc : (r, ln2, bt2) = cApp ln bt v ∧ cb2 = cnt (-10002) cb r ∧ cn2 = cnt (-10003) cn r ∧ cf2 = cnt (-10004) cf r)
    (hm : r2 = (cApp ln bt v).1 ∧ ln3 = (cApp ln bt v).2.1 ∧ (∀ j, j < ln3 → tx2 j = (cApp ln bt v).2.2 j) ∧ Rf3 (cnt (-10002) cb r2) (cnt (-10003) cn r2) (cnt (-10004) cf r2) rf2) : r = r2 ∧ ln3 = ln2 ∧ LI kp ln2 f g bt2 cb2 cn2 cf2 qn qp rf2 tx2 := by
  obtain ⟨c1, c4, c5, c6⟩ := hc
  obtain ⟨m1, m2, m3, m4⟩ := hm
  obtain ⟨h1, h2, h3, h4, h5, h6⟩ := h
  have hl := app_le (bt := bt) (v := v) h5
  rw [← c1] at m1 m2 m3 hl
  have e : r2 = r := m1
  have e2 : ln3 = ln2 := m2
  subst r2
  subst ln3
  exact ⟨rfl, rfl, h1, h2, h3, by rw [c4, c5, c6]; exact m4, hl, m3⟩
theorem li_wipe (h : LI kp ln f g bt cb cn cf qn qp rf tx) : LI kp 0 f g bt cb cn cf qn qp rf tx := ⟨h.1, h.2.1, h.2.2.1, h.2.2.2.1, by omega, fun j hj => absurd hj (Nat.not_lt_zero j)⟩
theorem li_back (h : LI kp ln f g bt cb cn cf qn qp rf tx) (hc : (r, kp2, f2) = cBack kp f g ∧ (cb2, cn2, cf2) = (if kp = 0 then (cb, cn + 1, cf) else (cb, cn, cf)))
    (hm : (kp = 0 ∧ r2 = -10003 ∧ ks2 = kp ∧ qz = qn ∧ rf2 = upd rf 1 (rf 1 + 1)) ∨ (¬ kp = 0 ∧ r2 = nI (kp - 1) ∧ ks2 = kp - 1 ∧ rf2 = rf ∧ ∀ j, j < 39 → qz j = qp (39 * (kp - 1) + j))) : r = r2 ∧ ks2 = kp2 ∧ LI kp2 ln f2 g bt cb2 cn2 cf2 qz qp rf2 tx := by
  obtain ⟨c1, c2⟩ := hc
  obtain ⟨h1, h2, h3, h4, h5, h6⟩ := h
  rcases hm with ⟨m0, m1, m2, m3, m4⟩ | ⟨m0, m1, m2, m3, m4⟩
  · rw [cBack, if_pos m0] at c1
    rw [if_pos m0] at c2
    cases c1; cases c2
    subst m3; subst m4
    refine ⟨m1.symm, m2, h1, h2, h3, ⟨?_, ?_, ?_⟩, h5, h6⟩
    · rw [upd_ne (by decide)]; exact h4.1
    · rw [upd_eq, h4.2.1]
    · rw [upd_ne (by decide)]; exact h4.2.2
  · rw [cBack, if_neg m0] at c1
    rw [if_neg m0] at c2
    cases c1; cases c2
    subst m3
    refine ⟨m1.symm, m2, ?_, by omega, fun t ht => h3 t (by omega), h4, h5, h6⟩
    refine PR_congr (h3 (kp - 1) (by omega)) (fun j hj => ?_) (fun j hj => m4 j hj)
    show va_cpy g f ((kp - 1) * 39) 0 39 j = g (39 * (kp - 1) + j)
    rw [cpy_in (by omega) (by omega)]; congr 1; omega
theorem li_does {D : Bool × Nat × (Nat → Int32)} {cF : Int32} (h : LI kp ln f g bt cb cn cf qn qp rf tx) (hI : Iv D.2.2)
    (hc : (¬ cF < 0 ∧ r = (-10) - cF ∧ kp2 = kp ∧ f2 = f ∧ g2 = g) ∨ (cF < 0 ∧ D.1 = true ∧ r = nI D.2.1 ∧ kp2 = kpS kp ∧ f2 = D.2.2 ∧ g2 = gS kp (va_cpy f g 0 (kp * 39) 39)) ∨ (cF < 0 ∧ D.1 = false ∧ r = (-1000) - nI D.2.1 ∧ kp2 = kp ∧ (∀ j, j < 39 → f2 j = f j) ∧ g2 = va_cpy f g 0 (kp * 39) 39))
    (hm : (¬ cF < 0 ∧ r2 = (-10) - cF ∧ ks2 = kp ∧ qz = qn ∧ qp2 = qp) ∨ (cF < 0 ∧ D.1 = true ∧ r2 = nI D.2.1 ∧ ks2 = kpS kp ∧ Rg (nN D.2.2) D.2.2 qz ∧ ∀ j, j < 195 → qp2 j = rmF kp qn qp j) ∨ (cF < 0 ∧ D.1 = false ∧ r2 = (-1000) - nI D.2.1 ∧ ks2 = kp ∧ (∀ j, j < 39 → qz j = qn j) ∧ qp2 = qp)) : r = r2 ∧ ks2 = kp2 ∧ LI kp2 ln f2 g2 bt cb cn cf qz qp2 rf tx := by
  obtain ⟨h1, h2, h3, h4, h5, h6⟩ := h
  rcases hc with ⟨a0, a2, a3, a4, a5⟩ | ⟨a0, a1, a2, a3, a4, a5⟩ | ⟨a0, a1, a2, a3, a4, a5⟩
  · rcases hm with ⟨b0, b2, b3, b4, b5⟩ | ⟨b0, _⟩ | ⟨b0, _⟩
    · subst a3; subst a4; subst a5; subst b4; subst b5
      exact ⟨a2.trans b2.symm, b3, h1, h2, h3, h4, h5, h6⟩
    · exact absurd b0 a0
    · exact absurd b0 a0
  · rcases hm with ⟨b0, _⟩ | ⟨b0, b1, b2, b3, b4, b5⟩ | ⟨b0, b1, _⟩
    · exact absurd a0 b0
    · subst a3; subst a4; subst a5
      exact ⟨a2.trans b2.symm, b3, ⟨hI, b4⟩, kpS_le h2, HH_keep h3 h2 h1 b5, h4, h5, h6⟩
    · rw [a1] at b1; exact Bool.noConfusion b1
  · rcases hm with ⟨b0, _⟩ | ⟨b0, b1, _⟩ | ⟨b0, b1, b2, b3, b4, b5⟩
    · exact absurd a0 b0
    · rw [a1] at b1; exact Bool.noConfusion b1
    · subst a3; subst a5; subst b5
      exact ⟨a2.trans b2.symm, b3, PR_congr h1 a4 b4, h2, HH_mark h3 h2 (fun _ _ => rfl), h4, h5, h6⟩
end LIS
theorem li_init : LI 0 0 (upd (upd (fun _ => 0) 36 50) 37 12) (fun _ => 0) (fun _ => 0) 0 0 0 (upd (upd (upd (fun _ => 0) 0 1) 1 50) 2 12) (fun _ => 0) (fun _ => 0) (fun _ => 0) := by
  refine ⟨⟨⟨by decide, by decide, fun i hi => ?_, ⟨by decide, by decide⟩, ⟨by decide, by decide⟩⟩, by decide, by decide, by decide, by decide, fun j hj => ?_⟩, by omega, fun t ht => absurd ht (Nat.not_lt_zero t), ⟨rfl, rfl, rfl⟩, by omega, fun j hj => absurd hj (Nat.not_lt_zero j)⟩
  · have e : nN (upd (upd (fun _ => 0) 36 50) 37 12) = 0 := by decide
    rw [e] at hi
    have : i = 0 := by omega
    subst this
    exact ⟨⟨by decide, by decide⟩, ⟨by decide, by decide⟩, ⟨by decide, by decide⟩, ⟨by decide, by decide⟩⟩
  · have e : nN (upd (upd (fun _ => 0) 36 50) 37 12) = 0 := by decide
    rw [e] at hj
    rw [upd_ne (by omega), upd_ne (by omega), upd_ne (by omega), upd_ne (by omega), upd_ne (by omega)]
theorem lw_in {L n : Nat} (hL : L ≤ 2560) (hn : n ≤ 2565) (h : ¬ (Int32.ofNat L) - 5 < nI n) : n + 5 ≤ L := by
  by_cases q : 5 ≤ L
  · have e : Int32.ofNat L - 5 = nI (L - 5) := z_sub (b := 5) q
    rw [e] at h
    have := (z_ltn (a := L - 5) (b := n) rfl rfl (by omega) (by omega)).mp h
    omega
  · exfalso
    apply h
    rw [Int32.lt_iff_toInt_lt, z_toInt (by omega)]
    have hc : L = 0 ∨ L = 1 ∨ L = 2 ∨ L = 3 ∨ L = 4 := by omega
    rcases hc with rfl | rfl | rfl | rfl | rfl
    · have e : (Int32.ofNat 0 - 5).toInt = -5 := by decide
      omega
    · have e : (Int32.ofNat 1 - 5).toInt = -4 := by decide
      omega
    · have e : (Int32.ofNat 2 - 5).toInt = -3 := by decide
      omega
    · have e : (Int32.ofNat 3 - 5).toInt = -2 := by decide
      omega
    · have e : (Int32.ofNat 4 - 5).toInt = -1 := by decide
      omega
theorem lw_vin {L n : Nat} (hL : L ≤ 2560) (h : n < L) : vp_in (nI n) L ∧ (nI n).toNatClampNeg = n := by
  have e : (nI n).toNatClampNeg = n := nI_clamp (by omega)
  refine ⟨?_, e⟩
  rintro (q | q)
  · exact nI_nn (by omega) q
  · rw [e] at q; omega
theorem lw_out {v : Int32} (h0 : ¬ v = 0) (h1 : ¬ v = 1) (h2 : ¬ v = 2) (h3 : ¬ v = 3) (h4 : ¬ v = 4) (h5 : ¬ v = 5) (h6 : ¬ v = 6) (h7 : ¬ v = 7) (h8 : ¬ v = 8) (h9 : ¬ v = 9) (h10 : ¬ v = 10) (h11 : ¬ v = 11) (h12 : ¬ v = 12) (h13 : ¬ v = 13) (h14 : ¬ v = 14) (h15 : ¬ v = 15) (h16 : ¬ v = 16) (h17 : ¬ v = 17) (h18 : ¬ v = 18) (h19 : ¬ v = 19) (h20 : ¬ v = 20) (h21 : ¬ v = 21) (h22 : ¬ v = 22) (h23 : ¬ v = 23) (h24 : ¬ v = 24) : v.toInt < 0 ∨ 24 < v.toInt := by
  have k : ∀ n : Nat, n < 25 → ¬ v = nI n := by
    intro n hn
    have hc : n = 0 ∨ n = 1 ∨ n = 2 ∨ n = 3 ∨ n = 4 ∨ n = 5 ∨ n = 6 ∨ n = 7 ∨ n = 8 ∨ n = 9 ∨ n = 10 ∨ n = 11 ∨ n = 12 ∨ n = 13 ∨ n = 14 ∨ n = 15 ∨ n = 16 ∨ n = 17 ∨ n = 18 ∨ n = 19 ∨ n = 20 ∨ n = 21 ∨ n = 22 ∨ n = 23 ∨ n = 24 := by omega
    rcases hc with rfl | rfl | rfl | rfl | rfl | rfl | rfl | rfl | rfl | rfl | rfl | rfl | rfl | rfl | rfl | rfl | rfl | rfl | rfl | rfl | rfl | rfl | rfl | rfl | rfl <;> assumption
  by_cases q : v.toInt < 0
  · exact Or.inl q
  by_cases q2 : 24 < v.toInt
  · exact Or.inr q2
  exact absurd (by rw [← Int32.toInt_inj, z_toInt (by omega)]; omega) (k v.toInt.toNat (by omega))
