theorem z_fm {α β : Type} {f : α → Option β} : ∀ {is : List α} {w : List β}, is.map f = w.map some → is.filterMap f = w
  | [], [], _ => rfl
  | [], _ :: _, h => by cases h
  | _ :: _, [], h => by cases h
  | i :: is, x :: w, h => by
    simp only [List.map_cons, List.cons.injEq] at h
    rw [List.filterMap_cons, h.1, z_fm h.2]
/-! the shape of the contracts of this claim: one form for every method -/
abbrev zTy (cI cB : ClassId) : List (ClassId × FieldType) := [(cI, .int), (cB, .byte)]
def eEl : List Int32 := [0, 4, 7, 9, 10, 9, 7, 4, 0, -4, -7, -9, -10, -9, -7, -4]
def eNl : List Int32 := [10, 9, 7, 4, 0, -4, -7, -9, -10, -9, -7, -4, 0, 4, 7, 9]
def eE (j : Nat) : Int32 := eEl.getD j 0
def eN (j : Nat) : Int32 := eNl.getD j 0
def zNest : Cond := .methodLinkNest RX1 45 yX4_isCourse RX4
/-- the two tables of the class, and the one link among nest mates -/
def zST (tE tN : Nat) (A : Nat → Prop) (U : State) (H : Heap) : Prop :=
  (va_Z RX1 "EAST" "[I" (.ref tE) A U H ∧ va_T .int tE 16 (fun j => .int (eE j)) A U H) ∧ (va_Z RX1 "NORTH" "[I" (.ref tN) A U H ∧ va_T .int tN 16 (fun j => .int (eN j)) A U H) ∧ va_Nw zNest U
theorem zST.same {tE tN : Nat} {A : Nat → Prop} {u U : State} {H : Heap} (hvm : u.vm = U.vm) (h : zST tE tN A u H) : zST tE tN A U H :=
  ⟨⟨va_Z.moved (hvm ▸ Vm.Alike.refl u.vm) h.1.1, va_T.moved (hvm ▸ Vm.Alike.refl u.vm) h.1.2⟩, ⟨va_Z.moved (hvm ▸ Vm.Alike.refl u.vm) h.2.1.1, va_T.moved (hvm ▸ Vm.Alike.refl u.vm) h.2.1.2⟩, va_Nw.same rfl hvm h.2.2⟩
theorem zST.warm {tE tN : Nat} {A : Nat → Prop} {s U : State} {H : Heap} (hW : s.WarmedH U.vm) (h : zST tE tN A s H) : zST tE tN A U H :=
  ⟨⟨va_Z.moved hW.alike h.1.1, va_T.moved hW.alike h.1.2⟩, ⟨va_Z.moved hW.alike h.2.1.1, va_T.moved hW.alike h.2.1.2⟩, va_Nw.warmM hW h.2.2⟩
theorem zST.kept {tE tN : Nat} {A : Nat → Prop} {U : State} {H H1 : Heap} (h : zST tE tN A U H) (hq : ∀ a : Nat, a < H.size → ¬ A a → H1[a]? = H[a]?) : zST tE tN A U H1 :=
  ⟨⟨h.1.1.kept hq, h.1.2.kept hq⟩, ⟨h.2.1.1.kept hq, h.2.1.2.kept hq⟩, h.2.2⟩
theorem zST.narrow {tE tN : Nat} {A B : Nat → Prop} {U : State} {H : Heap} (h : zST tE tN A U H) (hAB : ∀ q, B q → A q) : zST tE tN B U H :=
  ⟨⟨h.1.1.narrow hAB, h.1.2.narrow hAB⟩, ⟨h.2.1.1.narrow hAB, h.2.1.2.narrow hAB⟩, h.2.2⟩
def zPre (D : va_G) (cI cB : ClassId) (tE tN : Nat) (av : List Value) (wc : va_W) (sz : Nat) : Array Value → State → Prop :=
  va_Pc av (fun U => U.heap.size = sz ∧ va_P D vwCl wc U.heap ∧ va_K D vwCl (zTy cI cB) U ∧ va_D (fun _ => True) wc ∧ zST tE tN (va_A wc sz) U U.heap)
theorem zPre_blind (D : va_G) (cI cB : ClassId) (tE tN : Nat) (av : List Value) (wc : va_W) (sz : Nat) : FrameBlind (zPre D cI cB tE tN av wc sz) := fun a U g mk q => by
  obtain ⟨q0, q1, qP, qK, qD, qT⟩ := q
  exact ⟨q0, q1, qP, va_K.moved (u := U) (U := U.calling g mk a) (Vm.Alike.refl U.vm) qK, qD, qT.same (u := U) (U := U.calling g mk a) rfl⟩
def zB (D : va_G) (cI cB : ClassId) (A : Nat → Prop) (w : va_W) (t : State) : Prop := va_P D vwCl w t.heap ∧ va_K D vwCl (zTy cI cB) t ∧ va_D A w
def zQ {S : Type} (D : va_G) (cI cB : ClassId) (A : Nat → Prop) (res : S → Option Value) (wf : S → va_W) (post : S → Prop) : Array Value → State → Outcome → State → Prop :=
  fun _ st oc t => (∃ u : S, oc = .returned (res u) ∧ post u ∧ zB D cI cB A (wf u) t) ∧ va_F A st t
def zM {S : Type} (l : Launch) (y : MethodName) (ws : List Cond) (rm : Room) (D : va_G) (cI cB : ClassId) (tE tN : Nat) (av : List Value) (wc : va_W) (sz : Nat) (res : S → Option Value) (wf : S → va_W) (post : S → Prop) (mc ms : Nat) : Prop :=
  Met l y ws rm (zPre D cI cB tE tN av wc sz) (zQ D cI cB (va_A wc sz) res wf post) mc ms (va_A wc sz)

abbrev zI {U : Type} (l : Launch) (y : MethodName) (ws : List Cond) (rm : Room) (D : va_G) (cI cB : ClassId) (tE tN : Nat) (av : List Value) (wc : va_W) (sz : Nat) (wf : U → va_W) (post : Int32 → U → Prop) (mc ms : Nat) : Prop := zM (S := Int32 × U) l y ws rm D cI cB tE tN av wc sz (fun v => some (.int v.1)) (fun v => wf v.2) (fun v => post v.1 v.2) mc ms
abbrev zL {U : Type} (l : Launch) (y : MethodName) (ws : List Cond) (rm : Room) (D : va_G) (cI cB : ClassId) (tE tN : Nat) (av : List Value) (wc : va_W) (sz : Nat) (wf : U → va_W) (post : Int64 → U → Prop) (mc ms : Nat) : Prop := zM (S := Int64 × U) l y ws rm D cI cB tE tN av wc sz (fun v => some (.long v.1)) (fun v => wf v.2) (fun v => post v.1 v.2) mc ms
abbrev zV {U : Type} (l : Launch) (y : MethodName) (ws : List Cond) (rm : Room) (D : va_G) (cI cB : ClassId) (tE tN : Nat) (av : List Value) (wc : va_W) (sz : Nat) (wf : U → va_W) (post : U → Prop) (mc ms : Nat) : Prop := zM (S := U) l y ws rm D cI cB tE tN av wc sz (fun v => none) (fun v => wf v) (fun v => post v) mc ms
abbrev zR {U : Type} (l : Launch) (y : MethodName) (ws : List Cond) (rm : Room) (D : va_G) (cI cB : ClassId) (tE tN : Nat) (av : List Value) (wc : va_W) (sz : Nat) (wf : U → va_W) (post : Nat → U → Prop) (mc ms : Nat) : Prop := zM (S := Nat × U) l y ws rm D cI cB tE tN av wc sz (fun v => some (.ref v.1)) (fun v => wf v.2) (fun v => post v.1 v.2) mc ms
theorem zI_mk {U : Type} {l : Launch} {y : MethodName} {ws ws' : List Cond} {rm : Room} {D : va_G} {cI cB : ClassId} {tE tN : Nat} {av : List Value} {wc : va_W} {sz : Nat} {wf : U → va_W} {post : Int32 → U → Prop} {mc ms : Nat} {cc : ByteArray} {maxL : Nat} {rt : FieldType} (hy : plainName y.cls = true) (hw : ws = Cond.code y cc maxL (some rt) :: ws') (hlen : (lg_sl av).length ≤ maxL)
    (body : ∀ (p : Program) (e : Env) (s : State) (m : MethodId) (below : List Frame) (meth : Method) (c : Code) (A : Nat → Prop) (Q : State → Prop) (ls : Array Slot), CallFix p m c cc maxL s av.toArray ws y.cls → meth.name = y.name → (∀ q : Nat, s.heap.size ≤ q → A q) → va_K D vwCl (zTy cI cB) s → va_P D vwCl wc s.heap → va_D A wc → zST tE tN A s s.heap → va_S A s.heap s.heap [] →
      (∀ (r : Int32) (u : U) (H : Heap) (locs : List Loc) (pc : Nat) (ls : Array Slot), narrow rt (.int r) = .int r → post r u → va_P D vwCl (wf u) H → va_D A (wf u) → va_S A s.heap H locs → decode cc pc = .ok (.ireturn, 1) → W p l e rm s m av.toArray below meth c H locs mc ms Q (F0 m pc ls [.int r])) →
      lv_has ls maxL (lv_args 0 av) → W p l e rm s m av.toArray below meth c s.heap [] 0 0 Q (F0 m 0 ls [])) : zI l y ws rm D cI cB tE tN av wc sz wf post mc ms := by
  refine Met.ofW (cc := cc) (maxL := maxL) (ret := (some rt)) hy hw ?_
  intro p e s m args below meth c s₁ B hml hv
  obtain ⟨rfl, hsz, hP, hK, hD0, hT⟩ := hv
  subst hsz
  have hl := lv_entry av (n := maxL) hlen
  rw [lg_entry_eq]
  refine body p e s m below meth c (va_A wc s.heap.size) _ _ ⟨B.exec, B.bytes, hml, findClass_of_methodNamed B.named, atoms_spec (ws := ws) B.pre⟩ (name_of_methodNamed B.named B.method).1 (fun q h => Or.inr h) hK hP hD0.self hT va_S.rf ?_ hl
  intro r u H locs pc ls hn hp hP1 hD1 hS1 hd
  exact W.zret (ty := rt) B.exec B.bytes B.returns hn (fun t ht hW => ⟨⟨(r, u), rfl, hp, by rw [ht]; exact hP1, va_K.moved hW.alike hK, hD1⟩, hS1.F ht⟩) hS1.2.2 hd
theorem zL_mk {U : Type} {l : Launch} {y : MethodName} {ws ws' : List Cond} {rm : Room} {D : va_G} {cI cB : ClassId} {tE tN : Nat} {av : List Value} {wc : va_W} {sz : Nat} {wf : U → va_W} {post : Int64 → U → Prop} {mc ms : Nat} {cc : ByteArray} {maxL : Nat}  (hy : plainName y.cls = true) (hw : ws = Cond.code y cc maxL (some .long) :: ws') (hlen : (lg_sl av).length ≤ maxL)
    (body : ∀ (p : Program) (e : Env) (s : State) (m : MethodId) (below : List Frame) (meth : Method) (c : Code) (A : Nat → Prop) (Q : State → Prop) (ls : Array Slot), CallFix p m c cc maxL s av.toArray ws y.cls → meth.name = y.name → (∀ q : Nat, s.heap.size ≤ q → A q) → va_K D vwCl (zTy cI cB) s → va_P D vwCl wc s.heap → va_D A wc → zST tE tN A s s.heap → va_S A s.heap s.heap [] →
      (∀ (r : Int64) (u : U) (H : Heap) (locs : List Loc) (pc : Nat) (ls : Array Slot), post r u → va_P D vwCl (wf u) H → va_D A (wf u) → va_S A s.heap H locs → decode cc pc = .ok (.lreturn, 1) → W p l e rm s m av.toArray below meth c H locs mc ms Q (F0 m pc ls [.long r])) →
      lv_has ls maxL (lv_args 0 av) → W p l e rm s m av.toArray below meth c s.heap [] 0 0 Q (F0 m 0 ls [])) : zL l y ws rm D cI cB tE tN av wc sz wf post mc ms := by
  refine Met.ofW (cc := cc) (maxL := maxL) (ret := (some .long)) hy hw ?_
  intro p e s m args below meth c s₁ B hml hv
  obtain ⟨rfl, hsz, hP, hK, hD0, hT⟩ := hv
  subst hsz
  have hl := lv_entry av (n := maxL) hlen
  rw [lg_entry_eq]
  refine body p e s m below meth c (va_A wc s.heap.size) _ _ ⟨B.exec, B.bytes, hml, findClass_of_methodNamed B.named, atoms_spec (ws := ws) B.pre⟩ (name_of_methodNamed B.named B.method).1 (fun q h => Or.inr h) hK hP hD0.self hT va_S.rf ?_ hl
  intro r u H locs pc ls hp hP1 hD1 hS1 hd
  exact W.lret (v := r) B.exec B.bytes B.returns (fun t ht hW => ⟨⟨(r, u), rfl, hp, by rw [ht]; exact hP1, va_K.moved hW.alike hK, hD1⟩, hS1.F ht⟩) hS1.2.2 hd
theorem zV_mk {U : Type} {l : Launch} {y : MethodName} {ws ws' : List Cond} {rm : Room} {D : va_G} {cI cB : ClassId} {tE tN : Nat} {av : List Value} {wc : va_W} {sz : Nat} {wf : U → va_W} {post : U → Prop} {mc ms : Nat} {cc : ByteArray} {maxL : Nat}  (hy : plainName y.cls = true) (hw : ws = Cond.code y cc maxL none :: ws') (hlen : (lg_sl av).length ≤ maxL)
    (body : ∀ (p : Program) (e : Env) (s : State) (m : MethodId) (below : List Frame) (meth : Method) (c : Code) (A : Nat → Prop) (Q : State → Prop) (ls : Array Slot), CallFix p m c cc maxL s av.toArray ws y.cls → meth.name = y.name → (∀ q : Nat, s.heap.size ≤ q → A q) → va_K D vwCl (zTy cI cB) s → va_P D vwCl wc s.heap → va_D A wc → zST tE tN A s s.heap → va_S A s.heap s.heap [] →
      (∀ (u : U) (H : Heap) (locs : List Loc) (pc : Nat) (ls : Array Slot), post u → va_P D vwCl (wf u) H → va_D A (wf u) → va_S A s.heap H locs → decode cc pc = .ok (.return_, 1) → W p l e rm s m av.toArray below meth c H locs mc ms Q (F0 m pc ls [])) →
      lv_has ls maxL (lv_args 0 av) → W p l e rm s m av.toArray below meth c s.heap [] 0 0 Q (F0 m 0 ls [])) : zV l y ws rm D cI cB tE tN av wc sz wf post mc ms := by
  refine Met.ofW (cc := cc) (maxL := maxL) (ret := none) hy hw ?_
  intro p e s m args below meth c s₁ B hml hv
  obtain ⟨rfl, hsz, hP, hK, hD0, hT⟩ := hv
  subst hsz
  have hl := lv_entry av (n := maxL) hlen
  rw [lg_entry_eq]
  refine body p e s m below meth c (va_A wc s.heap.size) _ _ ⟨B.exec, B.bytes, hml, findClass_of_methodNamed B.named, atoms_spec (ws := ws) B.pre⟩ (name_of_methodNamed B.named B.method).1 (fun q h => Or.inr h) hK hP hD0.self hT va_S.rf ?_ hl
  intro u H locs pc ls hp hP1 hD1 hS1 hd
  exact W.vret B.exec B.bytes B.returns (fun t ht hW => ⟨⟨u, rfl, hp, by rw [ht]; exact hP1, va_K.moved hW.alike hK, hD1⟩, hS1.F ht⟩) hS1.2.2 hd
theorem zR_mk {U : Type} {l : Launch} {y : MethodName} {ws ws' : List Cond} {rm : Room} {D : va_G} {cI cB : ClassId} {tE tN : Nat} {av : List Value} {wc : va_W} {sz : Nat} {wf : U → va_W} {post : Nat → U → Prop} {mc ms : Nat} {cc : ByteArray} {maxL : Nat} {rt : String} (hy : plainName y.cls = true) (hw : ws = Cond.code y cc maxL (some (.object rt)) :: ws') (hlen : (lg_sl av).length ≤ maxL)
    (body : ∀ (p : Program) (e : Env) (s : State) (m : MethodId) (below : List Frame) (meth : Method) (c : Code) (A : Nat → Prop) (Q : State → Prop) (ls : Array Slot), CallFix p m c cc maxL s av.toArray ws y.cls → meth.name = y.name → (∀ q : Nat, s.heap.size ≤ q → A q) → va_K D vwCl (zTy cI cB) s → va_P D vwCl wc s.heap → va_D A wc → zST tE tN A s s.heap → va_S A s.heap s.heap [] →
      (∀ (r : Nat) (u : U) (H : Heap) (locs : List Loc) (pc : Nat) (ls : Array Slot), post r u → va_P D vwCl (wf u) H → va_D A (wf u) → va_S A s.heap H locs → decode cc pc = .ok (.areturn, 1) → W p l e rm s m av.toArray below meth c H locs mc ms Q (F0 m pc ls [.ref r])) →
      lv_has ls maxL (lv_args 0 av) → W p l e rm s m av.toArray below meth c s.heap [] 0 0 Q (F0 m 0 ls [])) : zR l y ws rm D cI cB tE tN av wc sz wf post mc ms := by
  refine Met.ofW (cc := cc) (maxL := maxL) (ret := (some (.object rt))) hy hw ?_
  intro p e s m args below meth c s₁ B hml hv
  obtain ⟨rfl, hsz, hP, hK, hD0, hT⟩ := hv
  subst hsz
  have hl := lv_entry av (n := maxL) hlen
  rw [lg_entry_eq]
  refine body p e s m below meth c (va_A wc s.heap.size) _ _ ⟨B.exec, B.bytes, hml, findClass_of_methodNamed B.named, atoms_spec (ws := ws) B.pre⟩ (name_of_methodNamed B.named B.method).1 (fun q h => Or.inr h) hK hP hD0.self hT va_S.rf ?_ hl
  intro r u H locs pc ls hp hP1 hD1 hS1 hd
  exact W.aret B.exec B.bytes B.returns (Or.inl ⟨rt, rfl⟩) (Or.inr ⟨r, rfl⟩) (fun t ht hW => ⟨⟨(r, u), rfl, hp, by rw [ht]; exact hP1, va_K.moved hW.alike hK, hD1⟩, hS1.F ht⟩) hS1.2.2 hd
section ZGO
variable {p : Program} {l : Launch} {e : Env} {R : Room} {s : State} {m : MethodId} {args : Array Value} {below : List Frame} {meth : Method} {c : Code} {H : Heap} {locs : List Loc} {cells slots : Nat} {Q : State → Prop}
variable {cc : ByteArray} {pc : Nat} {ls : Array Slot} {rest st : List Value} {D : va_G} {cI cB : ClassId} {tE tN : Nat} {A : Nat → Prop} {ws wc wr : va_W} {mc ms nL n index maxL : Nat} {a : Array Value} {U : Type} {wf wn : U → va_W} {y : MethodName} {wsC Ts ws' : List Cond} {rm : Room} {own C : String} {bytes : ByteArray} {ret : Option FieldType} {As : List Value} {b : Nat}
/-- what a callee asks of the state at its entry -/
theorem z_pre {av : List Value} (hK : va_K D vwCl (zTy cI cB) s) (hP : va_P D vwCl ws H) (hD : va_D A ws) (hS : va_S A s.heap H locs) (hA : ∀ q : Nat, s.heap.size ≤ q → A q) (hT : zST tE tN A s s.heap) (isC : List Nat) (hnC : va_nd isC = true) (hC : isC.map (fun i => ws[i]?) = wc.map some) (U : State) (hU : U.heap = H) (hW : s.WarmedH U.vm) : zPre D cI cB tE tN av wc H.size av.toArray U := by
  have hF := va_free (wc := wc) hD hS hA isC hC
  have hCf : isC.filterMap (fun i => ws[i]?) = wc := z_fm hC
  refine ⟨rfl, by rw [hU], ?_, va_K.moved hW.alike hK, (hD.sub isC hnC hC).weaken (fun _ _ _ _ => trivial), ?_⟩
  · rw [hU]
    exact hP.sub isC hCf
  · rw [hU]
    exact ((hT.kept hS.2.1).narrow hF).warm hW

theorem z_goI {post : Int32 → U → Prop} (hr : va_Run p l e R s m args below meth c H locs cells slots mc ms (F0 m pc ls st) rest (zQ D cI cB (va_A wc H.size) (S := Int32 × U) (fun v => some (.int v.1)) (fun v => wf v.2) (fun v => post v.1 v.2) a) (va_A wc H.size)) (hP : va_P D vwCl ws H) (hD : va_D A ws) (hS : va_S A s.heap H locs) (hA : ∀ q : Nat, s.heap.size ≤ q → A q) (isC isR isN : List Nat) (hC : isC.map (fun i => ws[i]?) = wc.map some) (hR : isR.map (fun i => ws[i]?) = wr.map some) (hnR : va_nd isR = true) (hdis : ∀ i ∈ isR, i ∉ isC) (hnN : va_nd isN = true) (hN : ∀ u : U, isN.map (fun i => (wr ++ wf u)[i]?) = (wn u).map some)
    (k : ∀ (r : Int32) (u : U) (H1 : Heap) (locs1 : List Loc), post r u → va_P D vwCl (wn u) H1 → va_D A (wn u) → va_S A s.heap H1 locs1 → W p l e R s m args below meth c H1 locs1 (cells + mc) (slots + ms) Q (F0 m (pc + 3) ls (.int r :: rest))) : W p l e R s m args below meth c H locs cells slots Q (F0 m pc ls st) := by
  intro T hT X
  have hF := va_free (wc := wc) hD hS hA isC hC
  obtain ⟨v, st₀, t, T', L, h0, X', hL, e1, e2, ⟨⟨⟨r, u⟩, hv, hp, hb⟩, hz, hk⟩, sp⟩ := hr T hT X
  cases hv
  rw [h0] at hz hk
  obtain ⟨hP1, hK1, hD1⟩ := hb
  rw [← e1] at hP1 hz hk
  obtain ⟨hP2, hD2⟩ := va_join (wr := wr) (w1 := wf u) hP hD isC isR hC hR hnR hdis hk hF hP1 hD1
  have hNf : isN.filterMap (fun i => (wr ++ wf u)[i]?) = wn u := z_fm (hN u)
  obtain ⟨t2, a1, b1⟩ := k r u T'.heap (locs ++ L) hp (hP2.sub isN hNf) (hD2.sub isN hnN (hN u))
    ⟨Nat.le_trans hS.1 hz, fun q h1 h2 => by rw [hk q (Nat.lt_of_lt_of_le h1 hS.1) (fun z => h2 (hF q z))]; exact hS.2.1 q h1 h2, fun q hq => by
      rcases List.mem_append.mp hq with h | h
      · exact hS.2.2 q h
      · exact hF _ (hL q h)⟩ T' rfl X'
  exact ⟨t2, sp t2 a1, b1⟩
theorem z_goL {post : Int64 → U → Prop} (hr : va_Run p l e R s m args below meth c H locs cells slots mc ms (F0 m pc ls st) rest (zQ D cI cB (va_A wc H.size) (S := Int64 × U) (fun v => some (.long v.1)) (fun v => wf v.2) (fun v => post v.1 v.2) a) (va_A wc H.size)) (hP : va_P D vwCl ws H) (hD : va_D A ws) (hS : va_S A s.heap H locs) (hA : ∀ q : Nat, s.heap.size ≤ q → A q) (isC isR isN : List Nat) (hC : isC.map (fun i => ws[i]?) = wc.map some) (hR : isR.map (fun i => ws[i]?) = wr.map some) (hnR : va_nd isR = true) (hdis : ∀ i ∈ isR, i ∉ isC) (hnN : va_nd isN = true) (hN : ∀ u : U, isN.map (fun i => (wr ++ wf u)[i]?) = (wn u).map some)
    (k : ∀ (r : Int64) (u : U) (H1 : Heap) (locs1 : List Loc), post r u → va_P D vwCl (wn u) H1 → va_D A (wn u) → va_S A s.heap H1 locs1 → W p l e R s m args below meth c H1 locs1 (cells + mc) (slots + ms) Q (F0 m (pc + 3) ls (.long r :: rest))) : W p l e R s m args below meth c H locs cells slots Q (F0 m pc ls st) := by
  intro T hT X
  have hF := va_free (wc := wc) hD hS hA isC hC
  obtain ⟨v, st₀, t, T', L, h0, X', hL, e1, e2, ⟨⟨⟨r, u⟩, hv, hp, hb⟩, hz, hk⟩, sp⟩ := hr T hT X
  cases hv
  rw [h0] at hz hk
  obtain ⟨hP1, hK1, hD1⟩ := hb
  rw [← e1] at hP1 hz hk
  obtain ⟨hP2, hD2⟩ := va_join (wr := wr) (w1 := wf u) hP hD isC isR hC hR hnR hdis hk hF hP1 hD1
  have hNf : isN.filterMap (fun i => (wr ++ wf u)[i]?) = wn u := z_fm (hN u)
  obtain ⟨t2, a1, b1⟩ := k r u T'.heap (locs ++ L) hp (hP2.sub isN hNf) (hD2.sub isN hnN (hN u))
    ⟨Nat.le_trans hS.1 hz, fun q h1 h2 => by rw [hk q (Nat.lt_of_lt_of_le h1 hS.1) (fun z => h2 (hF q z))]; exact hS.2.1 q h1 h2, fun q hq => by
      rcases List.mem_append.mp hq with h | h
      · exact hS.2.2 q h
      · exact hF _ (hL q h)⟩ T' rfl X'
  exact ⟨t2, sp t2 a1, b1⟩
theorem z_goV {post : U → Prop} (hr : va_Run p l e R s m args below meth c H locs cells slots mc ms (F0 m pc ls st) rest (zQ D cI cB (va_A wc H.size) (S := U) (fun v => none) (fun v => wf v) (fun v => post v) a) (va_A wc H.size)) (hP : va_P D vwCl ws H) (hD : va_D A ws) (hS : va_S A s.heap H locs) (hA : ∀ q : Nat, s.heap.size ≤ q → A q) (isC isR isN : List Nat) (hC : isC.map (fun i => ws[i]?) = wc.map some) (hR : isR.map (fun i => ws[i]?) = wr.map some) (hnR : va_nd isR = true) (hdis : ∀ i ∈ isR, i ∉ isC) (hnN : va_nd isN = true) (hN : ∀ u : U, isN.map (fun i => (wr ++ wf u)[i]?) = (wn u).map some)
    (k : ∀ (u : U) (H1 : Heap) (locs1 : List Loc), post u → va_P D vwCl (wn u) H1 → va_D A (wn u) → va_S A s.heap H1 locs1 → W p l e R s m args below meth c H1 locs1 (cells + mc) (slots + ms) Q (F0 m (pc + 3) ls rest)) : W p l e R s m args below meth c H locs cells slots Q (F0 m pc ls st) := by
  intro T hT X
  have hF := va_free (wc := wc) hD hS hA isC hC
  obtain ⟨v, st₀, t, T', L, h0, X', hL, e1, e2, ⟨⟨u, hv, hp, hb⟩, hz, hk⟩, sp⟩ := hr T hT X
  cases hv
  rw [h0] at hz hk
  obtain ⟨hP1, hK1, hD1⟩ := hb
  rw [← e1] at hP1 hz hk
  obtain ⟨hP2, hD2⟩ := va_join (wr := wr) (w1 := wf u) hP hD isC isR hC hR hnR hdis hk hF hP1 hD1
  have hNf : isN.filterMap (fun i => (wr ++ wf u)[i]?) = wn u := z_fm (hN u)
  obtain ⟨t2, a1, b1⟩ := k u T'.heap (locs ++ L) hp (hP2.sub isN hNf) (hD2.sub isN hnN (hN u))
    ⟨Nat.le_trans hS.1 hz, fun q h1 h2 => by rw [hk q (Nat.lt_of_lt_of_le h1 hS.1) (fun z => h2 (hF q z))]; exact hS.2.1 q h1 h2, fun q hq => by
      rcases List.mem_append.mp hq with h | h
      · exact hS.2.2 q h
      · exact hF _ (hL q h)⟩ T' rfl X'
  exact ⟨t2, sp t2 a1, b1⟩
theorem z_goR {post : Nat → U → Prop} (hr : va_Run p l e R s m args below meth c H locs cells slots mc ms (F0 m pc ls st) rest (zQ D cI cB (va_A wc H.size) (S := Nat × U) (fun v => some (.ref v.1)) (fun v => wf v.2) (fun v => post v.1 v.2) a) (va_A wc H.size)) (hP : va_P D vwCl ws H) (hD : va_D A ws) (hS : va_S A s.heap H locs) (hA : ∀ q : Nat, s.heap.size ≤ q → A q) (isC isR isN : List Nat) (hC : isC.map (fun i => ws[i]?) = wc.map some) (hR : isR.map (fun i => ws[i]?) = wr.map some) (hnR : va_nd isR = true) (hdis : ∀ i ∈ isR, i ∉ isC) (hnN : va_nd isN = true) (hN : ∀ u : U, isN.map (fun i => (wr ++ wf u)[i]?) = (wn u).map some)
    (k : ∀ (r : Nat) (u : U) (H1 : Heap) (locs1 : List Loc), post r u → va_P D vwCl (wn u) H1 → va_D A (wn u) → va_S A s.heap H1 locs1 → W p l e R s m args below meth c H1 locs1 (cells + mc) (slots + ms) Q (F0 m (pc + 3) ls (.ref r :: rest))) : W p l e R s m args below meth c H locs cells slots Q (F0 m pc ls st) := by
  intro T hT X
  have hF := va_free (wc := wc) hD hS hA isC hC
  obtain ⟨v, st₀, t, T', L, h0, X', hL, e1, e2, ⟨⟨⟨r, u⟩, hv, hp, hb⟩, hz, hk⟩, sp⟩ := hr T hT X
  cases hv
  rw [h0] at hz hk
  obtain ⟨hP1, hK1, hD1⟩ := hb
  rw [← e1] at hP1 hz hk
  obtain ⟨hP2, hD2⟩ := va_join (wr := wr) (w1 := wf u) hP hD isC isR hC hR hnR hdis hk hF hP1 hD1
  have hNf : isN.filterMap (fun i => (wr ++ wf u)[i]?) = wn u := z_fm (hN u)
  obtain ⟨t2, a1, b1⟩ := k r u T'.heap (locs ++ L) hp (hP2.sub isN hNf) (hD2.sub isN hnN (hN u))
    ⟨Nat.le_trans hS.1 hz, fun q h1 h2 => by rw [hk q (Nat.lt_of_lt_of_le h1 hS.1) (fun z => h2 (hF q z))]; exact hS.2.1 q h1 h2, fun q hq => by
      rcases List.mem_append.mp hq with h | h
      · exact hS.2.2 q h
      · exact hF _ (hL q h)⟩ T' rfl X'
  exact ⟨t2, sp t2 a1, b1⟩
theorem z_VI {post : Int32 → U → Prop} (S0 : CallFix p m c cc nL s args Ts own) (hK : va_K D vwCl (zTy cI cB) s) (hP : va_P D vwCl ws H) (hD : va_D A ws) (hS : va_S A s.heap H locs) (hA : ∀ q : Nat, s.heap.size ≤ q → A q) (hT : zST tE tN A s s.heap) (hM : zI l y wsC rm D cI cB tE tN (.ref b :: As) wc H.size wf post mc ms) (hG : GoodIn Ts (wsV own index C y wsC)) (hw : wsC = Cond.code y bytes maxL ret :: ws') (hrc : rm.cells = mc) (hrs : rm.slots = ms) (hd : y.cls = C ∧ y.cls ≠ "java/lang/invoke/MethodHandle" ∧ y.cls ≠ "java/lang/invoke/VarHandle" ∧ (parseMethodDescriptor y.desc).map (fun d => d.parameters.length) = some n) (hRm : rm.frames + 1 ≤ R.frames ∧ 8 + (maxL + 11) + rm.locals ≤ R.locals) (isC isR isN : List Nat) (hnC : va_nd isC = true) (hC : isC.map (fun i => ws[i]?) = wc.map some) (hR : isR.map (fun i => ws[i]?) = wr.map some) (hnR : va_nd isR = true) (hdis : ∀ i ∈ isR, i ∉ isC) (hnN : va_nd isN = true) (hN : ∀ u : U, isN.map (fun i => (wr ++ wf u)[i]?) = (wn u).map some) (q0 ci : Nat) {q : vw_C} {fs : List Value} (hcl : vwCl[ci]? = some q) (hq : q.1 = C) (he : wc[q0]? = some (b, .inr (ci, fs)))
    (hn : As.length = n) (hls : ls.size = nL) (hst : st = As.reverse ++ .ref b :: rest) (hr : (rest.map fun v => v.category).sum ≤ 8) (hdg : decode cc pc = .ok (.invokevirtual index, 3)) (hf : cells + mc ≤ R.cells ∧ slots + ms ≤ R.slots)
    (k : ∀ (r : Int32) (u : U) (H1 : Heap) (locs1 : List Loc), post r u → va_P D vwCl (wn u) H1 → va_D A (wn u) → va_S A s.heap H1 locs1 → W p l e R s m args below meth c H1 locs1 (cells + mc) (slots + ms) Q (F0 m (pc + 3) ls (.int r :: rest))) : W p l e R s m args below meth c H locs cells slots Q (F0 m pc ls st) := by
  have hPc : va_P D vwCl wc H := hP.sub isC (z_fm hC)
  have hrecv : ∃ cell : Cell, H[b]? = some cell ∧ cell.vm.isStatics = false ∧ s.vm.findClass C = some cell.cls := by
    rw [← hq]
    exact va_recv hK hPc hcl he
  exact z_goI (wf := wf) (va_runV (As := As) (b := b) (rest := rest) S0 hM (cwV n S0.2.2.2.2 hG hw hrc hrs hd hRm) ⟨zPre_blind _ _ _ _ _ _ _ _, hrecv, fun U hU hW => z_pre hK hP hD hS hA hT isC hnC hC U hU hW⟩ rfl hn hls hst (lv_room hr) hdg hf) hP hD hS hA isC isR isN hC hR hnR hdis hnN hN k
theorem z_VL {post : Int64 → U → Prop} (S0 : CallFix p m c cc nL s args Ts own) (hK : va_K D vwCl (zTy cI cB) s) (hP : va_P D vwCl ws H) (hD : va_D A ws) (hS : va_S A s.heap H locs) (hA : ∀ q : Nat, s.heap.size ≤ q → A q) (hT : zST tE tN A s s.heap) (hM : zL l y wsC rm D cI cB tE tN (.ref b :: As) wc H.size wf post mc ms) (hG : GoodIn Ts (wsV own index C y wsC)) (hw : wsC = Cond.code y bytes maxL ret :: ws') (hrc : rm.cells = mc) (hrs : rm.slots = ms) (hd : y.cls = C ∧ y.cls ≠ "java/lang/invoke/MethodHandle" ∧ y.cls ≠ "java/lang/invoke/VarHandle" ∧ (parseMethodDescriptor y.desc).map (fun d => d.parameters.length) = some n) (hRm : rm.frames + 1 ≤ R.frames ∧ 8 + (maxL + 11) + rm.locals ≤ R.locals) (isC isR isN : List Nat) (hnC : va_nd isC = true) (hC : isC.map (fun i => ws[i]?) = wc.map some) (hR : isR.map (fun i => ws[i]?) = wr.map some) (hnR : va_nd isR = true) (hdis : ∀ i ∈ isR, i ∉ isC) (hnN : va_nd isN = true) (hN : ∀ u : U, isN.map (fun i => (wr ++ wf u)[i]?) = (wn u).map some) (q0 ci : Nat) {q : vw_C} {fs : List Value} (hcl : vwCl[ci]? = some q) (hq : q.1 = C) (he : wc[q0]? = some (b, .inr (ci, fs)))
    (hn : As.length = n) (hls : ls.size = nL) (hst : st = As.reverse ++ .ref b :: rest) (hr : (rest.map fun v => v.category).sum ≤ 8) (hdg : decode cc pc = .ok (.invokevirtual index, 3)) (hf : cells + mc ≤ R.cells ∧ slots + ms ≤ R.slots)
    (k : ∀ (r : Int64) (u : U) (H1 : Heap) (locs1 : List Loc), post r u → va_P D vwCl (wn u) H1 → va_D A (wn u) → va_S A s.heap H1 locs1 → W p l e R s m args below meth c H1 locs1 (cells + mc) (slots + ms) Q (F0 m (pc + 3) ls (.long r :: rest))) : W p l e R s m args below meth c H locs cells slots Q (F0 m pc ls st) := by
  have hPc : va_P D vwCl wc H := hP.sub isC (z_fm hC)
  have hrecv : ∃ cell : Cell, H[b]? = some cell ∧ cell.vm.isStatics = false ∧ s.vm.findClass C = some cell.cls := by
    rw [← hq]
    exact va_recv hK hPc hcl he
  exact z_goL (wf := wf) (va_runV (As := As) (b := b) (rest := rest) S0 hM (cwV n S0.2.2.2.2 hG hw hrc hrs hd hRm) ⟨zPre_blind _ _ _ _ _ _ _ _, hrecv, fun U hU hW => z_pre hK hP hD hS hA hT isC hnC hC U hU hW⟩ rfl hn hls hst (lv_room hr) hdg hf) hP hD hS hA isC isR isN hC hR hnR hdis hnN hN k
theorem z_VV {post : U → Prop} (S0 : CallFix p m c cc nL s args Ts own) (hK : va_K D vwCl (zTy cI cB) s) (hP : va_P D vwCl ws H) (hD : va_D A ws) (hS : va_S A s.heap H locs) (hA : ∀ q : Nat, s.heap.size ≤ q → A q) (hT : zST tE tN A s s.heap) (hM : zV l y wsC rm D cI cB tE tN (.ref b :: As) wc H.size wf post mc ms) (hG : GoodIn Ts (wsV own index C y wsC)) (hw : wsC = Cond.code y bytes maxL ret :: ws') (hrc : rm.cells = mc) (hrs : rm.slots = ms) (hd : y.cls = C ∧ y.cls ≠ "java/lang/invoke/MethodHandle" ∧ y.cls ≠ "java/lang/invoke/VarHandle" ∧ (parseMethodDescriptor y.desc).map (fun d => d.parameters.length) = some n) (hRm : rm.frames + 1 ≤ R.frames ∧ 8 + (maxL + 11) + rm.locals ≤ R.locals) (isC isR isN : List Nat) (hnC : va_nd isC = true) (hC : isC.map (fun i => ws[i]?) = wc.map some) (hR : isR.map (fun i => ws[i]?) = wr.map some) (hnR : va_nd isR = true) (hdis : ∀ i ∈ isR, i ∉ isC) (hnN : va_nd isN = true) (hN : ∀ u : U, isN.map (fun i => (wr ++ wf u)[i]?) = (wn u).map some) (q0 ci : Nat) {q : vw_C} {fs : List Value} (hcl : vwCl[ci]? = some q) (hq : q.1 = C) (he : wc[q0]? = some (b, .inr (ci, fs)))
    (hn : As.length = n) (hls : ls.size = nL) (hst : st = As.reverse ++ .ref b :: rest) (hr : (rest.map fun v => v.category).sum ≤ 8) (hdg : decode cc pc = .ok (.invokevirtual index, 3)) (hf : cells + mc ≤ R.cells ∧ slots + ms ≤ R.slots)
    (k : ∀ (u : U) (H1 : Heap) (locs1 : List Loc), post u → va_P D vwCl (wn u) H1 → va_D A (wn u) → va_S A s.heap H1 locs1 → W p l e R s m args below meth c H1 locs1 (cells + mc) (slots + ms) Q (F0 m (pc + 3) ls rest)) : W p l e R s m args below meth c H locs cells slots Q (F0 m pc ls st) := by
  have hPc : va_P D vwCl wc H := hP.sub isC (z_fm hC)
  have hrecv : ∃ cell : Cell, H[b]? = some cell ∧ cell.vm.isStatics = false ∧ s.vm.findClass C = some cell.cls := by
    rw [← hq]
    exact va_recv hK hPc hcl he
  exact z_goV (wf := wf) (va_runV (As := As) (b := b) (rest := rest) S0 hM (cwV n S0.2.2.2.2 hG hw hrc hrs hd hRm) ⟨zPre_blind _ _ _ _ _ _ _ _, hrecv, fun U hU hW => z_pre hK hP hD hS hA hT isC hnC hC U hU hW⟩ rfl hn hls hst (lv_room hr) hdg hf) hP hD hS hA isC isR isN hC hR hnR hdis hnN hN k
theorem z_VR {post : Nat → U → Prop} (S0 : CallFix p m c cc nL s args Ts own) (hK : va_K D vwCl (zTy cI cB) s) (hP : va_P D vwCl ws H) (hD : va_D A ws) (hS : va_S A s.heap H locs) (hA : ∀ q : Nat, s.heap.size ≤ q → A q) (hT : zST tE tN A s s.heap) (hM : zR l y wsC rm D cI cB tE tN (.ref b :: As) wc H.size wf post mc ms) (hG : GoodIn Ts (wsV own index C y wsC)) (hw : wsC = Cond.code y bytes maxL ret :: ws') (hrc : rm.cells = mc) (hrs : rm.slots = ms) (hd : y.cls = C ∧ y.cls ≠ "java/lang/invoke/MethodHandle" ∧ y.cls ≠ "java/lang/invoke/VarHandle" ∧ (parseMethodDescriptor y.desc).map (fun d => d.parameters.length) = some n) (hRm : rm.frames + 1 ≤ R.frames ∧ 8 + (maxL + 11) + rm.locals ≤ R.locals) (isC isR isN : List Nat) (hnC : va_nd isC = true) (hC : isC.map (fun i => ws[i]?) = wc.map some) (hR : isR.map (fun i => ws[i]?) = wr.map some) (hnR : va_nd isR = true) (hdis : ∀ i ∈ isR, i ∉ isC) (hnN : va_nd isN = true) (hN : ∀ u : U, isN.map (fun i => (wr ++ wf u)[i]?) = (wn u).map some) (q0 ci : Nat) {q : vw_C} {fs : List Value} (hcl : vwCl[ci]? = some q) (hq : q.1 = C) (he : wc[q0]? = some (b, .inr (ci, fs)))
    (hn : As.length = n) (hls : ls.size = nL) (hst : st = As.reverse ++ .ref b :: rest) (hr : (rest.map fun v => v.category).sum ≤ 8) (hdg : decode cc pc = .ok (.invokevirtual index, 3)) (hf : cells + mc ≤ R.cells ∧ slots + ms ≤ R.slots)
    (k : ∀ (r : Nat) (u : U) (H1 : Heap) (locs1 : List Loc), post r u → va_P D vwCl (wn u) H1 → va_D A (wn u) → va_S A s.heap H1 locs1 → W p l e R s m args below meth c H1 locs1 (cells + mc) (slots + ms) Q (F0 m (pc + 3) ls (.ref r :: rest))) : W p l e R s m args below meth c H locs cells slots Q (F0 m pc ls st) := by
  have hPc : va_P D vwCl wc H := hP.sub isC (z_fm hC)
  have hrecv : ∃ cell : Cell, H[b]? = some cell ∧ cell.vm.isStatics = false ∧ s.vm.findClass C = some cell.cls := by
    rw [← hq]
    exact va_recv hK hPc hcl he
  exact z_goR (wf := wf) (va_runV (As := As) (b := b) (rest := rest) S0 hM (cwV n S0.2.2.2.2 hG hw hrc hrs hd hRm) ⟨zPre_blind _ _ _ _ _ _ _ _, hrecv, fun U hU hW => z_pre hK hP hD hS hA hT isC hnC hC U hU hW⟩ rfl hn hls hst (lv_room hr) hdg hf) hP hD hS hA isC isR isN hC hR hnR hdis hnN hN k
theorem z_SI {post : Int32 → U → Prop} (S0 : CallFix p m c cc nL s args Ts own) (hK : va_K D vwCl (zTy cI cB) s) (hP : va_P D vwCl ws H) (hD : va_D A ws) (hS : va_S A s.heap H locs) (hA : ∀ q : Nat, s.heap.size ≤ q → A q) (hT : zST tE tN A s s.heap) (hM : zI l y wsC rm D cI cB tE tN As wc H.size wf post mc ms) (hG : GoodIn Ts (va_wsS own index y wsC)) (hw : wsC = Cond.code y bytes maxL ret :: ws') (hrc : rm.cells = mc) (hrs : rm.slots = ms) (hd : y.cls ≠ "java/lang/invoke/MethodHandle" ∧ y.cls ≠ "java/lang/invoke/VarHandle" ∧ (parseMethodDescriptor y.desc).map (fun d => d.parameters.length) = some n) (hRm : rm.frames + 1 ≤ R.frames ∧ 8 + (maxL + 11) + rm.locals ≤ R.locals) (isC isR isN : List Nat) (hnC : va_nd isC = true) (hC : isC.map (fun i => ws[i]?) = wc.map some) (hR : isR.map (fun i => ws[i]?) = wr.map some) (hnR : va_nd isR = true) (hdis : ∀ i ∈ isR, i ∉ isC) (hnN : va_nd isN = true) (hN : ∀ u : U, isN.map (fun i => (wr ++ wf u)[i]?) = (wn u).map some) 
    (hn : As.length = n) (hls : ls.size = nL) (hst : st = As.reverse ++ rest) (hr : (rest.map fun v => v.category).sum ≤ 8) (hdg : decode cc pc = .ok (.invokestatic index, 3)) (hf : cells + mc ≤ R.cells ∧ slots + ms ≤ R.slots)
    (k : ∀ (r : Int32) (u : U) (H1 : Heap) (locs1 : List Loc), post r u → va_P D vwCl (wn u) H1 → va_D A (wn u) → va_S A s.heap H1 locs1 → W p l e R s m args below meth c H1 locs1 (cells + mc) (slots + ms) Q (F0 m (pc + 3) ls (.int r :: rest))) : W p l e R s m args below meth c H locs cells slots Q (F0 m pc ls st) := by
  exact z_goI (wf := wf) (va_runS (As := As) (rest := rest) S0 hM (va_cwS n S0.2.2.2.2 hG hw hrc hrs hd hRm) ⟨zPre_blind _ _ _ _ _ _ _ _, fun U hU hW => z_pre hK hP hD hS hA hT isC hnC hC U hU hW⟩ rfl hn hls hst (lv_room hr) hdg hf) hP hD hS hA isC isR isN hC hR hnR hdis hnN hN k
theorem z_SL {post : Int64 → U → Prop} (S0 : CallFix p m c cc nL s args Ts own) (hK : va_K D vwCl (zTy cI cB) s) (hP : va_P D vwCl ws H) (hD : va_D A ws) (hS : va_S A s.heap H locs) (hA : ∀ q : Nat, s.heap.size ≤ q → A q) (hT : zST tE tN A s s.heap) (hM : zL l y wsC rm D cI cB tE tN As wc H.size wf post mc ms) (hG : GoodIn Ts (va_wsS own index y wsC)) (hw : wsC = Cond.code y bytes maxL ret :: ws') (hrc : rm.cells = mc) (hrs : rm.slots = ms) (hd : y.cls ≠ "java/lang/invoke/MethodHandle" ∧ y.cls ≠ "java/lang/invoke/VarHandle" ∧ (parseMethodDescriptor y.desc).map (fun d => d.parameters.length) = some n) (hRm : rm.frames + 1 ≤ R.frames ∧ 8 + (maxL + 11) + rm.locals ≤ R.locals) (isC isR isN : List Nat) (hnC : va_nd isC = true) (hC : isC.map (fun i => ws[i]?) = wc.map some) (hR : isR.map (fun i => ws[i]?) = wr.map some) (hnR : va_nd isR = true) (hdis : ∀ i ∈ isR, i ∉ isC) (hnN : va_nd isN = true) (hN : ∀ u : U, isN.map (fun i => (wr ++ wf u)[i]?) = (wn u).map some) 
    (hn : As.length = n) (hls : ls.size = nL) (hst : st = As.reverse ++ rest) (hr : (rest.map fun v => v.category).sum ≤ 8) (hdg : decode cc pc = .ok (.invokestatic index, 3)) (hf : cells + mc ≤ R.cells ∧ slots + ms ≤ R.slots)
    (k : ∀ (r : Int64) (u : U) (H1 : Heap) (locs1 : List Loc), post r u → va_P D vwCl (wn u) H1 → va_D A (wn u) → va_S A s.heap H1 locs1 → W p l e R s m args below meth c H1 locs1 (cells + mc) (slots + ms) Q (F0 m (pc + 3) ls (.long r :: rest))) : W p l e R s m args below meth c H locs cells slots Q (F0 m pc ls st) := by
  exact z_goL (wf := wf) (va_runS (As := As) (rest := rest) S0 hM (va_cwS n S0.2.2.2.2 hG hw hrc hrs hd hRm) ⟨zPre_blind _ _ _ _ _ _ _ _, fun U hU hW => z_pre hK hP hD hS hA hT isC hnC hC U hU hW⟩ rfl hn hls hst (lv_room hr) hdg hf) hP hD hS hA isC isR isN hC hR hnR hdis hnN hN k
theorem z_SV {post : U → Prop} (S0 : CallFix p m c cc nL s args Ts own) (hK : va_K D vwCl (zTy cI cB) s) (hP : va_P D vwCl ws H) (hD : va_D A ws) (hS : va_S A s.heap H locs) (hA : ∀ q : Nat, s.heap.size ≤ q → A q) (hT : zST tE tN A s s.heap) (hM : zV l y wsC rm D cI cB tE tN As wc H.size wf post mc ms) (hG : GoodIn Ts (va_wsS own index y wsC)) (hw : wsC = Cond.code y bytes maxL ret :: ws') (hrc : rm.cells = mc) (hrs : rm.slots = ms) (hd : y.cls ≠ "java/lang/invoke/MethodHandle" ∧ y.cls ≠ "java/lang/invoke/VarHandle" ∧ (parseMethodDescriptor y.desc).map (fun d => d.parameters.length) = some n) (hRm : rm.frames + 1 ≤ R.frames ∧ 8 + (maxL + 11) + rm.locals ≤ R.locals) (isC isR isN : List Nat) (hnC : va_nd isC = true) (hC : isC.map (fun i => ws[i]?) = wc.map some) (hR : isR.map (fun i => ws[i]?) = wr.map some) (hnR : va_nd isR = true) (hdis : ∀ i ∈ isR, i ∉ isC) (hnN : va_nd isN = true) (hN : ∀ u : U, isN.map (fun i => (wr ++ wf u)[i]?) = (wn u).map some) 
    (hn : As.length = n) (hls : ls.size = nL) (hst : st = As.reverse ++ rest) (hr : (rest.map fun v => v.category).sum ≤ 8) (hdg : decode cc pc = .ok (.invokestatic index, 3)) (hf : cells + mc ≤ R.cells ∧ slots + ms ≤ R.slots)
    (k : ∀ (u : U) (H1 : Heap) (locs1 : List Loc), post u → va_P D vwCl (wn u) H1 → va_D A (wn u) → va_S A s.heap H1 locs1 → W p l e R s m args below meth c H1 locs1 (cells + mc) (slots + ms) Q (F0 m (pc + 3) ls rest)) : W p l e R s m args below meth c H locs cells slots Q (F0 m pc ls st) := by
  exact z_goV (wf := wf) (va_runS (As := As) (rest := rest) S0 hM (va_cwS n S0.2.2.2.2 hG hw hrc hrs hd hRm) ⟨zPre_blind _ _ _ _ _ _ _ _, fun U hU hW => z_pre hK hP hD hS hA hT isC hnC hC U hU hW⟩ rfl hn hls hst (lv_room hr) hdg hf) hP hD hS hA isC isR isN hC hR hnR hdis hnN hN k
theorem z_SR {post : Nat → U → Prop} (S0 : CallFix p m c cc nL s args Ts own) (hK : va_K D vwCl (zTy cI cB) s) (hP : va_P D vwCl ws H) (hD : va_D A ws) (hS : va_S A s.heap H locs) (hA : ∀ q : Nat, s.heap.size ≤ q → A q) (hT : zST tE tN A s s.heap) (hM : zR l y wsC rm D cI cB tE tN As wc H.size wf post mc ms) (hG : GoodIn Ts (va_wsS own index y wsC)) (hw : wsC = Cond.code y bytes maxL ret :: ws') (hrc : rm.cells = mc) (hrs : rm.slots = ms) (hd : y.cls ≠ "java/lang/invoke/MethodHandle" ∧ y.cls ≠ "java/lang/invoke/VarHandle" ∧ (parseMethodDescriptor y.desc).map (fun d => d.parameters.length) = some n) (hRm : rm.frames + 1 ≤ R.frames ∧ 8 + (maxL + 11) + rm.locals ≤ R.locals) (isC isR isN : List Nat) (hnC : va_nd isC = true) (hC : isC.map (fun i => ws[i]?) = wc.map some) (hR : isR.map (fun i => ws[i]?) = wr.map some) (hnR : va_nd isR = true) (hdis : ∀ i ∈ isR, i ∉ isC) (hnN : va_nd isN = true) (hN : ∀ u : U, isN.map (fun i => (wr ++ wf u)[i]?) = (wn u).map some) 
    (hn : As.length = n) (hls : ls.size = nL) (hst : st = As.reverse ++ rest) (hr : (rest.map fun v => v.category).sum ≤ 8) (hdg : decode cc pc = .ok (.invokestatic index, 3)) (hf : cells + mc ≤ R.cells ∧ slots + ms ≤ R.slots)
    (k : ∀ (r : Nat) (u : U) (H1 : Heap) (locs1 : List Loc), post r u → va_P D vwCl (wn u) H1 → va_D A (wn u) → va_S A s.heap H1 locs1 → W p l e R s m args below meth c H1 locs1 (cells + mc) (slots + ms) Q (F0 m (pc + 3) ls (.ref r :: rest))) : W p l e R s m args below meth c H locs cells slots Q (F0 m pc ls st) := by
  exact z_goR (wf := wf) (va_runS (As := As) (rest := rest) S0 hM (va_cwS n S0.2.2.2.2 hG hw hrc hrs hd hRm) ⟨zPre_blind _ _ _ _ _ _ _ _, fun U hU hW => z_pre hK hP hD hS hA hT isC hnC hC U hU hW⟩ rfl hn hls hst (lv_room hr) hdg hf) hP hD hS hA isC isR isN hC hR hnR hdis hnN hN k
theorem z_NI {post : Int32 → U → Prop} (S0 : CallFix p m c cc nL s args Ts own) (hK : va_K D vwCl (zTy cI cB) s) (hP : va_P D vwCl ws H) (hD : va_D A ws) (hS : va_S A s.heap H locs) (hA : ∀ q : Nat, s.heap.size ≤ q → A q) (hT : zST tE tN A s s.heap) (hM : zI l y wsC rm D cI cB tE tN As wc H.size wf post mc ms) {host : String} (hG : GoodIn Ts wsC) (hl : va_Nw (.methodLinkNest own index y host) s) (hini : (Cond.initialized y.cls).before args s = true) (hstat : (Cond.static y).before args s = true) (hw : wsC = Cond.code y bytes maxL ret :: ws') (hrc : rm.cells = mc) (hrs : rm.slots = ms) (hd : y.cls ≠ "java/lang/invoke/MethodHandle" ∧ y.cls ≠ "java/lang/invoke/VarHandle" ∧ (parseMethodDescriptor y.desc).map (fun d => d.parameters.length) = some n) (hRm : rm.frames + 1 ≤ R.frames ∧ 8 + (maxL + 11) + rm.locals ≤ R.locals) (isC isR isN : List Nat) (hnC : va_nd isC = true) (hC : isC.map (fun i => ws[i]?) = wc.map some) (hR : isR.map (fun i => ws[i]?) = wr.map some) (hnR : va_nd isR = true) (hdis : ∀ i ∈ isR, i ∉ isC) (hnN : va_nd isN = true) (hN : ∀ u : U, isN.map (fun i => (wr ++ wf u)[i]?) = (wn u).map some) 
    (hn : As.length = n) (hls : ls.size = nL) (hst : st = As.reverse ++ rest) (hr : (rest.map fun v => v.category).sum ≤ 8) (hdg : decode cc pc = .ok (.invokestatic index, 3)) (hf : cells + mc ≤ R.cells ∧ slots + ms ≤ R.slots)
    (k : ∀ (r : Int32) (u : U) (H1 : Heap) (locs1 : List Loc), post r u → va_P D vwCl (wn u) H1 → va_D A (wn u) → va_S A s.heap H1 locs1 → W p l e R s m args below meth c H1 locs1 (cells + mc) (slots + ms) Q (F0 m (pc + 3) ls (.int r :: rest))) : W p l e R s m args below meth c H locs cells slots Q (F0 m pc ls st) := by
  exact z_goI (wf := wf) (va_runSN (As := As) (rest := rest) S0 hM ⟨va_cnB n S0.2.2.2.2 hG hw hrc hrs hl hini hd hRm, hstat, trivial⟩ ⟨zPre_blind _ _ _ _ _ _ _ _, fun U hU hW => z_pre hK hP hD hS hA hT isC hnC hC U hU hW⟩ rfl hn hls hst (lv_room hr) hdg hf) hP hD hS hA isC isR isN hC hR hnR hdis hnN hN k
end ZGO
