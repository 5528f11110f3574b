/-! THE SMALL MACHINE: calls and throws -/
theorem mm_lays_on {s U : State} {args a' : Array Value} (hal : s.vm.Alike U.vm) (hst : ∀ (q : Nat) (cell : Cell), s.heap[q]? = some cell → cell.vm.isStatics = true → U.heap[q]? = some cell) {O f d : String} (h : (Cond.laysStatic O f d).before args s = true) : (Cond.laysStatic O f d).before a' U = true := by
  obtain ⟨c, k, i, fd, a, cell, hc, hf, hs, hsta, hcell, hiss, hcls, hlt, hty⟩ := Cond.laysStatic_spec h
  obtain ⟨k', hf', hek⟩ := State.fieldFound?_setVm (s := s) hal hf
  have hf2 : U.fieldFound? O f d = some (c, k', i, fd) := by simpa only [State.fieldFound?, State.vm_setVm] using hf'
  have hc2 : U.vm.findClass O = some c := by rw [hal.findClass]; exact hc
  have e1 : k'.statics = some a := by rw [hek]; exact hsta
  have e2 : k'.staticTypes[fd.slot]? = some fd.type := by rw [hek]; exact hty
  have e3 := hst a cell hcell hiss
  simp [Cond.before, Cond.holds, Cond.value, hc2, hf2, hs, e1, e3, hiss, hcls, hlt, e2]
theorem mm_isRef_on {s U : State} {args a' : Array Value} (hal : s.vm.Alike U.vm) (hst : ∀ (q : Nat) (cell : Cell), s.heap[q]? = some cell → cell.vm.isStatics = true → U.heap[q]? = some cell) {O f d : String} (hl : (Cond.laysStatic O f d).before args s = true) (h : (Cond.isRef (.static O f d)).before args s = true) : (Cond.isRef (.static O f d)).before a' U = true := by
  obtain ⟨c, k, i, fd, a, cell, hc, hf, hs, hsta, hcell, hiss, hcls, hlt, hty⟩ := Cond.laysStatic_spec hl
  obtain ⟨k', hf', hek⟩ := State.fieldFound?_setVm (s := s) hal hf
  have hf2 : U.fieldFound? O f d = some (c, k', i, fd) := by simpa only [State.fieldFound?, State.vm_setVm] using hf'
  have e1 : k'.statics = some a := by rw [hek]; exact hsta
  have e3 := hst a cell hcell hiss
  simp [Cond.before, Cond.holds, Cond.value, Term.eval, State.fieldNamed?, hf, hs, hsta, hcell, hiss] at h
  simp [Cond.before, Cond.holds, Cond.value, Term.eval, State.fieldNamed?, hf2, hs, e1, e3, hiss]
  exact h
theorem mm_nest_on {w : Cond} (hw : mm_nest w = true) {s U : State} (hW : s.WarmedH U.vm) (h : va_Nw w s) : va_Nw w U := by
  cases w <;> first | exact va_Nw.warmF hW h | exact va_Nw.warmM hW h | exact va_Nw.warmD hW h | cases hw
theorem mm_word_on {w : Cond} (hw : mm_okw w = true) {s U : State} {args a' : Array Value} (hW : s.WarmedH U.vm) (hst : ∀ (q : Nat) (cell : Cell), s.heap[q]? = some cell → cell.vm.isStatics = true → U.heap[q]? = some cell) (h : w.before args s = true) : w.before a' U = true := by
  simp only [mm_okw, Bool.or_eq_true] at hw
  rcases hw with (h1 | h2) | h3
  · exact word_at hW (good_of_word h1) h
  · have h3 : va_Nw w s := by cases w <;> first | cases h2; done | exact va_Nw.of rfl h
    have h4 := mm_nest_on h2 hW h3
    cases w <;> first | cases h2; done | exact va_Nw.use rfl h4
  · unfold mm_heap at h3
    split at h3
    · exact va_AO.use (va_AO.moved hW.alike (va_AO.of h))
    · exact mm_lays_on hW.alike hst h
    · simpa [Cond.before, Cond.holds, Cond.value, hW.alike.findClass, hW.alike.assignable] using h
    · cases h3
/-- what the tables and the statics say holds on -/
theorem mm_carry {G : mm_G} {s U : State} {args : Array Value} (a' : Array Value) (hW : s.WarmedH U.vm) (hst : ∀ (q : Nat) (cell : Cell), s.heap[q]? = some cell → cell.vm.isStatics = true → U.heap[q]? = some cell)
    (hts : ∀ w ∈ mm_WS, w.before args s = true) (hX : ∀ x ∈ mm_XS, (Cond.isRef (.static x.1 x.2.1 x.2.2)).before args s = true) (hN : ∀ q ∈ mm_NC, va_Nc q.1 q.2 s) (hK : va_K (mm_D G) vwCl (mm_tys (mm_cA G)) s) :
    (∀ w ∈ mm_WS, w.before a' U = true) ∧ (∀ x ∈ mm_XS, (Cond.isRef (.static x.1 x.2.1 x.2.2)).before a' U = true) ∧ (∀ q ∈ mm_NC, va_Nc q.1 q.2 U) ∧ va_K (mm_D G) vwCl (mm_tys (mm_cA G)) U :=
  ⟨fun w hw => mm_word_on (mm_WS_ok w hw) hW hst (hts w hw), fun x hx => mm_isRef_on hW.alike hst (hts _ (mm_XS_lays x hx)) (hX x hx), fun q hq => va_Nc.moved hW.alike (hN q hq), va_K.moved hW.alike hK⟩
theorem mm_plain {D : va_G} {cl : List vw_C} {q : Nat × va_E} {H : Heap} (h : va_at D cl q H) {cell : Cell} (hc : H[q.1]? = some cell) : cell.vm.isStatics = false := by
  obtain ⟨a, e⟩ := q
  cases e with
  | inl x =>
    have h : H[a]? = some (vp_cell x.1 x.2) := h
    have hc : H[a]? = some cell := hc
    rw [h] at hc
    cases hc
    obtain ⟨cA, n, f⟩ := x
    rcases f with f | f | f | f | f <;> rfl
  | inr o =>
    obtain ⟨r, -, cell', h1, -, h3, -⟩ := h
    have hc : H[a]? = some cell := hc
    have h1 : H[a]? = some cell' := h1
    rw [h1] at hc
    cases hc
    rw [h3]
    rfl
theorem mm_plains {G : mm_G} {h : mm_H} {H : Heap} (hP : va_P (mm_D G) vwCl (mm_ws (mm_b G) (mm_sc G) (mm_cA G) h) H) (q : Nat) (cell : Cell) (h1 : mm_b G < q) (h2 : q < mm_b G + mm_n h) (hc : H[q]? = some cell) : cell.vm.isStatics = false := by
  have he := mm_ws_at (b := mm_b G) (sc := mm_sc G) (cA := mm_cA G) (h := h) (a := q - mm_b G) (by omega) (by omega)
  refine mm_plain (hP _ _ he) ?_
  show H[mm_b G + (q - mm_b G)]? = _
  rw [show mm_b G + (q - mm_b G) = q by omega]
  exact hc
/-- the statics stand where they stood -/
theorem mm_stat {G : mm_G} {n0 : Nat} {s : State} {H : Heap} {locs : List Loc} (hS : va_S (mm_A (mm_b G) n0 s) s.heap H locs) (hp : ∀ (q : Nat) (cell : Cell), mm_b G < q → q < mm_b G + n0 → s.heap[q]? = some cell → cell.vm.isStatics = false)
    (q : Nat) (cell : Cell) (hc : s.heap[q]? = some cell) (hi : cell.vm.isStatics = true) : H[q]? = some cell := by
  have hlt : q < s.heap.size := (Array.getElem?_eq_some_iff.mp hc).1
  rw [hS.2.1 q hlt ?_]
  · exact hc
  · rintro (⟨h1, h2⟩ | h)
    · rw [hp q cell h1 h2 hc] at hi
      cases hi
    · omega
/-- the method's own word -/
def mm_CW (M : mm_M) : Prop := (M.2.2.2.2 = [] ∧ Cond.code M.1 M.2.1 M.2.2.1 M.2.2.2.1 ∈ mm_WS) ∨ Cond.codeWith M.1 M.2.1 M.2.2.1 M.2.2.2.1 M.2.2.2.2 ∈ mm_WS
theorem mm_CW.word {M : mm_M} (h : mm_CW M) {args : Array Value} {s : State} (hts : ∀ w ∈ mm_WS, w.before args s = true) : (Cond.codeWith M.1 M.2.1 M.2.2.1 M.2.2.2.1 M.2.2.2.2).before args s = true := by
  rcases h with ⟨h1, h2⟩ | h
  · have := hts _ h2
    rw [h1]
    unfold Cond.before Cond.holds at this ⊢
    rw [← Cond.code_iff_codeWith_nil]
    exact this
  · exact hts _ h
/-- what a call asks of the state -/
def mm_Pre (G : mm_G) (av : List Value) (h : mm_H) : Array Value → State → Prop := fun a U =>
  a = (av.map (mm_tr (mm_b G) (mm_sc G))).toArray ∧ va_P (mm_D G) vwCl (mm_ws (mm_b G) (mm_sc G) (mm_cA G) h) U.heap ∧ (∀ x ∈ mm_XS, (Cond.isRef (.static x.1 x.2.1 x.2.2)).before a U = true) ∧ (∀ q ∈ mm_NC, va_Nc q.1 q.2 U) ∧ va_K (mm_D G) vwCl (mm_tys (mm_cA G)) U ∧
  mm_b G < U.heap.size ∧ mm_sc G ≤ mm_b G ∧ (mm_c h + 1 = mm_n h → U.heap.size = mm_b G + mm_n h) ∧ mm_c h ≤ mm_BC G ∧ mm_s h ≤ mm_BS G ∧ mm_n h ≤ mm_c h + 1 ∧ 0 < mm_n h
theorem mm_met {G : mm_G} {d : Nat × Nat} {M : mm_M} {Q : mm_O → mm_H → Prop} {av : List Value} {h : mm_H} {rm : Room} (hV : mm_V G d M Q 0 (mm_ent M.2.2.1 av) [] h) (hy : plainName M.1.cls = true) (hcw : mm_CW M) (hc : ∀ w ∈ av, w.category = 1) (hl : av.length ≤ M.2.2.1)
    (r1 : d.1 ≤ rm.frames) (r2 : d.2 ≤ rm.locals) (r3 : mm_BC G ≤ rm.cells + mm_c h) (r4 : mm_BS G ≤ rm.slots + mm_s h) :
    MetFree G.1 M.1 (headSpec mm_WS rm) (mm_Pre G av h) (fun _ _ _ _ _ => True) (fun _ st o t => mm_Fin G Q (mm_n h) (mm_c h) (mm_s h) st o t) := by
  refine MetFree.of_bodyS (code := M.2.1) (maxLocals := M.2.2.1) (ret := M.2.2.2.1) hy ?_ ?_
  · intro args s m hp hn
    obtain ⟨m9, meth, c, hn9, h1, h2, h3, h4, -, h5, h6, -⟩ := Cond.codeWith_spec (hcw.word (atoms_spec (ws := mm_WS) hp))
    cases hn.symm.trans hn9
    exact ⟨meth, c, h1, h2, h3, h4, h5, h6⟩
  · intro p e s m args below meth c s₁ B hml hP _
    obtain ⟨rfl, hP, hX, hN, hK, p1, p2, p3, p4, p5, p6, p7⟩ := hP
    have hts := atoms_spec (ws := mm_WS) B.pre
    have X := Stand.of_body B
    obtain ⟨m9, meth9, c9, hn9, h1, h2, h3, h4, h4t, h5, h6, -⟩ := Cond.codeWith_spec (hcw.word hts)
    cases B.named.symm.trans hn9
    cases B.method.symm.trans h1
    cases X.code.symm.trans h2
    have hh0 : s₁.heap = s.heap := by rw [B.state]; rfl
    have C : mm_Cx G d M p e rm s m (av.map (mm_tr (mm_b G) (mm_sc G))).toArray meth c (mm_n h) (mm_c h) (mm_s h) :=
      ⟨B.exec, h3, h4, h5, findClass_of_methodNamed B.named, h6, (name_of_methodNamed B.named B.method).1, h4t, hts, hX, hN, hK, mm_plains hP, p1, p2, r1, r2, r3, r4⟩
    have I : mm_In G h s s.heap [] (mm_n h) (mm_c h) (mm_s h) 0 0 :=
      ⟨hP, va_S.rf, fun z => ⟨z, p3 z⟩, Nat.le_refl _, fun z => absurd z (Nat.lt_irrefl _), by omega, by omega, p4, p5, p6, p7⟩
    have hw := hV p e rm s m _ below meth c (mm_n h) (mm_c h) (mm_s h) s.heap [] 0 0 _ C I (mm_L.entry hc hl)
    rw [List.map_nil, ← lg_entry_eq] at hw
    obtain ⟨t, a1, o, b1, b2, b3⟩ := hw s₁ hh0 X
    exact ⟨t, o, a1, b1, b2, b3⟩
section MC
variable {p : Program} {e : Env} {R : Room} {s : State} {m : MethodId} {args : Array Value} {below : List Frame} {meth : Method} {c : Code} {T : State} {locs : List Loc} {cells slots : Nat}
/-- the call is linked: the callee is about to begin -/
def mm_Lk (l : Launch) (p : Program) (e : Env) (R : Room) (s : State) (m : MethodId) (args : Array Value) (below : List Frame) (meth : Method) (c : Code) (T : State) (locs : List Loc) (cells slots : Nat) (y : MethodName) (g : JFrame) (rest av : List Value) : Prop :=
  ∃ (vm₁ : Vm) (mk : MethodId), s.WarmedH vm₁ ∧ Stand p l e R s m args below meth c (T.setVm vm₁) locs cells slots ∧ (T.setVm vm₁).methodNamed? y = some mk ∧
    ∀ target, Steps p.tables e below (doInvoke e ((T.setVm vm₁).setTop { g with stack := rest }) [] mk av.toArray).1 target → Steps p.tables e below (T.setTop g) target
/-- where a call has come back, with a value or with an exception -/
def mm_Bk (G : mm_G) (p : Program) (e : Env) (R : Room) (s : State) (m : MethodId) (args : Array Value) (below : List Frame) (meth : Method) (c : Code) (n0 c0 s0 : Nat) (Q2 : mm_O → mm_H → Prop) (g : JFrame) (rest : List Value) (U : State) : Prop :=
  (∃ (v : Option Value) (h1 : mm_H) (T1 : State) (locs1 : List Loc) (cells1 slots1 : Nat), Stand p G.1 e R s m args below meth c T1 locs1 cells1 slots1 ∧ mm_In G h1 s T1.heap locs1 n0 c0 s0 cells1 slots1 ∧ Q2 (.inl v) h1 ∧
      Steps p.tables e below U (T1.setTop { g with pc := g.pc + 3, stack := (v.map (mm_tr (mm_b G) (mm_sc G))).toList ++ rest })) ∨
  (∃ (x : Nat) (a : Addr) (ce : Cell) (h1 : mm_H) (T1 : State) (locs1 : List Loc) (cells1 slots1 : Nat), Stand p G.1 e R s m args below meth c T1 locs1 cells1 slots1 ∧ mm_In G h1 s T1.heap locs1 n0 c0 s0 cells1 slots1 ∧ Q2 (.inr x) h1 ∧
      mm_b G < a ∧ T1.heap[a]? = some ce ∧ ce.vm.isStatics = false ∧ s.vm.findClass (mm_xn x) = some ce.cls ∧ Steps p.tables e below U ((T1.setTop { g with stack := rest }).pushFrame (.throwing a)))
theorem mm_In.over {G : mm_G} {h h1 : mm_H} {s S : State} {H H1 : Heap} {locs L : List Loc} {n0 c0 s0 cells slots k n : Nat} (I : mm_In G h s H locs n0 c0 s0 cells slots) (hS : S.heap = H) (J : mm_In G h1 S H1 L (mm_n h) (mm_c h) (mm_s h) k n) : mm_In G h1 s H1 (locs ++ L) n0 c0 s0 (cells + k) (slots + n) := by
  obtain ⟨-, i2, i3, i4, i5, i6, i7, i8, i9, i10, i11⟩ := I
  obtain ⟨j1, j2, j3, j4, j5, j6, j7, j8, j9, j10, j11⟩ := J
  have hsub : ∀ q, mm_A (mm_b G) (mm_n h) S q → mm_A (mm_b G) n0 s q := by
    rintro q (⟨q1, q2⟩ | q1)
    · by_cases hq : q < mm_b G + n0
      · exact Or.inl ⟨q1, hq⟩
      · exact Or.inr (by have := i5 (by omega); omega)
    · refine Or.inr ?_
      rw [hS] at q1
      exact Nat.le_trans i2.1 q1
  have z1 : S.heap.size ≤ H1.size := j2.1
  rw [hS] at z1
  refine ⟨j1, ⟨Nat.le_trans i2.1 z1, fun q q1 q2 => ?_, fun z hz => ?_⟩, fun z => i3 (j3 z).1, Nat.le_trans i4 j4, fun z => ?_, by omega, by omega, j8, j9, j10, i11⟩
  · have e1 := j2.2.1 q (by rw [hS]; exact Nat.lt_of_lt_of_le q1 i2.1) (fun z => q2 (hsub q z))
    rw [e1, hS]
    exact i2.2.1 q q1 q2
  · rcases List.mem_append.mp hz with h | h
    · exact i2.2.2 z h
    · exact hsub _ (j2.2.2 z h)
  · by_cases hq : n0 < mm_n h
    · exact i5 hq
    · have e0 : n0 = mm_n h := by omega
      have := j5 (by omega)
      have v := i2.1
      rw [hS] at this
      omega
theorem mm_invoke {G : mm_G} {d d2 : Nat × Nat} {M M2 : mm_M} {Q2 : mm_O → mm_H → Prop} {av : List Value} {h : mm_H} {n0 c0 s0 : Nat} {g : JFrame} {rest : List Value} {ig : Instr}
    (C : mm_Cx G d M p e R s m args meth c n0 c0 s0) (X : Stand p G.1 e R s m args below meth c T locs cells slots) (I : mm_In G h s T.heap locs n0 c0 s0 cells slots)
    (hV : mm_V G d2 M2 Q2 0 (mm_ent M2.2.2.1 av) [] h) (hd2 : d2.1 + 1 ≤ d.1 ∧ 8 + (M2.2.2.1 + 11) + d2.2 ≤ d.2) (hy : plainName M2.1.cls = true) (hcw : mm_CW M2) (hini : Cond.initialized M2.1.cls ∈ mm_WS) (hcat : ∀ w ∈ av, w.category = 1) (hl : av.length ≤ M2.2.2.1)
    (hg : g.method = m) (hsize : g.locals.size = c.maxLocals) (hroom : g.monitorRoom = 0) (hrest : (rest.map fun v => v.category).sum ≤ 8) (hdg : decode c.code g.pc = .ok (ig, 3))
    (lk : mm_Lk G.1 p e R s m args below meth c T locs cells slots M2.1 g rest (av.map (mm_tr (mm_b G) (mm_sc G)))) : mm_Bk G p e R s m args below meth c n0 c0 s0 Q2 g rest (T.setTop g) := by
  obtain ⟨vm₁, mk, hW₁, X₁, hn, hlk⟩ := lk
  obtain ⟨-, -, -, -, -, -, -, -, hts, hXw, hN, hK, hpl, hb1, hb2, q1, q2, q3, q4⟩ := id C
  have hsz := fun z => mm_In.size I X z
  obtain ⟨U, hU⟩ : ∃ U, U = T.setVm vm₁ := ⟨_, rfl⟩
  rw [← hU] at X₁ hn hlk
  have hUh : U.heap = T.heap := by rw [hU]; rfl
  have hstat := mm_stat I.2.1 hpl
  have hWU : s.WarmedH U.vm := X₁.warmed
  obtain ⟨k1, k2, k3, k4⟩ := mm_carry (G := G) (U := U) (av.map (mm_tr (mm_b G) (mm_sc G))).toArray hWU (fun q cell a b => by rw [hUh]; exact hstat q cell a b) hts hXw hN hK
  obtain ⟨i1, i2, i3, i4, i5, i6, i7, i8, i9, i10, i11⟩ := id I
  obtain ⟨rm, hrm⟩ : ∃ rm : Room, rm = { frames := d2.1, locals := d2.2, cells := mm_BC G - mm_c h, slots := mm_BS G - mm_s h } := ⟨_, rfl⟩
  have hM := mm_met (rm := rm) hV hy hcw hcat hl (by rw [hrm]; exact Nat.le_refl _) (by rw [hrm]; exact Nat.le_refl _) (by rw [hrm]; show mm_BC G ≤ mm_BC G - mm_c h + mm_c h; omega) (by rw [hrm]; show mm_BS G ≤ mm_BS G - mm_s h + mm_s h; omega)
  obtain ⟨g1, hg1⟩ : ∃ g1 : JFrame, g1 = { g with stack := rest } := ⟨_, rfl⟩
  rw [← hg1] at hlk
  have g1m : g1.method = m := by rw [hg1]; exact hg
  have g1s : g1.locals.size = c.maxLocals := by rw [hg1]; exact hsize
  have g1k : g1.stack = rest := by rw [hg1]
  have g1r : g1.monitorRoom = 0 := by rw [hg1]; exact hroom
  have g1d : decode c.code g1.pc = .ok (ig, 3) := by rw [hg1]; exact hdg
  obtain ⟨m9, methY, cY, hn9, hmY, hcY, -, hlY, -⟩ := Cond.codeWith_spec (hcw.word k1)
  cases hn.symm.trans hn9
  obtain ⟨kY, hkY, -⟩ := className_of_methodNamed hn
  have hinitY : kY.init = .initialized := Cond.initialized_spec (findClass_of_methodNamed hn) hkY (k1 _ hini)
  have hAt : At U g1.method c below := by rw [g1m]; exact X₁.here
  obtain ⟨av', hav⟩ : ∃ a, a = (av.map (mm_tr (mm_b G) (mm_sc G))).toArray := ⟨_, rfl⟩
  rw [← hav] at hlk k1 k2
  have happ : (headSpec mm_WS rm).appliesLoose M2.1 e.platform (U.calling g1 mk av') = true := by
    refine Spec.appliesLoose_calling (g := g1) hAt g1d hn hkY hinitY (X₁.room_calling (g := g1) (R' := rm) g1s hmY hcY ?_ ?_ ?_ ?_) (atoms_intro k1)
    · rw [hrm]; show d2.1 + 1 ≤ R.frames; omega
    · rw [g1r, g1k, hlY, hrm]; show 2 * 0 + (rest.map fun v => v.category).sum + (M2.2.2.1 + 11) + d2.2 ≤ R.locals; omega
    · rw [hrm]; show cells + (mm_BC G - mm_c h) ≤ R.cells; omega
    · rw [hrm]; show slots + (mm_BS G - mm_s h) ≤ R.slots; omega
  obtain ⟨mid, hmid⟩ := hAt.above
  have hfr : (U.setTop g1).frames = (.java g1 :: mid) ++ below := by rw [State.frames_setTop' g1 hAt.top, hmid]; rfl
  have hpre : mm_Pre G av h av' (U.calling g1 mk av') := by
    refine ⟨hav, ?_, fun x hx => ?_, k3, k4, ?_, hb2, fun z => ?_, i8, i9, i10, by omega⟩
    · show va_P _ _ _ U.heap
      rw [hUh]; exact i1
    · exact (mm_carry (G := G) (s := U) (U := U.calling g1 mk av') av' (State.WarmedH.refl U) (fun q cell a b => a) k1 k2 k3 k4).2.1 x hx
    · show mm_b G < U.heap.size
      rw [hUh]
      exact Nat.lt_of_lt_of_le hb1 i2.1
    · show U.heap.size = _
      rw [hUh]; exact hsz z
  obtain ⟨o, s₂, hsteps, -, hend, hq⟩ := Steps.callFree hM p X₁.admits X₁.cas X₁.clock (acts := []) hfr happ hpre trivial
  have hq' : mm_Fin G Q2 (mm_n h) (mm_c h) (mm_s h) (U.calling g1 mk av') o s₂ := hq
  obtain ⟨r, h1, L, k, n, hW₂, hsame0, J, hout, hQ⟩ := hq'
  rw [State.frames_setTop' g1 hAt.top] at hend
  obtain ⟨e2, w2, w3, w4, w5, w6⟩ := hsame0
  have e3 : s₂ = ({ (U.calling g1 mk av').setFrames s₂.frames with heap := s₂.heap, slotsUsed := s₂.slotsUsed } : State).setVm s₂.vm := by
    have this : s₂ = ({ s₂ with vm := (U.calling g1 mk av').vm } : State).setVm s₂.vm := rfl
    rw [e2] at this
    exact this
  have hW' : U.WarmedH s₂.vm := hW₂
  obtain ⟨g₀, hg0⟩ := Option.isSome_iff_exists.mp hAt.top
  obtain ⟨fr, hfr0⟩ := State.topJava?_eq_some.mp hg0
  obtain ⟨B, hB⟩ : ∃ B : State, B = ({ U with heap := s₂.heap, slotsUsed := s₂.slotsUsed } : State).setVm s₂.vm := ⟨_, rfl⟩
  have hBf : B.frames = .java g₀ :: fr := by rw [hB]; exact hfr0
  have hBh : B.heap = s₂.heap := by rw [hB]; rfl
  have hsame : U.sameButNew ({ U with heap := s₂.heap, slotsUsed := s₂.slotsUsed } : State) L k n := by
    refine ⟨?_, w2, w3, w4, w5, w6⟩
    obtain ⟨t, ht, -⟩ := State.frames_cons hfr0
    show ({ U with heap := s₂.heap, slotsUsed := s₂.slotsUsed } : State) = { U.setFrames U.frames with heap := s₂.heap, slotsUsed := s₂.slotsUsed }
    rw [State.setFrames_self ht]
  have XB : Stand p G.1 e R s m args below meth c B (locs ++ L) (cells + k) (slots + n) := by
    rw [hB]
    exact ⟨X₁.admits, X₁.cas, X₁.clock, X₁.frames, X₁.room, X₁.hears, X₁.method, X₁.code, (X₁.here.setHeapUsed s₂.heap s₂.slotsUsed).setVm hW'.alike, X₁.tail, State.WarmedH.trans X₁.warmed hW', X₁.limits, X₁.bytes, X₁.same.trans (hsame.setVm s.vm)⟩
  have JB : mm_In G h1 s B.heap (locs ++ L) n0 c0 s0 (cells + k) (slots + n) := by
    rw [hBh]
    exact I.over (S := U.calling g1 mk av') (by show U.heap = _; exact hUh) J
  cases r with
  | inl v =>
    have ho : o = .returned (v.map (mm_tr (mm_b G) (mm_sc G))) := hout
    subst ho
    obtain ⟨c₂, i₂, len₂, hc₂, hd₂, hf₂⟩ := hend
    have hcc : c₂ = c := by
      have h1 : s₂.code? g1.method = U.code? g1.method := by rw [State.code?_eq, State.code?_eq, hW'.alike.method?]
      exact Option.some.inj (hc₂.symm.trans (h1.trans hAt.code))
    subst hcc
    have hlen : len₂ = 3 := by rw [g1d] at hd₂; cases hd₂; rfl
    subst hlen
    have hs₂ : s₂ = B.setTop { g1 with pc := g1.pc + 3, stack := (v.map (mm_tr (mm_b G) (mm_sc G))).toList ++ g1.stack } := by
      rw [State.setTop_of_frames _ hBf]
      refine e3.trans ?_
      rw [hf₂, State.calling_eq hAt.top, State.setFrames_setFrames, hfr0, hB]
      rfl
    refine Or.inl ⟨v, h1, B, _, _, _, XB, JB, hQ, hlk _ ?_⟩
    have e9 : ({ g with pc := g.pc + 3, stack := (v.map (mm_tr (mm_b G) (mm_sc G))).toList ++ rest } : JFrame) = { g1 with pc := g1.pc + 3, stack := (v.map (mm_tr (mm_b G) (mm_sc G))).toList ++ g1.stack } := by rw [hg1]
    rw [e9, ← hs₂]
    exact hsteps
  | inr x =>
    obtain ⟨a, ce, ho, ha0, hce, hcs, hcl⟩ := hout
    subst ho
    have hf₂ : s₂.frames = .throwing a :: .java g1 :: U.frames.tail := hend
    have hs₂ : s₂ = (B.setTop g1).pushFrame (.throwing a) := by
      rw [State.pushFrame, State.frames_setTop _ hBf, State.setTop_of_frames _ hBf, State.setFrames_setFrames]
      refine e3.trans ?_
      rw [hf₂, State.calling_eq hAt.top, State.setFrames_setFrames, hfr0, hB]
      rfl
    refine Or.inr ⟨x, a, ce, h1, B, _, _, _, XB, JB, hQ, ha0, by rw [hBh]; exact hce, hcs, ?_, hlk _ ?_⟩
    · have : U.vm.findClass (mm_xn x) = some ce.cls := hcl
      rw [← hWU.alike.findClass]
      exact this
    · rw [← hg1, ← hs₂]
      exact hsteps
end MC
