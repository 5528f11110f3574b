/-! THE SMALL MACHINE: an exception that a call throws and the method itself catches; the table's classes may be linked here for the first time -/
theorem mx_row {e : Env} {U : State} {f : JFrame} {a : Addr} {x : ExceptionTableEntry} {t : List ExceptionTableEntry} {c : ClassId} {cell : Cell} {Q : Handler → Pre} {E : CtlPost} {dd : Bool} {acts : List Action}
    (hx : covers x f.pc = true) (h0 : x.catchType ≠ 0) (hl : U.vm.ClassLinks e.platform f.method.cls x.catchType c) (hcell : U.heap[a]? = some cell) (hobj : ∀ k, cell.vm ≠ .statics k)
    (hk : ∃ k, U.vm.classes[cell.cls]? = some k) (hc : ∃ k, U.vm.classes[c]? = some k) :
    wp (findHandler.go f a (x :: t)) Q E e dd acts U ↔ if U.vm.assignable cell.cls c = true then Q (.found x.handlerPc) dd acts (U.setVm (U.vm.noted f.method.cls x.catchType (.cls c))) else wp (findHandler.go f a t) Q E e dd acts (U.setVm (U.vm.noted f.method.cls x.catchType (.cls c))) := by
  obtain ⟨g1, g2⟩ := (resolveClass_links e.toSetting hl).op (op := VmOp.resolveClass f.method.cls x.catchType) rfl
  have al : U.vm.Alike (U.vm.noted f.method.cls x.catchType (.cls c)) := (Vm.Alike.refl U.vm).noted _ _ _
  obtain ⟨k1, hk1⟩ := hk
  obtain ⟨k2, hk2⟩ := hc
  obtain ⟨k3, hk3, -⟩ := al.2.2 _ _ hk1
  obtain ⟨k4, hk4, -⟩ := al.2.2 _ _ hk2
  have ea : (U.vm.noted f.method.cls x.catchType (.cls c)).assignable cell.cls c = U.vm.assignable cell.cls c := al.assignable ..
  simp only [covers] at hx
  cases hb : U.vm.assignable cell.cls c <;> rw [hb] at ea <;> simp [findHandler.go, hx, h0, g1, g2, hcell, hobj, hk3, hk4, ea, VmOp.dirties, VmOp.acts]
/-- where the exception x, thrown at pc, is caught -/
def mm_HF (own : String) (pc x t : Nat) : List (Nat × Nat × Nat × Nat) → Prop
  | [] => False
  | (a, b, hp, ci) :: r => (a ≤ pc ∧ pc < b ∧ ci ≠ 0) ∧ ((Cond.classLink own ci (mm_xn x) ∈ mm_WS ∧ hp = t) ∨ (∃ y, Cond.classLink own ci (mm_xn y) ∈ mm_WS ∧ (mm_xn x, mm_xn y) ∈ mm_NC ∧ mm_HF own pc x t r))
theorem mx_go {e : Env} {s : State} {args : Array Value} {f : JFrame} {a : Addr} {ce : Cell} {own : String} {x t : Nat} (hpl : e.platform.magicAccessors = ({} : Platform).magicAccessors) (hown : s.vm.findClass own = some f.method.cls)
    (hts : ∀ w ∈ mm_WS, w.before args s = true) (hN : ∀ q ∈ mm_NC, va_Nc q.1 q.2 s) (hobj : ∀ k, ce.vm ≠ .statics k) (hce : s.vm.findClass (mm_xn x) = some ce.cls) :
    ∀ (l : List ExceptionTableEntry) (U : State), s.WarmedH U.vm → U.heap[a]? = some ce → mm_HF own f.pc x t (l.map fun z => (z.startPc, z.endPc, z.handlerPc, z.catchType)) →
      ∃ vm', s.WarmedH vm' ∧ ∀ (Q : Handler → Pre) (E : CtlPost) (dd : Bool) (acts : List Action), wp (findHandler.go f a l) Q E e dd acts U ↔ Q (.found t) dd acts (U.setVm vm') := by
  intro l
  induction l with
  | nil => intro U _ _ h; exact h.elim
  | cons z r ih =>
    intro U hW hcell h
    obtain ⟨⟨h1, h2, h3⟩, h4⟩ := h
    have hcov : covers z f.pc = true := by simp [covers, h1, h2]
    have step : ∀ {y : Nat}, Cond.classLink own z.catchType (mm_xn y) ∈ mm_WS → ∃ (c : ClassId), s.vm.findClass (mm_xn y) = some c ∧ s.WarmedH (U.vm.noted f.method.cls z.catchType (.cls c)) ∧ ∀ (Q : Handler → Pre) (E : CtlPost) (dd : Bool) (acts : List Action),
        (wp (findHandler.go f a (z :: r)) Q E e dd acts U ↔ if s.vm.assignable ce.cls c = true then Q (.found z.handlerPc) dd acts (U.setVm (U.vm.noted f.method.cls z.catchType (.cls c))) else wp (findHandler.go f a r) Q E e dd acts (U.setVm (U.vm.noted f.method.cls z.catchType (.cls c)))) := by
      intro y hy
      obtain ⟨c, hc, hcl⟩ := Cond.classLink_spec hown (hts _ hy) e.platform hpl
      obtain ⟨dk, _, _, kt, hd, _, _, _, _, hkt, _, hopen⟩ := hcl.here
      have al := hW.alike
      obtain ⟨k2, hk2, -⟩ := al.2.2 _ _ hkt
      have e1 : U.vm.findClass (mm_xn x) = some ce.cls := by rw [al.findClass]; exact hce
      refine ⟨c, hc, hW.noted hd hopen (State.rightAt_cls hcl), fun Q E dd acts => ?_⟩
      rw [mx_row hcov h3 (hW.classLinks hcl) hcell hobj (Vm.classAt_of_findClass e1) ⟨k2, hk2⟩, al.assignable]
    rcases h4 with ⟨w, rfl⟩ | ⟨y, w, hn, hr⟩
    · obtain ⟨c, hc, hW', hs⟩ := step w
      cases hce.symm.trans hc
      refine ⟨_, hW', fun Q E dd acts => (hs Q E dd acts).trans ?_⟩
      have er : s.vm.assignable ce.cls ce.cls = true := by
        show s.vm.assignableAux (255 + 1) _ _ = true
        rw [Vm.assignableAux, Bool.or_eq_true, beq_iff_eq]
        exact Or.inl rfl
      rw [if_pos er]
    · obtain ⟨c, hc, hW', hs⟩ := step w
      obtain ⟨vm', k1, k2⟩ := ih (U.setVm (U.vm.noted f.method.cls z.catchType (.cls c))) hW' hcell hr
      obtain ⟨c1, c2, e1, e2, e3⟩ := hN _ hn
      have e1 : s.vm.findClass (mm_xn x) = some c1 := e1
      have e2 : s.vm.findClass (mm_xn y) = some c2 := e2
      cases hce.symm.trans e1
      cases hc.symm.trans e2
      refine ⟨vm', k1, fun Q E dd acts => (hs Q E dd acts).trans ?_⟩
      rw [if_neg (by rw [e3]; decide)]
      exact k2 Q E dd acts
section MX
variable {p : Program} {l : Launch} {e : Env} {R : Room} {s : State} {m : MethodId} {args : Array Value} {below : List Frame} {meth : Method} {c : Code} {T : State} {locs : List Loc} {cells slots : Nat}
theorem mx_caught (X : Stand p l e R s m args below meth c T locs cells slots) {own : String} {x t : Nat} {g : JFrame} {a : Addr} {ce : Cell} (hg : g.method = m) (hown : s.vm.findClass own = some m.cls) (hts : ∀ w ∈ mm_WS, w.before args s = true) (hN : ∀ q ∈ mm_NC, va_Nc q.1 q.2 s)
    (hcell : T.heap[a]? = some ce) (hobj : ce.vm.isStatics = false) (hce : s.vm.findClass (mm_xn x) = some ce.cls) (hF : mm_HF own g.pc x t (c.exceptionTable.toList.map fun z => (z.startPc, z.endPc, z.handlerPc, z.catchType))) :
    ∃ vm', Stand p l e R s m args below meth c (T.setVm vm') locs cells slots ∧ ∀ target, Steps p.tables e below ((T.setVm vm').setTop { g with pc := t, stack := [.ref a] }) target → Steps p.tables e below ((T.setTop g).pushFrame (.throwing a)) target := by
  have hpl : e.platform.magicAccessors = ({} : Platform).magicAccessors := by rw [X.admits.platform]
  subst hg
  obtain ⟨S, hS⟩ : ∃ S, S = (T.setTop g).pushFrame (.throwing a) := ⟨_, rfl⟩
  have e1 : S.vm = T.vm := by rw [hS]; exact Stand.throwing_vm T g a
  have e2 : S.heap = T.heap := by rw [hS]; exact Stand.throwing_heap T g a
  obtain ⟨vm', hW, hgo⟩ := mx_go (e := e) (f := g) (a := a) hpl hown hts hN (VmData.ne_statics_of hobj) hce c.exceptionTable.toList S (by rw [e1]; exact X.warmed) (by rw [e2]; exact hcell) hF
  refine ⟨vm', X.noted hW, fun target hrest => ?_⟩
  obtain ⟨hgo2, hw⟩ := X.here.throwing a
  refine Steps.head hgo2 hw ?_
  have hm : S.vm.method? g.method = some meth := by rw [e1]; exact X.method'
  have hst : stepThrowing e S a (.java g :: T.frames.tail) |>.Is ((S.setVm vm').setFrames (.java { g with pc := t, stack := [.ref a] } :: T.frames.tail)) [] := by
    simp only [stepThrowing, searchFrame, vmDo]
    generalize hr : Sem.go _ e false [] S = res
    obtain ⟨as, rfl, ha⟩ := Sem.eq_ok_of hr (a := Handler.found t) (s' := S.setVm vm') (acts' := []) (by simp [W.findHandler_eq hm X.code, hgo _ _ _ _])
    exact ⟨rfl, ha⟩
  rw [stepThread_throwing (frames_entered X.here.top _), ← hS, hst.1]
  obtain ⟨g0, hg0⟩ := Option.isSome_iff_exists.mp X.here.top
  obtain ⟨r, hr⟩ := State.topJava?_eq_some.mp hg0
  have hr' : (T.setVm vm').frames = .java g0 :: r := hr
  have e5 : (S.setVm vm').setFrames (.java { g with pc := t, stack := [.ref a] } :: T.frames.tail) = (T.setVm vm').setTop { g with pc := t, stack := [.ref a] } := by
    rw [State.setTop_of_frames _ hr', hr, List.tail_cons, hS, State.pushFrame, State.setTop_of_frames _ hr]
    show (((T.setVm vm').setFrames _).setFrames _).setFrames _ = _
    rw [State.setFrames_setFrames, State.setFrames_setFrames]
  rw [e5]
  exact hrest
end MX
/-- what comes behind a call whose exceptions the method catches -/
def mm_KC (G : mm_G) (d : Nat × Nat) (M : mm_M) (Q : mm_O → mm_H → Prop) (pc : Nat) (ls : List (Option Value)) (st : List Value) : mm_O → mm_H → Prop := fun r h => match r with
  | .inl none => mm_V G d M Q (pc + 3) ls st h
  | .inl (some v) => mm_V G d M Q (pc + 3) ls (v :: st) h
  | .inr x => ∃ t, mm_HF M.1.cls pc x t M.2.2.2.2 ∧ ∀ a, mm_V G d M Q t ls [.ref a] h
section MKC
variable {G : mm_G} {d : Nat × Nat} {M : mm_M} {Q : mm_O → mm_H → Prop} {pc : Nat} {ls : List (Option Value)} {st : List Value} {h : mm_H}
theorem mm_afterC {p : Program} {e : Env} {R : Room} {s : State} {m : MethodId} {args : Array Value} {below : List Frame} {meth : Method} {c : Code} {n0 c0 s0 : Nat} {lr : Array Slot} {st0 : List Value} {U : State} (C : mm_Cx G d M p e R s m args meth c n0 c0 s0) (L : mm_L (mm_b G) (mm_sc G) M.2.2.1 ls lr)
    (h : mm_Bk G p e R s m args below meth c n0 c0 s0 (mm_KC G d M Q pc ls st) (F0 m pc lr st0) (st.map (mm_tr (mm_b G) (mm_sc G))) U) : ∃ t, Steps p.tables e below U t ∧ mm_End G Q n0 c0 s0 below s t := by
  rcases h with ⟨v, h1, T1, locs1, cells1, slots1, X1, I1, hq, hs⟩ | ⟨x, a, ce, h1, T1, locs1, cells1, slots1, X1, I1, hq, ha, hce, hcs, hcl, hs⟩
  · have hq : mm_V G d M Q (pc + 3) ls (v.toList ++ st) h1 := by cases v <;> exact hq
    obtain ⟨t, t1, t2⟩ := hq p e R s m args below meth c n0 c0 s0 T1.heap locs1 cells1 slots1 lr C I1 L T1 rfl X1
    refine ⟨t, hs.trans ?_, t2⟩
    have e1 : (v.map (mm_tr (mm_b G) (mm_sc G))).toList ++ st.map (mm_tr (mm_b G) (mm_sc G)) = (v.toList ++ st).map (mm_tr (mm_b G) (mm_sc G)) := by cases v <;> simp
    rw [e1]
    exact t1
  · obtain ⟨t0, hF, hq⟩ : ∃ t, mm_HF M.1.cls pc x t M.2.2.2.2 ∧ ∀ a, mm_V G d M Q t ls [.ref a] h1 := hq
    obtain ⟨-, -, -, -, hown, -, -, htab, hts, -, hN, -⟩ := id C
    obtain ⟨vm', X2, hst⟩ := mx_caught X1 (x := x) (t := t0) (g := { F0 m pc lr st0 with stack := st.map (mm_tr (mm_b G) (mm_sc G)) }) (a := a) (ce := ce) rfl hown hts hN hce hcs hcl (by rw [htab]; exact hF)
    obtain ⟨t, t1, t2⟩ := hq (a - mm_b G) p e R s m args below meth c n0 c0 s0 T1.heap locs1 cells1 slots1 lr C I1 L (T1.setVm vm') rfl X2
    refine ⟨t, hs.trans (hst _ ?_), t2⟩
    have e1 : [Value.ref (a - mm_b G)].map (mm_tr (mm_b G) (mm_sc G)) = [.ref a] := by
      have z : 0 < a - mm_b G := Nat.sub_pos_of_lt ha
      have z2 : mm_b G + (a - mm_b G) = a := Nat.add_sub_of_le (Nat.le_of_lt ha)
      show [Value.ref (mm_ad (mm_b G) (mm_sc G) (a - mm_b G))] = _
      rw [mm_ad_pos z, z2]
    rw [e1] at t1
    exact t1
theorem mv_callC {index n ci N a : Nat} {d2 : Nat × Nat} {M2 : mm_M} {av : List Value} (hd : decode M.2.1 pc = .ok (.invokevirtual index, 3)) (hO : mm_OK M2 n) (hI : mm_LI M.1.cls index M2.1) (hS : Cond.instanceMethod M2.1 ∈ mm_WS ∧ Cond.selects M2.1.cls M2.1 M2.1 ∈ mm_WS) (ha : mm_at h a ci N) (hci : ci < 100 ∧ vwCl[ci]?.map (·.1) = some M2.1.cls) (hn : av.length = n ∧ n + 1 ≤ M2.2.2.1) (hcat : ∀ w ∈ av, w.category = 1) (hst : (st.map fun v => v.category).sum ≤ 8) (hd2 : d2.1 + 1 ≤ d.1 ∧ 8 + (M2.2.2.1 + 11) + d2.2 ≤ d.2)
    (hV : mm_V G d2 M2 (mm_KC G d M Q pc ls st) 0 (mm_ent M2.2.2.1 (.ref a :: av)) [] h) : mm_V G d M Q pc ls (av.reverse ++ .ref a :: st) h := by
  intro p e R s m args below meth c n0 c0 s0 H locs cells slots lr C I L T hT X
  subst hT
  obtain ⟨hsh, h0, h1⟩ := ha
  obtain ⟨o1, o2, o3, o5, o6⟩ := hO
  obtain ⟨hx, hb, hml, -, hown, -, -, -, hts, -, -, hK, -⟩ := id C
  have hdg : decode c.code pc = .ok (.invokevirtual index, 3) := by rw [hb]; exact hd
  have hcat' : ∀ w ∈ Value.ref a :: av, w.category = 1 := fun w hw => by
    rcases List.mem_cons.mp hw with rfl | hw
    · rfl
    · exact hcat w hw
  have he := mm_ws_at (b := mm_b G) (sc := mm_sc G) (cA := mm_cA G) h0 h1
  rw [mm_cell_o hsh hci.1] at he
  obtain ⟨r, hr, cell, g1, g2, g3, -⟩ := I.1 _ _ he
  have hrc : r.1 = M2.1.cls := by have := hci.2; rw [hr] at this; exact Option.some.inj this
  have hK1 := (hK.1 ci r hr).2.1
  refine mm_afterC C L (mm_invoke (g := F0 m pc lr ((av.reverse ++ .ref a :: st).map (mm_tr (mm_b G) (mm_sc G)))) (rest := st.map (mm_tr (mm_b G) (mm_sc G))) C X I hV hd2 o1 o2 o3 hcat' (by simp; omega) rfl (by rw [hml]; exact L.2.1) rfl (by rw [mm_cat_map]; exact hst) hdg ?_)
  have e1 : (Value.ref a :: av).map (mm_tr (mm_b G) (mm_sc G)) = .ref (mm_b G + a) :: av.map (mm_tr (mm_b G) (mm_sc G)) := by simp [mm_tr, mm_ad_pos h0]
  rw [e1]
  exact mm_lkV X hx hown (hI.word hts) (hts _ hS.1) (hts _ hS.2) (o2.word hts) o5 (cellB := cell) g1 (by rw [g3]; rfl) (by rw [g2, ← hrc]; exact hK1) rfl (by rw [List.length_map, hn.1]; exact o6) (by simp [mm_tr, mm_ad_pos h0]) hdg
end MKC
