/-! THE SMALL MACHINE: the rows of calls, and of a throw -/
section ML
variable {l : Launch} {p : Program} {e : Env} {R : Room} {s : State} {m : MethodId} {args : Array Value} {below : List Frame} {meth : Method} {c : Code} {T : State} {locs : List Loc} {cells slots : Nat}
theorem mm_lkV (X : Stand p l e R s m args below meth c T locs cells slots) (hexec : p.tables.exec = Jvm.exec) {own C : String} {index : Nat} {y : MethodName} {cc : ByteArray} {maxL : Nat} {ret : Option FieldType} {hh : List (Nat × Nat × Nat × Nat)}
    (hown : s.vm.findClass own = some m.cls) (hlink : (Cond.methodLink own index y).before args s = true ∨ ∃ host, (Cond.methodLinkNest own index y host).before args s = true) (hinst : (Cond.instanceMethod y).before args s = true) (hsel : (Cond.selects C y y).before args s = true)
    (hcode : (Cond.codeWith y cc maxL ret hh).before args s = true) (hy : y.cls ≠ "java/lang/invoke/MethodHandle" ∧ y.cls ≠ "java/lang/invoke/VarHandle")
    {b : Addr} {cellB : Cell} (hcell : T.heap[b]? = some cellB) (hobj : cellB.vm.isStatics = false) (hcls : s.vm.findClass C = some cellB.cls) {g : JFrame} (hg : g.method = m) {argsL rest : List Value}
    (hlen : (parseMethodDescriptor y.desc).map (fun d => d.parameters.length) = some argsL.length) (hstack : g.stack = argsL.reverse ++ .ref b :: rest) (hdg : decode c.code g.pc = .ok (.invokevirtual index, 3)) :
    mm_Lk l p e R s m args below meth c T locs cells slots y g rest (.ref b :: argsL) := by
  obtain ⟨mk, methM, hnamed, hmethM, hstM, habM⟩ := Cond.instanceMethod_spec hinst
  obtain ⟨m9, meth9, c9, hn9, hm9, -, -, -, -, -, -, hsig⟩ := Cond.codeWith_spec hcode
  cases hnamed.symm.trans hn9
  cases hmethM.symm.trans hm9
  obtain ⟨c2, r2, m2, q1, q2, q3, q4, kP, hkP, hkPi⟩ := Cond.selects_spec hsel
  cases hcls.symm.trans q1
  cases (State.methodFound?_of_named hnamed hy).symm.trans q2
  cases hnamed.symm.trans q3
  have hselP : selectMethod e.platform s.vm cellB.cls mk = .method mk := by rw [Launch.admits_selectMethod X.admits]; exact q4
  have hln : argsL.length = methM.sig.parameters.length := by rw [hsig] at hlen; exact (Option.some.inj hlen).symm
  rcases hlink with hlink | ⟨host, hlink⟩
  · obtain ⟨vm₁, X₁, hstep⟩ := X.invokevirtual hexec hown hlink hnamed hmethM hstM hkP hkPi hy (a := b) (cell := cellB) hcell (fun z h => by rw [h] at hobj; cases hobj) hselP hmethM habM hkP hkPi (g := g) hg (argsL := argsL) (rest := rest) hln hstack hdg
    exact ⟨vm₁, mk, X₁.warmed, X₁, X₁.named hnamed, fun target h => hstep _ fun acts => by rw [doInvoke_state]; exact h⟩
  · obtain ⟨vm₁, X₁, hstep⟩ := X.invokevirtualNest hexec hown hlink hnamed hmethM hstM hkP hkPi hy (a := b) (cell := cellB) hcell (fun z h => by rw [h] at hobj; cases hobj) hselP hmethM habM hkP hkPi (g := g) hg (argsL := argsL) (rest := rest) hln hstack hdg
    exact ⟨vm₁, mk, X₁.warmed, X₁, X₁.named hnamed, fun target h => hstep _ fun acts => by rw [doInvoke_state]; exact h⟩
theorem mm_lkS (X : Stand p l e R s m args below meth c T locs cells slots) (hexec : p.tables.exec = Jvm.exec) {own : String} {index : Nat} {y : MethodName} {cc : ByteArray} {maxL : Nat} {ret : Option FieldType} {hh : List (Nat × Nat × Nat × Nat)}
    (hown : s.vm.findClass own = some m.cls) (hlink : (Cond.methodLink own index y).before args s = true ∨ ∃ host, (Cond.methodLinkNest own index y host).before args s = true) (hstat : (Cond.static y).before args s = true) (hinit : (Cond.initialized y.cls).before args s = true)
    (hcode : (Cond.codeWith y cc maxL ret hh).before args s = true) (hy : y.cls ≠ "java/lang/invoke/MethodHandle" ∧ y.cls ≠ "java/lang/invoke/VarHandle")
    {g : JFrame} (hg : g.method = m) {argsL rest : List Value}
    (hlen : (parseMethodDescriptor y.desc).map (fun d => d.parameters.length) = some argsL.length) (hstack : g.stack = argsL.reverse ++ rest) (hdg : decode c.code g.pc = .ok (.invokestatic index, 3)) :
    mm_Lk l p e R s m args below meth c T locs cells slots y g rest argsL := by
  obtain ⟨mk, methM, cM, hnamed, hmethM, -, -, -, -, -, -, hsig⟩ := Cond.codeWith_spec hcode
  have hstatic : methM.isStatic = true := Cond.static_spec hnamed hmethM hstat
  obtain ⟨kP, hkP, -⟩ := className_of_methodNamed hnamed
  have hinitP : kP.init = .initialized := Cond.initialized_spec (findClass_of_methodNamed hnamed) hkP hinit
  have hln : argsL.length = methM.sig.parameters.length := by rw [hsig] at hlen; exact (Option.some.inj hlen).symm
  rcases hlink with hlink | ⟨host, hlink⟩
  · obtain ⟨vm₁, X₁, hstep⟩ := X.invokestatic hexec hown hlink hnamed hmethM hstatic hkP hinitP hy (g := g) hg (argsL := argsL) (rest := rest) hln hstack hdg
    exact ⟨vm₁, mk, X₁.warmed, X₁, X₁.named hnamed, fun target h => hstep _ fun acts => by rw [doInvoke_state]; exact h⟩
  · obtain ⟨vm₁, X₁, hstep⟩ := X.invokestaticNest hexec hown hlink hnamed hmethM hstatic hkP hinitP hy (g := g) hg (argsL := argsL) (rest := rest) hln hstack hdg
    exact ⟨vm₁, mk, X₁.warmed, X₁, X₁.named hnamed, fun target h => hstep _ fun acts => by rw [doInvoke_state]; exact h⟩
theorem mm_lkI (X : Stand p l e R s m args below meth c T locs cells slots) (hexec : p.tables.exec = Jvm.exec) {own : String} {index : Nat} {y : MethodName} {cc : ByteArray} {maxL : Nat}
    (hown : s.vm.findClass own = some m.cls) (hy1 : y.name = "<init>") (hlink : (Cond.methodLink own index y).before args s = true ∨ ∃ host, (Cond.methodLinkNest own index y host).before args s = true) (hinst : (Cond.instanceMethod y).before args s = true)
    (hcode : (Cond.code y cc maxL none).before args s = true) (hy : y.cls ≠ "java/lang/invoke/MethodHandle" ∧ y.cls ≠ "java/lang/invoke/VarHandle")
    {g : JFrame} (hg : g.method = m) {a : Addr} {argsL rest : List Value}
    (hlen : (parseMethodDescriptor y.desc).map (fun d => d.parameters.length) = some argsL.length) (hstack : g.stack = argsL.reverse ++ .ref a :: rest) (hdg : decode c.code g.pc = .ok (.invokespecial index, 3)) :
    mm_Lk l p e R s m args below meth c T locs cells slots y g rest (.ref a :: argsL) := by
  subst hg
  have hpl : e.platform.magicAccessors = ({} : Platform).magicAccessors := by rw [X.admits.platform]
  have hl2 : ∀ sig, parseMethodDescriptor y.desc = some sig → argsL.length = sig.parameters.length := fun sig h => by rw [h] at hlen; exact (Option.some.inj hlen).symm
  rcases hlink with hlink | ⟨host, hlink⟩
  · obtain ⟨mk, methM, cM, kP, vm₁, hnamed, hmethM, hcodeM, -, hlocalsM, -, hkP, -, hW₁, hstep⟩ := Steps.initColdArgs (e := e) X.here hexec X.warmed hpl hown hy1 hy hlink hinst hcode (f := g) rfl hl2 hstack hdg
    have X₁ := X.noted hW₁
    exact ⟨vm₁, mk, X₁.warmed, X₁, X₁.named hnamed, fun target h => hstep _ fun acts => by rw [doInvoke_state]; exact h⟩
  · obtain ⟨mk, methM, cM, kP, vm₁, hnamed, hmethM, hcodeM, -, hlocalsM, -, hkP, -, hW₁, hstep⟩ := Steps.initColdArgsNest (e := e) X.here hexec X.warmed hpl hown hy1 hy hlink hinst hcode (f := g) rfl hl2 hstack hdg
    have X₁ := X.noted hW₁
    exact ⟨vm₁, mk, X₁.warmed, X₁, X₁.named hnamed, fun target h => hstep _ fun acts => by rw [doInvoke_state]; exact h⟩
/-- the walk, begun anew where it stands -/
theorem mm_anew (X : Stand p l e R s m args below meth c T locs cells slots) {R' : Room} (hf : R'.frames ≤ R.frames) (hl : R'.locals ≤ R.locals) (hc : cells + R'.cells ≤ R.cells) (hs : slots + R'.slots ≤ R.slots) :
    Stand p l e R' ((T.setVm s.vm).setFrames (.invoking m args :: below)) m args below meth c T [] 0 0 := by
  obtain ⟨g₀, hfr⟩ := X.frames_eq
  have hfr' : (T.setVm s.vm).frames = .java g₀ :: below := hfr
  have hcur : (T.setVm s.vm).cur < (T.setVm s.vm).threads.size := State.cur_lt_of_frames hfr'
  have hF : ((T.setVm s.vm).setFrames (.invoking m args :: below)).frames = .invoking m args :: below := State.frames_setFrames _ hcur
  have q1 := X.heapSize
  have q2 := X.used
  have l1 : e.platform.stackLimits ((T.setVm s.vm).setFrames (.invoking m args :: below)).me = e.platform.stackLimits s.me := by
    rw [State.stackLimits_setFrames]; exact X.limits
  have l2 : ((T.setVm s.vm).setFrames (.invoking m args :: below)).me.stackBytes = s.me.stackBytes := by
    rw [State.stackBytes_setFrames]; exact X.bytes
  have l3 : ((T.setVm s.vm).setFrames (.invoking m args :: below)).localsInUse = s.localsInUse := by
    rw [State.localsInUse_invoking X.frames X.method X.code]
    exact State.localsInUse_invoking hF X.method X.code
  refine ⟨X.admits, X.cas, X.clock, hF, ?_, X.hears, X.method, X.code, X.here, X.tail, X.warmed, X.limits.trans l1.symm, X.bytes.trans l2.symm, ?_⟩
  · have r := X.room
    have hbk := X.book
    simp only [State.hasRoom, Bool.and_eq_true, decide_eq_true_eq] at r ⊢
    rw [l1, l2, l3, hF]
    rw [X.frames] at r
    obtain ⟨⟨⟨⟨a1, a2, a3, a4, a5, a6⟩, a7⟩, a8⟩, a9⟩ := r
    refine ⟨⟨⟨⟨by omega, by omega, by omega, by omega, by omega, a6⟩, ?_⟩, ?_⟩, hbk⟩
    · show T.heap.size + R'.cells ≤ _
      omega
    · show T.slotsUsed + R'.slots ≤ _
      omega
  · obtain ⟨t, ht, -⟩ := State.frames_cons hfr'
    have e0 : T.heap.toList.drop T.heap.size = [] := List.drop_eq_nil_of_le (by simp)
    refine ⟨?_, Nat.le_refl _, Nat.le_refl _, ?_, ?_, fun a c9 h9 => ⟨c9, h9, rfl, rfl, fun _ _ => rfl⟩⟩
    · show T.setVm s.vm = { ((T.setVm s.vm).setFrames (.invoking m args :: below)).setFrames (T.setVm s.vm).frames with heap := T.heap, slotsUsed := T.slotsUsed }
      rw [State.setFrames_setFrames, State.setFrames_self ht]
      rfl
    · show T.slotsUsed = T.slotsUsed + ((T.heap.toList.drop T.heap.size).map (·.slots.size)).sum
      rw [e0]; rfl
    · show ((T.heap.toList.drop T.heap.size).map (·.slots.size)).sum ≤ 0
      rw [e0]; exact Nat.le_refl _
end ML
/-- what a call asks of the callee's name and bytes -/
def mm_OK (M : mm_M) (n : Nat) : Prop := plainName M.1.cls = true ∧ mm_CW M ∧ Cond.initialized M.1.cls ∈ mm_WS ∧ (M.1.cls ≠ "java/lang/invoke/MethodHandle" ∧ M.1.cls ≠ "java/lang/invoke/VarHandle") ∧ (parseMethodDescriptor M.1.desc).map (fun d => d.parameters.length) = some n
def mm_LI (own : String) (index : Nat) (y : MethodName) : Prop := Cond.methodLink own index y ∈ mm_WS ∨ ∃ host, Cond.methodLinkNest own index y host ∈ mm_WS
/-- what comes behind a call -/
def mm_K (G : mm_G) (d : Nat × Nat) (M : mm_M) (Q : mm_O → mm_H → Prop) (pc : Nat) (ls : List (Option Value)) (st : List Value) : mm_O → mm_H → Prop := fun r h => match r with
  | .inl none => mm_V G d M Q pc ls st h
  | .inl (some v) => mm_V G d M Q pc ls (v :: st) h
  | .inr x => Q (.inr x) h
theorem mm_LI.word {own : String} {index : Nat} {y : MethodName} (h : mm_LI own index y) {args : Array Value} {s : State} (hts : ∀ w ∈ mm_WS, w.before args s = true) : (Cond.methodLink own index y).before args s = true ∨ ∃ host, (Cond.methodLinkNest own index y host).before args s = true := by
  rcases h with h | ⟨host, h⟩
  · exact Or.inl (hts _ h)
  · exact Or.inr ⟨host, hts _ h⟩
section MK
variable {G : mm_G} {d : Nat × Nat} {M : mm_M} {Q : mm_O → mm_H → Prop} {pc : Nat} {ls : List (Option Value)} {st : List Value} {h : mm_H}
theorem mm_cat_map (b sc : Nat) (st : List Value) : ((st.map (mm_tr b sc)).map fun v => v.category).sum = (st.map fun v => v.category).sum := by
  rw [List.map_map, show (fun v : Value => v.category) ∘ mm_tr b sc = fun v => v.category from funext fun v => mm_tr_cat _ _ v]
theorem mm_after {p : Program} {e : Env} {R : Room} {s : State} {m : MethodId} {args : Array Value} {below : List Frame} {meth : Method} {c : Code} {n0 c0 s0 : Nat} {lr : Array Slot} {st0 : List Value} {U : State} (C : mm_Cx G d M p e R s m args meth c n0 c0 s0) (L : mm_L (mm_b G) (mm_sc G) M.2.2.1 ls lr) (hh : M.2.2.2.2 = [])
    (h : mm_Bk G p e R s m args below meth c n0 c0 s0 (mm_K G d M Q (pc + 3) ls st) (F0 m pc lr st0) (st.map (mm_tr (mm_b G) (mm_sc G))) U) : ∃ t, Steps p.tables e below U t ∧ mm_End G Q n0 c0 s0 below s t := by
  rcases h with ⟨v, h1, T1, locs1, cells1, slots1, X1, I1, hq, hs⟩ | ⟨x, a, ce, h1, T1, locs1, cells1, slots1, X1, I1, hq, ha, hce, hcs, hcl, hs⟩
  · have hq : mm_V G d M Q (pc + 3) ls (v.toList ++ st) h1 := by cases v <;> exact hq
    obtain ⟨t, t1, t2⟩ := hq p e R s m args below meth c n0 c0 s0 T1.heap locs1 cells1 slots1 lr C I1 L T1 rfl X1
    refine ⟨t, hs.trans ?_, t2⟩
    have e1 : (v.map (mm_tr (mm_b G) (mm_sc G))).toList ++ st.map (mm_tr (mm_b G) (mm_sc G)) = (v.toList ++ st).map (mm_tr (mm_b G) (mm_sc G)) := by cases v <;> simp
    rw [e1]
    exact t1
  · have hq : Q (.inr x) h1 := hq
    have hlk := C.2.2.2.2.2.1
    have htab : c.exceptionTable.toList = [] := by
      have := C.2.2.2.2.2.2.2.1
      rw [hh] at this
      exact List.map_eq_nil_iff.mp this
    obtain ⟨s1, s2, s3, s4, s5⟩ := X1.leaveThrown a (g := { F0 m pc lr st0 with stack := st.map (mm_tr (mm_b G) (mm_sc G)) }) rfl rfl rfl (fun z hz => by rw [htab] at hz; cases hz) hlk
    exact ⟨_, hs.trans s1, .threw a, s2, s3, .inr x, h1, locs1, cells1, slots1, s4, s5, I1, ⟨a, ce, rfl, ha, hce, hcs, hcl⟩, hq⟩
theorem mv_callS {index n : Nat} {d2 : Nat × Nat} {M2 : mm_M} {av : List Value} (hd : decode M.2.1 pc = .ok (.invokestatic index, 3)) (hO : mm_OK M2 n) (hI : mm_LI M.1.cls index M2.1) (hS : Cond.static M2.1 ∈ mm_WS) (hn : av.length = n ∧ n ≤ M2.2.2.1) (hcat : ∀ w ∈ av, w.category = 1) (hst : (st.map fun v => v.category).sum ≤ 8) (hh : M.2.2.2.2 = []) (hd2 : d2.1 + 1 ≤ d.1 ∧ 8 + (M2.2.2.1 + 11) + d2.2 ≤ d.2)
    (hV : mm_V G d2 M2 (mm_K G d M Q (pc + 3) ls st) 0 (mm_ent M2.2.2.1 av) [] h) : mm_V G d M Q pc ls (av.reverse ++ st) h := by
  intro p e R s m args below meth c n0 c0 s0 H locs cells slots lr C I L T hT X
  subst hT
  obtain ⟨o1, o2, o3, o5, o6⟩ := hO
  obtain ⟨hx, hb, hml, -, hown, -, -, -, hts, -⟩ := id C
  have hdg : decode c.code pc = .ok (.invokestatic index, 3) := by rw [hb]; exact hd
  refine mm_after C L hh (mm_invoke (g := F0 m pc lr ((av.reverse ++ st).map (mm_tr (mm_b G) (mm_sc G)))) (rest := st.map (mm_tr (mm_b G) (mm_sc G))) C X I hV hd2 o1 o2 o3 hcat (by omega) rfl (by rw [hml]; exact L.2.1) rfl (by rw [mm_cat_map]; exact hst) hdg ?_)
  exact mm_lkS X hx hown (hI.word hts) (hts _ hS) (hts _ o3) (o2.word hts) o5 rfl (by rw [List.length_map, hn.1]; exact o6) (by simp) hdg
theorem mv_callV {index n ci N a : Nat} {d2 : Nat × Nat} {M2 : mm_M} {av : List Value} (hd : decode M.2.1 pc = .ok (.invokevirtual index, 3)) (hO : mm_OK M2 n) (hI : mm_LI M.1.cls index M2.1) (hS : Cond.instanceMethod M2.1 ∈ mm_WS ∧ Cond.selects M2.1.cls M2.1 M2.1 ∈ mm_WS) (hsh : mm_sh a = (ci, N)) (hci : ci < 100 ∧ vwCl[ci]?.map (·.1) = some M2.1.cls) (h0 : 0 < a) (h1 : a < mm_n h) (hn : av.length = n ∧ n + 1 ≤ M2.2.2.1) (hcat : ∀ w ∈ av, w.category = 1) (hst : (st.map fun v => v.category).sum ≤ 8) (hh : M.2.2.2.2 = []) (hd2 : d2.1 + 1 ≤ d.1 ∧ 8 + (M2.2.2.1 + 11) + d2.2 ≤ d.2)
    (hV : mm_V G d2 M2 (mm_K G d M Q (pc + 3) ls st) 0 (mm_ent M2.2.2.1 (.ref a :: av)) [] h) : mm_V G d M Q pc ls (av.reverse ++ .ref a :: st) h := by
  intro p e R s m args below meth c n0 c0 s0 H locs cells slots lr C I L T hT X
  subst hT
  obtain ⟨o1, o2, o3, o5, o6⟩ := hO
  obtain ⟨hx, hb, hml, -, hown, -, -, -, hts, -, -, hK, -⟩ := id C
  have hdg : decode c.code pc = .ok (.invokevirtual index, 3) := by rw [hb]; exact hd
  have hcat' : ∀ w ∈ Value.ref a :: av, w.category = 1 := fun w hw => by
    rcases List.mem_cons.mp hw with rfl | hw
    · rfl
    · exact hcat w hw
  have he := mm_ws_at (b := mm_b G) (sc := mm_sc G) (cA := mm_cA G) h0 h1
  rw [mm_cell_o hsh hci.1] at he
  obtain ⟨r, hr, cell, g1, g2, g3, -⟩ := I.1 _ _ he
  have hrc : r.1 = M2.1.cls := by have := hci.2; rw [hr] at this; exact Option.some.inj this
  have hK1 := (hK.1 ci r hr).2.1
  refine mm_after C L hh (mm_invoke (g := F0 m pc lr ((av.reverse ++ .ref a :: st).map (mm_tr (mm_b G) (mm_sc G)))) (rest := st.map (mm_tr (mm_b G) (mm_sc G))) C X I hV hd2 o1 o2 o3 hcat' (by simp; omega) rfl (by rw [hml]; exact L.2.1) rfl (by rw [mm_cat_map]; exact hst) hdg ?_)
  have e1 : (Value.ref a :: av).map (mm_tr (mm_b G) (mm_sc G)) = .ref (mm_b G + a) :: av.map (mm_tr (mm_b G) (mm_sc G)) := by simp [mm_tr, mm_ad_pos h0]
  rw [e1]
  exact mm_lkV X hx hown (hI.word hts) (hts _ hS.1) (hts _ hS.2) (o2.word hts) o5 (cellB := cell) g1 (by rw [g3]; rfl) (by rw [g2, ← hrc]; exact hK1) rfl (by rw [List.length_map, hn.1]; exact o6) (by simp [mm_tr, mm_ad_pos h0]) hdg
theorem mv_callI {index n a : Nat} {d2 : Nat × Nat} {M2 : mm_M} {av : List Value} (hd : decode M.2.1 pc = .ok (.invokespecial index, 3)) (hO : mm_OK M2 n) (hI : mm_LI M.1.cls index M2.1) (hi : M2.1.name = "<init>" ∧ M2.2.2.2.1 = none) (hS : Cond.instanceMethod M2.1 ∈ mm_WS) (hw : Cond.code M2.1 M2.2.1 M2.2.2.1 M2.2.2.2.1 ∈ mm_WS) (h0 : 0 < a) (hn : av.length = n ∧ n + 1 ≤ M2.2.2.1) (hcat : ∀ w ∈ av, w.category = 1) (hst : (st.map fun v => v.category).sum ≤ 8) (hh : M.2.2.2.2 = []) (hd2 : d2.1 + 1 ≤ d.1 ∧ 8 + (M2.2.2.1 + 11) + d2.2 ≤ d.2)
    (hV : mm_V G d2 M2 (mm_K G d M Q (pc + 3) ls st) 0 (mm_ent M2.2.2.1 (.ref a :: av)) [] h) : mm_V G d M Q pc ls (av.reverse ++ .ref a :: st) h := by
  intro p e R s m args below meth c n0 c0 s0 H locs cells slots lr C I L T hT X
  subst hT
  obtain ⟨o1, o2, o3, o5, o6⟩ := hO
  obtain ⟨hx, hb, hml, -, hown, -, -, -, hts, -, -, hK, -⟩ := id C
  have hdg : decode c.code pc = .ok (.invokespecial index, 3) := by rw [hb]; exact hd
  have hcat' : ∀ w ∈ Value.ref a :: av, w.category = 1 := fun w hw => by
    rcases List.mem_cons.mp hw with rfl | hw
    · rfl
    · exact hcat w hw
  refine mm_after C L hh (mm_invoke (g := F0 m pc lr ((av.reverse ++ .ref a :: st).map (mm_tr (mm_b G) (mm_sc G)))) (rest := st.map (mm_tr (mm_b G) (mm_sc G))) C X I hV hd2 o1 o2 o3 hcat' (by simp; omega) rfl (by rw [hml]; exact L.2.1) rfl (by rw [mm_cat_map]; exact hst) hdg ?_)
  have e1 : (Value.ref a :: av).map (mm_tr (mm_b G) (mm_sc G)) = .ref (mm_b G + a) :: av.map (mm_tr (mm_b G) (mm_sc G)) := by simp [mm_tr, mm_ad_pos h0]
  rw [e1]
  have hw' := hts _ hw
  rw [hi.2] at hw'
  exact mm_lkI X hx hown hi.1 (hI.word hts) (hts _ hS) hw' o5 rfl (by rw [List.length_map, hn.1]; exact o6) (by simp [mm_tr, mm_ad_pos h0]) hdg
/-- 'throw new X()' -/
def mm_XL (own : String) (index ic x : Nat) (names : List String) : Prop := Cond.classLink own index (mm_xn x) ∈ mm_WS ∧ Cond.initialized (mm_xn x) ∈ mm_WS ∧ Bundle.fit (mm_xn x) = true ∧ (∀ n ∈ names, Bundle.fit n = true) ∧ names.length ≤ 2 ∧ ∀ w ∈ Bundle.ownAtoms0 own ic (mm_xn x) names, w ∈ mm_WS ∨ ∃ z ∈ mm_XS, w = Cond.isRef (.static z.1 z.2.1 z.2.2)
theorem mv_throw {index ic x : Nat} {names : List String} (hG : G.1.stackTraces = false) (hd0 : decode M.2.1 pc = .ok (.new index, 3)) (hd1 : decode M.2.1 (pc + 3) = .ok (.dup, 1)) (hd2 : decode M.2.1 (pc + 4) = .ok (.invokespecial ic, 3)) (hd3 : decode M.2.1 (pc + 7) = .ok (.athrow, 1))
    (hX : mm_XL M.1.cls index ic x names) (hdd : 6 ≤ d.1 ∧ 90 ≤ d.2) (hh : M.2.2.2.2 = []) (hst : (st.map fun v => v.category).sum ≤ 8) (hc : mm_c h + 1 ≤ mm_BC G) (hs : mm_s h + 6 ≤ mm_BS G) (hq : Q (.inr x) (mm_exc h)) : mm_V G d M Q pc ls st h := by
  intro p e R s m args below meth c n0 c0 s0 H locs cells slots lr C I L T hT X
  subst hT
  obtain ⟨x1, x2, x3, x4, x5, x6⟩ := hX
  obtain ⟨hx, hb, hml, -, hown, hlk, -, htab, hts, hXw, hN, hK, hpl, hb1, hb2, q1, q2, q3, q4⟩ := id C
  obtain ⟨i1, i2, i3, i4, i5, i6, i7, i8, i9, i10, i11⟩ := id I
  have htab' : c.exceptionTable.toList = [] := by
    rw [hh] at htab
    exact List.map_eq_nil_iff.mp htab
  have htr : e.platform.stackTraces = false := (show e.platform.stackTraces = G.1.stackTraces by rw [X.admits.platform]).trans hG
  have Y := mm_anew X (R' := { frames := R.frames, locals := R.locals, cells := 1, slots := 6 }) (Nat.le_refl _) (Nat.le_refl _) (by show cells + 1 ≤ R.cells; omega) (by show slots + 6 ≤ R.slots; omega)
  obtain ⟨s', hs'⟩ : ∃ z, z = (T.setVm s.vm).setFrames (.invoking m args :: below) := ⟨_, rfl⟩
  rw [← hs'] at Y
  have hvm : s'.vm = s.vm := by rw [hs']; rfl
  have hhp : s'.heap = T.heap := by rw [hs']; rfl
  have hW0 : s.WarmedH s'.vm := by rw [hvm]; exact State.WarmedH.refl s
  obtain ⟨k1, k2, k3, k4⟩ := mm_carry (G := G) (U := s') args hW0 (fun q cell a b => by rw [hhp]; exact mm_stat i2 hpl q cell a b) hts hXw hN hK
  have hat : ∀ w ∈ Bundle.ownAtoms0 M.1.cls ic (mm_xn x) names, w.before args s' = true := fun w hw => (x6 w hw).elim (k1 w) (fun ⟨z, hz, e⟩ => by rw [e]; exact k2 z hz)
  have hown' : s'.vm.findClass M.1.cls = some m.cls := by rw [hvm]; exact hown
  have hins : (Cond.instantiable (mm_xn x) 6).before args s' = true := hat _ (by simp [Bundle.ownAtoms0])
  obtain ⟨st', hst'⟩ : ∃ z, z = st.map (mm_tr (mm_b G) (mm_sc G)) := ⟨_, rfl⟩
  have hst2 : (st'.map fun v => v.category).sum ≤ 8 := by rw [hst', mm_cat_map]; exact hst
  rw [← hst']
  obtain ⟨vm₁, cX, kX, hfX, hkX, -, -, X₁, st1⟩ := Y.newCold hx (own := M.1.cls) (C := mm_xn x) (index := index) (n := 6) hown' (k1 _ x1) hins (k1 _ x2) (g := F0 m pc lr st') rfl (by rw [hb]; exact hd0) (Nat.le_refl _) (Nat.le_refl _)
  obtain ⟨T1, hT1⟩ : ∃ z, z = (T.setVm vm₁).pushCell { cls := cX, slots := kX.instanceTypes.map defaultValue, vm := .none } := ⟨_, rfl⟩
  rw [← hT1] at X₁ st1
  have hcell : T1.heap[T.heap.size]? = some (freshCell cX kX) := by rw [hT1]; exact State.heap_pushCell_size _ _
  have hcat : (Value.ref T.heap.size).category = 1 := rfl
  obtain ⟨U, u1, u2, u3, u4, u5, ce, hce, hO⟩ := X₁.ctorThrow0 hx htr (own := M.1.cls) (cls := mm_xn x) (names := names) (ic := ic) hown' x3 x4 hat (fun x hx => nomatch hx) hfX hkX hcell (by rw [hhp]; exact Nat.le_refl _)
    (g := F0 m (pc + 4) lr (.ref T.heap.size :: .ref T.heap.size :: st')) rfl (by rw [hml]; exact L.2.1) rfl rfl (rest := st') rfl (by rw [hb]; exact hd2) (by rw [hb]; exact hd3) (fun z hz => by rw [htab'] at hz; cases hz)
    (by show names.length + 3 < R.frames; omega) (by show 2 * 0 + _ + _ ≤ R.locals; simp only [List.map_cons, List.sum_cons, hcat]; omega) hlk
  have hkeep : ∀ q, q < T.heap.size → U.heap[q]? = T.heap[q]? := fun q hq => by
    obtain ⟨-, -, -, -, -, u6⟩ := u5
    have hq' : q < s'.heap.size := by rw [hhp]; exact hq
    obtain ⟨c9, e1, e2, e3, e4⟩ := u6 q _ (Array.getElem?_eq_getElem hq')
    have hsl : c9.slots = (s'.heap[q]).slots := Array.ext_getElem? fun i => e4 i fun hm => nomatch hm
    rw [hsl] at e2
    have e5 : U.heap[q]? = some c9 := e1
    rw [e5, e2, ← hhp, Array.getElem?_eq_getElem hq']
  have hgrow : T.heap.size ≤ U.heap.size := by
    have := u5.2.1
    rw [hhp] at this
    exact this
  have hWs : s.WarmedH U.vm := State.WarmedH.trans hW0 u4
  have hcl : s.vm.findClass (mm_xn x) = some ce.cls := by
    have h9 := hO.cls
    rw [hvm] at h9
    exact h9
  have hall : s.sameButNew ({ U with vm := s.vm } : State) locs (cells + 1) (slots + 6) := by
    rw [hs'] at u5
    obtain ⟨e1, e2⟩ := u5
    rw [State.setFrames_setFrames] at e1
    have h2 : (T.setVm s.vm).sameButNew ({ U with vm := s.vm } : State) [] (0 + 1) (0 + 6) := ⟨e1, e2⟩
    have h3 := X.same.trans h2
    rw [List.append_nil] at h3
    exact h3.mono (by omega) (by omega)
  refine ⟨U, st1 _ ?_, .threw T.heap.size, u2, u3, .inr x, mm_exc h, locs, cells + 1, slots + 6, hWs, hall, ?_, ⟨T.heap.size, ce, rfl, ?_, hce, by rw [hO.vm]; rfl, hcl⟩, hq⟩
  · show Steps p.tables e below (T1.setTop (F0 m (pc + 3) lr (.ref T.heap.size :: st'))) U
    have d3 : decode c.code (pc + 3) = .ok (.dup, 1) := by rw [hb]; exact hd1
    jvm_step X₁.here [X₁.here.top, hx, d3, Value.category]
    exact u1
  · refine ⟨fun k q hq => (i1 k q hq).kept (hkeep _ (i1 k q hq).lt), ⟨Nat.le_trans i2.1 hgrow, fun q a b => by rw [hkeep q (Nat.lt_of_lt_of_le a i2.1)]; exact i2.2.1 q a b, i2.2.2⟩, fun z => ?_, i4, i5, ?_, ?_, hc, hs, ?_, i11⟩
    · have z : mm_c h + 1 + 1 = mm_n h := z
      omega
    · show cells + 1 + c0 ≤ mm_c h + 1
      omega
    · show slots + 6 + s0 ≤ mm_s h + 6
      omega
    · show mm_n h ≤ mm_c h + 1 + 1
      omega
  · exact Nat.lt_of_lt_of_le hb1 i2.1
end MK
