/-! THE CLAIM OUT OF ONE WALK OF THE LAW'S BODY. Your part is whole_start (and what it stands on); all else here is the same for every law, but numbers. -/
def R_law : String := "TickArenaLaw"
def lw_P (b : Addr) (xs : List Int32) (args : Array Value) (s : State) : Prop := args = #[.ref b] ∧ s.IntsAt b xs ∧ xs.length ≤ 2048 ∧ (Jvm.Cond.and given_1 narrow_1).before args s = true
def lw_Q (_ : Array Value) (s : State) (o : Outcome) (t : State) : Prop := o = .returned (some (.int 1)) ∧ Framed s o t [] 601024 7293034
def lw_Z (below : List Frame) (a : Array Value) (s : State) : State → Prop := fun t => ∃ o, t.status = .running ∧ Ended t below o ∧ lw_Q a s o t
/-- what holds at the law's entry: the machine, the code, the tables' words (any of lw_tbl by 'hts w (by decide +kernel)'), the script of L ints xs at the cell b, what the Statement gives of the start (any of its parts by flat_of_before) -/
def lw_At (p : Program) (s : State) (m : MethodId) (meth : Method) (c : Code) (b L : Nat) (xs : Nat → Int32) : Prop :=
  p.tables.exec = Jvm.exec ∧ c.code = code ∧ meth.sig.returnType = ret ∧ c.maxLocals = 7 ∧ s.vm.findClass R_law = some m.cls ∧ (∀ w ∈ lw_tbl, w.before #[Value.ref b] s = true) ∧ va_X b L xs s s.heap ∧ b < s.heap.size ∧ meth.locks = false ∧ (Jvm.Cond.and given_1 narrow_1).before #[Value.ref b] s = true
theorem lw_known {s : State} {args : Array Value} (hws : ∀ w ∈ mm_WS, w.before args s = true) : ∃ (D : va_G) (cA : Nat → ClassId), va_K D vwCl (mm_tys cA) s := by
  obtain ⟨c0, i0, k0⟩ := u_known (n := 3) hws cf_By.1 (hws _ (mm_mw (i := 133) (by decide +kernel) (by decide +kernel)))
  obtain ⟨c1, i1, k1⟩ := u_known (n := 3) hws cf_Ev.1 (hws _ (mm_mw (i := 33) (by decide +kernel) (by decide +kernel)))
  obtain ⟨c2, i2, k2⟩ := u_known (n := 1) hws cf_Lg.1 (hws _ (mm_mw (i := 159) (by decide +kernel) (by decide +kernel)))
  obtain ⟨c3, i3, k3⟩ := u_known (n := 9) hws cf_Sl.1 (hws _ (mm_mw (i := 53) (by decide +kernel) (by decide +kernel)))
  obtain ⟨c4, i4, k4⟩ := u_known (n := 1) hws cf_Sb.1 (hws _ (mm_mw (i := 127) (by decide +kernel) (by decide +kernel)))
  obtain ⟨c5, i5, k5⟩ := u_known (n := 4) hws cf_Wo.1 (hws _ (mm_mw (i := 25) (by decide +kernel) (by decide +kernel)))
  obtain ⟨c6, i6, k6⟩ := u_known (n := 4) hws cf_Ta.1 (hws _ (mm_mw (i := 17) (by decide +kernel) (by decide +kernel)))
  obtain ⟨c7, i7, k7⟩ := u_known (n := 24) hws cf_Mo.1 (hws _ (mm_mw (i := 748) (by decide +kernel) (by decide +kernel)))
  obtain ⟨a0, ka0, co0, f0, g0, h0⟩ := Cond.arrayClass_spec (hws _ w_aint)
  obtain ⟨a1, ka1, co1, f1, g1, h1⟩ := Cond.arrayClass_spec (hws _ w_aboolean)
  obtain ⟨a3, ka3, co3, f3, g3, h3⟩ := Cond.arrayClass_spec (hws _ w_along)
  obtain ⟨co2, a2, ka2, p1, p2, p3, p4, p5⟩ := Cond.arrayOver_spec (hws _ w_ao)
  refine ⟨(fun c => match c with | 0 => c0 | 1 => c1 | 2 => c2 | 3 => c3 | 4 => c4 | 5 => c5 | 6 => c6 | _ => c7, fun c => match c with | 0 => i0 | 1 => i1 | 2 => i2 | 3 => i3 | 4 => i4 | 5 => i5 | 6 => i6 | _ => i7), fun c => match c with | 0 => a0 | 1 => a1 | 2 => a2 | _ => a3, fun c q hq => ?_, fun c q hq => ?_⟩
  · match c, hq with
    | 0, hq => exact (Option.some.inj hq) ▸ k0
    | 1, hq => exact (Option.some.inj hq) ▸ k1
    | 2, hq => exact (Option.some.inj hq) ▸ k2
    | 3, hq => exact (Option.some.inj hq) ▸ k3
    | 4, hq => exact (Option.some.inj hq) ▸ k4
    | 5, hq => exact (Option.some.inj hq) ▸ k5
    | 6, hq => exact (Option.some.inj hq) ▸ k6
    | 7, hq => exact (Option.some.inj hq) ▸ k7
    | n + 8, hq => exact absurd hq (by simp [vwCl])
  · match c, hq with
    | 0, hq => exact (Option.some.inj hq) ▸ ⟨fun n z => ⟨fun k h => (by cases h), ka0, g0, co0, h0⟩, f0⟩
    | 1, hq => exact (Option.some.inj hq) ▸ ⟨fun n z => ⟨fun k h => (by cases h), ka1, g1, co1, h1⟩, f1⟩
    | 3, hq => exact (Option.some.inj hq) ▸ ⟨fun n z => ⟨fun k h => (by cases h), ka3, g3, co3, h3⟩, f3⟩
    | 2, hq => exact (Option.some.inj hq) ▸ ⟨fun n z => ⟨fun k h => (by cases h), ka2, p3, co2, p4⟩, ka2, co2, p3, p4, p1, p5⟩
    | n + 4, hq => exact absurd hq (by simp [mm_tys])
def mm_h0 : mm_H := (fun _ _ => 0, fun _ _ => none, fun _ _ => 0, 1, 0, 0)
theorem whole_start {p : Program} {e : Env} {s : State} {m : MethodId} {below : List Frame} {meth : Method} {c : Code} (l : Launch) (hG : l.stackTraces = false) {b L : Nat} {xs : Nat → Int32} (hL : L ≤ 2048) (hname : meth.name = "law") (htab : c.exceptionTable.toList.map (fun x => (x.startPc, x.endPc, x.handlerPc, x.catchType)) = []) (C0 : lw_At p s m meth c b L xs) : W p l e room_1 s m #[Value.ref b] below meth c s.heap [] 0 0 (lw_Z below #[Value.ref b] s) (entryFrame m ([Value.ref b] : List Value).toArray 7) := by
  obtain ⟨hx, hc, hr, hml, hown, hts, hX, hbl, hlk, hgv⟩ := C0
  have hws : ∀ w ∈ mm_WS, w.before #[Value.ref b] s = true := fun w hw => hts w (List.mem_filter.mp hw).1
  obtain ⟨D, cA, hK⟩ := lw_known hws
  have hs := flat_of_before _ hgv
  have hXS : ∀ x ∈ mm_XS, (Cond.isRef (.static x.1 x.2.1 x.2.2)).before #[Value.ref b] s = true := by
    intro x hx
    simp only [mm_XS, List.mem_cons, List.not_mem_nil, or_false] at hx
    rcases hx with rfl | rfl
    · exact hs _ (by decide +kernel)
    · exact hs _ (by decide +kernel)
  have hNC : ∀ q ∈ mm_NC, va_Nc q.1 q.2 s := by
    intro q hq
    simp only [mm_NC, List.mem_cons, List.not_mem_nil, or_false] at hq
    rcases hq with rfl | rfl | rfl | rfl | rfl | rfl | rfl | rfl | rfl | rfl | rfl | rfl
    · exact va_Nc.of (args := #[Value.ref b]) (hs _ (by decide +kernel))
    · exact va_Nc.of (args := #[Value.ref b]) (hs _ (by decide +kernel))
    · exact va_Nc.of (args := #[Value.ref b]) (hs _ (by decide +kernel))
    · exact va_Nc.of (args := #[Value.ref b]) (hs _ (by decide +kernel))
    · exact va_Nc.of (args := #[Value.ref b]) (hs _ (by decide +kernel))
    · exact va_Nc.of (args := #[Value.ref b]) (hs _ (by decide +kernel))
    · exact va_Nc.of (args := #[Value.ref b]) (hs _ (by decide +kernel))
    · exact va_Nc.of (args := #[Value.ref b]) (hs _ (by decide +kernel))
    · exact va_Nc.of (args := #[Value.ref b]) (hs _ (by decide +kernel))
    · exact va_Nc.of (args := #[Value.ref b]) (hs _ (by decide +kernel))
    · exact va_Nc.of (args := #[Value.ref b]) (hs _ (by decide +kernel))
    · exact va_Nc.of (args := #[Value.ref b]) (hs _ (by decide +kernel))
  obtain ⟨G, eG⟩ : ∃ G : mm_G, G = (l, s.heap.size - 1, b, cA, D, room_1.cells, room_1.slots) := ⟨_, rfl⟩
  have g1 : G.1 = l := by rw [eG]
  have g2 : mm_b G = s.heap.size - 1 := by rw [eG]
  have g3 : mm_sc G = b := by rw [eG]
  have g4 : mm_cA G = cA := by rw [eG]
  have g5 : mm_D G = D := by rw [eG]
  have g6 : mm_BC G = 601024 := by rw [eG]; rfl
  have g7 : mm_BS G = 7293034 := by rw [eG]; rfl
  have hV := c_law (P := fun s' => va_X b L xs s' s'.heap) (G := G) (Q := fun r _ => r = .inl (some (.int 1))) (L := L) (xs := xs) (h := mm_h0) (fun _ z => by rw [g3]; exact z) (by rw [g1]; exact hG) hL (by omega) (by omega) rfl rfl rfl (fun _ _ _ => rfl) (fun _ => rfl)
  have C : mm_Cx G (9, 178) M_La_law p e room_1 s m #[Value.ref b] meth c 1 0 0 :=
    ⟨hx, hc, hml, hr, hown, hlk, hname, htab, hws, hXS, hNC, by rw [g4, g5]; exact hK, fun q cell q1 q2 => absurd q1 (by omega), by omega, by omega, by decide, by decide, by rw [g6]; exact Nat.le_refl _, by rw [g7]; exact Nat.le_refl _⟩
  have I : mm_In G mm_h0 s s.heap [] 1 0 0 0 0 :=
    ⟨fun k q hq => absurd hq (by simp [mm_ws, mm_n, mm_h0]), va_S.rf, fun _ => ⟨rfl, by omega⟩, Nat.le_refl _, fun z => absurd z (Nat.lt_irrefl _), Nat.le_refl _, Nat.le_refl _, Nat.zero_le _, Nat.zero_le _, Nat.le_refl _, by decide⟩
  have hw := hV p e room_1 s m #[Value.ref b] below meth c 1 0 0 s.heap [] 0 0 _ hX C I (mm_L.entry (av := [.ref 0]) (fun w hw => by simp at hw; subst hw; rfl) (by decide))
  rw [List.map_nil, ← lg_entry_eq, g1] at hw
  have e0 : ([Value.ref 0] : List Value).map (mm_tr (mm_b G) (mm_sc G)) = [Value.ref b] := by simp [mm_tr, mm_ad, g3]
  rw [e0] at hw
  refine mm_W_mono hw (fun t ht => ?_)
  obtain ⟨o, o1, o2, r, h1, Lc, k, n, w1, w2, I1, u1, rfl⟩ := ht
  have u2 : o = .returned (some (.int 1)) := u1
  subst u2
  obtain ⟨e1, e2, e3, e4, e5, e6⟩ := w2
  obtain ⟨-, j2, -, -, -, j6, j7, j8, j9, -, -⟩ := I1
  refine ⟨_, o1, o2, rfl, ⟨_, rfl⟩, w1, e1, e2, by omega, e4, by omega, fun a c9 hc9 => ?_⟩
  obtain ⟨c', q1, q2, q3, q4⟩ := e6 a c9 hc9
  have hlt : a < s.heap.size := (Array.getElem?_eq_some_iff.mp hc9).1
  refine ⟨c', q1, q2, q3, fun i _ => q4 i (fun hm => ?_)⟩
  rcases j2.2.2 _ hm with ⟨z1, z2⟩ | z
  · have z1 : mm_b G < a := z1
    omega
  · exact absurd hlt (Nat.not_lt.mpr z)
set_option maxHeartbeats 4000000 in
theorem lw_walk (l : Launch) (hG : l.stackTraces = false) (b : Addr) (xs : List Int32) : MetFree l x (headSpec (Jvm.Cond.code x code maxLocals ret :: tables_1) room_1) (lw_P b xs) (fun _ _ _ _ _ => True) lw_Q := by
  refine MetFree.of_bodyS (code := code) (maxLocals := maxLocals) (ret := ret) (by decide) ?_ ?_
  · intro args s m h hn
    obtain ⟨meth, c, h1, h2, h3, h4, h5, h6, -, -⟩ := Cond.code_spec hn (atoms_spec (ws := Jvm.Cond.code x code maxLocals ret :: tables_1) h _ List.mem_cons_self)
    exact ⟨meth, c, h1, h2, h3, h4, h5, h6⟩
  · intro p e s m args below meth c s₁ B hml0 hP _
    obtain ⟨rfl, hx, hbd, hgv⟩ := hP
    obtain ⟨scr, harrAt, hlist, hof, hsmall⟩ := hx
    obtain ⟨hcb, hkn, -, -⟩ := State.arrayAt?_spec harrAt
    have hown : s.vm.findClass R_law = some m.cls := findClass_of_methodNamed B.named
    have hts0 : ∀ c ∈ (Jvm.Cond.code x code maxLocals ret :: tables_1), c.before #[Value.ref b] s = true := atoms_spec (ws := Jvm.Cond.code x code maxLocals ret :: tables_1) B.pre
    have hts : ∀ w ∈ lw_tbl, w.before #[Value.ref b] s = true := k2_hts_sels lw_privs (fun w hw => hts0 w (List.mem_cons_of_mem _ hw)) lw_privs_ok
    have hml : c.maxLocals = 7 := B.maxLocals_eq (hts0 _ List.mem_cons_self)
    have X₀ : Stand p l e room_1 s m #[Value.ref b] below meth c s₁ [] 0 0 := Stand.of_body B
    have hh0 : s₁.heap = s.heap := by rw [B.state]; rfl
    have hsz : scr.slots.size = xs.length := by rw [← Array.length_toList, hlist, List.length_map]
    have hval : ∀ j : Nat, j < xs.length → scr.slots[j]? = some (.int (xs.getD j 0)) := fun j hj => by
      rw [← Array.getElem?_toList, hlist]
      simp [hj]
    have hbl : b < s.heap.size := (Array.getElem?_eq_some_iff.mp hcb).1
    have hX : va_X b xs.length (fun j => xs.getD j 0) s s.heap := ⟨scr, hcb, hof, hkn, hsz, hval⟩
    have K : W p l e room_1 s m #[Value.ref b] below meth c s₁.heap [] 0 0 (lw_Z below #[Value.ref b] s) (entryFrame m ([Value.ref b] : List Value).toArray 7) := by
      rw [hh0]
      obtain ⟨meth9, c9, q1, q2, -, -, -, -, q7, -⟩ := Cond.code_spec B.named (hts0 _ List.mem_cons_self)
      cases B.method.symm.trans q1
      cases X₀.code.symm.trans q2
      have htab : c.exceptionTable.toList = [] := by
        have := Array.isEmpty_iff.mp q7
        rw [this]
      exact whole_start l hG hbd (name_of_methodNamed B.named B.method).1 (by rw [htab]; rfl) ⟨B.exec, B.bytes, B.returns, hml, hown, hts, hX, hbl, B.notSynchronized, hgv⟩
    obtain ⟨t, a1, o, b1, b2, b3⟩ := K s₁ rfl X₀
    exact ⟨t, o, a1, b1, b2, b3⟩
theorem lw_pre_spec {args : Array Value} {s : State} (h : (Jvm.Cond.and given_1 narrow_1).before args s = true) (hr : rest_1_c.before args s = true) : ∃ (b : Addr) (xs : List Int32), lw_P b xs args s := by
  have hs := flat_of_before _ h
  have hq := flat_of_before _ hr
  have hc : (Cond.count 1).before args s = true := hs _ (by decide +kernel)
  have harr : (Cond.arrayOf (.arg 0) .int).before args s = true := hs _ (by decide +kernel)
  have hle : (Cond.le (.length (.arg 0)) (.int 2048)).before args s = true := hs _ (by decide +kernel)
  have hlen : (Cond.isInt (.length (.arg 0))).before args s = true := hq _ (by decide +kernel)
  have hall : (Cond.all (.arg 0) (.isInt (.elem (.arg 0) (.index 0)))).before args s = true := hq _ (by decide +kernel)
  obtain ⟨b, xs, hb, hx⟩ := State.ints_of_pre rfl harr hlen hall
  have hsm : xs.length < 2 ^ 31 := hx.choose_spec.2.2.2
  have hev : (Term.length (.arg 0)).eval args s none [] s = some (.int xs.length.toInt32) := hx.length_eval hb
  have hv := Cond.le_ints hev (show (Term.int 2048).eval args s none [] s = some (.int 2048) from rfl)
  have hd : xs.length.toInt32 ≤ 2048 := by
    simpa [Cond.before, Cond.holds, hv] using hle
  have hN : xs.length ≤ 2048 := (Int32.ofNat_le_ofNat hsm (by decide)).mp (show Int32.ofNat xs.length ≤ Int32.ofNat 2048 from hd)
  exact ⟨b, xs, Cond.one_arg hc (show args[0]? = some (.ref b) from hb), hx, hN, h⟩
theorem lw_comes (l : Launch) (hG : l.stackTraces = false) : Comes l x (Jvm.Cond.code x code maxLocals ret :: tables_1) room_1 (fun tb e args s => Calls_1 tb e args s ∧ rest_1 tb e args s ∧ Pre_1 tb e args s)
    (fun _ _ args s o t => lw_Q args s o t) := by
  intro p e ha hc hk s m args below hf hfit hheap happ hpre
  obtain ⟨b, xs, hP⟩ := lw_pre_spec hpre.2.2 hpre.2.1
  obtain ⟨k, o, h1, h2, h3, hQ⟩ := lw_walk l hG b xs p e ha hc hk s m args below hf ((Spec.applies_iff_loose hf).mp happ).1 hP trivial
  exact ⟨k, o, h1, h2, h3, hQ⟩
theorem lw_frame {s t : State} {o : Outcome} {args : Array Value} (h : Framed s o t [] 601024 7293034) :
    Framed s o t (fieldLocs frame_1_writes args s ++ arrayLocs frame_1_arrays args s ++ staticLocs frame_1_statics s) 601024 7293034 := h
theorem lw_limb (L : Cond) (hL : ∀ (args : Array Value) (s t : State), L.after args s (.returned (some (.int 1))) t = true) :
    ArmFor flags0 classFile x code maxLocals ret World_1 tables_1 room_1 Calls_1 rest_1 Pre_1
      (fun tb e a s o t => postC L tb e a s o t ∧ Framed s o t (fieldLocs frame_1_writes a s ++ arrayLocs frame_1_arrays a s ++ staticLocs frame_1_statics s) 601024 7293034) := by
  intro l hfl _ _ p e ha hc hk s m args below hf hfit hheap happ hpre
  have hG : l.stackTraces = false := by unfold Launch.stackTraces; rw [hfl]; decide +kernel
  obtain ⟨k, o, h1, h2, h3, rfl, hF⟩ := lw_comes l hG p e ha hc hk s m args below hf hfit hheap happ hpre
  exact ⟨k, _, h1, h2, h3, hL args s _, lw_frame hF⟩
theorem i_vc : Claimed_1_1 ∧ Claimed_1_2 := ⟨lw_limb limb_1_1 (fun args s t => by simp [limb_1_1, Cond.after, Cond.holds, Cond.value]), lw_limb limb_1_2 (fun args s t => Cond.after_iff.mpr (by
  first | (rw [show limb_1_2 = Cond.eq .result (.int 1) from rfl, Cond.eq_ints (x := 1) (y := 1) rfl rfl]; simp; done) | (simp [limb_1_2, Cond.value, Term.eval]; done)))⟩
