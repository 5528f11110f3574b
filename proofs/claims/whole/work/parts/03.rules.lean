/-! THE SMALL MACHINE: its judgement. mm_Cx: what holds of a frame of the method M; mm_In: what holds of a point of it. -/
def mm_Cx (G : mm_G) (d : Nat × Nat) (M : mm_M) (p : Program) (e : Env) (R : Room) (s : State) (m : MethodId) (args : Array Value) (meth : Method) (c : Code) (n0 c0 s0 : Nat) : Prop :=
  p.tables.exec = Jvm.exec ∧ c.code = M.2.1 ∧ c.maxLocals = M.2.2.1 ∧ meth.sig.returnType = M.2.2.2.1 ∧ s.vm.findClass M.1.cls = some m.cls ∧ meth.locks = false ∧ meth.name = M.1.name ∧
  c.exceptionTable.toList.map (fun x => (x.startPc, x.endPc, x.handlerPc, x.catchType)) = M.2.2.2.2 ∧
  (∀ w ∈ mm_WS, w.before args s = true) ∧ (∀ x ∈ mm_XS, (Cond.isRef (.static x.1 x.2.1 x.2.2)).before args s = true) ∧ (∀ q ∈ mm_NC, va_Nc q.1 q.2 s) ∧ va_K (mm_D G) vwCl (mm_tys (mm_cA G)) s ∧
  (∀ (q : Nat) (cell : Cell), mm_b G < q → q < mm_b G + n0 → s.heap[q]? = some cell → cell.vm.isStatics = false) ∧ mm_b G < s.heap.size ∧ mm_sc G ≤ mm_b G ∧
  d.1 ≤ R.frames ∧ d.2 ≤ R.locals ∧ mm_BC G ≤ R.cells + c0 ∧ mm_BS G ≤ R.slots + s0
def mm_In (G : mm_G) (h : mm_H) (s : State) (H : Heap) (locs : List Loc) (n0 c0 s0 cells slots : Nat) : Prop :=
  va_P (mm_D G) vwCl (mm_ws (mm_b G) (mm_sc G) (mm_cA G) h) H ∧ va_S (mm_A (mm_b G) n0 s) s.heap H locs ∧ (mm_c h + 1 = mm_n h → c0 + 1 = n0 ∧ s.heap.size = mm_b G + n0) ∧ n0 ≤ mm_n h ∧ (n0 < mm_n h → s.heap.size ≤ mm_b G + n0) ∧
  cells + c0 ≤ mm_c h ∧ slots + s0 ≤ mm_s h ∧ mm_c h ≤ mm_BC G ∧ mm_s h ≤ mm_BS G ∧ mm_n h ≤ mm_c h + 1 ∧ 0 < n0
/-- what came out, at the machine -/
def mm_out (G : mm_G) (s : State) (o : Outcome) (r : mm_O) (t : State) : Prop := match r with
  | .inl v => o = .returned (v.map (mm_tr (mm_b G) (mm_sc G)))
  | .inr x => ∃ (a : Addr) (ce : Cell), o = .threw a ∧ mm_b G < a ∧ t.heap[a]? = some ce ∧ ce.vm.isStatics = false ∧ s.vm.findClass (mm_xn x) = some ce.cls
def mm_Fin (G : mm_G) (Q : mm_O → mm_H → Prop) (n0 c0 s0 : Nat) (s : State) (o : Outcome) (t : State) : Prop :=
  ∃ (r : mm_O) (h : mm_H) (L : List Loc) (k n : Nat), s.WarmedH t.vm ∧ s.sameButNew ({ t with vm := s.vm } : State) L k n ∧ mm_In G h s t.heap L n0 c0 s0 k n ∧ mm_out G s o r t ∧ Q r h
def mm_End (G : mm_G) (Q : mm_O → mm_H → Prop) (n0 c0 s0 : Nat) (below : List Frame) (s : State) : State → Prop := fun t =>
  ∃ o : Outcome, t.status = .running ∧ Ended t below o ∧ mm_Fin G Q n0 c0 s0 s o t
/-- THE JUDGEMENT: from pc, with these locals, this operand stack and this heap, the method M (at most d calls deep) ends, and Q holds of what comes out and of the heap then -/
def mm_V (G : mm_G) (d : Nat × Nat) (M : mm_M) (Q : mm_O → mm_H → Prop) (pc : Nat) (ls : List (Option Value)) (st : List Value) (h : mm_H) : Prop :=
  ∀ (p : Program) (e : Env) (R : Room) (s : State) (m : MethodId) (args : Array Value) (below : List Frame) (meth : Method) (c : Code) (n0 c0 s0 : Nat) (H : Heap) (locs : List Loc) (cells slots : Nat) (lr : Array Slot),
    mm_Cx G d M p e R s m args meth c n0 c0 s0 → mm_In G h s H locs n0 c0 s0 cells slots → mm_L (mm_b G) (mm_sc G) M.2.2.1 ls lr →
    W p G.1 e R s m args below meth c H locs cells slots (mm_End G Q n0 c0 s0 below s) (F0 m pc lr (st.map (mm_tr (mm_b G) (mm_sc G))))
section MV
variable {G : mm_G} {d : Nat × Nat} {M : mm_M} {Q : mm_O → mm_H → Prop} {pc : Nat} {ls : List (Option Value)} {st : List Value} {h : mm_H}
theorem mv_iconst {n : Int} {v : Int32} (hd : decode M.2.1 pc = .ok (.iconst n, 1)) (hv : Int32.ofInt n = v) (k : mm_V G d M Q (pc + 1) ls (.int v :: st) h) : mm_V G d M Q pc ls (st) h :=
  fun p e R s m args below meth c n0 c0 s0 H locs cells slots lr C I L => lv_iconst C.1 C.2.1 hd hv (k p e R s m args below meth c n0 c0 s0 H locs cells slots lr C I L)
theorem mv_bipush {n : Int} {v : Int32} (hd : decode M.2.1 pc = .ok (.bipush n, 2)) (hv : (Int8.ofInt n).toInt32 = v) (k : mm_V G d M Q (pc + 2) ls (.int v :: st) h) : mm_V G d M Q pc ls (st) h :=
  fun p e R s m args below meth c n0 c0 s0 H locs cells slots lr C I L => lv_bipush C.1 C.2.1 hd hv (k p e R s m args below meth c n0 c0 s0 H locs cells slots lr C I L)
theorem mv_sipush {n : Int} {v : Int32} (hd : decode M.2.1 pc = .ok (.sipush n, 3)) (hv : (Int16.ofInt n).toInt32 = v) (k : mm_V G d M Q (pc + 3) ls (.int v :: st) h) : mm_V G d M Q pc ls (st) h :=
  fun p e R s m args below meth c n0 c0 s0 H locs cells slots lr C I L => lv_sipush C.1 C.2.1 hd hv (k p e R s m args below meth c n0 c0 s0 H locs cells slots lr C I L)
theorem mv_ldc {index : Nat} {v : Int32} (hd : decode M.2.1 pc = .ok (.ldc index, 2)) (hw : Jvm.Cond.constant M.1.cls index v ∈ mm_WS) (k : mm_V G d M Q (pc + 2) ls (.int v :: st) h) : mm_V G d M Q pc ls st h :=
  fun p e R s m args below meth c n0 c0 s0 H locs cells slots lr C I L => lv_ldc C.1 C.2.1 C.2.2.2.2.1 (C.2.2.2.2.2.2.2.2.1 _ hw) hd (k p e R s m args below meth c n0 c0 s0 H locs cells slots lr C I L)
theorem mv_iload_n {k0 : Fin 4} {x : Int32} (hd : decode M.2.1 pc = .ok (.iload_n k0, 1)) (hl : ls[k0.val]? = some (some (.int x))) (k : mm_V G d M Q (pc + 1) ls (.int x :: st) h) : mm_V G d M Q pc ls st h :=
  fun p e R s m args below meth c n0 c0 s0 H locs cells slots lr C I L => lv_iload_n C.1 C.2.1 hd rfl (L.2.2.2 _ _ hl).2 (k p e R s m args below meth c n0 c0 s0 H locs cells slots lr C I L)
theorem mv_iload {i : Nat} {x : Int32} (hd : decode M.2.1 pc = .ok (.iload i, 2)) (hl : ls[i]? = some (some (.int x))) (k : mm_V G d M Q (pc + 2) ls (.int x :: st) h) : mm_V G d M Q pc ls st h :=
  fun p e R s m args below meth c n0 c0 s0 H locs cells slots lr C I L => lv_iload C.1 C.2.1 hd (L.2.2.2 _ _ hl).2 (k p e R s m args below meth c n0 c0 s0 H locs cells slots lr C I L)
theorem mv_aload_n {k0 : Fin 4} {x : Nat} (hd : decode M.2.1 pc = .ok (.aload_n k0, 1)) (hl : ls[k0.val]? = some (some (.ref x))) (k : mm_V G d M Q (pc + 1) ls (.ref x :: st) h) : mm_V G d M Q pc ls st h :=
  fun p e R s m args below meth c n0 c0 s0 H locs cells slots lr C I L => lv_aload_n C.1 C.2.1 hd rfl (L.2.2.2 _ _ hl).2 (k p e R s m args below meth c n0 c0 s0 H locs cells slots lr C I L)
theorem mv_aload {i : Nat} {x : Nat} (hd : decode M.2.1 pc = .ok (.aload i, 2)) (hl : ls[i]? = some (some (.ref x))) (k : mm_V G d M Q (pc + 2) ls (.ref x :: st) h) : mm_V G d M Q pc ls st h :=
  fun p e R s m args below meth c n0 c0 s0 H locs cells slots lr C I L => lv_aload C.1 C.2.1 hd (L.2.2.2 _ _ hl).2 (k p e R s m args below meth c n0 c0 s0 H locs cells slots lr C I L)
theorem mv_istore_n {k0 : Fin 4} {x : Int32} (hd : decode M.2.1 pc = .ok (.istore_n k0, 1)) (hn : k0.val < M.2.2.1) (k : mm_V G d M Q (pc + 1) (ls.set k0.val (some (.int x))) st h) : mm_V G d M Q pc ls (.int x :: st) h :=
  fun p e R s m args below meth c n0 c0 s0 H locs cells slots lr C I L => lv_istore_n C.1 C.2.1 hd rfl L.has hn rfl fun lr2 hL2 => k p e R s m args below meth c n0 c0 s0 H locs cells slots lr2 C I (L.set rfl hL2)
theorem mv_istore {i : Nat} {x : Int32} (hd : decode M.2.1 pc = .ok (.istore i, 2)) (hn : i < M.2.2.1) (k : mm_V G d M Q (pc + 2) (ls.set i (some (.int x))) st h) : mm_V G d M Q pc ls (.int x :: st) h :=
  fun p e R s m args below meth c n0 c0 s0 H locs cells slots lr C I L => lv_istore C.1 C.2.1 hd L.has hn rfl fun lr2 hL2 => k p e R s m args below meth c n0 c0 s0 H locs cells slots lr2 C I (L.set rfl hL2)
theorem mv_astore_n {k0 : Fin 4} {x : Nat} (hd : decode M.2.1 pc = .ok (.astore_n k0, 1)) (hn : k0.val < M.2.2.1) (k : mm_V G d M Q (pc + 1) (ls.set k0.val (some (.ref x))) st h) : mm_V G d M Q pc ls (.ref x :: st) h :=
  fun p e R s m args below meth c n0 c0 s0 H locs cells slots lr C I L => lv_astore_n C.1 C.2.1 hd rfl L.has hn rfl fun lr2 hL2 => k p e R s m args below meth c n0 c0 s0 H locs cells slots lr2 C I (L.set rfl hL2)
theorem mv_astore {i : Nat} {x : Nat} (hd : decode M.2.1 pc = .ok (.astore i, 2)) (hn : i < M.2.2.1) (k : mm_V G d M Q (pc + 2) (ls.set i (some (.ref x))) st h) : mm_V G d M Q pc ls (.ref x :: st) h :=
  fun p e R s m args below meth c n0 c0 s0 H locs cells slots lr C I L => lv_astore C.1 C.2.1 hd L.has hn rfl fun lr2 hL2 => k p e R s m args below meth c n0 c0 s0 H locs cells slots lr2 C I (L.set rfl hL2)
theorem mv_iinc {i : Nat} {n : Int} {x v : Int32} (hd : decode M.2.1 pc = .ok (.iinc i n, 3)) (hl : ls[i]? = some (some (.int x))) (hv : x + Int32.ofInt n = v) (hn : i < M.2.2.1) (k : mm_V G d M Q (pc + 3) (ls.set i (some (.int v))) st h) : mm_V G d M Q pc ls st h := by
  intro p e R s m args below meth c n0 c0 s0 H locs cells slots lr C I L
  obtain ⟨q, hq⟩ := List.getElem?_of_mem (mm_lv_mem (b := mm_b G) (sc := mm_sc G) (q := (i, .int x)).mpr ⟨.int x, hl, rfl⟩)
  exact lv_iinc (k := q) C.1 C.2.1 hd L.has hq hv hn rfl fun lr2 hL2 => k p e R s m args below meth c n0 c0 s0 H locs cells slots lr2 C I (L.set rfl hL2)
theorem mv_iadd {x y : Int32} (hd : decode M.2.1 pc = .ok (.iadd, 1)) (k : mm_V G d M Q (pc + 1) ls (.int (x + y) :: st) h) : mm_V G d M Q pc ls (.int y :: .int x :: st) h :=
  fun p e R s m args below meth c n0 c0 s0 H locs cells slots lr C I L => lv_iadd C.1 C.2.1 hd (k p e R s m args below meth c n0 c0 s0 H locs cells slots lr C I L)
theorem mv_isub {x y : Int32} (hd : decode M.2.1 pc = .ok (.isub, 1)) (k : mm_V G d M Q (pc + 1) ls (.int (x - y) :: st) h) : mm_V G d M Q pc ls (.int y :: .int x :: st) h :=
  fun p e R s m args below meth c n0 c0 s0 H locs cells slots lr C I L => lv_isub C.1 C.2.1 hd (k p e R s m args below meth c n0 c0 s0 H locs cells slots lr C I L)
theorem mv_imul {x y : Int32} (hd : decode M.2.1 pc = .ok (.imul, 1)) (k : mm_V G d M Q (pc + 1) ls (.int (x * y) :: st) h) : mm_V G d M Q pc ls (.int y :: .int x :: st) h :=
  fun p e R s m args below meth c n0 c0 s0 H locs cells slots lr C I L => lv_imul C.1 C.2.1 hd (k p e R s m args below meth c n0 c0 s0 H locs cells slots lr C I L)
theorem mv_iand {x y : Int32} (hd : decode M.2.1 pc = .ok (.iand, 1)) (k : mm_V G d M Q (pc + 1) ls (.int (x &&& y) :: st) h) : mm_V G d M Q pc ls (.int y :: .int x :: st) h :=
  fun p e R s m args below meth c n0 c0 s0 H locs cells slots lr C I L => lv_iand C.1 C.2.1 hd (k p e R s m args below meth c n0 c0 s0 H locs cells slots lr C I L)
theorem mv_ior {x y : Int32} (hd : decode M.2.1 pc = .ok (.ior, 1)) (k : mm_V G d M Q (pc + 1) ls (.int (x ||| y) :: st) h) : mm_V G d M Q pc ls (.int y :: .int x :: st) h :=
  fun p e R s m args below meth c n0 c0 s0 H locs cells slots lr C I L => lv_ior C.1 C.2.1 hd (k p e R s m args below meth c n0 c0 s0 H locs cells slots lr C I L)
theorem mv_ixor {x y : Int32} (hd : decode M.2.1 pc = .ok (.ixor, 1)) (k : mm_V G d M Q (pc + 1) ls (.int (x ^^^ y) :: st) h) : mm_V G d M Q pc ls (.int y :: .int x :: st) h :=
  fun p e R s m args below meth c n0 c0 s0 H locs cells slots lr C I L => lv_ixor C.1 C.2.1 hd (k p e R s m args below meth c n0 c0 s0 H locs cells slots lr C I L)
theorem mv_ishl {x y : Int32} (hd : decode M.2.1 pc = .ok (.ishl, 1)) (k : mm_V G d M Q (pc + 1) ls (.int (x <<< (y &&& 31)) :: st) h) : mm_V G d M Q pc ls (.int y :: .int x :: st) h :=
  fun p e R s m args below meth c n0 c0 s0 H locs cells slots lr C I L => lv_ishl C.1 C.2.1 hd (k p e R s m args below meth c n0 c0 s0 H locs cells slots lr C I L)
theorem mv_ishr {x y : Int32} (hd : decode M.2.1 pc = .ok (.ishr, 1)) (k : mm_V G d M Q (pc + 1) ls (.int (x >>> (y &&& 31)) :: st) h) : mm_V G d M Q pc ls (.int y :: .int x :: st) h :=
  fun p e R s m args below meth c n0 c0 s0 H locs cells slots lr C I L => lv_ishr C.1 C.2.1 hd (k p e R s m args below meth c n0 c0 s0 H locs cells slots lr C I L)
theorem mv_idiv {x y : Int32} (hd : decode M.2.1 pc = .ok (.idiv, 1)) (hne : ¬ y = 0) (k : mm_V G d M Q (pc + 1) ls (.int (x / y) :: st) h) : mm_V G d M Q pc ls (.int y :: .int x :: st) h :=
  fun p e R s m args below meth c n0 c0 s0 H locs cells slots lr C I L => lv_idiv C.1 C.2.1 hd hne (k p e R s m args below meth c n0 c0 s0 H locs cells slots lr C I L)
theorem mv_irem {x y : Int32} (hd : decode M.2.1 pc = .ok (.irem, 1)) (hne : ¬ y = 0) (k : mm_V G d M Q (pc + 1) ls (.int (x - x / y * y) :: st) h) : mm_V G d M Q pc ls (.int y :: .int x :: st) h :=
  fun p e R s m args below meth c n0 c0 s0 H locs cells slots lr C I L => lv_irem C.1 C.2.1 hd hne (k p e R s m args below meth c n0 c0 s0 H locs cells slots lr C I L)
theorem mv_ineg {x : Int32} (hd : decode M.2.1 pc = .ok (.ineg, 1)) (k : mm_V G d M Q (pc + 1) ls (.int (-x) :: st) h) : mm_V G d M Q pc ls (.int x :: st) h :=
  fun p e R s m args below meth c n0 c0 s0 H locs cells slots lr C I L => lv_ineg C.1 C.2.1 hd (k p e R s m args below meth c n0 c0 s0 H locs cells slots lr C I L)
theorem mv_i2l {x : Int32} (hd : decode M.2.1 pc = .ok (.i2l, 1)) (k : mm_V G d M Q (pc + 1) ls (.long x.toInt64 :: st) h) : mm_V G d M Q pc ls (.int x :: st) h :=
  fun p e R s m args below meth c n0 c0 s0 H locs cells slots lr C I L => lv_i2l C.1 C.2.1 hd rfl (k p e R s m args below meth c n0 c0 s0 H locs cells slots lr C I L)
theorem mv_lcmp {x y : Int64} (hd : decode M.2.1 pc = .ok (.lcmp, 1)) (k : mm_V G d M Q (pc + 1) ls (.int (lg_cmp x y) :: st) h) : mm_V G d M Q pc ls (.long y :: .long x :: st) h :=
  fun p e R s m args below meth c n0 c0 s0 H locs cells slots lr C I L => W.lcmp C.1 C.2.1 hd (k p e R s m args below meth c n0 c0 s0 H locs cells slots lr C I L)
theorem mv_dup {v : Value} (hd : decode M.2.1 pc = .ok (.dup, 1)) (hv : v.category = 1) (k : mm_V G d M Q (pc + 1) ls (v :: v :: st) h) : mm_V G d M Q pc ls (v :: st) h :=
  fun p e R s m args below meth c n0 c0 s0 H locs cells slots lr C I L => lv_dup C.1 C.2.1 hd (by rw [mm_tr_cat]; exact hv) (k p e R s m args below meth c n0 c0 s0 H locs cells slots lr C I L)
theorem mv_pop {v : Value} (hd : decode M.2.1 pc = .ok (.pop, 1)) (hv : v.category = 1) (k : mm_V G d M Q (pc + 1) ls (st) h) : mm_V G d M Q pc ls (v :: st) h :=
  fun p e R s m args below meth c n0 c0 s0 H locs cells slots lr C I L => lv_pop C.1 C.2.1 hd (by rw [mm_tr_cat]; exact hv) (k p e R s m args below meth c n0 c0 s0 H locs cells slots lr C I L)
theorem mv_dup2 {v w : Value} (hd : decode M.2.1 pc = .ok (.dup2, 1)) (hv : v.category = 1) (hw : w.category = 1) (k : mm_V G d M Q (pc + 1) ls (v :: w :: v :: w :: st) h) : mm_V G d M Q pc ls (v :: w :: st) h :=
  fun p e R s m args below meth c n0 c0 s0 H locs cells slots lr C I L => lv_dup2_11 C.1 C.2.1 hd (by rw [mm_tr_cat]; exact hv) (by rw [mm_tr_cat]; exact hw) (k p e R s m args below meth c n0 c0 s0 H locs cells slots lr C I L)
theorem mv_dup_x1 {v w : Value} (hd : decode M.2.1 pc = .ok (.dup_x1, 1)) (hv : v.category = 1) (hw : w.category = 1) (k : mm_V G d M Q (pc + 1) ls (v :: w :: v :: st) h) : mm_V G d M Q pc ls (v :: w :: st) h :=
  fun p e R s m args below meth c n0 c0 s0 H locs cells slots lr C I L => lv_dup_x1 C.1 C.2.1 hd (by rw [mm_tr_cat]; exact hv) (by rw [mm_tr_cat]; exact hw) (k p e R s m args below meth c n0 c0 s0 H locs cells slots lr C I L)
theorem mv_if_eq {x : Int32} {off : Int} (tgt : Nat) (hd : decode M.2.1 pc = .ok (.ifCond .eq off, 3)) (ht : (pc : Int) + off = (tgt : Int)) (kt : x = 0 → mm_V G d M Q tgt ls st h) (kf : ¬ x = 0 → mm_V G d M Q (pc + 3) ls st h) : mm_V G d M Q pc ls (.int x :: st) h :=
  fun p e R s m args below meth c n0 c0 s0 H locs cells slots lr C I L => lv_if_eq C.1 C.2.1 hd ht (fun z => kt z p e R s m args below meth c n0 c0 s0 H locs cells slots lr C I L) (fun z => kf z p e R s m args below meth c n0 c0 s0 H locs cells slots lr C I L)
theorem mv_ic_eq {x y : Int32} {off : Int} (tgt : Nat) (hd : decode M.2.1 pc = .ok (.if_icmp .eq off, 3)) (ht : (pc : Int) + off = (tgt : Int)) (kt : x = y → mm_V G d M Q tgt ls st h) (kf : ¬ x = y → mm_V G d M Q (pc + 3) ls st h) : mm_V G d M Q pc ls (.int y :: .int x :: st) h :=
  fun p e R s m args below meth c n0 c0 s0 H locs cells slots lr C I L => lv_icmp_eq C.1 C.2.1 hd ht (fun z => kt z p e R s m args below meth c n0 c0 s0 H locs cells slots lr C I L) (fun z => kf z p e R s m args below meth c n0 c0 s0 H locs cells slots lr C I L)
theorem mv_if_ne {x : Int32} {off : Int} (tgt : Nat) (hd : decode M.2.1 pc = .ok (.ifCond .ne off, 3)) (ht : (pc : Int) + off = (tgt : Int)) (kt : ¬ x = 0 → mm_V G d M Q tgt ls st h) (kf : x = 0 → mm_V G d M Q (pc + 3) ls st h) : mm_V G d M Q pc ls (.int x :: st) h :=
  fun p e R s m args below meth c n0 c0 s0 H locs cells slots lr C I L => lv_if_ne C.1 C.2.1 hd ht (fun z => kt z p e R s m args below meth c n0 c0 s0 H locs cells slots lr C I L) (fun z => kf z p e R s m args below meth c n0 c0 s0 H locs cells slots lr C I L)
theorem mv_ic_ne {x y : Int32} {off : Int} (tgt : Nat) (hd : decode M.2.1 pc = .ok (.if_icmp .ne off, 3)) (ht : (pc : Int) + off = (tgt : Int)) (kt : ¬ x = y → mm_V G d M Q tgt ls st h) (kf : x = y → mm_V G d M Q (pc + 3) ls st h) : mm_V G d M Q pc ls (.int y :: .int x :: st) h :=
  fun p e R s m args below meth c n0 c0 s0 H locs cells slots lr C I L => lv_icmp_ne C.1 C.2.1 hd ht (fun z => kt z p e R s m args below meth c n0 c0 s0 H locs cells slots lr C I L) (fun z => kf z p e R s m args below meth c n0 c0 s0 H locs cells slots lr C I L)
theorem mv_if_lt {x : Int32} {off : Int} (tgt : Nat) (hd : decode M.2.1 pc = .ok (.ifCond .lt off, 3)) (ht : (pc : Int) + off = (tgt : Int)) (kt : x < 0 → mm_V G d M Q tgt ls st h) (kf : ¬ x < 0 → mm_V G d M Q (pc + 3) ls st h) : mm_V G d M Q pc ls (.int x :: st) h :=
  fun p e R s m args below meth c n0 c0 s0 H locs cells slots lr C I L => lv_if_lt C.1 C.2.1 hd ht (fun z => kt z p e R s m args below meth c n0 c0 s0 H locs cells slots lr C I L) (fun z => kf z p e R s m args below meth c n0 c0 s0 H locs cells slots lr C I L)
theorem mv_ic_lt {x y : Int32} {off : Int} (tgt : Nat) (hd : decode M.2.1 pc = .ok (.if_icmp .lt off, 3)) (ht : (pc : Int) + off = (tgt : Int)) (kt : x < y → mm_V G d M Q tgt ls st h) (kf : ¬ x < y → mm_V G d M Q (pc + 3) ls st h) : mm_V G d M Q pc ls (.int y :: .int x :: st) h :=
  fun p e R s m args below meth c n0 c0 s0 H locs cells slots lr C I L => lv_icmp_lt C.1 C.2.1 hd ht (fun z => kt z p e R s m args below meth c n0 c0 s0 H locs cells slots lr C I L) (fun z => kf z p e R s m args below meth c n0 c0 s0 H locs cells slots lr C I L)
theorem mv_if_ge {x : Int32} {off : Int} (tgt : Nat) (hd : decode M.2.1 pc = .ok (.ifCond .ge off, 3)) (ht : (pc : Int) + off = (tgt : Int)) (kt : 0 ≤ x → mm_V G d M Q tgt ls st h) (kf : ¬ 0 ≤ x → mm_V G d M Q (pc + 3) ls st h) : mm_V G d M Q pc ls (.int x :: st) h :=
  fun p e R s m args below meth c n0 c0 s0 H locs cells slots lr C I L => lv_if_ge C.1 C.2.1 hd ht (fun z => kt z p e R s m args below meth c n0 c0 s0 H locs cells slots lr C I L) (fun z => kf z p e R s m args below meth c n0 c0 s0 H locs cells slots lr C I L)
theorem mv_ic_ge {x y : Int32} {off : Int} (tgt : Nat) (hd : decode M.2.1 pc = .ok (.if_icmp .ge off, 3)) (ht : (pc : Int) + off = (tgt : Int)) (kt : y ≤ x → mm_V G d M Q tgt ls st h) (kf : ¬ y ≤ x → mm_V G d M Q (pc + 3) ls st h) : mm_V G d M Q pc ls (.int y :: .int x :: st) h :=
  fun p e R s m args below meth c n0 c0 s0 H locs cells slots lr C I L => lv_icmp_ge C.1 C.2.1 hd ht (fun z => kt z p e R s m args below meth c n0 c0 s0 H locs cells slots lr C I L) (fun z => kf z p e R s m args below meth c n0 c0 s0 H locs cells slots lr C I L)
theorem mv_if_gt {x : Int32} {off : Int} (tgt : Nat) (hd : decode M.2.1 pc = .ok (.ifCond .gt off, 3)) (ht : (pc : Int) + off = (tgt : Int)) (kt : 0 < x → mm_V G d M Q tgt ls st h) (kf : ¬ 0 < x → mm_V G d M Q (pc + 3) ls st h) : mm_V G d M Q pc ls (.int x :: st) h :=
  fun p e R s m args below meth c n0 c0 s0 H locs cells slots lr C I L => lv_if_gt C.1 C.2.1 hd ht (fun z => kt z p e R s m args below meth c n0 c0 s0 H locs cells slots lr C I L) (fun z => kf z p e R s m args below meth c n0 c0 s0 H locs cells slots lr C I L)
theorem mv_ic_gt {x y : Int32} {off : Int} (tgt : Nat) (hd : decode M.2.1 pc = .ok (.if_icmp .gt off, 3)) (ht : (pc : Int) + off = (tgt : Int)) (kt : y < x → mm_V G d M Q tgt ls st h) (kf : ¬ y < x → mm_V G d M Q (pc + 3) ls st h) : mm_V G d M Q pc ls (.int y :: .int x :: st) h :=
  fun p e R s m args below meth c n0 c0 s0 H locs cells slots lr C I L => lv_icmp_gt C.1 C.2.1 hd ht (fun z => kt z p e R s m args below meth c n0 c0 s0 H locs cells slots lr C I L) (fun z => kf z p e R s m args below meth c n0 c0 s0 H locs cells slots lr C I L)
theorem mv_if_le {x : Int32} {off : Int} (tgt : Nat) (hd : decode M.2.1 pc = .ok (.ifCond .le off, 3)) (ht : (pc : Int) + off = (tgt : Int)) (kt : x ≤ 0 → mm_V G d M Q tgt ls st h) (kf : ¬ x ≤ 0 → mm_V G d M Q (pc + 3) ls st h) : mm_V G d M Q pc ls (.int x :: st) h :=
  fun p e R s m args below meth c n0 c0 s0 H locs cells slots lr C I L => lv_if_le C.1 C.2.1 hd ht (fun z => kt z p e R s m args below meth c n0 c0 s0 H locs cells slots lr C I L) (fun z => kf z p e R s m args below meth c n0 c0 s0 H locs cells slots lr C I L)
theorem mv_ic_le {x y : Int32} {off : Int} (tgt : Nat) (hd : decode M.2.1 pc = .ok (.if_icmp .le off, 3)) (ht : (pc : Int) + off = (tgt : Int)) (kt : x ≤ y → mm_V G d M Q tgt ls st h) (kf : ¬ x ≤ y → mm_V G d M Q (pc + 3) ls st h) : mm_V G d M Q pc ls (.int y :: .int x :: st) h :=
  fun p e R s m args below meth c n0 c0 s0 H locs cells slots lr C I L => lv_icmp_le C.1 C.2.1 hd ht (fun z => kt z p e R s m args below meth c n0 c0 s0 H locs cells slots lr C I L) (fun z => kf z p e R s m args below meth c n0 c0 s0 H locs cells slots lr C I L)
theorem mv_goto {off : Int} (tgt : Nat) (hd : decode M.2.1 pc = .ok (.goto off, 3)) (ht : (pc : Int) + off = (tgt : Int)) (k : mm_V G d M Q tgt ls st h) : mm_V G d M Q pc ls st h :=
  fun p e R s m args below meth c n0 c0 s0 H locs cells slots lr C I L => lv_goto C.1 C.2.1 hd ht (k p e R s m args below meth c n0 c0 s0 H locs cells slots lr C I L)
theorem mv_tabOut {dflt lo hi : Int} {offs : Array Int} {len : Nat} {x : Int32} (tgt : Nat) (hd : decode M.2.1 pc = .ok (.tableswitch dflt lo hi offs, len)) (hx : x.toInt < lo ∨ hi < x.toInt) (ht : (pc : Int) + dflt = (tgt : Int)) (k : mm_V G d M Q tgt ls st h) : mm_V G d M Q pc ls (.int x :: st) h :=
  fun p e R s m args below meth c n0 c0 s0 H locs cells slots lr C I L => lv_tableOut C.1 C.2.1 hd hx ht (k p e R s m args below meth c n0 c0 s0 H locs cells slots lr C I L)
theorem mv_tabIn {dflt lo hi off : Int} {offs : Array Int} {len : Nat} {x : Int32} (tgt : Nat) (hd : decode M.2.1 pc = .ok (.tableswitch dflt lo hi offs, len)) (h1 : ¬ x.toInt < lo) (h2 : ¬ hi < x.toInt) (ho : offs[(x.toInt - lo).toNat]? = some off) (ht : (pc : Int) + off = (tgt : Int)) (k : mm_V G d M Q tgt ls st h) : mm_V G d M Q pc ls (.int x :: st) h :=
  fun p e R s m args below meth c n0 c0 s0 H locs cells slots lr C I L => lv_tableIn C.1 C.2.1 hd h1 h2 ho ht (k p e R s m args below meth c n0 c0 s0 H locs cells slots lr C I L)
theorem mv_look {dflt off : Int} {ps : Array (Int × Int)} {len : Nat} {x : Int32} (tgt : Nat) (hd : decode M.2.1 pc = .ok (.lookupswitch dflt ps, len)) (hp : (ps.toList.zip (ps.toList.drop 1)).all (fun (a, next) => a.1 < next.1) = true) (ho : Op.lookupswitch.offset ps.toList dflt x.toInt = off) (ht : (pc : Int) + off = (tgt : Int)) (k : mm_V G d M Q tgt ls st h) : mm_V G d M Q pc ls (.int x :: st) h :=
  fun p e R s m args below meth c n0 c0 s0 H locs cells slots lr C I L => lv_lookup C.1 C.2.1 hd hp ho ht (k p e R s m args below meth c n0 c0 s0 H locs cells slots lr C I L)
theorem mm_W_mono {p : Program} {l : Launch} {e : Env} {R : Room} {s : State} {m : MethodId} {args : Array Value} {below : List Frame} {meth : Method} {c : Code} {H : Heap} {locs : List Loc} {cells slots : Nat} {Q Q' : State → Prop} {g : JFrame} (k : W p l e R s m args below meth c H locs cells slots Q g) (hq : ∀ t, Q t → Q' t) : W p l e R s m args below meth c H locs cells slots Q' g := by
  intro T hT X
  obtain ⟨t, a, b⟩ := k T hT X
  exact ⟨t, a, hq t b⟩
theorem mm_End_of {s : State} {args : Array Value} {below : List Frame} {H : Heap} {locs : List Loc} {n0 c0 s0 cells slots : Nat} {v : Option Value} (I : mm_In G h s H locs n0 c0 s0 cells slots) (hq : Q (.inl v) h) (t : State)
    (ht : MQ below (fun _ _ o t => o = .returned (v.map (mm_tr (mm_b G) (mm_sc G))) ∧ t.heap = H) args s cells slots (mm_A (mm_b G) n0 s) t) : mm_End G Q n0 c0 s0 below s t := by
  obtain ⟨o, h1, h2, ⟨h3, h4⟩, L, ⟨-, h5, h6⟩, h7⟩ := ht
  obtain ⟨i1, i2, i3⟩ := I
  exact ⟨o, h1, h2, .inl v, h, L, cells, slots, h5, h6, ⟨by rw [h4]; exact i1, ⟨by rw [h4]; exact i2.1, fun q a b => by rw [h4]; exact i2.2.1 q a b, h7⟩, i3⟩, h3, hq⟩
theorem mv_ret (hd : decode M.2.1 pc = .ok (.return_, 1)) (hr : M.2.2.2.1 = none) (hq : Q (.inl none) h) : mm_V G d M Q pc ls [] h := by
  intro p e R s m args below meth c n0 c0 s0 H locs cells slots lr C I L
  have hlocks := C.2.2.2.2.2.1
  refine mm_W_mono (W.vret (Qc := fun _ _ o t => o = .returned ((none : Option Value).map (mm_tr (mm_b G) (mm_sc G))) ∧ t.heap = H) (free := mm_A (mm_b G) n0 s) C.1 C.2.1 (C.2.2.2.1.trans hr) (fun t ht _ => ⟨rfl, ht⟩) I.2.1.2.2 hd) (mm_End_of I hq)
theorem mv_iret {x : Int32} {ty : FieldType} (hd : decode M.2.1 pc = .ok (.ireturn, 1)) (hr : M.2.2.2.1 = some ty) (hn : narrow ty (.int x) = .int x) (hq : Q (.inl (some (.int x))) h) : mm_V G d M Q pc ls [.int x] h := by
  intro p e R s m args below meth c n0 c0 s0 H locs cells slots lr C I L
  have hlocks := C.2.2.2.2.2.1
  refine mm_W_mono (W.zret (Qc := fun _ _ o t => o = .returned ((some (Value.int x)).map (mm_tr (mm_b G) (mm_sc G))) ∧ t.heap = H) (free := mm_A (mm_b G) n0 s) C.1 C.2.1 (C.2.2.2.1.trans hr) hn (fun t ht _ => ⟨rfl, ht⟩) I.2.1.2.2 hd) (mm_End_of I hq)
theorem mv_aret {x : Nat} {ty : FieldType} (hd : decode M.2.1 pc = .ok (.areturn, 1)) (hr : M.2.2.2.1 = some ty) (hn : (∃ n, ty = .object n) ∨ ∃ t, ty = .array t) (hq : Q (.inl (some (.ref x))) h) : mm_V G d M Q pc ls [.ref x] h := by
  intro p e R s m args below meth c n0 c0 s0 H locs cells slots lr C I L
  have hlocks := C.2.2.2.2.2.1
  refine mm_W_mono (W.aret (v := .ref (mm_ad (mm_b G) (mm_sc G) x)) (Qc := fun _ _ o t => o = .returned ((some (Value.ref x)).map (mm_tr (mm_b G) (mm_sc G))) ∧ t.heap = H) (free := mm_A (mm_b G) n0 s) C.1 C.2.1 (C.2.2.2.1.trans hr) hn (Or.inr ⟨_, rfl⟩) (fun t ht _ => ⟨rfl, ht⟩) I.2.1.2.2 hd) (mm_End_of I hq)
end MV
