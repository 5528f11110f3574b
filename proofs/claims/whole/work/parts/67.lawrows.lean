/-! THE SMALL MACHINE: its rows once more, for a method of whose entry state P is known (by program: gen_lawrows.py) -/
def mm_VP (P : State → Prop) (G : mm_G) (d : Nat × Nat) (M : mm_M) (Q : mm_O → mm_H → Prop) (pc : Nat) (ls : List (Option Value)) (st : List Value) (h : mm_H) : Prop :=
  ∀ (p : Program) (e : Env) (R : Room) (s : State) (m : MethodId) (args : Array Value) (below : List Frame) (meth : Method) (c : Code) (n0 c0 s0 : Nat) (H : Heap) (locs : List Loc) (cells slots : Nat) (lr : Array Slot),
    P s → mm_Cx G d M p e R s m args meth c n0 c0 s0 → mm_In G h s H locs n0 c0 s0 cells slots → mm_L (mm_b G) (mm_sc G) M.2.2.1 ls lr →
    W p G.1 e R s m args below meth c H locs cells slots (mm_End G Q n0 c0 s0 below s) (F0 m pc lr (st.map (mm_tr (mm_b G) (mm_sc G))))
section MVP
variable {P : State → Prop} {G : mm_G} {d : Nat × Nat} {M : mm_M} {Q : mm_O → mm_H → Prop} {pc : Nat} {ls : List (Option Value)} {st : List Value} {h : mm_H}
theorem mp_iconst {n : Int} {v : Int32} (hd : decode M.2.1 pc = .ok (.iconst n, 1)) (hv : Int32.ofInt n = v) (k : mm_VP P G d M Q (pc + 1) ls (.int v :: st) h) : mm_VP P G d M Q pc ls (st) h :=
  fun p e R s m args below meth c n0 c0 s0 H locs cells slots lr HP C I L => lv_iconst C.1 C.2.1 hd hv (k p e R s m args below meth c n0 c0 s0 H locs cells slots lr HP C I L)
theorem mp_bipush {n : Int} {v : Int32} (hd : decode M.2.1 pc = .ok (.bipush n, 2)) (hv : (Int8.ofInt n).toInt32 = v) (k : mm_VP P G d M Q (pc + 2) ls (.int v :: st) h) : mm_VP P G d M Q pc ls (st) h :=
  fun p e R s m args below meth c n0 c0 s0 H locs cells slots lr HP C I L => lv_bipush C.1 C.2.1 hd hv (k p e R s m args below meth c n0 c0 s0 H locs cells slots lr HP C I L)
theorem mp_iload {i : Nat} {x : Int32} (hd : decode M.2.1 pc = .ok (.iload i, 2)) (hl : ls[i]? = some (some (.int x))) (k : mm_VP P G d M Q (pc + 2) ls (.int x :: st) h) : mm_VP P G d M Q pc ls st h :=
  fun p e R s m args below meth c n0 c0 s0 H locs cells slots lr HP C I L => lv_iload C.1 C.2.1 hd (L.2.2.2 _ _ hl).2 (k p e R s m args below meth c n0 c0 s0 H locs cells slots lr HP C I L)
theorem mp_aload_n {k0 : Fin 4} {x : Nat} (hd : decode M.2.1 pc = .ok (.aload_n k0, 1)) (hl : ls[k0.val]? = some (some (.ref x))) (k : mm_VP P G d M Q (pc + 1) ls (.ref x :: st) h) : mm_VP P G d M Q pc ls st h :=
  fun p e R s m args below meth c n0 c0 s0 H locs cells slots lr HP C I L => lv_aload_n C.1 C.2.1 hd rfl (L.2.2.2 _ _ hl).2 (k p e R s m args below meth c n0 c0 s0 H locs cells slots lr HP C I L)
theorem mp_istore {i : Nat} {x : Int32} (hd : decode M.2.1 pc = .ok (.istore i, 2)) (hn : i < M.2.2.1) (k : mm_VP P G d M Q (pc + 2) (ls.set i (some (.int x))) st h) : mm_VP P G d M Q pc ls (.int x :: st) h :=
  fun p e R s m args below meth c n0 c0 s0 H locs cells slots lr HP C I L => lv_istore C.1 C.2.1 hd L.has hn rfl fun lr2 hL2 => k p e R s m args below meth c n0 c0 s0 H locs cells slots lr2 HP C I (L.set rfl hL2)
theorem mp_astore_n {k0 : Fin 4} {x : Nat} (hd : decode M.2.1 pc = .ok (.astore_n k0, 1)) (hn : k0.val < M.2.2.1) (k : mm_VP P G d M Q (pc + 1) (ls.set k0.val (some (.ref x))) st h) : mm_VP P G d M Q pc ls (.ref x :: st) h :=
  fun p e R s m args below meth c n0 c0 s0 H locs cells slots lr HP C I L => lv_astore_n C.1 C.2.1 hd rfl L.has hn rfl fun lr2 hL2 => k p e R s m args below meth c n0 c0 s0 H locs cells slots lr2 HP C I (L.set rfl hL2)
theorem mp_iinc {i : Nat} {n : Int} {x v : Int32} (hd : decode M.2.1 pc = .ok (.iinc i n, 3)) (hl : ls[i]? = some (some (.int x))) (hv : x + Int32.ofInt n = v) (hn : i < M.2.2.1) (k : mm_VP P G d M Q (pc + 3) (ls.set i (some (.int v))) st h) : mm_VP P G d M Q pc ls st h := by
  intro p e R s m args below meth c n0 c0 s0 H locs cells slots lr HP C I L
  obtain ⟨q, hq⟩ := List.getElem?_of_mem (mm_lv_mem (b := mm_b G) (sc := mm_sc G) (q := (i, .int x)).mpr ⟨.int x, hl, rfl⟩)
  exact lv_iinc (k := q) C.1 C.2.1 hd L.has hq hv hn rfl fun lr2 hL2 => k p e R s m args below meth c n0 c0 s0 H locs cells slots lr2 HP C I (L.set rfl hL2)
theorem mp_iadd {x y : Int32} (hd : decode M.2.1 pc = .ok (.iadd, 1)) (k : mm_VP P G d M Q (pc + 1) ls (.int (x + y) :: st) h) : mm_VP P G d M Q pc ls (.int y :: .int x :: st) h :=
  fun p e R s m args below meth c n0 c0 s0 H locs cells slots lr HP C I L => lv_iadd C.1 C.2.1 hd (k p e R s m args below meth c n0 c0 s0 H locs cells slots lr HP C I L)
theorem mp_isub {x y : Int32} (hd : decode M.2.1 pc = .ok (.isub, 1)) (k : mm_VP P G d M Q (pc + 1) ls (.int (x - y) :: st) h) : mm_VP P G d M Q pc ls (.int y :: .int x :: st) h :=
  fun p e R s m args below meth c n0 c0 s0 H locs cells slots lr HP C I L => lv_isub C.1 C.2.1 hd (k p e R s m args below meth c n0 c0 s0 H locs cells slots lr HP C I L)
theorem mp_iand {x y : Int32} (hd : decode M.2.1 pc = .ok (.iand, 1)) (k : mm_VP P G d M Q (pc + 1) ls (.int (x &&& y) :: st) h) : mm_VP P G d M Q pc ls (.int y :: .int x :: st) h :=
  fun p e R s m args below meth c n0 c0 s0 H locs cells slots lr HP C I L => lv_iand C.1 C.2.1 hd (k p e R s m args below meth c n0 c0 s0 H locs cells slots lr HP C I L)
theorem mp_i2l {x : Int32} (hd : decode M.2.1 pc = .ok (.i2l, 1)) (k : mm_VP P G d M Q (pc + 1) ls (.long x.toInt64 :: st) h) : mm_VP P G d M Q pc ls (.int x :: st) h :=
  fun p e R s m args below meth c n0 c0 s0 H locs cells slots lr HP C I L => lv_i2l C.1 C.2.1 hd rfl (k p e R s m args below meth c n0 c0 s0 H locs cells slots lr HP C I L)
theorem mp_lcmp {x y : Int64} (hd : decode M.2.1 pc = .ok (.lcmp, 1)) (k : mm_VP P G d M Q (pc + 1) ls (.int (lg_cmp x y) :: st) h) : mm_VP P G d M Q pc ls (.long y :: .long x :: st) h :=
  fun p e R s m args below meth c n0 c0 s0 H locs cells slots lr HP C I L => W.lcmp C.1 C.2.1 hd (k p e R s m args below meth c n0 c0 s0 H locs cells slots lr HP C I L)
theorem mp_dup {v : Value} (hd : decode M.2.1 pc = .ok (.dup, 1)) (hv : v.category = 1) (k : mm_VP P G d M Q (pc + 1) ls (v :: v :: st) h) : mm_VP P G d M Q pc ls (v :: st) h :=
  fun p e R s m args below meth c n0 c0 s0 H locs cells slots lr HP C I L => lv_dup C.1 C.2.1 hd (by rw [mm_tr_cat]; exact hv) (k p e R s m args below meth c n0 c0 s0 H locs cells slots lr HP C I L)
theorem mp_if_eq {x : Int32} {off : Int} (tgt : Nat) (hd : decode M.2.1 pc = .ok (.ifCond .eq off, 3)) (ht : (pc : Int) + off = (tgt : Int)) (kt : x = 0 → mm_VP P G d M Q tgt ls st h) (kf : ¬ x = 0 → mm_VP P G d M Q (pc + 3) ls st h) : mm_VP P G d M Q pc ls (.int x :: st) h :=
  fun p e R s m args below meth c n0 c0 s0 H locs cells slots lr HP C I L => lv_if_eq C.1 C.2.1 hd ht (fun z => kt z p e R s m args below meth c n0 c0 s0 H locs cells slots lr HP C I L) (fun z => kf z p e R s m args below meth c n0 c0 s0 H locs cells slots lr HP C I L)
theorem mp_ic_eq {x y : Int32} {off : Int} (tgt : Nat) (hd : decode M.2.1 pc = .ok (.if_icmp .eq off, 3)) (ht : (pc : Int) + off = (tgt : Int)) (kt : x = y → mm_VP P G d M Q tgt ls st h) (kf : ¬ x = y → mm_VP P G d M Q (pc + 3) ls st h) : mm_VP P G d M Q pc ls (.int y :: .int x :: st) h :=
  fun p e R s m args below meth c n0 c0 s0 H locs cells slots lr HP C I L => lv_icmp_eq C.1 C.2.1 hd ht (fun z => kt z p e R s m args below meth c n0 c0 s0 H locs cells slots lr HP C I L) (fun z => kf z p e R s m args below meth c n0 c0 s0 H locs cells slots lr HP C I L)
theorem mp_if_ne {x : Int32} {off : Int} (tgt : Nat) (hd : decode M.2.1 pc = .ok (.ifCond .ne off, 3)) (ht : (pc : Int) + off = (tgt : Int)) (kt : ¬ x = 0 → mm_VP P G d M Q tgt ls st h) (kf : x = 0 → mm_VP P G d M Q (pc + 3) ls st h) : mm_VP P G d M Q pc ls (.int x :: st) h :=
  fun p e R s m args below meth c n0 c0 s0 H locs cells slots lr HP C I L => lv_if_ne C.1 C.2.1 hd ht (fun z => kt z p e R s m args below meth c n0 c0 s0 H locs cells slots lr HP C I L) (fun z => kf z p e R s m args below meth c n0 c0 s0 H locs cells slots lr HP C I L)
theorem mp_ic_ne {x y : Int32} {off : Int} (tgt : Nat) (hd : decode M.2.1 pc = .ok (.if_icmp .ne off, 3)) (ht : (pc : Int) + off = (tgt : Int)) (kt : ¬ x = y → mm_VP P G d M Q tgt ls st h) (kf : x = y → mm_VP P G d M Q (pc + 3) ls st h) : mm_VP P G d M Q pc ls (.int y :: .int x :: st) h :=
  fun p e R s m args below meth c n0 c0 s0 H locs cells slots lr HP C I L => lv_icmp_ne C.1 C.2.1 hd ht (fun z => kt z p e R s m args below meth c n0 c0 s0 H locs cells slots lr HP C I L) (fun z => kf z p e R s m args below meth c n0 c0 s0 H locs cells slots lr HP C I L)
theorem mp_ic_gt {x y : Int32} {off : Int} (tgt : Nat) (hd : decode M.2.1 pc = .ok (.if_icmp .gt off, 3)) (ht : (pc : Int) + off = (tgt : Int)) (kt : y < x → mm_VP P G d M Q tgt ls st h) (kf : ¬ y < x → mm_VP P G d M Q (pc + 3) ls st h) : mm_VP P G d M Q pc ls (.int y :: .int x :: st) h :=
  fun p e R s m args below meth c n0 c0 s0 H locs cells slots lr HP C I L => lv_icmp_gt C.1 C.2.1 hd ht (fun z => kt z p e R s m args below meth c n0 c0 s0 H locs cells slots lr HP C I L) (fun z => kf z p e R s m args below meth c n0 c0 s0 H locs cells slots lr HP C I L)
theorem mp_goto {off : Int} (tgt : Nat) (hd : decode M.2.1 pc = .ok (.goto off, 3)) (ht : (pc : Int) + off = (tgt : Int)) (k : mm_VP P G d M Q tgt ls st h) : mm_VP P G d M Q pc ls st h :=
  fun p e R s m args below meth c n0 c0 s0 H locs cells slots lr HP C I L => lv_goto C.1 C.2.1 hd ht (k p e R s m args below meth c n0 c0 s0 H locs cells slots lr HP C I L)
theorem mp_tabOut {dflt lo hi : Int} {offs : Array Int} {len : Nat} {x : Int32} (tgt : Nat) (hd : decode M.2.1 pc = .ok (.tableswitch dflt lo hi offs, len)) (hx : x.toInt < lo ∨ hi < x.toInt) (ht : (pc : Int) + dflt = (tgt : Int)) (k : mm_VP P G d M Q tgt ls st h) : mm_VP P G d M Q pc ls (.int x :: st) h :=
  fun p e R s m args below meth c n0 c0 s0 H locs cells slots lr HP C I L => lv_tableOut C.1 C.2.1 hd hx ht (k p e R s m args below meth c n0 c0 s0 H locs cells slots lr HP C I L)
theorem mp_tabIn {dflt lo hi off : Int} {offs : Array Int} {len : Nat} {x : Int32} (tgt : Nat) (hd : decode M.2.1 pc = .ok (.tableswitch dflt lo hi offs, len)) (h1 : ¬ x.toInt < lo) (h2 : ¬ hi < x.toInt) (ho : offs[(x.toInt - lo).toNat]? = some off) (ht : (pc : Int) + off = (tgt : Int)) (k : mm_VP P G d M Q tgt ls st h) : mm_VP P G d M Q pc ls (.int x :: st) h :=
  fun p e R s m args below meth c n0 c0 s0 H locs cells slots lr HP C I L => lv_tableIn C.1 C.2.1 hd h1 h2 ho ht (k p e R s m args below meth c n0 c0 s0 H locs cells slots lr HP C I L)
theorem mp_iret {x : Int32} {ty : FieldType} (hd : decode M.2.1 pc = .ok (.ireturn, 1)) (hr : M.2.2.2.1 = some ty) (hn : narrow ty (.int x) = .int x) (hq : Q (.inl (some (.int x))) h) : mm_VP P G d M Q pc ls [.int x] h := by
  intro p e R s m args below meth c n0 c0 s0 H locs cells slots lr HP C I L
  have hlocks := C.2.2.2.2.2.1
  refine mm_W_mono (W.zret (Qc := fun _ _ o t => o = .returned ((some (Value.int x)).map (mm_tr (mm_b G) (mm_sc G))) ∧ t.heap = H) (free := mm_A (mm_b G) n0 s) C.1 C.2.1 (C.2.2.2.1.trans hr) hn (fun t ht _ => ⟨rfl, ht⟩) I.2.1.2.2 hd) (mm_End_of I hq)
theorem mp_lald {a n : Nat} {i : Int32} (hd : decode M.2.1 pc = .ok (.laload, 1)) (hs : mm_sh a = (103, n)) (h0 : 0 < a) (h1 : a < mm_n h) (hin : vp_in i n)
    (k : mm_VP P G d M Q (pc + 1) ls (.long (mm_gl h a i.toNatClampNeg) :: st) h) : mm_VP P G d M Q pc ls (.int i :: .ref a :: st) h := by
  intro p e R s m args below meth c n0 c0 s0 H locs cells slots lr HP C I L
  have kk := k p e R s m args below meth c n0 c0 s0 H locs cells slots lr HP C I L
  obtain ⟨hx, hb, -, -, hown, -, -, -, hts, -, -, hK, -⟩ := C
  have he := mm_ws_at (b := mm_b G) (sc := mm_sc G) (cA := mm_cA G) h0 h1
  rw [mm_cell_l hs] at he
  refine W.eq (g2 := F0 m pc lr (.int i :: .ref (mm_b G + a) :: st.map (mm_tr (mm_b G) (mm_sc G)))) (by simp [mm_tr, mm_ad_pos h0]) ?_
  exact va_lald hx hb hK I.1 (a - 1) 3 he rfl hin hd kk
theorem mp_new {index ci n : Nat} (hd : decode M.2.1 pc = .ok (.new index, 3)) (hF : mm_NL M.1.cls index ci n) (hs : mm_sh (mm_n h) = (ci, n)) (hz : mm_c h + 1 = mm_n h) (hc : mm_c h + 1 ≤ mm_BC G) (hsl : mm_s h + n ≤ mm_BS G)
    (k : mm_VP P G d M Q (pc + 3) ls (.ref (mm_n h) :: st) (mm_new h n)) : mm_VP P G d M Q pc ls st h := by
  intro p e R s m args below meth c n0 c0 s0 H locs cells slots lr HP C I L T0 hT0 X0
  obtain ⟨Cn, T, g1, ⟨g2, -, -⟩, g7, w1, w2, w3, g8⟩ := hF
  have kk := fun H1 I' => k p e R s m args below meth c n0 c0 s0 H1 locs (cells + 1) (slots + n) lr HP C I' L
  obtain ⟨hx, hb, -, -, hown, -, -, -, hts, -, -, hK, -, -, -, -, -, r1, r2⟩ := C
  have hsz : H.size = mm_b G + mm_n h := by rw [← hT0]; exact mm_In.size (by rw [hT0]; exact I) X0 hz
  obtain ⟨i1, i2, i3, i4, i5, i6, i7, i8, i9, i10, i11⟩ := id I
  have hK1 := hK.1 ci _ g1
  suffices hW : W p G.1 e R s m args below meth c H locs cells slots (mm_End G Q n0 c0 s0 below s) (F0 m pc lr (st.map (mm_tr (mm_b G) (mm_sc G)))) from hW T0 hT0 X0
  refine W.newcK (h := H.size) hx hb hown (hts _ w1) (hts _ w2) (hts _ w3) rfl hd (by omega) (by omega) hK1.2.1 rfl (fun H1 kC hkC hcell e1 e2 => ?_)
  have hborn : t_OB (mm_b G + mm_n h) ((mm_D G).1 ci) n ((mm_D G).2 ci) H1 (vp_V ((List.range n).map (mm_fv (mm_b G) (mm_sc G) (mm_new h n) (mm_n h) ci))) := by
    rw [← hsz]
    have hty : ∀ k, ∃ ty, k < n → parseFieldDescriptor (T k).2.2.1 = some ty ∧ defaultValue ty = if mm_isr ci k = true then .null else .int 0 := fun k => by
      by_cases hk : k < n
      · obtain ⟨ty, h1, h2⟩ := g8 k hk
        exact ⟨ty, fun _ => ⟨h1, h2⟩⟩
      · exact ⟨.int, fun q => absurd q hk⟩
    refine t_OB.to (u_born (fun k => Classical.choose (hty k)) hts g2 hK1 hkC hcell (fun k hk => (Classical.choose_spec (hty k) hk).1)) (fun k hk => ?_)
    rw [(Classical.choose_spec (hty k) hk).2]
    simp only [vp_V, List.getD_eq_getElem?_getD, List.getElem?_map, List.getElem?_range hk, Option.map_some, Option.getD_some, mm_fv]
    split
    · simp [mm_gr, mm_new, va_rf]
    · simp [mm_gi, mm_new]
  refine W.eq (g2 := F0 m (pc + 3) lr ((.ref (mm_n h) :: st).map (mm_tr (mm_b G) (mm_sc G)))) ?_ (kk H1 (mm_In.grown I (by omega) hsz hc hsl e1 e2 ?_))
  · simp [mm_tr, mm_ad_pos (show 0 < mm_n h by omega), hsz]
  · rw [mm_cell_o hs g7]
    exact ⟨_, g1, hborn⟩
theorem mp_newl {atype : ArrayType} {i : Int32} {n : Nat} (hd : decode M.2.1 pc = .ok (.newarray atype, 2)) (hty : newarray.typeOf atype = .long) (hw : Cond.arrayClass .long ∈ mm_WS) (hi : ¬ i < 0) (hn : i.toNatClampNeg = n) (hby : n ≤ 65536) (hs : mm_sh (mm_n h) = (103, n)) (hz : mm_c h + 1 = mm_n h) (hc : mm_c h + 1 ≤ mm_BC G) (hsl : mm_s h + n ≤ mm_BS G)
    (k : mm_VP P G d M Q (pc + 2) ls (.ref (mm_n h) :: st) (mm_new h n)) : mm_VP P G d M Q pc ls (.int i :: st) h := by
  intro p e R s m args below meth c n0 c0 s0 H locs cells slots lr HP C I L T0 hT0 X0
  have kk := fun H1 I' => k p e R s m args below meth c n0 c0 s0 H1 locs (cells + 1) (slots + n) lr HP C I' L
  obtain ⟨hx, hb, -, -, hown, -, -, -, hts, -, -, hK, -, -, -, -, -, r1, r2⟩ := C
  have hsz : H.size = mm_b G + mm_n h := by rw [← hT0]; exact mm_In.size (by rw [hT0]; exact I) X0 hz
  obtain ⟨i1, i2, i3, i4, i5, i6, i7, i8, i9, i10, i11⟩ := id I
  suffices hW : W p G.1 e R s m args below meth c H locs cells slots (mm_End G Q n0 c0 s0 below s) (F0 m pc lr ((.int i :: st).map (mm_tr (mm_b G) (mm_sc G)))) from hW T0 hT0 X0
  refine va_newaK (h := H.size) (N := n) hx hb (by rw [hty]; exact hts _ hw) rfl hd rfl hi hn (by rw [hty]; simp only [componentBytes]; omega) (by omega) (by omega) rfl (fun H1 cA hcell e1 e2 ho hf => ?_)
  rw [hty] at hcell hf
  have hcA : cA = mm_cA G 3 := Option.some.inj (hf.symm.trans (hK.2 3 _ rfl).2)
  refine W.eq (g2 := F0 m (pc + 2) lr ((.ref (mm_n h) :: st).map (mm_tr (mm_b G) (mm_sc G)))) ?_ (kk H1 (mm_In.grown I (by omega) hsz hc hsl e1 e2 ?_))
  · simp [mm_tr, mm_ad_pos (show 0 < mm_n h by omega), hsz]
  · rw [mm_cell_l hs]
    show H1[mm_b G + mm_n h]? = some (vp_cell (mm_cA G 3) (n, .inr (.inl (mm_gl (mm_new h n) (mm_n h)))))
    rw [← hsz, hcell, hcA, vp_cell_l]
    congr 2
    funext j
    simp [mm_gl, mm_new, defaultValue]
def mm_KP (P : State → Prop) (G : mm_G) (d : Nat × Nat) (M : mm_M) (Q : mm_O → mm_H → Prop) (pc : Nat) (ls : List (Option Value)) (st : List Value) : mm_O → mm_H → Prop := fun r h => match r with
  | .inl none => mm_VP P G d M Q pc ls st h
  | .inl (some v) => mm_VP P G d M Q pc ls (v :: st) h
  | .inr x => Q (.inr x) h
theorem mm_afterP {p : Program} {e : Env} {R : Room} {s : State} {m : MethodId} {args : Array Value} {below : List Frame} {meth : Method} {c : Code} {n0 c0 s0 : Nat} {lr : Array Slot} {st0 : List Value} {U : State} (HP : P s) (C : mm_Cx G d M p e R s m args meth c n0 c0 s0) (L : mm_L (mm_b G) (mm_sc G) M.2.2.1 ls lr) (hh : M.2.2.2.2 = [])
    (h : mm_Bk G p e R s m args below meth c n0 c0 s0 (mm_KP P G d M Q (pc + 3) ls st) (F0 m pc lr st0) (st.map (mm_tr (mm_b G) (mm_sc G))) U) : ∃ t, Steps p.tables e below U t ∧ mm_End G Q n0 c0 s0 below s t := by
  rcases h with ⟨v, h1, T1, locs1, cells1, slots1, X1, I1, hq, hs⟩ | ⟨x, a, ce, h1, T1, locs1, cells1, slots1, X1, I1, hq, ha, hce, hcs, hcl, hs⟩
  · have hq : mm_VP P G d M Q (pc + 3) ls (v.toList ++ st) h1 := by cases v <;> exact hq
    obtain ⟨t, t1, t2⟩ := hq p e R s m args below meth c n0 c0 s0 T1.heap locs1 cells1 slots1 lr HP C I1 L T1 rfl X1
    refine ⟨t, hs.trans ?_, t2⟩
    have e1 : (v.map (mm_tr (mm_b G) (mm_sc G))).toList ++ st.map (mm_tr (mm_b G) (mm_sc G)) = (v.toList ++ st).map (mm_tr (mm_b G) (mm_sc G)) := by cases v <;> simp
    rw [e1]
    exact t1
  · have hq : Q (.inr x) h1 := hq
    have hlk := C.2.2.2.2.2.1
    have htab : c.exceptionTable.toList = [] := by
      have := C.2.2.2.2.2.2.2.1
      rw [hh] at this
      exact List.map_eq_nil_iff.mp this
    obtain ⟨s1, s2, s3, s4, s5⟩ := X1.leaveThrown a (g := { F0 m pc lr st0 with stack := st.map (mm_tr (mm_b G) (mm_sc G)) }) rfl rfl rfl (fun z hz => by rw [htab] at hz; cases hz) hlk
    exact ⟨_, hs.trans s1, .threw a, s2, s3, .inr x, h1, locs1, cells1, slots1, s4, s5, I1, ⟨a, ce, rfl, ha, hce, hcs, hcl⟩, hq⟩
theorem mp_callS {index n : Nat} {d2 : Nat × Nat} {M2 : mm_M} {av : List Value} (hd : decode M.2.1 pc = .ok (.invokestatic index, 3)) (hO : mm_OK M2 n) (hI : mm_LI M.1.cls index M2.1) (hS : Cond.static M2.1 ∈ mm_WS) (hn : av.length = n ∧ n ≤ M2.2.2.1) (hcat : ∀ w ∈ av, w.category = 1) (hst : (st.map fun v => v.category).sum ≤ 8) (hh : M.2.2.2.2 = []) (hd2 : d2.1 + 1 ≤ d.1 ∧ 8 + (M2.2.2.1 + 11) + d2.2 ≤ d.2)
    (hV : mm_V G d2 M2 (mm_KP P G d M Q (pc + 3) ls st) 0 (mm_ent M2.2.2.1 av) [] h) : mm_VP P G d M Q pc ls (av.reverse ++ st) h := by
  intro p e R s m args below meth c n0 c0 s0 H locs cells slots lr HP C I L T hT X
  subst hT
  obtain ⟨o1, o2, o3, o5, o6⟩ := hO
  obtain ⟨hx, hb, hml, -, hown, -, -, -, hts, -⟩ := id C
  have hdg : decode c.code pc = .ok (.invokestatic index, 3) := by rw [hb]; exact hd
  refine mm_afterP HP C L hh (mm_invoke (g := F0 m pc lr ((av.reverse ++ st).map (mm_tr (mm_b G) (mm_sc G)))) (rest := st.map (mm_tr (mm_b G) (mm_sc G))) C X I hV hd2 o1 o2 o3 hcat (by omega) rfl (by rw [hml]; exact L.2.1) rfl (by rw [mm_cat_map]; exact hst) hdg ?_)
  exact mm_lkS X hx hown (hI.word hts) (hts _ hS) (hts _ o3) (o2.word hts) o5 rfl (by rw [List.length_map, hn.1]; exact o6) (by simp) hdg
theorem mp_callV {index n ci N a : Nat} {d2 : Nat × Nat} {M2 : mm_M} {av : List Value} (hd : decode M.2.1 pc = .ok (.invokevirtual index, 3)) (hO : mm_OK M2 n) (hI : mm_LI M.1.cls index M2.1) (hS : Cond.instanceMethod M2.1 ∈ mm_WS ∧ Cond.selects M2.1.cls M2.1 M2.1 ∈ mm_WS) (hsh : mm_sh a = (ci, N)) (hci : ci < 100 ∧ vwCl[ci]?.map (·.1) = some M2.1.cls) (h0 : 0 < a) (h1 : a < mm_n h) (hn : av.length = n ∧ n + 1 ≤ M2.2.2.1) (hcat : ∀ w ∈ av, w.category = 1) (hst : (st.map fun v => v.category).sum ≤ 8) (hh : M.2.2.2.2 = []) (hd2 : d2.1 + 1 ≤ d.1 ∧ 8 + (M2.2.2.1 + 11) + d2.2 ≤ d.2)
    (hV : mm_V G d2 M2 (mm_KP P G d M Q (pc + 3) ls st) 0 (mm_ent M2.2.2.1 (.ref a :: av)) [] h) : mm_VP P G d M Q pc ls (av.reverse ++ .ref a :: st) h := by
  intro p e R s m args below meth c n0 c0 s0 H locs cells slots lr HP C I L T hT X
  subst hT
  obtain ⟨o1, o2, o3, o5, o6⟩ := hO
  obtain ⟨hx, hb, hml, -, hown, -, -, -, hts, -, -, hK, -⟩ := id C
  have hdg : decode c.code pc = .ok (.invokevirtual index, 3) := by rw [hb]; exact hd
  have hcat' : ∀ w ∈ Value.ref a :: av, w.category = 1 := fun w hw => by
    rcases List.mem_cons.mp hw with rfl | hw
    · rfl
    · exact hcat w hw
  have he := mm_ws_at (b := mm_b G) (sc := mm_sc G) (cA := mm_cA G) h0 h1
  rw [mm_cell_o hsh hci.1] at he
  obtain ⟨r, hr, cell, g1, g2, g3, -⟩ := I.1 _ _ he
  have hrc : r.1 = M2.1.cls := by have := hci.2; rw [hr] at this; exact Option.some.inj this
  have hK1 := (hK.1 ci r hr).2.1
  refine mm_afterP HP C L hh (mm_invoke (g := F0 m pc lr ((av.reverse ++ .ref a :: st).map (mm_tr (mm_b G) (mm_sc G)))) (rest := st.map (mm_tr (mm_b G) (mm_sc G))) C X I hV hd2 o1 o2 o3 hcat' (by simp; omega) rfl (by rw [hml]; exact L.2.1) rfl (by rw [mm_cat_map]; exact hst) hdg ?_)
  have e1 : (Value.ref a :: av).map (mm_tr (mm_b G) (mm_sc G)) = .ref (mm_b G + a) :: av.map (mm_tr (mm_b G) (mm_sc G)) := by simp [mm_tr, mm_ad_pos h0]
  rw [e1]
  exact mm_lkV X hx hown (hI.word hts) (hts _ hS.1) (hts _ hS.2) (o2.word hts) o5 (cellB := cell) g1 (by rw [g3]; rfl) (by rw [g2, ← hrc]; exact hK1) rfl (by rw [List.length_map, hn.1]; exact o6) (by simp [mm_tr, mm_ad_pos h0]) hdg
theorem mp_callI {index n a : Nat} {d2 : Nat × Nat} {M2 : mm_M} {av : List Value} (hd : decode M.2.1 pc = .ok (.invokespecial index, 3)) (hO : mm_OK M2 n) (hI : mm_LI M.1.cls index M2.1) (hi : M2.1.name = "<init>" ∧ M2.2.2.2.1 = none) (hS : Cond.instanceMethod M2.1 ∈ mm_WS) (hw : Cond.code M2.1 M2.2.1 M2.2.2.1 M2.2.2.2.1 ∈ mm_WS) (h0 : 0 < a) (hn : av.length = n ∧ n + 1 ≤ M2.2.2.1) (hcat : ∀ w ∈ av, w.category = 1) (hst : (st.map fun v => v.category).sum ≤ 8) (hh : M.2.2.2.2 = []) (hd2 : d2.1 + 1 ≤ d.1 ∧ 8 + (M2.2.2.1 + 11) + d2.2 ≤ d.2)
    (hV : mm_V G d2 M2 (mm_KP P G d M Q (pc + 3) ls st) 0 (mm_ent M2.2.2.1 (.ref a :: av)) [] h) : mm_VP P G d M Q pc ls (av.reverse ++ .ref a :: st) h := by
  intro p e R s m args below meth c n0 c0 s0 H locs cells slots lr HP C I L T hT X
  subst hT
  obtain ⟨o1, o2, o3, o5, o6⟩ := hO
  obtain ⟨hx, hb, hml, -, hown, -, -, -, hts, -, -, hK, -⟩ := id C
  have hdg : decode c.code pc = .ok (.invokespecial index, 3) := by rw [hb]; exact hd
  have hcat' : ∀ w ∈ Value.ref a :: av, w.category = 1 := fun w hw => by
    rcases List.mem_cons.mp hw with rfl | hw
    · rfl
    · exact hcat w hw
  refine mm_afterP HP C L hh (mm_invoke (g := F0 m pc lr ((av.reverse ++ .ref a :: st).map (mm_tr (mm_b G) (mm_sc G)))) (rest := st.map (mm_tr (mm_b G) (mm_sc G))) C X I hV hd2 o1 o2 o3 hcat' (by simp; omega) rfl (by rw [hml]; exact L.2.1) rfl (by rw [mm_cat_map]; exact hst) hdg ?_)
  have e1 : (Value.ref a :: av).map (mm_tr (mm_b G) (mm_sc G)) = .ref (mm_b G + a) :: av.map (mm_tr (mm_b G) (mm_sc G)) := by simp [mm_tr, mm_ad_pos h0]
  rw [e1]
  have hw' := hts _ hw
  rw [hi.2] at hw'
  exact mm_lkI X hx hown hi.1 (hI.word hts) (hts _ hS) hw' o5 rfl (by rw [List.length_map, hn.1]; exact o6) (by simp [mm_tr, mm_ad_pos h0]) hdg
theorem mrp_lald {a n : Nat} {i : Int32} (hd : decode M.2.1 pc = .ok (.laload, 1)) (ha : mm_at h a 103 n) (hin : vp_in i n) (k : mm_VP P G d M Q (pc + 1) ls (.long (mm_gl h a i.toNatClampNeg) :: st) h) : mm_VP P G d M Q pc ls (.int i :: .ref a :: st) h := mp_lald hd ha.1 ha.2.1 ha.2.2 hin k
theorem mrp_callV0 {index ci N a : Nat} {d2 : Nat × Nat} {M2 : mm_M} (hd : decode M.2.1 pc = .ok (.invokevirtual index, 3)) (hO : mm_OK M2 0) (hI : mm_LI M.1.cls index M2.1) (hS : Cond.instanceMethod M2.1 ∈ mm_WS ∧ Cond.selects M2.1.cls M2.1 M2.1 ∈ mm_WS) (ha : mm_at h a ci N) (hci : ci < 100 ∧ vwCl[ci]?.map (·.1) = some M2.1.cls) (hx : 1 ≤ M2.2.2.1 ∧ (st.map fun v => v.category).sum ≤ 8 ∧ M.2.2.2.2 = [] ∧ d2.1 + 1 ≤ d.1 ∧ 8 + (M2.2.2.1 + 11) + d2.2 ≤ d.2)
    (hV : mm_V G d2 M2 (mm_KP P G d M Q (pc + 3) ls st) 0 (mm_ent M2.2.2.1 [.ref a]) [] h) : mm_VP P G d M Q pc ls (.ref a :: st) h :=
  mp_callV (av := []) hd hO hI hS ha.1 hci ha.2.1 ha.2.2 ⟨rfl, hx.1⟩ (fun w hw => by simp at hw) hx.2.1 hx.2.2.1 hx.2.2.2 hV
theorem mrp_callI0 {index a : Nat} {d2 : Nat × Nat} {M2 : mm_M} (hd : decode M.2.1 pc = .ok (.invokespecial index, 3)) (hO : mm_OK M2 0) (hI : mm_LI M.1.cls index M2.1) (hi : M2.1.name = "<init>" ∧ M2.2.2.2.1 = none) (hS : Cond.instanceMethod M2.1 ∈ mm_WS) (hw : Cond.code M2.1 M2.2.1 M2.2.2.1 M2.2.2.2.1 ∈ mm_WS) (h0 : 0 < a) (hx : 1 ≤ M2.2.2.1 ∧ (st.map fun v => v.category).sum ≤ 8 ∧ M.2.2.2.2 = [] ∧ d2.1 + 1 ≤ d.1 ∧ 8 + (M2.2.2.1 + 11) + d2.2 ≤ d.2)
    (hV : mm_V G d2 M2 (mm_KP P G d M Q (pc + 3) ls st) 0 (mm_ent M2.2.2.1 [.ref a]) [] h) : mm_VP P G d M Q pc ls (.ref a :: st) h :=
  mp_callI (av := []) hd hO hI hi hS hw h0 ⟨rfl, hx.1⟩ (fun w hw => by simp at hw) hx.2.1 hx.2.2.1 hx.2.2.2 hV
theorem mrp_callS1 {index : Nat} {d2 : Nat × Nat} {M2 : mm_M} {v1 : Value} (hd : decode M.2.1 pc = .ok (.invokestatic index, 3)) (hO : mm_OK M2 1) (hI : mm_LI M.1.cls index M2.1) (hS : Cond.static M2.1 ∈ mm_WS) (hx : 1 ≤ M2.2.2.1 ∧ v1.category = 1 ∧ (st.map fun v => v.category).sum ≤ 8 ∧ M.2.2.2.2 = [] ∧ d2.1 + 1 ≤ d.1 ∧ 8 + (M2.2.2.1 + 11) + d2.2 ≤ d.2)
    (hV : mm_V G d2 M2 (mm_KP P G d M Q (pc + 3) ls st) 0 (mm_ent M2.2.2.1 [v1]) [] h) : mm_VP P G d M Q pc ls (v1 :: st) h :=
  mp_callS (av := [v1]) hd hO hI hS ⟨rfl, hx.1⟩ (fun w hw => by simp only [List.mem_cons, List.not_mem_nil, or_false] at hw; subst hw; exact hx.2.1) hx.2.2.1 hx.2.2.2.1 hx.2.2.2.2 hV
theorem mrp_callV1 {index ci N a : Nat} {d2 : Nat × Nat} {M2 : mm_M} {v1 : Value} (hd : decode M.2.1 pc = .ok (.invokevirtual index, 3)) (hO : mm_OK M2 1) (hI : mm_LI M.1.cls index M2.1) (hS : Cond.instanceMethod M2.1 ∈ mm_WS ∧ Cond.selects M2.1.cls M2.1 M2.1 ∈ mm_WS) (ha : mm_at h a ci N) (hci : ci < 100 ∧ vwCl[ci]?.map (·.1) = some M2.1.cls) (hx : 2 ≤ M2.2.2.1 ∧ v1.category = 1 ∧ (st.map fun v => v.category).sum ≤ 8 ∧ M.2.2.2.2 = [] ∧ d2.1 + 1 ≤ d.1 ∧ 8 + (M2.2.2.1 + 11) + d2.2 ≤ d.2)
    (hV : mm_V G d2 M2 (mm_KP P G d M Q (pc + 3) ls st) 0 (mm_ent M2.2.2.1 [.ref a, v1]) [] h) : mm_VP P G d M Q pc ls (v1 :: .ref a :: st) h :=
  mp_callV (av := [v1]) hd hO hI hS ha.1 hci ha.2.1 ha.2.2 ⟨rfl, hx.1⟩ (fun w hw => by simp only [List.mem_cons, List.not_mem_nil, or_false] at hw; subst hw; exact hx.2.1) hx.2.2.1 hx.2.2.2.1 hx.2.2.2.2 hV
theorem mrp_callS2 {index : Nat} {d2 : Nat × Nat} {M2 : mm_M} {v1 v2 : Value} (hd : decode M.2.1 pc = .ok (.invokestatic index, 3)) (hO : mm_OK M2 2) (hI : mm_LI M.1.cls index M2.1) (hS : Cond.static M2.1 ∈ mm_WS) (hx : 2 ≤ M2.2.2.1 ∧ v1.category = 1 ∧ v2.category = 1 ∧ (st.map fun v => v.category).sum ≤ 8 ∧ M.2.2.2.2 = [] ∧ d2.1 + 1 ≤ d.1 ∧ 8 + (M2.2.2.1 + 11) + d2.2 ≤ d.2)
    (hV : mm_V G d2 M2 (mm_KP P G d M Q (pc + 3) ls st) 0 (mm_ent M2.2.2.1 [v1, v2]) [] h) : mm_VP P G d M Q pc ls (v2 :: v1 :: st) h :=
  mp_callS (av := [v1, v2]) hd hO hI hS ⟨rfl, hx.1⟩ (fun w hw => by simp only [List.mem_cons, List.not_mem_nil, or_false] at hw; rcases hw with rfl | rfl <;> simp_all) hx.2.2.2.1 hx.2.2.2.2.1 hx.2.2.2.2.2 hV
theorem mrp_callV2 {index ci N a : Nat} {d2 : Nat × Nat} {M2 : mm_M} {v1 v2 : Value} (hd : decode M.2.1 pc = .ok (.invokevirtual index, 3)) (hO : mm_OK M2 2) (hI : mm_LI M.1.cls index M2.1) (hS : Cond.instanceMethod M2.1 ∈ mm_WS ∧ Cond.selects M2.1.cls M2.1 M2.1 ∈ mm_WS) (ha : mm_at h a ci N) (hci : ci < 100 ∧ vwCl[ci]?.map (·.1) = some M2.1.cls) (hx : 3 ≤ M2.2.2.1 ∧ v1.category = 1 ∧ v2.category = 1 ∧ (st.map fun v => v.category).sum ≤ 8 ∧ M.2.2.2.2 = [] ∧ d2.1 + 1 ≤ d.1 ∧ 8 + (M2.2.2.1 + 11) + d2.2 ≤ d.2)
    (hV : mm_V G d2 M2 (mm_KP P G d M Q (pc + 3) ls st) 0 (mm_ent M2.2.2.1 [.ref a, v1, v2]) [] h) : mm_VP P G d M Q pc ls (v2 :: v1 :: .ref a :: st) h :=
  mp_callV (av := [v1, v2]) hd hO hI hS ha.1 hci ha.2.1 ha.2.2 ⟨rfl, hx.1⟩ (fun w hw => by simp only [List.mem_cons, List.not_mem_nil, or_false] at hw; rcases hw with rfl | rfl <;> simp_all) hx.2.2.2.1 hx.2.2.2.2.1 hx.2.2.2.2.2 hV
theorem mrp_callS3 {index : Nat} {d2 : Nat × Nat} {M2 : mm_M} {v1 v2 v3 : Value} (hd : decode M.2.1 pc = .ok (.invokestatic index, 3)) (hO : mm_OK M2 3) (hI : mm_LI M.1.cls index M2.1) (hS : Cond.static M2.1 ∈ mm_WS) (hx : 3 ≤ M2.2.2.1 ∧ v1.category = 1 ∧ v2.category = 1 ∧ v3.category = 1 ∧ (st.map fun v => v.category).sum ≤ 8 ∧ M.2.2.2.2 = [] ∧ d2.1 + 1 ≤ d.1 ∧ 8 + (M2.2.2.1 + 11) + d2.2 ≤ d.2)
    (hV : mm_V G d2 M2 (mm_KP P G d M Q (pc + 3) ls st) 0 (mm_ent M2.2.2.1 [v1, v2, v3]) [] h) : mm_VP P G d M Q pc ls (v3 :: v2 :: v1 :: st) h :=
  mp_callS (av := [v1, v2, v3]) hd hO hI hS ⟨rfl, hx.1⟩ (fun w hw => by simp only [List.mem_cons, List.not_mem_nil, or_false] at hw; rcases hw with rfl | rfl | rfl <;> simp_all) hx.2.2.2.2.1 hx.2.2.2.2.2.1 hx.2.2.2.2.2.2 hV
theorem mrp_callV3 {index ci N a : Nat} {d2 : Nat × Nat} {M2 : mm_M} {v1 v2 v3 : Value} (hd : decode M.2.1 pc = .ok (.invokevirtual index, 3)) (hO : mm_OK M2 3) (hI : mm_LI M.1.cls index M2.1) (hS : Cond.instanceMethod M2.1 ∈ mm_WS ∧ Cond.selects M2.1.cls M2.1 M2.1 ∈ mm_WS) (ha : mm_at h a ci N) (hci : ci < 100 ∧ vwCl[ci]?.map (·.1) = some M2.1.cls) (hx : 4 ≤ M2.2.2.1 ∧ v1.category = 1 ∧ v2.category = 1 ∧ v3.category = 1 ∧ (st.map fun v => v.category).sum ≤ 8 ∧ M.2.2.2.2 = [] ∧ d2.1 + 1 ≤ d.1 ∧ 8 + (M2.2.2.1 + 11) + d2.2 ≤ d.2)
    (hV : mm_V G d2 M2 (mm_KP P G d M Q (pc + 3) ls st) 0 (mm_ent M2.2.2.1 [.ref a, v1, v2, v3]) [] h) : mm_VP P G d M Q pc ls (v3 :: v2 :: v1 :: .ref a :: st) h :=
  mp_callV (av := [v1, v2, v3]) hd hO hI hS ha.1 hci ha.2.1 ha.2.2 ⟨rfl, hx.1⟩ (fun w hw => by simp only [List.mem_cons, List.not_mem_nil, or_false] at hw; rcases hw with rfl | rfl | rfl <;> simp_all) hx.2.2.2.2.1 hx.2.2.2.2.2.1 hx.2.2.2.2.2.2 hV
theorem mrp_callS4 {index : Nat} {d2 : Nat × Nat} {M2 : mm_M} {v1 v2 v3 v4 : Value} (hd : decode M.2.1 pc = .ok (.invokestatic index, 3)) (hO : mm_OK M2 4) (hI : mm_LI M.1.cls index M2.1) (hS : Cond.static M2.1 ∈ mm_WS) (hx : 4 ≤ M2.2.2.1 ∧ v1.category = 1 ∧ v2.category = 1 ∧ v3.category = 1 ∧ v4.category = 1 ∧ (st.map fun v => v.category).sum ≤ 8 ∧ M.2.2.2.2 = [] ∧ d2.1 + 1 ≤ d.1 ∧ 8 + (M2.2.2.1 + 11) + d2.2 ≤ d.2)
    (hV : mm_V G d2 M2 (mm_KP P G d M Q (pc + 3) ls st) 0 (mm_ent M2.2.2.1 [v1, v2, v3, v4]) [] h) : mm_VP P G d M Q pc ls (v4 :: v3 :: v2 :: v1 :: st) h :=
  mp_callS (av := [v1, v2, v3, v4]) hd hO hI hS ⟨rfl, hx.1⟩ (fun w hw => by simp only [List.mem_cons, List.not_mem_nil, or_false] at hw; rcases hw with rfl | rfl | rfl | rfl <;> simp_all) hx.2.2.2.2.2.1 hx.2.2.2.2.2.2.1 hx.2.2.2.2.2.2.2 hV
theorem mrp_callV4 {index ci N a : Nat} {d2 : Nat × Nat} {M2 : mm_M} {v1 v2 v3 v4 : Value} (hd : decode M.2.1 pc = .ok (.invokevirtual index, 3)) (hO : mm_OK M2 4) (hI : mm_LI M.1.cls index M2.1) (hS : Cond.instanceMethod M2.1 ∈ mm_WS ∧ Cond.selects M2.1.cls M2.1 M2.1 ∈ mm_WS) (ha : mm_at h a ci N) (hci : ci < 100 ∧ vwCl[ci]?.map (·.1) = some M2.1.cls) (hx : 5 ≤ M2.2.2.1 ∧ v1.category = 1 ∧ v2.category = 1 ∧ v3.category = 1 ∧ v4.category = 1 ∧ (st.map fun v => v.category).sum ≤ 8 ∧ M.2.2.2.2 = [] ∧ d2.1 + 1 ≤ d.1 ∧ 8 + (M2.2.2.1 + 11) + d2.2 ≤ d.2)
    (hV : mm_V G d2 M2 (mm_KP P G d M Q (pc + 3) ls st) 0 (mm_ent M2.2.2.1 [.ref a, v1, v2, v3, v4]) [] h) : mm_VP P G d M Q pc ls (v4 :: v3 :: v2 :: v1 :: .ref a :: st) h :=
  mp_callV (av := [v1, v2, v3, v4]) hd hO hI hS ha.1 hci ha.2.1 ha.2.2 ⟨rfl, hx.1⟩ (fun w hw => by simp only [List.mem_cons, List.not_mem_nil, or_false] at hw; rcases hw with rfl | rfl | rfl | rfl <;> simp_all) hx.2.2.2.2.2.1 hx.2.2.2.2.2.2.1 hx.2.2.2.2.2.2.2 hV
theorem mrp_callS5 {index : Nat} {d2 : Nat × Nat} {M2 : mm_M} {v1 v2 v3 v4 v5 : Value} (hd : decode M.2.1 pc = .ok (.invokestatic index, 3)) (hO : mm_OK M2 5) (hI : mm_LI M.1.cls index M2.1) (hS : Cond.static M2.1 ∈ mm_WS) (hx : 5 ≤ M2.2.2.1 ∧ v1.category = 1 ∧ v2.category = 1 ∧ v3.category = 1 ∧ v4.category = 1 ∧ v5.category = 1 ∧ (st.map fun v => v.category).sum ≤ 8 ∧ M.2.2.2.2 = [] ∧ d2.1 + 1 ≤ d.1 ∧ 8 + (M2.2.2.1 + 11) + d2.2 ≤ d.2)
    (hV : mm_V G d2 M2 (mm_KP P G d M Q (pc + 3) ls st) 0 (mm_ent M2.2.2.1 [v1, v2, v3, v4, v5]) [] h) : mm_VP P G d M Q pc ls (v5 :: v4 :: v3 :: v2 :: v1 :: st) h :=
  mp_callS (av := [v1, v2, v3, v4, v5]) hd hO hI hS ⟨rfl, hx.1⟩ (fun w hw => by simp only [List.mem_cons, List.not_mem_nil, or_false] at hw; rcases hw with rfl | rfl | rfl | rfl | rfl <;> simp_all) hx.2.2.2.2.2.2.1 hx.2.2.2.2.2.2.2.1 hx.2.2.2.2.2.2.2.2 hV
theorem mrp_callV5 {index ci N a : Nat} {d2 : Nat × Nat} {M2 : mm_M} {v1 v2 v3 v4 v5 : Value} (hd : decode M.2.1 pc = .ok (.invokevirtual index, 3)) (hO : mm_OK M2 5) (hI : mm_LI M.1.cls index M2.1) (hS : Cond.instanceMethod M2.1 ∈ mm_WS ∧ Cond.selects M2.1.cls M2.1 M2.1 ∈ mm_WS) (ha : mm_at h a ci N) (hci : ci < 100 ∧ vwCl[ci]?.map (·.1) = some M2.1.cls) (hx : 6 ≤ M2.2.2.1 ∧ v1.category = 1 ∧ v2.category = 1 ∧ v3.category = 1 ∧ v4.category = 1 ∧ v5.category = 1 ∧ (st.map fun v => v.category).sum ≤ 8 ∧ M.2.2.2.2 = [] ∧ d2.1 + 1 ≤ d.1 ∧ 8 + (M2.2.2.1 + 11) + d2.2 ≤ d.2)
    (hV : mm_V G d2 M2 (mm_KP P G d M Q (pc + 3) ls st) 0 (mm_ent M2.2.2.1 [.ref a, v1, v2, v3, v4, v5]) [] h) : mm_VP P G d M Q pc ls (v5 :: v4 :: v3 :: v2 :: v1 :: .ref a :: st) h :=
  mp_callV (av := [v1, v2, v3, v4, v5]) hd hO hI hS ha.1 hci ha.2.1 ha.2.2 ⟨rfl, hx.1⟩ (fun w hw => by simp only [List.mem_cons, List.not_mem_nil, or_false] at hw; rcases hw with rfl | rfl | rfl | rfl | rfl <;> simp_all) hx.2.2.2.2.2.2.1 hx.2.2.2.2.2.2.2.1 hx.2.2.2.2.2.2.2.2 hV
theorem mp_sld {L : Nat} {xs : Nat → Int32} (hP : ∀ s, P s → va_X (mm_sc G) L xs s s.heap) {i : Int32} (hd : decode M.2.1 pc = .ok (.iaload, 1)) (hin : vp_in i L) (k : mm_VP P G d M Q (pc + 1) ls (.int (xs i.toNatClampNeg) :: st) h) : mm_VP P G d M Q pc ls (.int i :: .ref 0 :: st) h := by
  intro p e R s m args below meth c n0 c0 s0 H locs cells slots lr HP C I L
  have kk := k p e R s m args below meth c n0 c0 s0 H locs cells slots lr HP C I L
  obtain ⟨hx, hb, -, -, hown, -, -, -, hts, -, -, hK, -, hb1, hb2, -⟩ := C
  refine W.eq (g2 := F0 m pc lr (.int i :: .ref (mm_sc G) :: st.map (mm_tr (mm_b G) (mm_sc G)))) (by simp [mm_tr, mm_ad]) ?_
  refine va_sld (A := mm_A (mm_b G) n0 s) hx hb (hP s HP) (by omega) (fun z => ?_) I.2.1 hin hd kk
  rcases z with z | z
  · omega
  · omega
theorem mp_slen {L : Nat} {xs : Nat → Int32} (hP : ∀ s, P s → va_X (mm_sc G) L xs s s.heap) (hd : decode M.2.1 pc = .ok (.arraylength, 1)) (k : mm_VP P G d M Q (pc + 1) ls (.int (Int32.ofNat L) :: st) h) : mm_VP P G d M Q pc ls (.ref 0 :: st) h := by
  intro p e R s m args below meth c n0 c0 s0 H locs cells slots lr HP C I L
  have kk := k p e R s m args below meth c n0 c0 s0 H locs cells slots lr HP C I L
  obtain ⟨hx, hb, -, -, hown, -, -, -, hts, -, -, hK, -, hb1, hb2, -⟩ := C
  refine W.eq (g2 := F0 m pc lr (.ref (mm_sc G) :: st.map (mm_tr (mm_b G) (mm_sc G)))) (by simp [mm_tr, mm_ad]) ?_
  refine va_slen (A := mm_A (mm_b G) n0 s) hx hb (hP s HP) (by omega) (fun z => ?_) I.2.1 hd kk
  rcases z with z | z
  · omega
  · omega
theorem mm_VP_ls {ls' : List (Option Value)} (e : ls = ls') (k : mm_VP P G d M Q pc ls' st h) : mm_VP P G d M Q pc ls st h := e ▸ k
theorem mm_VP_drop (k : Nat) (hv : mm_VP P G d M Q pc (ls.set k none) st h) : mm_VP P G d M Q pc ls st h := by
  intro p e R s m args below meth c n0 c0 s0 H locs cells slots lr HP C I L
  refine hv p e R s m args below meth c n0 c0 s0 H locs cells slots lr HP C I ⟨by rw [List.length_set]; exact L.1, L.2.1, L.2.2.1, fun i v hi => ?_⟩
  rw [List.getElem?_set] at hi
  by_cases hk : k = i
  · rw [if_pos hk] at hi
    split at hi <;> cases hi
  · rw [if_neg hk] at hi
    exact L.2.2.2 i v hi
end MVP
