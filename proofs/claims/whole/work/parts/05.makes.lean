/-! THE SMALL MACHINE: rows that make cells -/
section MV
variable {G : mm_G} {d : Nat × Nat} {M : mm_M} {Q : mm_O → mm_H → Prop} {pc : Nat} {ls : List (Option Value)} {st : List Value} {h : mm_H}
theorem mm_In.size {p : Program} {l : Launch} {e : Env} {R : Room} {s : State} {m : MethodId} {args : Array Value} {below : List Frame} {meth : Method} {c : Code} {T : State} {locs : List Loc} {n0 c0 s0 cells slots : Nat} (I : mm_In G h s T.heap locs n0 c0 s0 cells slots) (X : Stand p l e R s m args below meth c T locs cells slots)
    (hz : mm_c h + 1 = mm_n h) : T.heap.size = mm_b G + mm_n h := by
  obtain ⟨i1, i2, i3, i4, i5, i6, i7, i8, i9, i10, i11⟩ := I
  obtain ⟨z1, z2⟩ := i3 hz
  have u := X.heapSize
  have v := i2.1
  by_cases hn : mm_n h = 1
  · omega
  · have he := mm_ws_at (b := mm_b G) (sc := mm_sc G) (cA := mm_cA G) (h := h) (a := mm_n h - 1) (by omega) (by omega)
    have := (i1 _ _ he).lt
    have this : mm_b G + (mm_n h - 1) < T.heap.size := this
    omega
theorem mm_ws_new {b sc : Nat} {cA : Nat → ClassId} {h : mm_H} {len : Nat} (hn : 0 < mm_n h) : mm_ws b sc cA (mm_new h len) = mm_ws b sc cA h ++ [(b + mm_n h, mm_cell b sc cA (mm_new h len) (mm_n h))] := by
  have e : mm_n (mm_new h len) - 1 = (mm_n h - 1) + 1 := by show mm_n h + 1 - 1 = _; omega
  unfold mm_ws
  rw [e, List.range_succ, List.map_append, List.map_singleton, show mm_n h - 1 + 1 = mm_n h by omega]
  congr 1
  refine List.map_congr_left fun j hj => ?_
  rw [List.mem_range] at hj
  rw [mm_new_o (by omega)]
theorem mm_In.grown {s : State} {H H1 : Heap} {locs : List Loc} {n0 c0 s0 cells slots len : Nat} (I : mm_In G h s H locs n0 c0 s0 cells slots) (hn : 0 < mm_n h) (hsz : H.size = mm_b G + mm_n h) (hc : mm_c h + 1 ≤ mm_BC G) (hs : mm_s h + len ≤ mm_BS G) (e1 : H1.size = H.size + 1) (e2 : ∀ q, q < H.size → H1[q]? = H[q]?)
    (hce : va_at (mm_D G) vwCl (mm_b G + mm_n h, mm_cell (mm_b G) (mm_sc G) (mm_cA G) (mm_new h len) (mm_n h)) H1) : mm_In G (mm_new h len) s H1 locs n0 c0 s0 (cells + 1) (slots + len) := by
  obtain ⟨i1, i2, i3, i4, i5, i6, i7, i8, i9, i10, i11⟩ := I
  have v := i2.1
  refine ⟨?_, ⟨by omega, fun q a b => by rw [e2 q (by omega)]; exact i2.2.1 q a b, i2.2.2⟩, fun z => i3 ?_, ?_, fun z => ?_, ?_, ?_, hc, hs, ?_, i11⟩
  · rw [mm_ws_new hn]
    refine va_P.app (fun k q hq => (i1 k q hq).kept ?_) (fun k q hq => ?_)
    · exact e2 _ (i1 k q hq).lt
    · cases k with
      | zero => simp at hq; rw [← hq]; exact hce
      | succ k => simp at hq
  · have : mm_c h + 1 + 1 = mm_n h + 1 := z
    omega
  · show n0 ≤ mm_n h + 1
    omega
  · by_cases hq : n0 < mm_n h
    · exact i5 hq
    · have : n0 = mm_n h := by omega
      omega
  · show cells + 1 + c0 ≤ mm_c h + 1
    omega
  · show slots + len + s0 ≤ mm_s h + len
    omega
  · show mm_n h + 1 ≤ mm_c h + 1 + 1
    omega
/-- 'new' of a class of the tables -/
def mm_NL (own : String) (index ci N : Nat) : Prop := ∃ (C : String) (T : u_T), vwCl[ci]? = some (C, T, N) ∧ mm_CF C T N ∧ ci < 100 ∧ Cond.classLink own index C ∈ mm_WS ∧ Cond.instantiable C N ∈ mm_WS ∧ Cond.initialized C ∈ mm_WS ∧ ∀ k, k < N → ∃ ty, parseFieldDescriptor (T k).2.2.1 = some ty ∧ defaultValue ty = if mm_isr ci k = true then .null else .int 0
theorem mv_new {index ci n : Nat} (hd : decode M.2.1 pc = .ok (.new index, 3)) (hF : mm_NL M.1.cls index ci n) (hs : mm_sh (mm_n h) = (ci, n)) (hz : mm_c h + 1 = mm_n h) (hc : mm_c h + 1 ≤ mm_BC G) (hsl : mm_s h + n ≤ mm_BS G)
    (k : mm_V G d M Q (pc + 3) ls (.ref (mm_n h) :: st) (mm_new h n)) : mm_V G d M Q pc ls st h := by
  intro p e R s m args below meth c n0 c0 s0 H locs cells slots lr C I L T0 hT0 X0
  obtain ⟨Cn, T, g1, ⟨g2, -, -⟩, g7, w1, w2, w3, g8⟩ := hF
  have kk := fun H1 I' => k p e R s m args below meth c n0 c0 s0 H1 locs (cells + 1) (slots + n) lr C I' L
  obtain ⟨hx, hb, -, -, hown, -, -, -, hts, -, -, hK, -, -, -, -, -, r1, r2⟩ := C
  have hsz : H.size = mm_b G + mm_n h := by rw [← hT0]; exact mm_In.size (by rw [hT0]; exact I) X0 hz
  obtain ⟨i1, i2, i3, i4, i5, i6, i7, i8, i9, i10, i11⟩ := id I
  have hK1 := hK.1 ci _ g1
  suffices hW : W p G.1 e R s m args below meth c H locs cells slots (mm_End G Q n0 c0 s0 below s) (F0 m pc lr (st.map (mm_tr (mm_b G) (mm_sc G)))) from hW T0 hT0 X0
  refine W.newcK (h := H.size) hx hb hown (hts _ w1) (hts _ w2) (hts _ w3) rfl hd (by omega) (by omega) hK1.2.1 rfl (fun H1 kC hkC hcell e1 e2 => ?_)
  have hborn : t_OB (mm_b G + mm_n h) ((mm_D G).1 ci) n ((mm_D G).2 ci) H1 (vp_V ((List.range n).map (mm_fv (mm_b G) (mm_sc G) (mm_new h n) (mm_n h) ci))) := by
    rw [← hsz]
    have hty : ∀ k, ∃ ty, k < n → parseFieldDescriptor (T k).2.2.1 = some ty ∧ defaultValue ty = if mm_isr ci k = true then .null else .int 0 := fun k => by
      by_cases hk : k < n
      · obtain ⟨ty, h1, h2⟩ := g8 k hk
        exact ⟨ty, fun _ => ⟨h1, h2⟩⟩
      · exact ⟨.int, fun q => absurd q hk⟩
    refine t_OB.to (u_born (fun k => Classical.choose (hty k)) hts g2 hK1 hkC hcell (fun k hk => (Classical.choose_spec (hty k) hk).1)) (fun k hk => ?_)
    rw [(Classical.choose_spec (hty k) hk).2]
    simp only [vp_V, List.getD_eq_getElem?_getD, List.getElem?_map, List.getElem?_range hk, Option.map_some, Option.getD_some, mm_fv]
    split
    · simp [mm_gr, mm_new, va_rf]
    · simp [mm_gi, mm_new]
  refine W.eq (g2 := F0 m (pc + 3) lr ((.ref (mm_n h) :: st).map (mm_tr (mm_b G) (mm_sc G)))) ?_ (kk H1 (mm_In.grown I (by omega) hsz hc hsl e1 e2 ?_))
  · simp [mm_tr, mm_ad_pos (show 0 < mm_n h by omega), hsz]
  · rw [mm_cell_o hs g7]
    exact ⟨_, g1, hborn⟩
theorem mv_newi {atype : ArrayType} {i : Int32} {n : Nat} (hd : decode M.2.1 pc = .ok (.newarray atype, 2)) (hty : newarray.typeOf atype = .int) (hw : Cond.arrayClass .int ∈ mm_WS) (hi : ¬ i < 0) (hn : i.toNatClampNeg = n) (hby : n ≤ 65536) (hs : mm_sh (mm_n h) = (100, n)) (hz : mm_c h + 1 = mm_n h) (hc : mm_c h + 1 ≤ mm_BC G) (hsl : mm_s h + n ≤ mm_BS G)
    (k : mm_V G d M Q (pc + 2) ls (.ref (mm_n h) :: st) (mm_new h n)) : mm_V G d M Q pc ls (.int i :: st) h := by
  intro p e R s m args below meth c n0 c0 s0 H locs cells slots lr C I L T0 hT0 X0
  have kk := fun H1 I' => k p e R s m args below meth c n0 c0 s0 H1 locs (cells + 1) (slots + n) lr C I' L
  obtain ⟨hx, hb, -, -, hown, -, -, -, hts, -, -, hK, -, -, -, -, -, r1, r2⟩ := C
  have hsz : H.size = mm_b G + mm_n h := by rw [← hT0]; exact mm_In.size (by rw [hT0]; exact I) X0 hz
  obtain ⟨i1, i2, i3, i4, i5, i6, i7, i8, i9, i10, i11⟩ := id I
  suffices hW : W p G.1 e R s m args below meth c H locs cells slots (mm_End G Q n0 c0 s0 below s) (F0 m pc lr ((.int i :: st).map (mm_tr (mm_b G) (mm_sc G)))) from hW T0 hT0 X0
  refine va_newaK (h := H.size) (N := n) hx hb (by rw [hty]; exact hts _ hw) rfl hd rfl hi hn (by rw [hty]; simp only [componentBytes]; omega) (by omega) (by omega) rfl (fun H1 cA hcell e1 e2 ho hf => ?_)
  rw [hty] at hcell hf
  have hcA : cA = mm_cA G 0 := Option.some.inj (hf.symm.trans (hK.2 0 _ rfl).2)
  refine W.eq (g2 := F0 m (pc + 2) lr ((.ref (mm_n h) :: st).map (mm_tr (mm_b G) (mm_sc G)))) ?_ (kk H1 (mm_In.grown I (by omega) hsz hc hsl e1 e2 ?_))
  · simp [mm_tr, mm_ad_pos (show 0 < mm_n h by omega), hsz]
  · rw [mm_cell_i hs]
    show H1[mm_b G + mm_n h]? = some (vp_cell (mm_cA G 0) (n, .inl (mm_gi (mm_new h n) (mm_n h))))
    rw [← hsz, hcell, hcA, vp_cell_i]
    congr 2
    funext j
    simp [mm_gi, mm_new, defaultValue]
theorem mv_newz {atype : ArrayType} {i : Int32} {n : Nat} (hd : decode M.2.1 pc = .ok (.newarray atype, 2)) (hty : newarray.typeOf atype = .boolean) (hw : Cond.arrayClass .boolean ∈ mm_WS) (hi : ¬ i < 0) (hn : i.toNatClampNeg = n) (hby : n ≤ 65536) (hs : mm_sh (mm_n h) = (101, n)) (hz : mm_c h + 1 = mm_n h) (hc : mm_c h + 1 ≤ mm_BC G) (hsl : mm_s h + n ≤ mm_BS G)
    (k : mm_V G d M Q (pc + 2) ls (.ref (mm_n h) :: st) (mm_new h n)) : mm_V G d M Q pc ls (.int i :: st) h := by
  intro p e R s m args below meth c n0 c0 s0 H locs cells slots lr C I L T0 hT0 X0
  have kk := fun H1 I' => k p e R s m args below meth c n0 c0 s0 H1 locs (cells + 1) (slots + n) lr C I' L
  obtain ⟨hx, hb, -, -, hown, -, -, -, hts, -, -, hK, -, -, -, -, -, r1, r2⟩ := C
  have hsz : H.size = mm_b G + mm_n h := by rw [← hT0]; exact mm_In.size (by rw [hT0]; exact I) X0 hz
  obtain ⟨i1, i2, i3, i4, i5, i6, i7, i8, i9, i10, i11⟩ := id I
  suffices hW : W p G.1 e R s m args below meth c H locs cells slots (mm_End G Q n0 c0 s0 below s) (F0 m pc lr ((.int i :: st).map (mm_tr (mm_b G) (mm_sc G)))) from hW T0 hT0 X0
  refine va_newaK (h := H.size) (N := n) hx hb (by rw [hty]; exact hts _ hw) rfl hd rfl hi hn (by rw [hty]; simp only [componentBytes]; omega) (by omega) (by omega) rfl (fun H1 cA hcell e1 e2 ho hf => ?_)
  rw [hty] at hcell hf
  have hcA : cA = mm_cA G 1 := Option.some.inj (hf.symm.trans (hK.2 1 _ rfl).2)
  refine W.eq (g2 := F0 m (pc + 2) lr ((.ref (mm_n h) :: st).map (mm_tr (mm_b G) (mm_sc G)))) ?_ (kk H1 (mm_In.grown I (by omega) hsz hc hsl e1 e2 ?_))
  · simp [mm_tr, mm_ad_pos (show 0 < mm_n h by omega), hsz]
  · rw [mm_cell_z hs]
    show H1[mm_b G + mm_n h]? = some (vp_cell (mm_cA G 1) (n, .inl (mm_gi (mm_new h n) (mm_n h))))
    rw [← hsz, hcell, hcA, vp_cell_i]
    congr 2
    funext j
    simp [mm_gi, mm_new, defaultValue]
theorem mv_newl {atype : ArrayType} {i : Int32} {n : Nat} (hd : decode M.2.1 pc = .ok (.newarray atype, 2)) (hty : newarray.typeOf atype = .long) (hw : Cond.arrayClass .long ∈ mm_WS) (hi : ¬ i < 0) (hn : i.toNatClampNeg = n) (hby : n ≤ 65536) (hs : mm_sh (mm_n h) = (103, n)) (hz : mm_c h + 1 = mm_n h) (hc : mm_c h + 1 ≤ mm_BC G) (hsl : mm_s h + n ≤ mm_BS G)
    (k : mm_V G d M Q (pc + 2) ls (.ref (mm_n h) :: st) (mm_new h n)) : mm_V G d M Q pc ls (.int i :: st) h := by
  intro p e R s m args below meth c n0 c0 s0 H locs cells slots lr C I L T0 hT0 X0
  have kk := fun H1 I' => k p e R s m args below meth c n0 c0 s0 H1 locs (cells + 1) (slots + n) lr C I' L
  obtain ⟨hx, hb, -, -, hown, -, -, -, hts, -, -, hK, -, -, -, -, -, r1, r2⟩ := C
  have hsz : H.size = mm_b G + mm_n h := by rw [← hT0]; exact mm_In.size (by rw [hT0]; exact I) X0 hz
  obtain ⟨i1, i2, i3, i4, i5, i6, i7, i8, i9, i10, i11⟩ := id I
  suffices hW : W p G.1 e R s m args below meth c H locs cells slots (mm_End G Q n0 c0 s0 below s) (F0 m pc lr ((.int i :: st).map (mm_tr (mm_b G) (mm_sc G)))) from hW T0 hT0 X0
  refine va_newaK (h := H.size) (N := n) hx hb (by rw [hty]; exact hts _ hw) rfl hd rfl hi hn (by rw [hty]; simp only [componentBytes]; omega) (by omega) (by omega) rfl (fun H1 cA hcell e1 e2 ho hf => ?_)
  rw [hty] at hcell hf
  have hcA : cA = mm_cA G 3 := Option.some.inj (hf.symm.trans (hK.2 3 _ rfl).2)
  refine W.eq (g2 := F0 m (pc + 2) lr ((.ref (mm_n h) :: st).map (mm_tr (mm_b G) (mm_sc G)))) ?_ (kk H1 (mm_In.grown I (by omega) hsz hc hsl e1 e2 ?_))
  · simp [mm_tr, mm_ad_pos (show 0 < mm_n h by omega), hsz]
  · rw [mm_cell_l hs]
    show H1[mm_b G + mm_n h]? = some (vp_cell (mm_cA G 3) (n, .inr (.inl (mm_gl (mm_new h n) (mm_n h)))))
    rw [← hsz, hcell, hcA, vp_cell_l]
    congr 2
    funext j
    simp [mm_gl, mm_new, defaultValue]
theorem mv_anew {index : Nat} {i : Int32} {n : Nat} (hd : decode M.2.1 pc = .ok (.anewarray index, 3)) (hw : Cond.classLink M.1.cls index mm_slotN ∈ mm_WS) (hov : Cond.arrayOver (.object mm_slotN) ∈ mm_WS) (hi : ¬ i < 0) (hn : i.toNatClampNeg = n) (hby : n ≤ 65536) (hs : mm_sh (mm_n h) = (102, n)) (hz : mm_c h + 1 = mm_n h) (hc : mm_c h + 1 ≤ mm_BC G) (hsl : mm_s h + n ≤ mm_BS G)
    (k : mm_V G d M Q (pc + 3) ls (.ref (mm_n h) :: st) (mm_new h n)) : mm_V G d M Q pc ls (.int i :: st) h := by
  intro p e R s m args below meth c n0 c0 s0 H locs cells slots lr C I L T0 hT0 X0
  have kk := fun H1 I' => k p e R s m args below meth c n0 c0 s0 H1 locs (cells + 1) (slots + n) lr C I' L
  obtain ⟨hx, hb, -, -, hown, -, -, -, hts, -, -, hK, -, -, -, -, -, r1, r2⟩ := C
  have hsz : H.size = mm_b G + mm_n h := by rw [← hT0]; exact mm_In.size (by rw [hT0]; exact I) X0 hz
  obtain ⟨i1, i2, i3, i4, i5, i6, i7, i8, i9, i10, i11⟩ := id I
  subst hn
  suffices hW : W p G.1 e R s m args below meth c H locs cells slots (mm_End G Q n0 c0 s0 below s) (F0 m pc lr ((.int i :: st).map (mm_tr (mm_b G) (mm_sc G)))) from hW T0 hT0 X0
  refine W.anew hx hb hown (hts _ hw) (hts _ hov) rfl hd rfl hi (by omega) (by omega) (by omega) (fun cA kA comp f1 f2 f3 f4 => ?_)
  have hcA : cA = mm_cA G 2 := by
    obtain ⟨kA', comp', -, -, -, q4⟩ := (hK.2 2 (mm_cA G 2, .object mm_slotN) rfl).2
    exact Option.some.inj (f1.symm.trans q4)
  refine W.eq (g2 := F0 m (pc + 3) lr ((.ref (mm_n h) :: st).map (mm_tr (mm_b G) (mm_sc G)))) ?_ (kk _ (mm_In.grown I (by omega) hsz hc hsl (by rw [Array.size_push]) (fun q hq => ?_) ?_))
  · simp [mm_tr, mm_ad_pos (show 0 < mm_n h by omega), hsz]
  · rw [Array.getElem?_push_lt hq, Array.getElem?_eq_getElem hq]
  · rw [mm_cell_q hs]
    show _ = some (vp_cell (mm_cA G 2) (i.toNatClampNeg, .inr (.inr (.inr (.inr fun j => (mm_gr (mm_new h i.toNatClampNeg) (mm_n h) j).map (mm_ad (mm_b G) (mm_sc G)))))))
    rw [← hsz, Array.getElem?_push_size, vp_cell_q, hcA]
    refine (congrArg some (arrV_new _ _ _)).trans ?_
    congr 2
    funext j
    simp [mm_gr, mm_new, va_rf]
theorem mv_objInit {index a : Nat} (hd : decode M.2.1 pc = .ok (.invokespecial index, 3)) (w1 : Cond.methodLink M.1.cls index objectInit ∈ mm_WS) (w2 : Cond.instanceMethod objectInit ∈ mm_WS) (w3 : Cond.code objectInit ⟨#[0xb1]⟩ 1 none ∈ mm_WS) (hst : (st.map fun v => v.category).sum ≤ 8) (hdd : 1 ≤ d.1 ∧ 20 ≤ d.2)
    (k : mm_V G d M Q (pc + 3) ls st h) : mm_V G d M Q pc ls (.ref a :: st) h := by
  intro p e R s m args below meth c n0 c0 s0 H locs cells slots lr C I L
  have kk := k p e R s m args below meth c n0 c0 s0 H locs cells slots lr C I L
  obtain ⟨hx, hb, hml, -, hown, -, -, -, hts, -, -, hK, -, -, -, q1, q2, -, -⟩ := C
  have hst' : ((st.map (mm_tr (mm_b G) (mm_sc G))).map fun v => v.category).sum ≤ 8 := by
    rw [List.map_map, show (fun v : Value => v.category) ∘ mm_tr (mm_b G) (mm_sc G) = fun v => v.category from funext fun v => mm_tr_cat _ _ v]
    exact hst
  refine W.objInit hx hb hown (hts _ w1) (hts _ w2) (hts _ w3) rfl (by rw [hml]; exact L.2.1) rfl hd (by omega) ?_ kk
  show 2 * 0 + _ + 12 ≤ R.locals
  omega
end MV
