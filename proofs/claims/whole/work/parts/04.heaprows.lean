/-! THE SMALL MACHINE: rows on the heap -/
section MV
variable {G : mm_G} {d : Nat × Nat} {M : mm_M} {Q : mm_O → mm_H → Prop} {pc : Nat} {ls : List (Option Value)} {st : List Value} {h : mm_H}
/-- a class of the tables -/
def mm_CF (C : String) (T : u_T) (N : Nat) : Prop := (∀ w ∈ u_ws C T N, w ∈ mm_WS) ∧ (∃ ty0 : Nat → FieldType, ∀ k, k < N → parseFieldDescriptor (T k).2.2.1 = some (ty0 k)) ∧ ∀ a, a < N → ∀ b, b < N → a ≠ b → (T a).2.1 ≠ (T b).2.1
/-- the entry 'index' of the pool of 'own' names the field k of the class ci; its type; whether it is final -/
def mm_FL (own : String) (index ci k : Nat) (ty : FieldType) (fin : Bool) : Prop :=
  ∃ (C : String) (T : u_T) (N : Nat), vwCl[ci]? = some (C, T, N) ∧ mm_CF C T N ∧ k < N ∧ (T k).1 = C ∧ parseFieldDescriptor (T k).2.2.1 = some ty ∧ (T k).2.2.2 = fin ∧ ci < 100 ∧
    (Cond.fieldLink own index C (T k).2.1 (T k).2.2.1 ∈ mm_WS ∨ ∃ host, Cond.fieldLinkNest own index C (T k).2.1 (T k).2.2.1 host ∈ mm_WS)
theorem mm_cell_o {b sc : Nat} {cA : Nat → ClassId} {h : mm_H} {a ci n : Nat} (hs : mm_sh a = (ci, n)) (hc : ci < 100) : mm_cell b sc cA h a = .inr (ci, (List.range n).map (mm_fv b sc h a ci)) := by
  unfold mm_cell mm_ce
  rw [hs]
  simp only [hc, if_true]
theorem mm_cell_i {b sc : Nat} {cA : Nat → ClassId} {h : mm_H} {a n : Nat} (hs : mm_sh a = (100, n)) : mm_cell b sc cA h a = .inl (cA 0, n, .inl (mm_gi h a)) := by
  unfold mm_cell mm_ce
  rw [hs]
  rfl
theorem mm_cell_z {b sc : Nat} {cA : Nat → ClassId} {h : mm_H} {a n : Nat} (hs : mm_sh a = (101, n)) : mm_cell b sc cA h a = .inl (cA 1, n, .inl (mm_gi h a)) := by
  unfold mm_cell mm_ce
  rw [hs]
  rfl
theorem mm_cell_q {b sc : Nat} {cA : Nat → ClassId} {h : mm_H} {a n : Nat} (hs : mm_sh a = (102, n)) : mm_cell b sc cA h a = .inl (cA 2, n, .inr (.inr (.inr (.inr fun j => (mm_gr h a j).map (mm_ad b sc))))) := by
  unfold mm_cell mm_ce
  rw [hs]
  rfl
theorem mm_cell_l {b sc : Nat} {cA : Nat → ClassId} {h : mm_H} {a n : Nat} (hs : mm_sh a = (103, n)) : mm_cell b sc cA h a = .inl (cA 3, n, .inr (.inl (mm_gl h a))) := by
  unfold mm_cell mm_ce
  rw [hs]
  rfl
theorem mm_In.moved {h' : mm_H} {s : State} {H H1 : Heap} {locs locs1 : List Loc} {n0 c0 s0 cells slots : Nat} (I : mm_In G h s H locs n0 c0 s0 cells slots) (hP : va_P (mm_D G) vwCl (mm_ws (mm_b G) (mm_sc G) (mm_cA G) h') H1) (hS : va_S (mm_A (mm_b G) n0 s) s.heap H1 locs1)
    (e1 : mm_n h' = mm_n h) (e2 : mm_c h' = mm_c h) (e3 : mm_s h' = mm_s h) : mm_In G h' s H1 locs1 n0 c0 s0 cells slots := by
  obtain ⟨-, -, i3⟩ := I
  refine ⟨hP, hS, ?_⟩
  rw [e1, e2, e3]
  exact i3
theorem mv_geti {index ci k0 a n : Nat} {ty : FieldType} {fin : Bool} (hd : decode M.2.1 pc = .ok (.getfield index, 3)) (hF : mm_FL M.1.cls index ci k0 ty fin) (hi : mm_isr ci k0 = false) (hs : mm_sh a = (ci, n)) (hk : k0 < n) (h0 : 0 < a) (h1 : a < mm_n h)
    (k : mm_V G d M Q (pc + 3) ls (.int (mm_gi h a k0) :: st) h) : mm_V G d M Q pc ls (.ref a :: st) h := by
  intro p e R s m args below meth c n0 c0 s0 H locs cells slots lr C I L
  obtain ⟨Cn, T, N, g1, ⟨g2, -, -⟩, g3, g4, g5, -, g7, g6⟩ := hF
  have kk := k p e R s m args below meth c n0 c0 s0 H locs cells slots lr C I L
  obtain ⟨hx, hb, -, -, hown, -, -, -, hts, -, -, hK, -⟩ := C
  have he := mm_ws_at (b := mm_b G) (sc := mm_sc G) (cA := mm_cA G) h0 h1
  rw [mm_cell_o hs g7] at he
  refine W.eq (g2 := F0 m pc lr (.ref (mm_b G + a) :: st.map (mm_tr (mm_b G) (mm_sc G)))) (by simp [mm_tr, mm_ad_pos h0]) ?_
  have hv : ((List.range n).map (mm_fv (mm_b G) (mm_sc G) h a ci))[k0]? = some (.int (mm_gi h a k0)) := by rw [List.getElem?_map, List.getElem?_range hk]; simp [mm_fv, hi]
  rcases g6 with g6 | ⟨host, g6⟩
  · exact va_get hx hb hts g2 hown hK I.1 (a - 1) he g1 k0 g3 (hts _ g6) (fun x hx => by rw [g4] at hx; exact hx) hv hd kk
  · exact va_getN hx hb hts g2 hown hK I.1 (a - 1) he g1 k0 g3 (hts _ g6) (fun x hx => by rw [g4] at hx; exact hx) hv hd kk
theorem mv_getr {index ci k0 a n x : Nat} {ty : FieldType} {fin : Bool} (hd : decode M.2.1 pc = .ok (.getfield index, 3)) (hF : mm_FL M.1.cls index ci k0 ty fin) (hi : mm_isr ci k0 = true) (hs : mm_sh a = (ci, n)) (hk : k0 < n) (h0 : 0 < a) (h1 : a < mm_n h) (hr : mm_gr h a k0 = some x)
    (k : mm_V G d M Q (pc + 3) ls (.ref x :: st) h) : mm_V G d M Q pc ls (.ref a :: st) h := by
  intro p e R s m args below meth c n0 c0 s0 H locs cells slots lr C I L
  obtain ⟨Cn, T, N, g1, ⟨g2, -, -⟩, g3, g4, g5, -, g7, g6⟩ := hF
  have kk := k p e R s m args below meth c n0 c0 s0 H locs cells slots lr C I L
  obtain ⟨hx, hb, -, -, hown, -, -, -, hts, -, -, hK, -⟩ := C
  have he := mm_ws_at (b := mm_b G) (sc := mm_sc G) (cA := mm_cA G) h0 h1
  rw [mm_cell_o hs g7] at he
  refine W.eq (g2 := F0 m pc lr (.ref (mm_b G + a) :: st.map (mm_tr (mm_b G) (mm_sc G)))) (by simp [mm_tr, mm_ad_pos h0]) ?_
  have hv : ((List.range n).map (mm_fv (mm_b G) (mm_sc G) h a ci))[k0]? = some (.ref (mm_ad (mm_b G) (mm_sc G) x)) := by rw [List.getElem?_map, List.getElem?_range hk]; simp [mm_fv, hi, hr, va_rf]
  rcases g6 with g6 | ⟨host, g6⟩
  · exact va_get hx hb hts g2 hown hK I.1 (a - 1) he g1 k0 g3 (hts _ g6) (fun x hx => by rw [g4] at hx; exact hx) hv hd kk
  · exact va_getN hx hb hts g2 hown hK I.1 (a - 1) he g1 k0 g3 (hts _ g6) (fun x hx => by rw [g4] at hx; exact hx) hv hd kk
theorem mm_put_i {b sc : Nat} {cA : Nat → ClassId} {h : mm_H} {a ci n k0 : Nat} {x : Int32} (hs : mm_sh a = (ci, n)) (hc : ci < 100) (hi : mm_isr ci k0 = false) (h0 : 0 < a) :
    (mm_ws b sc cA h).set (a - 1) (b + a, .inr (ci, ((List.range n).map (mm_fv b sc h a ci)).set k0 (.int x))) = mm_ws b sc cA (mm_si h a k0 x) := by
  refine mm_ws_set (h := h) (h' := mm_si h a k0 x) h0 rfl (fun j hj => mm_si_o hj) ?_
  rw [mm_cell_o hs hc, mm_range_set (g := mm_fv b sc (mm_si h a k0 x) a ci)]
  · simp [mm_fv, hi, mm_gi, mm_si, mm_u2]
  · intro j hj
    simp [mm_fv, mm_gi, mm_gr, mm_si, mm_u2, hj]
theorem mm_put_r {b sc : Nat} {cA : Nat → ClassId} {h : mm_H} {a ci n k0 x : Nat} (hs : mm_sh a = (ci, n)) (hc : ci < 100) (hi : mm_isr ci k0 = true) (h0 : 0 < a) :
    (mm_ws b sc cA h).set (a - 1) (b + a, .inr (ci, ((List.range n).map (mm_fv b sc h a ci)).set k0 (.ref (mm_ad b sc x)))) = mm_ws b sc cA (mm_sr h a k0 (some x)) := by
  refine mm_ws_set (h := h) (h' := mm_sr h a k0 (some x)) h0 rfl (fun j hj => mm_sr_o hj) ?_
  rw [mm_cell_o hs hc, mm_range_set (g := mm_fv b sc (mm_sr h a k0 (some x)) a ci)]
  · simp [mm_fv, hi, mm_gr, mm_sr, mm_u2, va_rf]
  · intro j hj
    simp [mm_fv, mm_gi, mm_gr, mm_sr, mm_u2, hj]
theorem mv_puti {index ci k0 a n : Nat} {x : Int32} {ty : FieldType} (hd : decode M.2.1 pc = .ok (.putfield index, 3)) (hF : mm_FL M.1.cls index ci k0 ty false) (hi : mm_isr ci k0 = false) (hs : mm_sh a = (ci, n)) (hk : k0 < n) (h0 : 0 < a) (h1 : a < mm_n h) (hn : narrow ty (.int x) = .int x ∧ fits ty (.int x) = true)
    (k : mm_V G d M Q (pc + 3) ls st (mm_si h a k0 x)) : mm_V G d M Q pc ls (.int x :: .ref a :: st) h := by
  intro p e R s m args below meth c n0 c0 s0 H locs cells slots lr C I L
  obtain ⟨Cn, T, N, g1, ⟨g2, ⟨ty0, g8⟩, g9⟩, g3, g4, g5, g10, g7, g6⟩ := hF
  have kk := fun H1 locs1 I' => k p e R s m args below meth c n0 c0 s0 H1 locs1 cells slots lr C I' L
  obtain ⟨hx, hb, -, -, hown, -, -, -, hts, -, -, hK, -⟩ := C
  have he := mm_ws_at (b := mm_b G) (sc := mm_sc G) (cA := mm_cA G) h0 h1
  rw [mm_cell_o hs g7] at he
  have hD := mm_ws_D (b := mm_b G) (sc := mm_sc G) (cA := mm_cA G) (h := h) I.2.2.2.2.1
  refine W.eq (g2 := F0 m pc lr (.int x :: .ref (mm_b G + a) :: st.map (mm_tr (mm_b G) (mm_sc G)))) (by simp [mm_tr, mm_ad_pos h0]) ?_
  have hl : k0 < ((List.range n).map (mm_fv (mm_b G) (mm_sc G) h a ci)).length := by simpa using hk
  rcases g6 with g6 | ⟨host, g6⟩
  · refine va_put hx hb hts g2 ty0 g8 g9 hown hK I.1 hD I.2.1 (a - 1) he g1 k0 g3 (hts _ g6) (fun x hx => by rw [g4] at hx; exact hx) g10 g5 hn.1 hn.2 hl hd fun H1 locs1 q1 _ q3 => ?_
    rw [mm_put_i hs g7 hi h0] at q1
    exact kk H1 locs1 (I.moved q1 q3 rfl rfl rfl)
  · refine va_putN hx hb hts g2 ty0 g8 g9 hown hK I.1 hD I.2.1 (a - 1) he g1 k0 g3 (hts _ g6) (fun x hx => by rw [g4] at hx; exact hx) g10 g5 hn.1 hn.2 hl hd fun H1 locs1 q1 _ q3 => ?_
    rw [mm_put_i hs g7 hi h0] at q1
    exact kk H1 locs1 (I.moved q1 q3 rfl rfl rfl)
theorem mv_putr {index ci k0 a n x : Nat} {ty : FieldType} (hd : decode M.2.1 pc = .ok (.putfield index, 3)) (hF : mm_FL M.1.cls index ci k0 ty false) (hi : mm_isr ci k0 = true) (hs : mm_sh a = (ci, n)) (hk : k0 < n) (h0 : 0 < a) (h1 : a < mm_n h) (hn : ∀ q : Nat, narrow ty (.ref q) = .ref q ∧ fits ty (.ref q) = true)
    (k : mm_V G d M Q (pc + 3) ls st (mm_sr h a k0 (some x))) : mm_V G d M Q pc ls (.ref x :: .ref a :: st) h := by
  intro p e R s m args below meth c n0 c0 s0 H locs cells slots lr C I L
  obtain ⟨Cn, T, N, g1, ⟨g2, ⟨ty0, g8⟩, g9⟩, g3, g4, g5, g10, g7, g6⟩ := hF
  have kk := fun H1 locs1 I' => k p e R s m args below meth c n0 c0 s0 H1 locs1 cells slots lr C I' L
  obtain ⟨hx, hb, -, -, hown, -, -, -, hts, -, -, hK, -⟩ := C
  have he := mm_ws_at (b := mm_b G) (sc := mm_sc G) (cA := mm_cA G) h0 h1
  rw [mm_cell_o hs g7] at he
  have hD := mm_ws_D (b := mm_b G) (sc := mm_sc G) (cA := mm_cA G) (h := h) I.2.2.2.2.1
  refine W.eq (g2 := F0 m pc lr (.ref (mm_ad (mm_b G) (mm_sc G) x) :: .ref (mm_b G + a) :: st.map (mm_tr (mm_b G) (mm_sc G)))) (by simp [mm_tr, mm_ad_pos h0]) ?_
  have hl : k0 < ((List.range n).map (mm_fv (mm_b G) (mm_sc G) h a ci)).length := by simpa using hk
  rcases g6 with g6 | ⟨host, g6⟩
  · refine va_put hx hb hts g2 ty0 g8 g9 hown hK I.1 hD I.2.1 (a - 1) he g1 k0 g3 (hts _ g6) (fun x hx => by rw [g4] at hx; exact hx) g10 g5 (hn _).1 (hn _).2 hl hd fun H1 locs1 q1 _ q3 => ?_
    rw [mm_put_r hs g7 hi h0] at q1
    exact kk H1 locs1 (I.moved q1 q3 rfl rfl rfl)
  · refine va_putN hx hb hts g2 ty0 g8 g9 hown hK I.1 hD I.2.1 (a - 1) he g1 k0 g3 (hts _ g6) (fun x hx => by rw [g4] at hx; exact hx) g10 g5 (hn _).1 (hn _).2 hl hd fun H1 locs1 q1 _ q3 => ?_
    rw [mm_put_r hs g7 hi h0] at q1
    exact kk H1 locs1 (I.moved q1 q3 rfl rfl rfl)
/-- the same of a final field of the own class -/
def mm_FLF (own : String) (index ci k : Nat) (ty : FieldType) : Prop :=
  ∃ (T : u_T) (N : Nat), vwCl[ci]? = some (own, T, N) ∧ mm_CF own T N ∧ k < N ∧ (T k).1 = own ∧ parseFieldDescriptor (T k).2.2.1 = some ty ∧ (T k).2.2.2 = true ∧ ci < 100 ∧ Cond.fieldLink own index own (T k).2.1 (T k).2.2.1 ∈ mm_WS
theorem mv_putF {index ci k0 a n x : Nat} {ty : FieldType} (hd : decode M.2.1 pc = .ok (.putfield index, 3)) (hF : mm_FLF M.1.cls index ci k0 ty) (hin : M.1.name = "<init>") (hi : mm_isr ci k0 = true) (hs : mm_sh a = (ci, n)) (hk : k0 < n) (h0 : 0 < a) (h1 : a < mm_n h) (hn : ∀ q : Nat, narrow ty (.ref q) = .ref q ∧ fits ty (.ref q) = true)
    (k : mm_V G d M Q (pc + 3) ls st (mm_sr h a k0 (some x))) : mm_V G d M Q pc ls (.ref x :: .ref a :: st) h := by
  intro p e R s m args below meth c n0 c0 s0 H locs cells slots lr C I L
  obtain ⟨T, N, g1, ⟨g2, ⟨ty0, g8⟩, g9⟩, g3, g4, g5, g10, g7, g6⟩ := hF
  have kk := fun H1 locs1 I' => k p e R s m args below meth c n0 c0 s0 H1 locs1 cells slots lr C I' L
  obtain ⟨hx, hb, -, -, hown, -, hnm, -, hts, -, -, hK, -⟩ := C
  have he := mm_ws_at (b := mm_b G) (sc := mm_sc G) (cA := mm_cA G) h0 h1
  rw [mm_cell_o hs g7] at he
  have hD := mm_ws_D (b := mm_b G) (sc := mm_sc G) (cA := mm_cA G) (h := h) I.2.2.2.2.1
  refine W.eq (g2 := F0 m pc lr (.ref (mm_ad (mm_b G) (mm_sc G) x) :: .ref (mm_b G + a) :: st.map (mm_tr (mm_b G) (mm_sc G)))) (by simp [mm_tr, mm_ad_pos h0]) ?_
  have hl : k0 < ((List.range n).map (mm_fv (mm_b G) (mm_sc G) h a ci)).length := by simpa using hk
  refine va_putF hx hb hts g2 ty0 g8 g9 hown hK I.1 hD I.2.1 (a - 1) he g1 k0 g3 (hts _ g6) (fun x hx => by rw [g4] at hx; exact hx) g10 (hnm.trans hin) g4 g5 (hn _).1 (hn _).2 hl hd fun H1 locs1 q1 _ q3 => ?_
  rw [mm_put_r hs g7 hi h0] at q1
  exact kk H1 locs1 (I.moved q1 q3 rfl rfl rfl)
theorem mv_iald {a n : Nat} {i : Int32} (hd : decode M.2.1 pc = .ok (.iaload, 1)) (hs : mm_sh a = (100, n)) (h0 : 0 < a) (h1 : a < mm_n h) (hin : vp_in i n)
    (k : mm_V G d M Q (pc + 1) ls (.int (mm_gi h a i.toNatClampNeg) :: st) h) : mm_V G d M Q pc ls (.int i :: .ref a :: st) h := by
  intro p e R s m args below meth c n0 c0 s0 H locs cells slots lr C I L
  have kk := k p e R s m args below meth c n0 c0 s0 H locs cells slots lr C I L
  obtain ⟨hx, hb, -, -, hown, -, -, -, hts, -, -, hK, -⟩ := C
  have he := mm_ws_at (b := mm_b G) (sc := mm_sc G) (cA := mm_cA G) h0 h1
  rw [mm_cell_i hs] at he
  refine W.eq (g2 := F0 m pc lr (.int i :: .ref (mm_b G + a) :: st.map (mm_tr (mm_b G) (mm_sc G)))) (by simp [mm_tr, mm_ad_pos h0]) ?_
  exact va_iald hx hb hK I.1 (a - 1) 0 he rfl hin hd kk
theorem mv_zald {a n : Nat} {i : Int32} (hd : decode M.2.1 pc = .ok (.baload, 1)) (hs : mm_sh a = (101, n)) (h0 : 0 < a) (h1 : a < mm_n h) (hin : vp_in i n)
    (k : mm_V G d M Q (pc + 1) ls (.int (mm_gi h a i.toNatClampNeg) :: st) h) : mm_V G d M Q pc ls (.int i :: .ref a :: st) h := by
  intro p e R s m args below meth c n0 c0 s0 H locs cells slots lr C I L
  have kk := k p e R s m args below meth c n0 c0 s0 H locs cells slots lr C I L
  obtain ⟨hx, hb, -, -, hown, -, -, -, hts, -, -, hK, -⟩ := C
  have he := mm_ws_at (b := mm_b G) (sc := mm_sc G) (cA := mm_cA G) h0 h1
  rw [mm_cell_z hs] at he
  refine W.eq (g2 := F0 m pc lr (.int i :: .ref (mm_b G + a) :: st.map (mm_tr (mm_b G) (mm_sc G)))) (by simp [mm_tr, mm_ad_pos h0]) ?_
  exact va_zald hx hb hK I.1 (a - 1) 1 he rfl hin hd kk
theorem mv_lald {a n : Nat} {i : Int32} (hd : decode M.2.1 pc = .ok (.laload, 1)) (hs : mm_sh a = (103, n)) (h0 : 0 < a) (h1 : a < mm_n h) (hin : vp_in i n)
    (k : mm_V G d M Q (pc + 1) ls (.long (mm_gl h a i.toNatClampNeg) :: st) h) : mm_V G d M Q pc ls (.int i :: .ref a :: st) h := by
  intro p e R s m args below meth c n0 c0 s0 H locs cells slots lr C I L
  have kk := k p e R s m args below meth c n0 c0 s0 H locs cells slots lr C I L
  obtain ⟨hx, hb, -, -, hown, -, -, -, hts, -, -, hK, -⟩ := C
  have he := mm_ws_at (b := mm_b G) (sc := mm_sc G) (cA := mm_cA G) h0 h1
  rw [mm_cell_l hs] at he
  refine W.eq (g2 := F0 m pc lr (.int i :: .ref (mm_b G + a) :: st.map (mm_tr (mm_b G) (mm_sc G)))) (by simp [mm_tr, mm_ad_pos h0]) ?_
  exact va_lald hx hb hK I.1 (a - 1) 3 he rfl hin hd kk
theorem mv_aald {a n x : Nat} {i : Int32} (hd : decode M.2.1 pc = .ok (.aaload, 1)) (hs : mm_sh a = (102, n)) (h0 : 0 < a) (h1 : a < mm_n h) (hin : vp_in i n) (hr : mm_gr h a i.toNatClampNeg = some x)
    (k : mm_V G d M Q (pc + 1) ls (.ref x :: st) h) : mm_V G d M Q pc ls (.int i :: .ref a :: st) h := by
  intro p e R s m args below meth c n0 c0 s0 H locs cells slots lr C I L
  have kk := k p e R s m args below meth c n0 c0 s0 H locs cells slots lr C I L
  obtain ⟨hx, hb, -, -, hown, -, -, -, hts, -, -, hK, -⟩ := C
  have he := mm_ws_at (b := mm_b G) (sc := mm_sc G) (cA := mm_cA G) h0 h1
  rw [mm_cell_q hs] at he
  refine W.eq (g2 := F0 m pc lr (.int i :: .ref (mm_b G + a) :: st.map (mm_tr (mm_b G) (mm_sc G)))) (by simp [mm_tr, mm_ad_pos h0]) ?_
  refine va_aldq hx hb hK I.1 (a - 1) 2 he rfl hin hd ?_
  rw [hr]
  exact kk
theorem mv_alen {a kd n : Nat} (hd : decode M.2.1 pc = .ok (.arraylength, 1)) (hs : mm_sh a = (kd, n)) (hkd : kd = 100 ∨ kd = 101) (h0 : 0 < a) (h1 : a < mm_n h)
    (k : mm_V G d M Q (pc + 1) ls (.int (Int32.ofNat n) :: st) h) : mm_V G d M Q pc ls (.ref a :: st) h := by
  intro p e R s m args below meth c n0 c0 s0 H locs cells slots lr C I L
  have kk := k p e R s m args below meth c n0 c0 s0 H locs cells slots lr C I L
  obtain ⟨hx, hb, -, -, hown, -, -, -, hts, -, -, hK, -⟩ := C
  have he := mm_ws_at (b := mm_b G) (sc := mm_sc G) (cA := mm_cA G) h0 h1
  refine W.eq (g2 := F0 m pc lr (.ref (mm_b G + a) :: st.map (mm_tr (mm_b G) (mm_sc G)))) (by simp [mm_tr, mm_ad_pos h0]) ?_
  rcases hkd with rfl | rfl
  · rw [mm_cell_i hs] at he
    exact va_alen hx hb hK I.1 (a - 1) 0 he rfl rfl hd kk
  · rw [mm_cell_z hs] at he
    exact va_alen hx hb hK I.1 (a - 1) 1 he rfl rfl hd kk
theorem mm_st_iast {b sc : Nat} {cA : Nat → ClassId} {h : mm_H} {a n j : Nat} {x : Int32} (hs : mm_sh a = (100, n)) (h0 : 0 < a) : (mm_ws b sc cA h).set (a - 1) (b + a, .inl (cA 0, n, .inl (upd (mm_gi h a) j x))) = mm_ws b sc cA (mm_si h a j x) := by
  refine mm_ws_set (h := h) (h' := mm_si h a j x) h0 rfl (fun j hj => mm_si_o hj) ?_
  rw [mm_cell_i hs]
  congr 4
  funext q
  simp [mm_gi, mm_gl, mm_si, mm_sl, mm_u2, upd, vp_updL]
theorem mv_iast {a n : Nat} {i : Int32} {x : Int32} (hd : decode M.2.1 pc = .ok (.iastore, 1)) (hs : mm_sh a = (100, n)) (h0 : 0 < a) (h1 : a < mm_n h) (hin : vp_in i n)
    (k : mm_V G d M Q (pc + 1) ls st (mm_si h a i.toNatClampNeg x)) : mm_V G d M Q pc ls (.int x :: .int i :: .ref a :: st) h := by
  intro p e R s m args below meth c n0 c0 s0 H locs cells slots lr C I L
  have kk := fun H1 locs1 I' => k p e R s m args below meth c n0 c0 s0 H1 locs1 cells slots lr C I' L
  obtain ⟨hx, hb, -, -, hown, -, -, -, hts, -, -, hK, -⟩ := C
  have he := mm_ws_at (b := mm_b G) (sc := mm_sc G) (cA := mm_cA G) h0 h1
  rw [mm_cell_i hs] at he
  have hD := mm_ws_D (b := mm_b G) (sc := mm_sc G) (cA := mm_cA G) (h := h) I.2.2.2.2.1
  refine W.eq (g2 := F0 m pc lr (.int x :: .int i :: .ref (mm_b G + a) :: st.map (mm_tr (mm_b G) (mm_sc G)))) (by simp [mm_tr, mm_ad_pos h0]) ?_
  refine va_iast hx hb hK I.1 hD I.2.1 (a - 1) 0 he rfl hin hd fun H1 locs1 q1 _ q3 => ?_
  rw [mm_st_iast hs h0] at q1
  exact kk H1 locs1 (I.moved q1 q3 rfl rfl rfl)
theorem mm_st_zast {b sc : Nat} {cA : Nat → ClassId} {h : mm_H} {a n j : Nat} {x : Int32} (hs : mm_sh a = (101, n)) (h0 : 0 < a) : (mm_ws b sc cA h).set (a - 1) (b + a, .inl (cA 1, n, .inl (upd (mm_gi h a) j x))) = mm_ws b sc cA (mm_si h a j x) := by
  refine mm_ws_set (h := h) (h' := mm_si h a j x) h0 rfl (fun j hj => mm_si_o hj) ?_
  rw [mm_cell_z hs]
  congr 4
  funext q
  simp [mm_gi, mm_gl, mm_si, mm_sl, mm_u2, upd, vp_updL]
theorem mv_zast {a n : Nat} {i : Int32} {x : Int32} (hd : decode M.2.1 pc = .ok (.bastore, 1)) (hs : mm_sh a = (101, n)) (h0 : 0 < a) (h1 : a < mm_n h) (hin : vp_in i n)
    (k : mm_V G d M Q (pc + 1) ls st (mm_si h a i.toNatClampNeg (vp_nar .boolean x))) : mm_V G d M Q pc ls (.int x :: .int i :: .ref a :: st) h := by
  intro p e R s m args below meth c n0 c0 s0 H locs cells slots lr C I L
  have kk := fun H1 locs1 I' => k p e R s m args below meth c n0 c0 s0 H1 locs1 cells slots lr C I' L
  obtain ⟨hx, hb, -, -, hown, -, -, -, hts, -, -, hK, -⟩ := C
  have he := mm_ws_at (b := mm_b G) (sc := mm_sc G) (cA := mm_cA G) h0 h1
  rw [mm_cell_z hs] at he
  have hD := mm_ws_D (b := mm_b G) (sc := mm_sc G) (cA := mm_cA G) (h := h) I.2.2.2.2.1
  refine W.eq (g2 := F0 m pc lr (.int x :: .int i :: .ref (mm_b G + a) :: st.map (mm_tr (mm_b G) (mm_sc G)))) (by simp [mm_tr, mm_ad_pos h0]) ?_
  refine va_zast hx hb hK I.1 hD I.2.1 (a - 1) 1 he rfl hin hd fun H1 locs1 q1 _ q3 => ?_
  rw [mm_st_zast hs h0] at q1
  exact kk H1 locs1 (I.moved q1 q3 rfl rfl rfl)
theorem mm_st_last {b sc : Nat} {cA : Nat → ClassId} {h : mm_H} {a n j : Nat} {x : Int64} (hs : mm_sh a = (103, n)) (h0 : 0 < a) : (mm_ws b sc cA h).set (a - 1) (b + a, .inl (cA 3, n, .inr (.inl (vp_updL (mm_gl h a) j x)))) = mm_ws b sc cA (mm_sl h a j x) := by
  refine mm_ws_set (h := h) (h' := mm_sl h a j x) h0 rfl (fun j hj => mm_sl_o hj) ?_
  rw [mm_cell_l hs]
  congr 5
  funext q
  simp [mm_gi, mm_gl, mm_si, mm_sl, mm_u2, upd, vp_updL]
theorem mv_last {a n : Nat} {i : Int32} {x : Int64} (hd : decode M.2.1 pc = .ok (.lastore, 1)) (hs : mm_sh a = (103, n)) (h0 : 0 < a) (h1 : a < mm_n h) (hin : vp_in i n)
    (k : mm_V G d M Q (pc + 1) ls st (mm_sl h a i.toNatClampNeg x)) : mm_V G d M Q pc ls (.long x :: .int i :: .ref a :: st) h := by
  intro p e R s m args below meth c n0 c0 s0 H locs cells slots lr C I L
  have kk := fun H1 locs1 I' => k p e R s m args below meth c n0 c0 s0 H1 locs1 cells slots lr C I' L
  obtain ⟨hx, hb, -, -, hown, -, -, -, hts, -, -, hK, -⟩ := C
  have he := mm_ws_at (b := mm_b G) (sc := mm_sc G) (cA := mm_cA G) h0 h1
  rw [mm_cell_l hs] at he
  have hD := mm_ws_D (b := mm_b G) (sc := mm_sc G) (cA := mm_cA G) (h := h) I.2.2.2.2.1
  refine W.eq (g2 := F0 m pc lr (.long x :: .int i :: .ref (mm_b G + a) :: st.map (mm_tr (mm_b G) (mm_sc G)))) (by simp [mm_tr, mm_ad_pos h0]) ?_
  refine va_last hx hb hK I.1 hD I.2.1 (a - 1) 3 he rfl hin hd fun H1 locs1 q1 _ q3 => ?_
  rw [mm_st_last hs h0] at q1
  exact kk H1 locs1 (I.moved q1 q3 rfl rfl rfl)
theorem mm_st_aast {b sc : Nat} {cA : Nat → ClassId} {h : mm_H} {a n j x : Nat} (hs : mm_sh a = (102, n)) (h0 : 0 < a) : (mm_ws b sc cA h).set (a - 1) (b + a, .inl (cA 2, n, .inr (.inr (.inr (.inr (va_up (fun j => (mm_gr h a j).map (mm_ad b sc)) j (some (mm_ad b sc x)))))))) = mm_ws b sc cA (mm_sr h a j (some x)) := by
  refine mm_ws_set (h := h) (h' := mm_sr h a j (some x)) h0 rfl (fun j hj => mm_sr_o hj) ?_
  rw [mm_cell_q hs]
  congr 7
  funext q
  by_cases hq : q = j
  · subst hq
    simp [mm_gr, mm_sr, mm_u2, va_up]
  · simp [mm_gr, mm_sr, mm_u2, va_up, hq]
theorem mv_aast {a n x : Nat} {i : Int32} (hd : decode M.2.1 pc = .ok (.aastore, 1)) (hs : mm_sh a = (102, n)) (h0 : 0 < a) (h1 : a < mm_n h) (hin : vp_in i n) {n2 : Nat} (hx2 : mm_sh x = (mm_slotC, n2)) (h2 : 0 < x) (h3 : x < mm_n h)
    (k : mm_V G d M Q (pc + 1) ls st (mm_sr h a i.toNatClampNeg (some x))) : mm_V G d M Q pc ls (.ref x :: .int i :: .ref a :: st) h := by
  intro p e R s m args below meth c n0 c0 s0 H locs cells slots lr C I L
  have kk := fun H1 locs1 I' => k p e R s m args below meth c n0 c0 s0 H1 locs1 cells slots lr C I' L
  obtain ⟨hx, hb, -, -, hown, -, -, -, hts, -, -, hK, -⟩ := C
  have he := mm_ws_at (b := mm_b G) (sc := mm_sc G) (cA := mm_cA G) h0 h1
  rw [mm_cell_q hs] at he
  have he2 := mm_ws_at (b := mm_b G) (sc := mm_sc G) (cA := mm_cA G) h2 h3
  rw [mm_cell_o hx2 (by decide)] at he2
  have hD := mm_ws_D (b := mm_b G) (sc := mm_sc G) (cA := mm_cA G) (h := h) I.2.2.2.2.1
  refine W.eq (g2 := F0 m pc lr (.ref (mm_b G + x) :: .int i :: .ref (mm_b G + a) :: st.map (mm_tr (mm_b G) (mm_sc G)))) (by simp [mm_tr, mm_ad_pos h0, mm_ad_pos h2]) ?_
  refine va_astq hx hb hK I.1 hD I.2.1 (a - 1) 2 (x - 1) mm_slotC (r := mm_slotR) he rfl he2 mm_slotE hin hd fun H1 locs1 q1 _ q3 => ?_
  have e0 : mm_b G + x = mm_ad (mm_b G) (mm_sc G) x := (mm_ad_pos h2).symm
  rw [e0, mm_st_aast hs h0] at q1
  exact kk H1 locs1 (I.moved q1 q3 rfl rfl rfl)
end MV
