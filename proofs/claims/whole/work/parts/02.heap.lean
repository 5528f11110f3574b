/-! THE SMALL MACHINE: its heap. An id stands for a cell: id 0 is the script, id a > 0 lies at address b + a. Contents by (id, place): ints, references (ids), longs; then the next id, and how many cells and slots were made in all. -/
abbrev mm_H : Type := (Nat → Nat → Int32) × (Nat → Nat → Option Nat) × (Nat → Nat → Int64) × Nat × Nat × Nat
def mm_gi (h : mm_H) (a k : Nat) : Int32 := h.1 a k
def mm_gr (h : mm_H) (a k : Nat) : Option Nat := h.2.1 a k
def mm_gl (h : mm_H) (a k : Nat) : Int64 := h.2.2.1 a k
def mm_n (h : mm_H) : Nat := h.2.2.2.1
def mm_c (h : mm_H) : Nat := h.2.2.2.2.1
def mm_s (h : mm_H) : Nat := h.2.2.2.2.2
def mm_u2 {α : Type} (f : Nat → Nat → α) (a k : Nat) (x : α) : Nat → Nat → α := fun a' k' => if a' = a ∧ k' = k then x else f a' k'
def mm_si (h : mm_H) (a k : Nat) (x : Int32) : mm_H := (mm_u2 h.1 a k x, h.2)
def mm_sr (h : mm_H) (a k : Nat) (x : Option Nat) : mm_H := (h.1, mm_u2 h.2.1 a k x, h.2.2)
def mm_sl (h : mm_H) (a k : Nat) (x : Int64) : mm_H := (h.1, h.2.1, mm_u2 h.2.2.1 a k x, h.2.2.2)
def mm_new (h : mm_H) (len : Nat) : mm_H := (fun a k => if a = mm_n h then 0 else h.1 a k, fun a k => if a = mm_n h then none else h.2.1 a k, fun a k => if a = mm_n h then 0 else h.2.2.1 a k, mm_n h + 1, mm_c h + 1, mm_s h + len)
def mm_exc (h : mm_H) : mm_H := (h.1, h.2.1, h.2.2.1, mm_n h, mm_c h + 1, mm_s h + 6)
def mm_ad (b sc a : Nat) : Nat := if a = 0 then sc else b + a
theorem mm_ad_pos {b sc a : Nat} (h : 0 < a) : mm_ad b sc a = b + a := by unfold mm_ad; rw [if_neg (by omega)]
def mm_tr (b sc : Nat) : Value → Value
  | .ref a => .ref (mm_ad b sc a)
  | v => v
theorem mm_tr_cat (b sc : Nat) (v : Value) : (mm_tr b sc v).category = v.category := by cases v <;> rfl
/-- an outcome: a value or none; or an exception, by its number -/
abbrev mm_O : Type := Option Value ⊕ Nat
/-- a method: name, bytes, locals, return type, handlers -/
abbrev mm_M : Type := MethodName × ByteArray × Nat × Option FieldType × List (Nat × Nat × Nat × Nat)
/-- what is fixed for a run: launch, base, the script's address, array classes, the classes' numbers and slots, the room in cells and slots -/
abbrev mm_G : Type := Launch × Nat × Nat × (Nat → ClassId) × va_G × Nat × Nat
abbrev mm_b (G : mm_G) : Nat := G.2.1
abbrev mm_sc (G : mm_G) : Nat := G.2.2.1
abbrev mm_cA (G : mm_G) : Nat → ClassId := G.2.2.2.1
abbrev mm_D (G : mm_G) : va_G := G.2.2.2.2.1
abbrev mm_BC (G : mm_G) : Nat := G.2.2.2.2.2.1
abbrev mm_BS (G : mm_G) : Nat := G.2.2.2.2.2.2
def mm_fv (b sc : Nat) (h : mm_H) (a ci k : Nat) : Value := if mm_isr ci k = true then va_rf ((mm_gr h a k).map (mm_ad b sc)) else .int (mm_gi h a k)
/-- the cell of an id: by its kind: an object (the number of its class), ints, booleans, references, longs -/
def mm_ce (b sc : Nat) (cA : Nat → ClassId) (h : mm_H) (a kd n : Nat) : va_E :=
  if kd < 100 then .inr (kd, (List.range n).map (mm_fv b sc h a kd))
  else if kd < 102 then .inl (cA (kd - 100), n, .inl (mm_gi h a))
  else if kd = 102 then .inl (cA 2, n, .inr (.inr (.inr (.inr fun j => (mm_gr h a j).map (mm_ad b sc)))))
  else .inl (cA 3, n, .inr (.inl (mm_gl h a)))
def mm_cell (b sc : Nat) (cA : Nat → ClassId) (h : mm_H) (a : Nat) : va_E := mm_ce b sc cA h a (mm_sh a).1 (mm_sh a).2
def mm_ws (b sc : Nat) (cA : Nat → ClassId) (h : mm_H) : va_W := (List.range (mm_n h - 1)).map fun j => (b + (j + 1), mm_cell b sc cA h (j + 1))
theorem mm_ws_at {b sc : Nat} {cA : Nat → ClassId} {h : mm_H} {a : Nat} (h0 : 0 < a) (h1 : a < mm_n h) : (mm_ws b sc cA h)[a - 1]? = some (b + a, mm_cell b sc cA h a) := by
  unfold mm_ws
  rw [List.getElem?_map, List.getElem?_range (by omega)]
  simp only [Option.map_some, Option.some.injEq]
  rw [show a - 1 + 1 = a by omega]
theorem mm_ws_of {b sc : Nat} {cA : Nat → ClassId} {h : mm_H} {k : Nat} {q : Nat × va_E} (hq : (mm_ws b sc cA h)[k]? = some q) : k + 1 < mm_n h ∧ q = (b + (k + 1), mm_cell b sc cA h (k + 1)) := by
  unfold mm_ws at hq
  rw [List.getElem?_map] at hq
  obtain ⟨j, hj, he⟩ := Option.map_eq_some_iff.mp hq
  obtain ⟨h1, h2⟩ := List.getElem?_eq_some_iff.mp hj
  simp only [List.length_range] at h1
  simp only [List.getElem_range] at h2
  subst h2
  exact ⟨by omega, he.symm⟩
theorem mm_ws_set {b sc : Nat} {cA : Nat → ClassId} {h h' : mm_H} {a : Nat} (h0 : 0 < a) (hn : mm_n h' = mm_n h) (ho : ∀ j, j ≠ a → mm_cell b sc cA h' j = mm_cell b sc cA h j) {x : va_E} (hx : mm_cell b sc cA h' a = x) :
    (mm_ws b sc cA h).set (a - 1) (b + a, x) = mm_ws b sc cA h' := by
  subst hx
  refine List.ext_getElem? fun k => ?_
  rw [List.getElem?_set]
  by_cases hk : a - 1 = k
  · subst hk
    rw [if_pos rfl]
    unfold mm_ws
    simp only [List.length_map, List.length_range, List.getElem?_map]
    by_cases hl : a - 1 < mm_n h - 1
    · rw [if_pos hl, List.getElem?_range (by omega)]
      simp only [Option.map_some, Option.some.injEq]
      rw [show a - 1 + 1 = a by omega]
    · rw [if_neg hl, List.getElem?_eq_none (by simp; omega)]
      rfl
  · rw [if_neg hk]
    unfold mm_ws
    rw [hn]
    simp only [List.getElem?_map]
    by_cases hl : k < mm_n h - 1
    · rw [List.getElem?_range hl]
      simp only [Option.map_some, Option.some.injEq, Prod.mk.injEq, true_and]
      exact (ho (k + 1) (by omega)).symm
    · rw [List.getElem?_eq_none (by simp; omega)]
      rfl
theorem mm_cell_eq {b sc : Nat} {cA : Nat → ClassId} {h h' : mm_H} {a : Nat} (h1 : ∀ k, mm_gi h' a k = mm_gi h a k) (h2 : ∀ k, mm_gr h' a k = mm_gr h a k) (h3 : ∀ k, mm_gl h' a k = mm_gl h a k) : mm_cell b sc cA h' a = mm_cell b sc cA h a := by
  have e1 : mm_gi h' a = mm_gi h a := funext h1
  have e2 : mm_gl h' a = mm_gl h a := funext h3
  unfold mm_cell mm_ce
  have e3 : ∀ kd, mm_fv b sc h' a kd = mm_fv b sc h a kd := fun kd => funext fun k => by unfold mm_fv; rw [h1, h2]
  rw [e3, e1, e2]
  simp only [h2]
theorem mm_si_o {b sc : Nat} {cA : Nat → ClassId} {h : mm_H} {a k j : Nat} {x : Int32} (hj : j ≠ a) : mm_cell b sc cA (mm_si h a k x) j = mm_cell b sc cA h j :=
  mm_cell_eq (fun q => by simp [mm_gi, mm_si, mm_u2, hj]) (fun _ => rfl) (fun _ => rfl)
theorem mm_sr_o {b sc : Nat} {cA : Nat → ClassId} {h : mm_H} {a k j : Nat} {x : Option Nat} (hj : j ≠ a) : mm_cell b sc cA (mm_sr h a k x) j = mm_cell b sc cA h j :=
  mm_cell_eq (fun _ => rfl) (fun q => by simp [mm_gr, mm_sr, mm_u2, hj]) (fun _ => rfl)
theorem mm_sl_o {b sc : Nat} {cA : Nat → ClassId} {h : mm_H} {a k j : Nat} {x : Int64} (hj : j ≠ a) : mm_cell b sc cA (mm_sl h a k x) j = mm_cell b sc cA h j :=
  mm_cell_eq (fun _ => rfl) (fun _ => rfl) (fun q => by simp [mm_gl, mm_sl, mm_u2, hj])
theorem mm_new_o {b sc : Nat} {cA : Nat → ClassId} {h : mm_H} {len j : Nat} (hj : j ≠ mm_n h) : mm_cell b sc cA (mm_new h len) j = mm_cell b sc cA h j :=
  mm_cell_eq (fun q => by simp [mm_gi, mm_new, hj]) (fun q => by simp [mm_gr, mm_new, hj]) (fun q => by simp [mm_gl, mm_new, hj])
theorem mm_range_set {f g : Nat → Value} {n k : Nat} {v : Value} (hk : g k = v) (ho : ∀ j, j ≠ k → g j = f j) : ((List.range n).map f).set k v = (List.range n).map g := by
  refine List.ext_getElem? fun j => ?_
  rw [List.getElem?_set]
  by_cases hj : k = j
  · subst hj
    rw [if_pos rfl]
    simp only [List.length_map, List.length_range, List.getElem?_map]
    by_cases hl : k < n
    · rw [if_pos hl, List.getElem?_range hl, Option.map_some, hk]
    · rw [if_neg hl, List.getElem?_eq_none (by simp; omega)]
      rfl
  · rw [if_neg hj]
    simp only [List.getElem?_map]
    by_cases hl : j < n
    · rw [List.getElem?_range hl, Option.map_some, Option.map_some, ho j (fun q => hj q.symm)]
    · rw [List.getElem?_eq_none (by simp; omega)]
      rfl
/-- the addresses that a method may have written: those of the ids that it found, and all that came since -/
def mm_A (b n0 : Nat) (s : State) : Nat → Prop := fun q => (b < q ∧ q < b + n0) ∨ s.heap.size ≤ q
theorem mm_ws_D {b sc : Nat} {cA : Nat → ClassId} {h : mm_H} {n0 : Nat} {s : State} (hg : n0 < mm_n h → s.heap.size ≤ b + n0) : va_D (mm_A b n0 s) (mm_ws b sc cA h) := by
  refine ⟨fun i j x y hx hy e => ?_, fun k q hq => ?_⟩
  · obtain ⟨-, rfl⟩ := mm_ws_of hx
    obtain ⟨-, rfl⟩ := mm_ws_of hy
    have e : b + (i + 1) = b + (j + 1) := e
    omega
  · obtain ⟨h1, rfl⟩ := mm_ws_of hq
    show mm_A b n0 s (b + (k + 1))
    by_cases hk : k + 1 < n0
    · exact Or.inl ⟨by omega, by omega⟩
    · exact Or.inr (by have := hg (by omega); omega)
/-- the locals: what is known of them -/
def mm_L (b sc nL : Nat) (ls : List (Option Value)) (lr : Array Slot) : Prop :=
  ls.length = nL ∧ lr.size = nL ∧ lv_wf lr ∧ ∀ (i : Nat) (v : Value), ls[i]? = some (some v) → v.category = 1 ∧ lr[i]? = some (.val (mm_tr b sc v))
def mm_lv (b sc : Nat) (ls : List (Option Value)) : List (Nat × Value) := (List.range ls.length).filterMap fun i => (ls.getD i none).map fun v => (i, mm_tr b sc v)
theorem mm_lv_mem {b sc : Nat} {ls : List (Option Value)} {q : Nat × Value} : q ∈ mm_lv b sc ls ↔ ∃ v, ls[q.1]? = some (some v) ∧ q.2 = mm_tr b sc v := by
  unfold mm_lv
  rw [List.mem_filterMap]
  constructor
  · rintro ⟨i, hi, he⟩
    rw [List.mem_range] at hi
    obtain ⟨v, hv, rfl⟩ := Option.map_eq_some_iff.mp he
    rw [List.getD_eq_getElem?_getD] at hv
    refine ⟨v, ?_, rfl⟩
    show ls[i]? = _
    rw [List.getElem?_eq_getElem hi] at hv ⊢
    simpa using hv
  · rintro ⟨v, hv, he⟩
    obtain ⟨h1, h2⟩ := List.getElem?_eq_some_iff.mp hv
    refine ⟨q.1, List.mem_range.mpr h1, ?_⟩
    rw [List.getD_eq_getElem?_getD, hv]
    simp [← he]
theorem mm_L.has {b sc nL : Nat} {ls : List (Option Value)} {lr : Array Slot} (h : mm_L b sc nL ls lr) : lv_has lr nL (mm_lv b sc ls) := by
  refine ⟨h.2.1, h.2.2.1, fun q hq => ?_⟩
  obtain ⟨v, h1, h2⟩ := mm_lv_mem.mp hq
  rw [h2]
  exact (h.2.2.2 q.1 v h1).2
theorem mm_L.set {b sc nL : Nat} {ls : List (Option Value)} {lr lr' : Array Slot} {i : Nat} {v : Value} (h : mm_L b sc nL ls lr) (hv : v.category = 1)
    (h' : lv_has lr' nL ((i, mm_tr b sc v) :: (mm_lv b sc ls).filter (fun q => !(q.1 == i) && !(q.1 + 1 == i && q.2.category == 2)))) : mm_L b sc nL (ls.set i (some v)) lr' := by
  obtain ⟨h1, h2, h3, h4⟩ := h
  obtain ⟨g1, g2, g3⟩ := h'
  refine ⟨by rw [List.length_set]; exact h1, g1, g2, fun j w hj => ?_⟩
  rw [List.getElem?_set] at hj
  by_cases hij : i = j
  · subst hij
    rw [if_pos rfl] at hj
    split at hj
    · cases hj
      exact ⟨hv, g3 _ List.mem_cons_self⟩
    · cases hj
  · rw [if_neg hij] at hj
    obtain ⟨w1, w2⟩ := h4 j w hj
    refine ⟨w1, g3 (j, mm_tr b sc w) (List.mem_cons_of_mem _ (List.mem_filter.mpr ⟨mm_lv_mem.mpr ⟨w, hj, rfl⟩, ?_⟩))⟩
    have c1 : (mm_tr b sc w).category = 1 := by rw [mm_tr_cat]; exact w1
    have hji : ¬ j = i := fun q => hij q.symm
    simp [c1, hji]
/-- the locals with which a method begins -/
def mm_ent (nL : Nat) (av : List Value) : List (Option Value) := av.map some ++ List.replicate (nL - av.length) none
theorem mm_args_mem {b sc : Nat} : ∀ (av : List Value) (k i : Nat) (v : Value), (∀ w ∈ av, w.category = 1) → av[i]? = some v → (k + i, mm_tr b sc v) ∈ lv_args k (av.map (mm_tr b sc))
  | [], _, _, _, _, h => by simp at h
  | w :: av, k, i, v, hc, h => by
    have hw : (mm_tr b sc w).category = 1 := by rw [mm_tr_cat]; exact hc w List.mem_cons_self
    simp only [List.map_cons, lv_args, hw]
    cases i with
    | zero =>
      simp at h
      subst h
      exact List.mem_cons_self
    | succ i =>
      simp at h
      have := mm_args_mem (b := b) (sc := sc) av (k + 1) i v (fun x hx => hc x (List.mem_cons_of_mem _ hx)) h
      rw [show k + (i + 1) = k + 1 + i by omega]
      exact List.mem_cons_of_mem _ this
theorem mm_sl_len {b sc : Nat} : ∀ (av : List Value), (∀ w ∈ av, w.category = 1) → (lg_sl (av.map (mm_tr b sc))).length = av.length
  | [], _ => rfl
  | w :: av, hc => by
    have hw : (mm_tr b sc w).category = 1 := by rw [mm_tr_cat]; exact hc w List.mem_cons_self
    have ih := mm_sl_len (b := b) (sc := sc) av (fun x hx => hc x (List.mem_cons_of_mem _ hx))
    simp only [lg_sl, List.map_cons, List.flatMap_cons, hw] at ih ⊢
    simp only [show ¬ (1 = 2) by decide, if_false, List.length_append, List.length_cons, List.length_nil, ih]
    omega
theorem mm_L.entry {b sc nL : Nat} {av : List Value} (hc : ∀ w ∈ av, w.category = 1) (hl : av.length ≤ nL) :
    mm_L b sc nL (mm_ent nL av) ((lg_sl (av.map (mm_tr b sc)) ++ List.replicate (nL - (lg_sl (av.map (mm_tr b sc))).length) Slot.unset).toArray) := by
  obtain ⟨h1, h2, h3⟩ := lv_entry (av.map (mm_tr b sc)) (n := nL) (by rw [mm_sl_len av hc]; exact hl)
  refine ⟨by simp [mm_ent]; omega, h1, h2, fun i v hi => ?_⟩
  unfold mm_ent at hi
  by_cases hk : i < av.length
  · rw [List.getElem?_append_left (by simpa using hk), List.getElem?_map] at hi
    obtain ⟨w, h5, h6⟩ := Option.map_eq_some_iff.mp hi
    cases h6
    refine ⟨hc v (List.mem_of_getElem? h5), ?_⟩
    have h7 := h3 _ (mm_args_mem (b := b) (sc := sc) av 0 i v hc h5)
    simpa using h7
  · rw [List.getElem?_append_right (by simpa using hk)] at hi
    have := List.eq_of_mem_replicate (List.mem_of_getElem? hi)
    cases this
