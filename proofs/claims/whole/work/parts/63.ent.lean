/-! ENTRIES: what an entry of the log does to a world -/
theorem a_ixE (x : Int32) : ∃ j, j < 16 ∧ x &&& 15 = nI j := pk_andE x (m := 15) 4 (by decide)
noncomputable def a_ix (x : Int32) : Nat := Classical.choose (a_ixE x)
theorem a_ix_lt (x : Int32) : a_ix x < 16 := (Classical.choose_spec (a_ixE x)).1
theorem a_ix_eq (x : Int32) : x &&& 15 = nI (a_ix x) := (Classical.choose_spec (a_ixE x)).2
def a_low (A : mm_W) : Nat → Nat → Nat
  | 0, i => i
  | n + 1, i => if A 1 i = 0 then i else a_low A n (i + 1)
theorem a_low_eq {A : mm_W} {i : Nat} : ∀ n s, s ≤ i → i < s + n → (∀ j, s ≤ j → j < i → ¬ A 1 j = 0) → A 1 i = 0 → a_low A n s = i
  | 0, s, h1, h2, _, _ => by omega
  | n + 1, s, h1, h2, h3, h4 => by
    unfold a_low
    by_cases e : s = i
    · subst e; rw [if_pos h4]
    · rw [if_neg (h3 s (by omega) (by omega))]
      exact a_low_eq n (s + 1) (by omega) (by omega) (fun j a b => h3 j (by omega) b) h4
theorem a_low_all {A : mm_W} : ∀ n s, (∀ j, s ≤ j → j < s + n → ¬ A 1 j = 0) → a_low A n s = s + n
  | 0, s, _ => rfl
  | n + 1, s, h => by
    unfold a_low
    rw [if_neg (h s (by omega) (by omega)), a_low_all n (s + 1) (fun j a b => h j (by omega) (by omega))]
    omega
theorem a_low0 {A : mm_W} {i : Nat} (hi : i < 16) (h1 : ∀ j, j < i → ¬ A 1 j = 0) (h2 : A 1 i = 0) : a_low A 16 0 = i := a_low_eq 16 0 (by omega) (by omega) (fun j _ b => h1 j b) h2
theorem a_low16 {A : mm_W} (h : ∀ j, j < 16 → ¬ A 1 j = 0) : a_low A 16 0 = 16 := a_low_all 16 0 (fun j _ b => h j (by omega))
/-- the entry 'create' at place p -/
def a_c1 (B : mm_W) (lg : List Int32) (p : Nat) : Prop := p + 5 ≤ lg.length ∧ ((0 ≤ mm_dec lg (p + 1) 2 ∧ mm_dec lg (p + 1) 2 ≤ 4095) ∧ (0 ≤ mm_dec lg (p + 3) 2 ∧ mm_dec lg (p + 3) 2 ≤ 4095)) ∧ a_low B 16 0 < 16
/-- the other entries that name a thing -/
def a_c2 (B : mm_W) (lg : List Int32) (p what n : Nat) (b c : Int32) : Prop := p + n ≤ lg.length ∧ a_good B (mm_dec lg (p + 1) 3) (a_ix (mm_dec lg (p + 1) 3)) ∧ a_fit what b c
noncomputable def a_en1 (B : mm_W) (lg : List Int32) (p : Nat) : Option (mm_W × Nat) :=
  @ite _ (a_c1 B lg p) (Classical.propDecidable _) (some (a_set B (a_low B 16 0) (mm_dec lg (p + 1) 2) (mm_dec lg (p + 3) 2), 5)) none
noncomputable def a_en2 (B : mm_W) (lg : List Int32) (p what n : Nat) (b c : Int32) : Option (mm_W × Nat) :=
  @ite _ (a_c2 B lg p what n b c) (Classical.propDecidable _) (some (a_ord B what (a_ix (mm_dec lg (p + 1) 3)) b c, n)) none
theorem a_en1_y {B : mm_W} {lg : List Int32} {p : Nat} (h : a_c1 B lg p) : a_en1 B lg p = some (a_set B (a_low B 16 0) (mm_dec lg (p + 1) 2) (mm_dec lg (p + 3) 2), 5) := if_pos h
theorem a_en1_n {B : mm_W} {lg : List Int32} {p : Nat} (h : ¬ a_c1 B lg p) : a_en1 B lg p = none := if_neg h
theorem a_en2_y {B : mm_W} {lg : List Int32} {p what n : Nat} {b c : Int32} (h : a_c2 B lg p what n b c) : a_en2 B lg p what n b c = some (a_ord B what (a_ix (mm_dec lg (p + 1) 3)) b c, n) := if_pos h
theorem a_en2_n {B : mm_W} {lg : List Int32} {p what n : Nat} {b c : Int32} (h : ¬ a_c2 B lg p what n b c) : a_en2 B lg p what n b c = none := if_neg h
noncomputable def a_entK (k : Int32) (B : mm_W) (lg : List Int32) (p : Nat) : Option (mm_W × Nat) :=
  if k = 1 then a_en1 B lg p
  else if k = 2 then a_en2 B lg p 2 4 0 0
  else if k = 3 then a_en2 B lg p 3 6 (mm_dec lg (p + 4) 1 - 128) (mm_dec lg (p + 5) 1 - 128)
  else if k = 4 then a_en2 B lg p 4 6 (mm_dec lg (p + 4) 1) (mm_dec lg (p + 5) 1)
  else if k = 5 then a_en2 B lg p 5 6 (mm_dec lg (p + 4) 2) 0
  else if k = 6 then some ((a_step B).2, 1)
  else none
noncomputable def a_ent (B : mm_W) (lg : List Int32) (p : Nat) : Option (mm_W × Nat) := a_entK (lg.getD p 0) B lg p
theorem a_entK1 (B : mm_W) (lg : List Int32) (p : Nat) : a_entK 1 B lg p = a_en1 B lg p := by unfold a_entK; rw [if_pos rfl]
theorem a_entK2 (B : mm_W) (lg : List Int32) (p : Nat) : a_entK 2 B lg p = a_en2 B lg p 2 4 0 0 := by unfold a_entK; rw [if_neg (by decide), if_pos rfl]
theorem a_entK3 (B : mm_W) (lg : List Int32) (p : Nat) : a_entK 3 B lg p = a_en2 B lg p 3 6 (mm_dec lg (p + 4) 1 - 128) (mm_dec lg (p + 5) 1 - 128) := by unfold a_entK; rw [if_neg (by decide), if_neg (by decide), if_pos rfl]
theorem a_entK4 (B : mm_W) (lg : List Int32) (p : Nat) : a_entK 4 B lg p = a_en2 B lg p 4 6 (mm_dec lg (p + 4) 1) (mm_dec lg (p + 5) 1) := by unfold a_entK; rw [if_neg (by decide), if_neg (by decide), if_neg (by decide), if_pos rfl]
theorem a_entK5 (B : mm_W) (lg : List Int32) (p : Nat) : a_entK 5 B lg p = a_en2 B lg p 5 6 (mm_dec lg (p + 4) 2) 0 := by unfold a_entK; rw [if_neg (by decide), if_neg (by decide), if_neg (by decide), if_neg (by decide), if_pos rfl]
theorem a_entK6 (B : mm_W) (lg : List Int32) (p : Nat) : a_entK 6 B lg p = some ((a_step B).2, 1) := by unfold a_entK; rw [if_neg (by decide), if_neg (by decide), if_neg (by decide), if_neg (by decide), if_neg (by decide), if_pos rfl]
theorem a_entKx {k : Int32} (h1 : ¬ k = 1) (h2 : ¬ k = 2) (h3 : ¬ k = 3) (h4 : ¬ k = 4) (h5 : ¬ k = 5) (h6 : ¬ k = 6) (B : mm_W) (lg : List Int32) (p : Nat) : a_entK k B lg p = none := by unfold a_entK; rw [if_neg h1, if_neg h2, if_neg h3, if_neg h4, if_neg h5, if_neg h6]
theorem WF.ord {A : mm_W} {what i : Nat} {b c : Int32} (h : WF A) (hi : i < 16) (hw : what = 2 ∨ what = 3 ∨ what = 4 ∨ what = 5) (hf : a_fit what b c) : WF (a_ord A what i b c) := by
  obtain ⟨w1, w2, w3⟩ := h.1 i hi
  rcases hw with rfl | rfl | rfl | rfl
  · exact h.rem hi
  · have hf := hf.1 rfl
    show WF (a_put (a_put A 4 i b) 5 i c)
    have e4 : a_put (a_put A 4 i b) 5 i c 4 i = b := by simp [a_put]
    have e5 : a_put (a_put A 4 i b) 5 i c 5 i = c := by simp [a_put]
    refine h.one (i := i) ⟨w1, w2, fun z => ?_⟩ (fun k j hk => ?_) (fun z => z)
    · have w := w3 z
      exact ⟨w.1, w.2.1, by rw [e4]; exact hf.1, by rw [e5]; exact hf.2, w.2.2.2.2.1, w.2.2.2.2.2⟩
    · have n1 : ¬ (k = 5 ∧ j = i) := by omega
      have n2 : ¬ (k = 4 ∧ j = i) := by omega
      simp only [a_put, n1, n2, if_false]
  · have hf := hf.2.1 rfl
    show WF (a_put (a_put A 6 i b) 7 i c)
    have e4 : a_put (a_put A 6 i b) 7 i c 6 i = b := by simp [a_put]
    have e5 : a_put (a_put A 6 i b) 7 i c 7 i = c := by simp [a_put]
    refine h.one (i := i) ⟨w1, w2, fun z => ?_⟩ (fun k j hk => ?_) (fun z => z)
    · have w := w3 z
      exact ⟨w.1, w.2.1, w.2.2.1, w.2.2.2.1, by rw [e4, e5]; exact hf, w.2.2.2.2.2⟩
    · have n1 : ¬ (k = 7 ∧ j = i) := by omega
      have n2 : ¬ (k = 6 ∧ j = i) := by omega
      simp only [a_put, n1, n2, if_false]
  · have hf := hf.2.2 rfl
    show WF (a_put A 8 i b)
    have e4 : a_put A 8 i b 8 i = b := by simp [a_put]
    refine h.one (i := i) ⟨w1, w2, fun z => ?_⟩ (fun k j hk => ?_) (fun z => z)
    · have w := w3 z
      exact ⟨w.1, w.2.1, w.2.2.1, w.2.2.2.1, w.2.2.2.2.1, by rw [e4]; exact hf⟩
    · have n1 : ¬ (k = 8 ∧ j = i) := by omega
      simp only [a_put, n1, if_false]
theorem a_en2_wf {B B' : mm_W} {lg : List Int32} {p what m n : Nat} {b c : Int32} (hW : WF B) (hw : what = 2 ∨ what = 3 ∨ what = 4 ∨ what = 5) (hm : 1 ≤ m ∧ m ≤ 6) (e : a_en2 B lg p what m b c = some (B', n)) : WF B' ∧ 1 ≤ n ∧ n ≤ 6 := by
  by_cases h : a_c2 B lg p what m b c
  · rw [a_en2_y h] at e
    simp only [Option.some.injEq, Prod.mk.injEq] at e
    obtain ⟨rfl, rfl⟩ := e
    exact ⟨hW.ord (a_ix_lt _) hw h.2.2, hm⟩
  · rw [a_en2_n h] at e
    exact absurd e (by simp)
theorem a_entK_wf {k : Int32} {B B' : mm_W} {lg : List Int32} {p n : Nat} (hW : WF B) (e : a_entK k B lg p = some (B', n)) : WF B' ∧ 1 ≤ n ∧ n ≤ 6 := by
  by_cases h1 : k = 1
  · subst h1; rw [a_entK1] at e
    by_cases h : a_c1 B lg p
    · rw [a_en1_y h] at e
      simp only [Option.some.injEq, Prod.mk.injEq] at e
      obtain ⟨rfl, rfl⟩ := e
      exact ⟨hW.set h.2.2 h.2.1.1 h.2.1.2, by omega, by omega⟩
    · rw [a_en1_n h] at e
      exact absurd e (by simp)
  by_cases h2 : k = 2
  · subst h2; rw [a_entK2] at e; exact a_en2_wf hW (by omega) (by omega) e
  by_cases h3 : k = 3
  · subst h3; rw [a_entK3] at e; exact a_en2_wf hW (by omega) (by omega) e
  by_cases h4 : k = 4
  · subst h4; rw [a_entK4] at e; exact a_en2_wf hW (by omega) (by omega) e
  by_cases h5 : k = 5
  · subst h5; rw [a_entK5] at e; exact a_en2_wf hW (by omega) (by omega) e
  by_cases h6 : k = 6
  · subst h6; rw [a_entK6] at e
    simp only [Option.some.injEq, Prod.mk.injEq] at e
    obtain ⟨rfl, rfl⟩ := e
    exact ⟨hW.step, by omega, by omega⟩
  · rw [a_entKx h1 h2 h3 h4 h5 h6] at e
    exact absurd e (by simp)
/-- the entries from place p on: the world behind them, and the place of the first that can not be -/
noncomputable def a_redo (lg : List Int32) : Nat → mm_W → Nat → mm_W × Option Nat
  | 0, B, _ => (B, none)
  | r + 1, B, p => if p < lg.length then (match a_ent B lg p with | none => (B, some p) | some s => a_redo lg r s.1 (p + s.2)) else (B, none)
theorem a_redo_end {lg : List Int32} {r : Nat} {B : mm_W} {p : Nat} (h : lg.length ≤ p) : a_redo lg r B p = (B, none) := by
  cases r with
  | zero => rfl
  | succ r => unfold a_redo; rw [if_neg (by omega)]
theorem a_redo_no {lg : List Int32} {r : Nat} {B : mm_W} {p : Nat} (h : p < lg.length) (e : a_ent B lg p = none) : a_redo lg (r + 1) B p = (B, some p) := by
  unfold a_redo; rw [if_pos h, e]
theorem a_redo_go {lg : List Int32} {r : Nat} {B B' : mm_W} {p n : Nat} (h : p < lg.length) (e : a_ent B lg p = some (B', n)) : a_redo lg (r + 1) B p = a_redo lg r B' (p + n) := by
  conv => lhs; unfold a_redo
  rw [if_pos h, e]
theorem mm_d1 (bs : List Int32) (q : Nat) : mm_dec bs q 1 = bs.getD q 0 := by
  show ((0 : Int32) <<< ((8 : Int32) &&& 31)) ||| bs.getD (q + 0) 0 = bs.getD q 0
  rw [show ((0 : Int32) <<< ((8 : Int32) &&& 31)) = 0 from by decide, Int32.zero_or, Nat.add_zero]
theorem nv_in {bs : List Int32} {p n : Nat} (h : p + n ≤ bs.length) : mm_nv bs p n = mm_dec bs p n ∧ mm_np bs p n = p + n := by
  unfold mm_nv mm_np; rw [if_pos h, if_pos h]; exact ⟨rfl, rfl⟩
theorem nv_o1 {bs : List Int32} {p n : Nat} (h : ¬ p + n ≤ bs.length) : mm_nv bs p n = -1 := by
  unfold mm_nv; rw [if_neg h]
theorem nv_o2 {bs : List Int32} {p n m : Nat} (h0 : 0 < m) (h : ¬ p + n + m ≤ bs.length) : mm_nv bs (mm_np bs p n) m = -1 := by
  refine nv_o1 (fun z => ?_)
  unfold mm_np at z
  split at z <;> omega
theorem nv_o3 {bs : List Int32} {p n m k : Nat} (h0 : 0 < k) (h : ¬ p + n + m + k ≤ bs.length) : mm_nv bs (mm_np bs (mm_np bs p n) m) k = -1 := by
  refine nv_o1 (fun z => ?_)
  unfold mm_np at z
  split at z <;> split at z <;> omega
theorem a_entK_le {k : Int32} {B B' : mm_W} {lg : List Int32} {p n : Nat} (hp : p < lg.length) (e : a_entK k B lg p = some (B', n)) : p + n ≤ lg.length := by
  have h2 : ∀ {what m : Nat} {b c : Int32}, a_en2 B lg p what m b c = some (B', n) → p + n ≤ lg.length := by
    intro what m b c e
    by_cases h : a_c2 B lg p what m b c
    · rw [a_en2_y h] at e
      simp only [Option.some.injEq, Prod.mk.injEq] at e
      rw [← e.2]; exact h.1
    · rw [a_en2_n h] at e
      exact absurd e (by simp)
  by_cases h1 : k = 1
  · subst h1; rw [a_entK1] at e
    by_cases h : a_c1 B lg p
    · rw [a_en1_y h] at e
      simp only [Option.some.injEq, Prod.mk.injEq] at e
      rw [← e.2]; exact h.1
    · rw [a_en1_n h] at e
      exact absurd e (by simp)
  by_cases h2' : k = 2
  · subst h2'; rw [a_entK2] at e; exact h2 e
  by_cases h3 : k = 3
  · subst h3; rw [a_entK3] at e; exact h2 e
  by_cases h4 : k = 4
  · subst h4; rw [a_entK4] at e; exact h2 e
  by_cases h5 : k = 5
  · subst h5; rw [a_entK5] at e; exact h2 e
  by_cases h6 : k = 6
  · subst h6; rw [a_entK6] at e
    simp only [Option.some.injEq, Prod.mk.injEq] at e
    rw [← e.2]; omega
  · rw [a_entKx h1 h2' h3 h4 h5 h6] at e
    exact absurd e (by simp)
theorem a_fit2 (b c : Int32) : a_fit 2 b c := ⟨fun z => absurd z (by decide), fun z => absurd z (by decide), fun z => absurd z (by decide)⟩
theorem a_fit3 {b c : Int32} : a_fit 3 b c ↔ (-100 ≤ b ∧ b ≤ 100) ∧ (-100 ≤ c ∧ c ≤ 100) := ⟨fun h => h.1 rfl, fun h => ⟨fun _ => h, fun z => absurd z (by decide), fun z => absurd z (by decide)⟩⟩
theorem a_fit4 {b c : Int32} : a_fit 4 b c ↔ (b = 0 ∧ c = 0) ∨ ((1 ≤ b ∧ b ≤ 200) ∧ (1 ≤ c ∧ c ≤ 200)) := ⟨fun h => h.2.1 rfl, fun h => ⟨fun z => absurd z (by decide), fun _ => h, fun z => absurd z (by decide)⟩⟩
theorem a_fit5 {b c : Int32} : a_fit 5 b c ↔ b = 0 ∨ (1 ≤ b ∧ b ≤ 60000) := by
  have h0 : b = 0 ∨ (1 ≤ b ∧ b ≤ 60000) ↔ 0 ≤ b ∧ b ≤ 60000 := by
    rw [← Int32.toInt_inj]
    simp only [Int32.le_iff_toInt_le, i_0, i_1, i_60000]
    omega
  rw [h0]
  exact ⟨fun h => h.2.2 rfl, fun h => ⟨fun z => absurd z (by decide), fun z => absurd z (by decide), fun _ => h⟩⟩
theorem a_good_m1 {B : mm_W} {i : Nat} (hW : WF B) (hi : i < 16) : ¬ a_good B (-1) i := fun h => by
  have h1 := (hW.1 i hi).2.1.1
  rw [h.2] at h1
  exact absurd h1 (by decide)
theorem nv_de {bs : List Int32} {p : Nat} (h : p + 4 ≤ bs.length) : mm_nv bs (p + 1) 3 = mm_dec bs (p + 1) 3 ∧ mm_np bs (p + 1) 3 = p + 4 := nv_in (p := p + 1) (n := 3) (by omega)
theorem nv_cr {bs : List Int32} {p : Nat} (h : p + 5 ≤ bs.length) : mm_nv bs (p + 1) 2 = mm_dec bs (p + 1) 2 ∧ mm_nv bs (mm_np bs (p + 1) 2) 2 = mm_dec bs (p + 3) 2 ∧ mm_np bs (mm_np bs (p + 1) 2) 2 = p + 5 := by
  have a := nv_in (bs := bs) (p := p + 1) (n := 2) (by omega)
  have b := nv_in (bs := bs) (p := p + 3) (n := 2) (by omega)
  rw [show mm_np bs (p + 1) 2 = p + 3 from a.2]
  exact ⟨a.1, b⟩
theorem nv_tm {bs : List Int32} {p : Nat} (h : p + 6 ≤ bs.length) : mm_nv bs (p + 1) 3 = mm_dec bs (p + 1) 3 ∧ mm_nv bs (mm_np bs (p + 1) 3) 2 = mm_dec bs (p + 4) 2 ∧ mm_np bs (mm_np bs (p + 1) 3) 2 = p + 6 := by
  have a := nv_in (bs := bs) (p := p + 1) (n := 3) (by omega)
  have b := nv_in (bs := bs) (p := p + 4) (n := 2) (by omega)
  rw [show mm_np bs (p + 1) 3 = p + 4 from a.2]
  exact ⟨a.1, b⟩
theorem nv_sp {bs : List Int32} {p : Nat} (h : p + 6 ≤ bs.length) : mm_nv bs (p + 1) 3 = mm_dec bs (p + 1) 3 ∧ mm_nv bs (mm_np bs (p + 1) 3) 1 = mm_dec bs (p + 4) 1 ∧ mm_nv bs (mm_np bs (mm_np bs (p + 1) 3) 1) 1 = mm_dec bs (p + 5) 1 ∧ mm_np bs (mm_np bs (mm_np bs (p + 1) 3) 1) 1 = p + 6 := by
  have a := nv_in (bs := bs) (p := p + 1) (n := 3) (by omega)
  have b := nv_in (bs := bs) (p := p + 4) (n := 1) (by omega)
  have c := nv_in (bs := bs) (p := p + 5) (n := 1) (by omega)
  rw [show mm_np bs (p + 1) 3 = p + 4 from a.2, show mm_np bs (p + 4) 1 = p + 5 from b.2]
  exact ⟨a.1, b.1, c⟩
