/-! THE ABSTRACT WORLD: A k i: of slot i: 0 generation, 1 taken, 2 x, 3 y, 4 vx, 5 vy, 6 half width, 7 half height, 8 timer; A 9 p: the pair p touches; A 10 0: the clock. RC: the ints of the heap hold it, for the World object w of the class -/
abbrev mm_W : Type := Nat → Nat → Int32
def mm_Wd (h : mm_H) (w : Nat) : Prop := mm_at h w 5 4 ∧ mm_at h (w + 1) 102 16 ∧ mm_at h (w + 2) 101 256 ∧ mm_Ev h (w + 3) ∧ (∀ i, i < 16 → mm_at h (w + 6 + i) 3 9) ∧ mm_gr h w 0 = some (w + 1) ∧ mm_gr h w 1 = some (w + 2) ∧ mm_gr h w 2 = some (w + 3) ∧ ∀ i, i < 16 → mm_gr h (w + 1) i = some (w + 6 + i)
def RC (F : mm_W) (w : Nat) (A : mm_W) : Prop := F w 3 = A 10 0 ∧ (∀ i, i < 16 → F (w + 6 + i) 0 = A 0 i ∧ F (w + 6 + i) 1 = A 1 i ∧ (¬ A 1 i = 0 → ∀ k, 2 ≤ k → k ≤ 8 → F (w + 6 + i) k = A k i)) ∧ ∀ p, p < 256 → F (w + 2) p = A 9 p
/-- nothing outside the world w has changed -/
def mm_wfr (w : Nat) (F F' : mm_W) : Prop := ∀ a k, a < w ∨ w + 22 ≤ a → F' a k = F a k
/-- its events stand as they stood -/
def mm_efr (w : Nat) (F F' : mm_W) : Prop := ∀ a k, a = w + 3 ∨ a = w + 4 ∨ a = w + 5 → F' a k = F a k
theorem mm_wfr.rfl' {w : Nat} {F : mm_W} : mm_wfr w F F := fun _ _ _ => rfl
theorem mm_wfr.trans {w : Nat} {F F1 F2 : mm_W} (h1 : mm_wfr w F F1) (h2 : mm_wfr w F1 F2) : mm_wfr w F F2 := fun a k ha => (h2 a k ha).trans (h1 a k ha)
theorem mm_efr.rfl' {w : Nat} {F : mm_W} : mm_efr w F F := fun _ _ _ => rfl
theorem mm_efr.trans {w : Nat} {F F1 F2 : mm_W} (h1 : mm_efr w F F1) (h2 : mm_efr w F1 F2) : mm_efr w F F2 := fun a k ha => (h2 a k ha).trans (h1 a k ha)
theorem RC.slot {F F' A A' : mm_W} {w i : Nat} (h : RC F w A) (hi : i < 16) (ho : ∀ a k, a ≠ w + 6 + i → F' a k = F a k) (hA : ∀ k j, j ≠ i ∨ 9 ≤ k → A' k j = A k j) (h0 : F' (w + 6 + i) 0 = A' 0 i) (h1 : F' (w + 6 + i) 1 = A' 1 i)
    (h2 : ¬ A' 1 i = 0 → ∀ k, 2 ≤ k → k ≤ 8 → F' (w + 6 + i) k = A' k i) : RC F' w A' := by
  refine ⟨by rw [ho w 3 (by omega), hA 10 0 (Or.inr (by omega))]; exact h.1, fun j hj => ?_, fun p hp => by rw [ho (w + 2) p (by omega), hA 9 p (Or.inr (by omega))]; exact h.2.2 p hp⟩
  by_cases hij : j = i
  · subst hij; exact ⟨h0, h1, h2⟩
  · obtain ⟨q0, q1, q2⟩ := h.2.1 j hj
    refine ⟨by rw [ho _ 0 (by omega), hA 0 j (Or.inl hij)]; exact q0, by rw [ho _ 1 (by omega), hA 1 j (Or.inl hij)]; exact q1, fun z k k1 k2 => ?_⟩
    rw [hA 1 j (Or.inl hij)] at z
    rw [ho _ k (by omega), hA k j (Or.inl hij)]
    exact q2 z k k1 k2
theorem RC.touch {F F' A A' : mm_W} {w : Nat} (h : RC F w A) (ho : ∀ a k, a ≠ w + 2 → F' a k = F a k) (hA : ∀ k j, k ≠ 9 → A' k j = A k j) (ht : ∀ p, p < 256 → F' (w + 2) p = A' 9 p) : RC F' w A' := by
  refine ⟨by rw [ho w 3 (by omega), hA 10 0 (by omega)]; exact h.1, fun j hj => ?_, ht⟩
  obtain ⟨q0, q1, q2⟩ := h.2.1 j hj
  refine ⟨by rw [ho _ 0 (by omega), hA 0 j (by omega)]; exact q0, by rw [ho _ 1 (by omega), hA 1 j (by omega)]; exact q1, fun z k k1 k2 => ?_⟩
  rw [hA 1 j (by omega)] at z
  rw [ho _ k (by omega), hA k j (by omega)]
  exact q2 z k k1 k2
/-- a thing comes into slot i -/
def a_set (A : mm_W) (i : Nat) (x y : Int32) : mm_W := fun k j => if j = i then (if k = 1 then 1 else if k = 2 then x else if k = 3 then y else if 4 ≤ k ∧ k ≤ 8 then 0 else A k j) else A k j
/-- slot i becomes empty -/
def a_rem (A : mm_W) (i : Nat) : mm_W := fun k j => if k = 0 ∧ j = i then A 0 i + 1 - (A 0 i + 1) / 65536 * 65536 else if k = 1 ∧ j = i then 0 else if k = 9 ∧ (j / 16 = i ∨ j % 16 = i) then 0 else A k j
/-- a field of slot i is written -/
def a_put (A : mm_W) (f i : Nat) (x : Int32) : mm_W := fun k j => if k = f ∧ j = i then x else A k j
/-- the timers: one slot, then the first n -/
def a_cd1 (A : mm_W) (i : Nat) : mm_W := if ¬ A 1 i = 0 ∧ 0 < A 8 i then (if A 8 i - 1 = 0 then a_rem (a_put A 8 i (A 8 i - 1)) i else a_put A 8 i (A 8 i - 1)) else A
def a_cd (A : mm_W) : Nat → mm_W
  | 0 => A
  | n + 1 => a_cd1 (a_cd A n) n
/-- the moves -/
def a_mv1 (A : mm_W) (i : Nat) : mm_W := if ¬ A 1 i = 0 then (fun k j => if j = i then (if k = 2 then mm_mvx (A 2 i) (A 4 i) else if k = 3 then mm_mvx (A 3 i) (A 5 i) else if k = 4 then mm_mvv (A 2 i) (A 4 i) else if k = 5 then mm_mvv (A 3 i) (A 5 i) else A k j) else A k j) else A
def a_mv (A : mm_W) : Nat → mm_W
  | 0 => A
  | n + 1 => a_mv1 (a_mv A n) n
/-- two things overlap -/
def a_ov (A : mm_W) (a b : Nat) : Prop := (¬ A 1 a = 0 ∧ 0 < A 6 a) ∧ (¬ A 1 b = 0 ∧ 0 < A 6 b) ∧ (A 2 a - A 2 b < A 6 a + A 6 b ∧ A 2 b - A 2 a < A 6 a + A 6 b) ∧ (A 3 a - A 3 b < A 7 a + A 7 b ∧ A 3 b - A 3 a < A 7 a + A 7 b)
/-- events: kind, pair -/
abbrev mm_E : Type := List (Int32 × Nat)
def a_mtE (E : mm_E) (t : Int32) (p : Nat) (b : Int32) : mm_E := if ¬ b = 0 then E ++ [(if ¬ t = 0 then 1 else 0, p)] else if ¬ t = 0 then E ++ [(2, p)] else E
noncomputable def a_b (P : Prop) : Int32 := @ite Int32 P (Classical.propDecidable P) 1 0
theorem a_b1 {P : Prop} (h : P) : a_b P = 1 := @if_pos P (Classical.propDecidable P) h Int32 1 0
theorem a_b0 {P : Prop} (h : ¬ P) : a_b P = 0 := @if_neg P (Classical.propDecidable P) h Int32 1 0
/-- one pair meets -/
noncomputable def a_mt (s : mm_E × mm_W) (a b : Nat) : mm_E × mm_W := (a_mtE s.1 (s.2 9 (a * 16 + b)) (a * 16 + b) (a_b (a_ov s.2 a b)), a_put s.2 9 (a * 16 + b) (a_b (a_ov s.2 a b)))
noncomputable def a_row (a : Nat) (s : mm_E × mm_W) : Nat → mm_E × mm_W
  | 0 => s
  | n + 1 => a_mt (a_row a s n) a (a + 1 + n)
noncomputable def a_all (s : mm_E × mm_W) : Nat → mm_E × mm_W
  | 0 => s
  | n + 1 => a_row n (a_all s n) (15 - n)
/-- a tick -/
noncomputable def a_step (A : mm_W) : mm_E × mm_W := a_all ([], a_mv (a_cd (a_put A 10 0 (if A 10 0 < 2147483647 then A 10 0 + 1 else A 10 0)) 16) 16) 16
/-- the heap's ints hold the events -/
def RE (F : mm_W) (w : Nat) (E : mm_E) : Prop := F (w + 3) 2 = nI E.length ∧ ∀ j, j < E.length → F (w + 4) j = (E.getD j (0, 0)).1 ∧ F (w + 5) j = nI (E.getD j (0, 0)).2
theorem mm_pair (a b : Nat) : nI a * 16 + nI b = nI (a * 16 + b) := by
  have : (16 : Int32) = nI 16 := rfl
  rw [this, pk_mul, nI_add]
theorem mm_nar0 : vp_nar .boolean 0 = 0 := by decide
theorem mm_nar1 : vp_nar .boolean 1 = 1 := by decide
