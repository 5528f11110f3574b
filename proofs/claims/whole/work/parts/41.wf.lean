/-! WORLDS IN ORDER stay in order -/
theorem i_add {x y : Int32} (h1 : -2147483648 ≤ x.toInt + y.toInt) (h2 : x.toInt + y.toInt ≤ 2147483647) : (x + y).toInt = x.toInt + y.toInt := by
  rw [Int32.toInt_add]; exact Int.bmod_eq_of_le (by omega) (by omega)
theorem i_sub {x y : Int32} (h1 : -2147483648 ≤ x.toInt - y.toInt) (h2 : x.toInt - y.toInt ≤ 2147483647) : (x - y).toInt = x.toInt - y.toInt := by
  rw [Int32.toInt_sub]; exact Int.bmod_eq_of_le (by omega) (by omega)
theorem i_neg {x : Int32} (h1 : -2147483648 ≤ -x.toInt) (h2 : -x.toInt ≤ 2147483647) : (-x).toInt = -x.toInt := by
  rw [Int32.toInt_neg]; exact Int.bmod_eq_of_le (by omega) (by omega)
theorem i_0 : (0 : Int32).toInt = 0 := by decide
theorem i_1 : (1 : Int32).toInt = 1 := by decide
theorem i_2 : (2 : Int32).toInt = 2 := by decide
theorem i_4 : (4 : Int32).toInt = 4 := by decide
theorem i_7 : (7 : Int32).toInt = 7 := by decide
theorem i_28 : (28 : Int32).toInt = 28 := by decide
theorem i_84 : (84 : Int32).toInt = 84 := by decide
theorem i_100 : (100 : Int32).toInt = 100 := by decide
theorem i_m100 : (-100 : Int32).toInt = -100 := by decide
theorem i_120 : (120 : Int32).toInt = 120 := by decide
theorem i_128 : (128 : Int32).toInt = 128 := by decide
theorem i_200 : (200 : Int32).toInt = 200 := by decide
theorem i_228 : (228 : Int32).toInt = 228 := by decide
theorem i_255 : (255 : Int32).toInt = 255 := by decide
theorem i_4095 : (4095 : Int32).toInt = 4095 := by decide
theorem i_8190 : (8190 : Int32).toInt = 8190 := by decide
theorem i_65535 : (65535 : Int32).toInt = 65535 := by decide
theorem i_60000 : (60000 : Int32).toInt = 60000 := by decide
theorem i_max : (2147483647 : Int32).toInt = 2147483647 := by decide
theorem i_bd (x : Int32) : -2147483648 ≤ x.toInt ∧ x.toInt ≤ 2147483647 := ⟨Int32.le_toInt x, by have := Int32.toInt_lt x; omega⟩
theorem a_mvr {x v : Int32} (hx : 0 ≤ x ∧ x ≤ 4095) (hv : -100 ≤ v ∧ v ≤ 100) : (0 ≤ mm_mvx x v ∧ mm_mvx x v ≤ 4095) ∧ (-100 ≤ mm_mvv x v ∧ mm_mvv x v ≤ 100) := by
  simp only [Int32.le_iff_toInt_le, i_0, i_4095, i_m100, i_100] at hx hv ⊢
  have e := i_add (x := x) (y := v) (by omega) (by omega)
  have e2 := i_neg (x := x + v) (by omega) (by omega)
  have e3 := i_sub (x := 8190) (y := x + v) (by rw [i_8190]; omega) (by rw [i_8190]; omega)
  have e4 := i_neg (x := v) (by omega) (by omega)
  rw [i_8190] at e3
  unfold mm_mvx mm_mvv
  by_cases c1 : 0 ≤ x + v ∧ x + v ≤ 4095
  · rw [if_pos c1, if_pos c1]
    simp only [Int32.le_iff_toInt_le, i_0, i_4095] at c1
    omega
  · rw [if_neg c1, if_neg c1]
    simp only [Int32.le_iff_toInt_le, i_0, i_4095] at c1
    by_cases c2 : x + v < 0
    · rw [if_pos c2]
      simp only [Int32.lt_iff_toInt_lt, i_0] at c2
      omega
    · rw [if_neg c2]
      simp only [Int32.lt_iff_toInt_lt, i_0] at c2
      omega
theorem mm_gen2 {g : Int32} (h : 0 ≤ g ∧ g ≤ 65535) : 0 ≤ g + 1 - (g + 1) / 65536 * 65536 ∧ g + 1 - (g + 1) / 65536 * 65536 ≤ 65535 := by
  by_cases c : g = 65535
  · rw [(mm_gen h).1 c]; decide
  · rw [(mm_gen h).2 c]
    have c' : ¬ g.toInt = 65535 := fun z => c (Int32.toInt_inj.mp (z.trans i_65535.symm))
    simp only [Int32.le_iff_toInt_le, i_0, i_65535] at h ⊢
    have e := i_add (x := g) (y := 1) (by rw [i_1]; omega) (by rw [i_1]; omega)
    rw [i_1] at e
    omega
theorem WS.same {A A' : mm_W} {i : Nat} (h : WS A i) (hA : ∀ k, k ≤ 8 → A' k i = A k i) : WS A' i := by
  unfold WS at h ⊢
  rw [hA 0 (by omega), hA 1 (by omega), hA 2 (by omega), hA 3 (by omega), hA 4 (by omega), hA 5 (by omega), hA 6 (by omega), hA 7 (by omega), hA 8 (by omega)]
  exact h
/-- one slot changes, and stays taken or becomes so -/
theorem WF.one {A A' : mm_W} {i : Nat} (h : WF A) (hs : WS A' i) (hA : ∀ k j, j ≠ i ∨ 9 ≤ k → A' k j = A k j) (ht : ¬ A 1 i = 0 → ¬ A' 1 i = 0) : WF A' := by
  refine ⟨fun j hj => ?_, by rw [hA 10 0 (Or.inr (by omega))]; exact h.2.1, fun p hp => ?_⟩
  · by_cases e : j = i
    · subst e; exact hs
    · exact (h.1 j hj).same fun k _ => hA k j (Or.inl e)
  · rw [hA 9 p (Or.inr (by omega))]
    obtain ⟨a, b⟩ := h.2.2 p hp
    refine ⟨a, fun z => ?_⟩
    obtain ⟨b1, b2, b3⟩ := b z
    have key : ∀ j, ¬ A 1 j = 0 → ¬ A' 1 j = 0 := fun j hj => by
      by_cases e : j = i
      · subst e; exact ht hj
      · rw [hA 1 j (Or.inl e)]; exact hj
    exact ⟨b1, key _ b2, key _ b3⟩
theorem WF.rem {A : mm_W} {i : Nat} (h : WF A) (hi : i < 16) : WF (a_rem A i) := by
  refine ⟨fun j hj => ?_, by simpa [a_rem] using h.2.1, fun p hp => ?_⟩
  · by_cases e : j = i
    · subst e
      have hg := mm_gen2 (h.1 j hj).2.1
      refine ⟨Or.inl (by simp [a_rem]), by simpa [a_rem] using hg, fun z => absurd (by simp [a_rem]) z⟩
    · exact (h.1 j hj).same fun k hk => by simp [a_rem, e]; omega
  · obtain ⟨a, b⟩ := h.2.2 p hp
    by_cases c : p / 16 = i ∨ p % 16 = i
    · have e : a_rem A i 9 p = 0 := by simp [a_rem, c]
      exact ⟨Or.inl e, fun z => absurd e z⟩
    · have e : a_rem A i 9 p = A 9 p := by simp [a_rem, c]
      have e1 : ∀ j, j ≠ i → a_rem A i 1 j = A 1 j := fun j hj => by simp [a_rem, hj]
      rw [e, e1 _ (by omega), e1 _ (by omega)]
      exact ⟨a, b⟩
theorem WF.clock {A : mm_W} (h : WF A) {c : Int32} (hc : 0 ≤ c) : WF (a_put A 10 0 c) := by
  refine ⟨fun j hj => (h.1 j hj).same fun k hk => ?_, by simpa [a_put] using hc, fun p hp => ?_⟩
  · have : ¬ k = 10 := by omega
    simp [a_put, this]
  · simpa [a_put] using h.2.2 p hp
theorem WF.set {A : mm_W} {i : Nat} (h : WF A) (hi : i < 16) {x y : Int32} (hx : 0 ≤ x ∧ x ≤ 4095) (hy : 0 ≤ y ∧ y ≤ 4095) : WF (a_set A i x y) := by
  refine h.one (i := i) ?_ (fun k j hk => ?_) (fun _ => by simp [a_set])
  · refine ⟨Or.inr (by simp [a_set]), by simpa [a_set] using (h.1 i hi).2.1, fun _ => ?_⟩
    simp only [a_set]
    refine ⟨by simpa using hx, by simpa using hy, by simp, by simp, Or.inl (by simp), by simp⟩
  · unfold a_set; grind
theorem WF.put {A : mm_W} {i f : Nat} (h : WF A) (hf : 2 ≤ f) (hf2 : f ≤ 8) {v : Int32} (hs : WS (a_put A f i v) i) : WF (a_put A f i v) := by
  refine h.one (i := i) hs (fun k j hk => ?_) (fun z => ?_)
  · unfold a_put; grind
  · have : ¬ 1 = f := by omega
    simpa [a_put, this] using z
theorem WF.cd1 {A : mm_W} {i : Nat} (h : WF A) (hi : i < 16) : WF (a_cd1 A i) := by
  unfold a_cd1
  by_cases c : ¬ A 1 i = 0 ∧ 0 < A 8 i
  · rw [if_pos c]
    have hp : WF (a_put A 8 i (A 8 i - 1)) := by
      refine h.put (by omega) (by omega) ⟨by simpa [a_put] using (h.1 i hi).1, by simpa [a_put] using (h.1 i hi).2.1, fun _ => ?_⟩
      obtain ⟨b1, b2, b3, b4, b5, b6⟩ := (h.1 i hi).2.2 c.1
      refine ⟨by simpa [a_put] using b1, by simpa [a_put] using b2, by simpa [a_put] using b3, by simpa [a_put] using b4, by simpa [a_put] using b5, ?_⟩
      have c2 := c.2
      simp only [a_put, and_self, if_true]
      simp only [Int32.le_iff_toInt_le, Int32.lt_iff_toInt_lt, i_0, i_60000] at b6 c2 ⊢
      have e := i_sub (x := A 8 i) (y := 1) (by rw [i_1]; omega) (by rw [i_1]; omega)
      rw [i_1] at e
      omega
    by_cases c2 : A 8 i - 1 = 0
    · rw [if_pos c2]; exact hp.rem hi
    · rw [if_neg c2]; exact hp
  · rw [if_neg c]; exact h
theorem WF.cd {A : mm_W} (h : WF A) : ∀ n, n ≤ 16 → WF (a_cd A n)
  | 0, _ => h
  | n + 1, hn => (WF.cd h n (by omega)).cd1 (by omega)
theorem WF.mv1 {A : mm_W} {i : Nat} (h : WF A) (hi : i < 16) : WF (a_mv1 A i) := by
  unfold a_mv1
  by_cases c : ¬ A 1 i = 0
  · rw [if_pos c]
    obtain ⟨b1, b2, b3, b4, b5, b6⟩ := (h.1 i hi).2.2 c
    obtain ⟨r1, r2⟩ := a_mvr b1 b3
    obtain ⟨r3, r4⟩ := a_mvr b2 b4
    refine h.one (i := i) ⟨by simpa using (h.1 i hi).1, by simpa using (h.1 i hi).2.1, fun _ => ?_⟩ (fun k j hk => ?_) (fun z => by simpa using z)
    · exact ⟨by simpa using r1, by simpa using r3, by simpa using r2, by simpa using r4, by simpa using b5, by simpa using b6⟩
    · grind
  · rw [if_neg c]; exact h
theorem WF.mv {A : mm_W} (h : WF A) : ∀ n, n ≤ 16 → WF (a_mv A n)
  | 0, _ => h
  | n + 1, hn => (WF.mv h n (by omega)).mv1 (by omega)
theorem WF.mt {s : mm_E × mm_W} {a b : Nat} (h : WF s.2) (hab : a < b) (hb : b < 16) : WF (a_mt s a b).2 := by
  unfold a_mt
  refine ⟨fun j hj => (h.1 j hj).same fun k hk => ?_, by simpa [a_put] using h.2.1, fun p hp => ?_⟩
  · have : ¬ k = 9 := by omega
    simp [a_put, this]
  · by_cases e : p = a * 16 + b
    · subst e
      have d1 : (a * 16 + b) / 16 = a := by omega
      have d2 : (a * 16 + b) % 16 = b := by omega
      by_cases c : a_ov s.2 a b
      · simp only [a_put, a_b1 c, d1, d2]
        simp
        exact ⟨hab, c.1.1, c.2.1.1⟩
      · simp [a_put, a_b0 c]
    · simpa [a_put, e] using h.2.2 p hp
theorem WF.row {s : mm_E × mm_W} {a : Nat} (h : WF s.2) : ∀ n, a + 1 + n ≤ 16 → WF (a_row a s n).2
  | 0, _ => h
  | n + 1, hn => (WF.row h n (by omega)).mt (by omega) (by omega)
theorem WF.all {s : mm_E × mm_W} (h : WF s.2) : ∀ n, n ≤ 16 → WF (a_all s n).2
  | 0, _ => h
  | n + 1, hn => (WF.all h n (by omega)).row _ (by omega)
theorem a_clk {c : Int32} (h : 0 ≤ c) : 0 ≤ (if c < 2147483647 then c + 1 else c) := by
  by_cases z : c < 2147483647
  · rw [if_pos z]
    simp only [Int32.le_iff_toInt_le, Int32.lt_iff_toInt_lt, i_0, i_max] at h z ⊢
    have e := i_add (x := c) (y := 1) (by rw [i_1]; omega) (by rw [i_1]; omega)
    rw [i_1] at e
    omega
  · rw [if_neg z]; exact h
theorem WF.pre {A : mm_W} (h : WF A) : WF (a_mv (a_cd (a_put A 10 0 (if A 10 0 < 2147483647 then A 10 0 + 1 else A 10 0)) 16) 16) := ((h.clock (a_clk h.2.1)).cd 16 (by omega)).mv 16 (by omega)
theorem WF.step {A : mm_W} (h : WF A) : WF (a_step A).2 := by
  have hp := h.pre
  unfold a_step
  generalize a_mv (a_cd (a_put A 10 0 (if A 10 0 < 2147483647 then A 10 0 + 1 else A 10 0)) 16) 16 = B at hp ⊢
  exact WF.all (s := ([], B)) hp 16 (Nat.le_refl _)
