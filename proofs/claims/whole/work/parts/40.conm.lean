/-! CONTRACTS: the reference: its heap, its worlds; seek, emptySlot, make, remove, near, overlap, note (rows by program: con_m.py) -/
def mm_moL : List (Nat × Nat) := [(1, 53), (2, 54), (3, 55), (4, 56), (5, 57), (6, 58), (7, 59), (8, 60), (9, 61), (10, 62), (11, 63), (12, 64), (13, 65), (14, 66), (15, 67), (17, 68), (19, 69), (21, 70)]
def mm_Mo (h : mm_H) : Prop := mm_at h 52 7 24 ∧ 70 < mm_n h ∧ ∀ q ∈ mm_moL, mm_gr h 52 q.1 = some q.2
theorem mm_Mo.a_clocks {h : mm_H} (hM : mm_Mo h) : mm_at h 53 100 2 := ⟨by decide +kernel, by decide, Nat.lt_of_le_of_lt (by decide) hM.2.1⟩
theorem mm_Mo.g_clocks {h : mm_H} (hM : mm_Mo h) : mm_gr h 52 1 = some 53 := hM.2.2 (1, 53) (by decide)
theorem mm_Mo.a_generation {h : mm_H} (hM : mm_Mo h) : mm_at h 54 100 32 := ⟨by decide +kernel, by decide, Nat.lt_of_le_of_lt (by decide) hM.2.1⟩
theorem mm_Mo.g_generation {h : mm_H} (hM : mm_Mo h) : mm_gr h 52 2 = some 54 := hM.2.2 (2, 54) (by decide)
theorem mm_Mo.a_full {h : mm_H} (hM : mm_Mo h) : mm_at h 55 101 32 := ⟨by decide +kernel, by decide, Nat.lt_of_le_of_lt (by decide) hM.2.1⟩
theorem mm_Mo.g_full {h : mm_H} (hM : mm_Mo h) : mm_gr h 52 3 = some 55 := hM.2.2 (3, 55) (by decide)
theorem mm_Mo.a_px {h : mm_H} (hM : mm_Mo h) : mm_at h 56 100 32 := ⟨by decide +kernel, by decide, Nat.lt_of_le_of_lt (by decide) hM.2.1⟩
theorem mm_Mo.g_px {h : mm_H} (hM : mm_Mo h) : mm_gr h 52 4 = some 56 := hM.2.2 (4, 56) (by decide)
theorem mm_Mo.a_py {h : mm_H} (hM : mm_Mo h) : mm_at h 57 100 32 := ⟨by decide +kernel, by decide, Nat.lt_of_le_of_lt (by decide) hM.2.1⟩
theorem mm_Mo.g_py {h : mm_H} (hM : mm_Mo h) : mm_gr h 52 5 = some 57 := hM.2.2 (5, 57) (by decide)
theorem mm_Mo.a_sx {h : mm_H} (hM : mm_Mo h) : mm_at h 58 100 32 := ⟨by decide +kernel, by decide, Nat.lt_of_le_of_lt (by decide) hM.2.1⟩
theorem mm_Mo.g_sx {h : mm_H} (hM : mm_Mo h) : mm_gr h 52 6 = some 58 := hM.2.2 (6, 58) (by decide)
theorem mm_Mo.a_sy {h : mm_H} (hM : mm_Mo h) : mm_at h 59 100 32 := ⟨by decide +kernel, by decide, Nat.lt_of_le_of_lt (by decide) hM.2.1⟩
theorem mm_Mo.g_sy {h : mm_H} (hM : mm_Mo h) : mm_gr h 52 7 = some 59 := hM.2.2 (7, 59) (by decide)
theorem mm_Mo.a_wide {h : mm_H} (hM : mm_Mo h) : mm_at h 60 100 32 := ⟨by decide +kernel, by decide, Nat.lt_of_le_of_lt (by decide) hM.2.1⟩
theorem mm_Mo.g_wide {h : mm_H} (hM : mm_Mo h) : mm_gr h 52 8 = some 60 := hM.2.2 (8, 60) (by decide)
theorem mm_Mo.a_high {h : mm_H} (hM : mm_Mo h) : mm_at h 61 100 32 := ⟨by decide +kernel, by decide, Nat.lt_of_le_of_lt (by decide) hM.2.1⟩
theorem mm_Mo.g_high {h : mm_H} (hM : mm_Mo h) : mm_gr h 52 9 = some 61 := hM.2.2 (9, 61) (by decide)
theorem mm_Mo.a_left {h : mm_H} (hM : mm_Mo h) : mm_at h 62 100 32 := ⟨by decide +kernel, by decide, Nat.lt_of_le_of_lt (by decide) hM.2.1⟩
theorem mm_Mo.g_left {h : mm_H} (hM : mm_Mo h) : mm_gr h 52 10 = some 62 := hM.2.2 (10, 62) (by decide)
theorem mm_Mo.a_touch {h : mm_H} (hM : mm_Mo h) : mm_at h 63 101 512 := ⟨by decide +kernel, by decide, Nat.lt_of_le_of_lt (by decide) hM.2.1⟩
theorem mm_Mo.g_touch {h : mm_H} (hM : mm_Mo h) : mm_gr h 52 11 = some 63 := hM.2.2 (11, 63) (by decide)
theorem mm_Mo.a_events {h : mm_H} (hM : mm_Mo h) : mm_at h 64 100 2 := ⟨by decide +kernel, by decide, Nat.lt_of_le_of_lt (by decide) hM.2.1⟩
theorem mm_Mo.g_events {h : mm_H} (hM : mm_Mo h) : mm_gr h 52 12 = some 64 := hM.2.2 (12, 64) (by decide)
theorem mm_Mo.a_kind {h : mm_H} (hM : mm_Mo h) : mm_at h 65 100 240 := ⟨by decide +kernel, by decide, Nat.lt_of_le_of_lt (by decide) hM.2.1⟩
theorem mm_Mo.g_kind {h : mm_H} (hM : mm_Mo h) : mm_gr h 52 13 = some 65 := hM.2.2 (13, 65) (by decide)
theorem mm_Mo.a_first {h : mm_H} (hM : mm_Mo h) : mm_at h 66 100 240 := ⟨by decide +kernel, by decide, Nat.lt_of_le_of_lt (by decide) hM.2.1⟩
theorem mm_Mo.g_first {h : mm_H} (hM : mm_Mo h) : mm_gr h 52 14 = some 66 := hM.2.2 (14, 66) (by decide)
theorem mm_Mo.a_second {h : mm_H} (hM : mm_Mo h) : mm_at h 67 100 240 := ⟨by decide +kernel, by decide, Nat.lt_of_le_of_lt (by decide) hM.2.1⟩
theorem mm_Mo.g_second {h : mm_H} (hM : mm_Mo h) : mm_gr h 52 15 = some 67 := hM.2.2 (15, 67) (by decide)
theorem mm_Mo.a_saved {h : mm_H} (hM : mm_Mo h) : mm_at h 68 100 600 := ⟨by decide +kernel, by decide, Nat.lt_of_le_of_lt (by decide) hM.2.1⟩
theorem mm_Mo.g_saved {h : mm_H} (hM : mm_Mo h) : mm_gr h 52 17 = some 68 := hM.2.2 (17, 68) (by decide)
theorem mm_Mo.a_log {h : mm_H} (hM : mm_Mo h) : mm_at h 69 100 400 := ⟨by decide +kernel, by decide, Nat.lt_of_le_of_lt (by decide) hM.2.1⟩
theorem mm_Mo.g_log {h : mm_H} (hM : mm_Mo h) : mm_gr h 52 19 = some 69 := hM.2.2 (19, 69) (by decide)
theorem mm_Mo.a_draft {h : mm_H} (hM : mm_Mo h) : mm_at h 70 100 600 := ⟨by decide +kernel, by decide, Nat.lt_of_le_of_lt (by decide) hM.2.1⟩
theorem mm_Mo.g_draft {h : mm_H} (hM : mm_Mo h) : mm_gr h 52 21 = some 70 := hM.2.2 (21, 70) (by decide)
/-- the ints of the heap hold the world A as the reference's world k -/
def RM (F : mm_W) (k : Nat) (A : mm_W) : Prop := F 53 k = A 10 0 ∧ (∀ i, i < 16 → F 54 (16 * k + i) = A 0 i ∧ F 55 (16 * k + i) = A 1 i ∧ (¬ A 1 i = 0 → ∀ f, 2 ≤ f → f ≤ 8 → F (54 + f) (16 * k + i) = A f i)) ∧ ∀ p, p < 256 → F 63 (256 * k + p) = A 9 p
/-- nothing outside the reference's world k has changed -/
def mm_mfr (k : Nat) (F F' : mm_W) : Prop := ∀ a j, (a < 53 ∨ 63 < a ∨ (a = 53 ∧ j ≠ k) ∨ (54 ≤ a ∧ a ≤ 62 ∧ (j < 16 * k ∨ 16 * k + 16 ≤ j)) ∨ (a = 63 ∧ (j < 256 * k ∨ 256 * k + 256 ≤ j))) → F' a j = F a j
theorem mm_mfr.rfl' {k : Nat} {F : mm_W} : mm_mfr k F F := fun _ _ _ => rfl
theorem mm_mfr.trans {k : Nat} {F F1 F2 : mm_W} (h1 : mm_mfr k F F1) (h2 : mm_mfr k F1 F2) : mm_mfr k F F2 := fun a j ha => (h2 a j ha).trans (h1 a j ha)
theorem RM.other {F F' A : mm_W} {k k' : Nat} (h : RM F k A) (hk : k ≠ k') (hf : mm_mfr k' F F') : RM F' k A := by
  refine ⟨by rw [hf 53 k (by omega)]; exact h.1, fun i hi => ?_, fun p hp => by rw [hf 63 _ (by omega)]; exact h.2.2 p hp⟩
  obtain ⟨q0, q1, q2⟩ := h.2.1 i hi
  exact ⟨by rw [hf 54 _ (by omega)]; exact q0, by rw [hf 55 _ (by omega)]; exact q1, fun z f f1 f2 => by rw [hf (54 + f) _ (by omega)]; exact q2 z f f1 f2⟩
/-- as far as they are read, two heaps hold the same world -/
theorem RM.same {F F' A : mm_W} {k : Nat} (h : RM F k A) (hf : ∀ a j, 53 ≤ a → a ≤ 63 → F' a j = F a j) : RM F' k A := by
  refine ⟨by rw [hf 53 k (by omega) (by omega)]; exact h.1, fun i hi => ?_, fun p hp => by rw [hf 63 _ (by omega) (by omega)]; exact h.2.2 p hp⟩
  obtain ⟨q0, q1, q2⟩ := h.2.1 i hi
  exact ⟨by rw [hf 54 _ (by omega) (by omega)]; exact q0, by rw [hf 55 _ (by omega) (by omega)]; exact q1, fun z f f1 f2 => by rw [hf (54 + f) _ (by omega) (by omega)]; exact q2 z f f1 f2⟩
theorem RM.slot {F F' A A' : mm_W} {k i : Nat} (h : RM F k A) (hi : i < 16) (ho : ∀ a j, ¬ (54 ≤ a ∧ a ≤ 62 ∧ j = 16 * k + i) → F' a j = F a j) (hA : ∀ f j, j ≠ i ∨ 9 ≤ f → A' f j = A f j) (h0 : F' 54 (16 * k + i) = A' 0 i) (h1 : F' 55 (16 * k + i) = A' 1 i)
    (h2 : ¬ A' 1 i = 0 → ∀ f, 2 ≤ f → f ≤ 8 → F' (54 + f) (16 * k + i) = A' f i) : RM F' k A' := by
  refine ⟨by rw [ho 53 k (by omega), hA 10 0 (Or.inr (by omega))]; exact h.1, fun j hj => ?_, fun p hp => by rw [ho 63 _ (by omega), hA 9 p (Or.inr (by omega))]; exact h.2.2 p hp⟩
  by_cases hij : j = i
  · subst hij; exact ⟨h0, h1, h2⟩
  · obtain ⟨q0, q1, q2⟩ := h.2.1 j hj
    refine ⟨by rw [ho 54 _ (by omega), hA 0 j (Or.inl hij)]; exact q0, by rw [ho 55 _ (by omega), hA 1 j (Or.inl hij)]; exact q1, fun z f f1 f2 => ?_⟩
    rw [hA 1 j (Or.inl hij)] at z
    rw [ho (54 + f) _ (by omega), hA f j (Or.inl hij)]
    exact q2 z f f1 f2
theorem RM.touch {F F' A A' : mm_W} {k : Nat} (h : RM F k A) (ho : ∀ a j, a ≠ 63 → F' a j = F a j) (hA : ∀ f j, f ≠ 9 → A' f j = A f j) (ht : ∀ p, p < 256 → F' 63 (256 * k + p) = A' 9 p) : RM F' k A' := by
  refine ⟨by rw [ho 53 k (by omega), hA 10 0 (by omega)]; exact h.1, fun j hj => ?_, ht⟩
  obtain ⟨q0, q1, q2⟩ := h.2.1 j hj
  refine ⟨by rw [ho 54 _ (by omega), hA 0 j (by omega)]; exact q0, by rw [ho 55 _ (by omega), hA 1 j (by omega)]; exact q1, fun z f f1 f2 => ?_⟩
  rw [hA 1 j (by omega)] at z
  rw [ho _ _ (by omega), hA f j (by omega)]
  exact q2 z f f1 f2
/-- the reference's events -/
def RME (F : mm_W) (k : Nat) (E : mm_E) : Prop := F 64 k = nI E.length ∧ ∀ j, j < E.length → F 65 (120 * k + j) = (E.getD j (0, 0)).1 ∧ F 66 (120 * k + j) = nI ((E.getD j (0, 0)).2 / 16) ∧ F 67 (120 * k + j) = nI ((E.getD j (0, 0)).2 % 16)
def mm_nfr (k : Nat) (F F' : mm_W) : Prop := ∀ a j, (a < 64 ∨ 67 < a ∨ (a = 64 ∧ j ≠ k) ∨ (65 ≤ a ∧ a ≤ 67 ∧ (j < 120 * k ∨ 120 * k + 120 ≤ j))) → F' a j = F a j
theorem mm_nfr.rfl' {k : Nat} {F : mm_W} : mm_nfr k F F := fun _ _ _ => rfl
theorem mm_nfr.trans {k : Nat} {F F1 F2 : mm_W} (h1 : mm_nfr k F F1) (h2 : mm_nfr k F1 F2) : mm_nfr k F F2 := fun a j ha => (h2 a j ha).trans (h1 a j ha)
theorem RME.off {F F' : mm_W} {k : Nat} {E : mm_E} (h : RME F k E) (hf : ∀ a j, 64 ≤ a → a ≤ 67 → F' a j = F a j) : RME F' k E :=
  ⟨by rw [hf 64 _ (by omega) (by omega)]; exact h.1, fun j hj => by rw [hf 65 _ (by omega) (by omega), hf 66 _ (by omega) (by omega), hf 67 _ (by omega) (by omega)]; exact h.2 j hj⟩
theorem RM.nfr {F F' A : mm_W} {k k' : Nat} (h : RM F k A) (hf : mm_nfr k' F F') : RM F' k A := h.same fun a j h1 h2 => hf a j (by omega)
/-- a slot in order; a world in order -/
def WS (A : mm_W) (i : Nat) : Prop := (A 1 i = 0 ∨ A 1 i = 1) ∧ (0 ≤ A 0 i ∧ A 0 i ≤ 65535) ∧ (¬ A 1 i = 0 → (0 ≤ A 2 i ∧ A 2 i ≤ 4095) ∧ (0 ≤ A 3 i ∧ A 3 i ≤ 4095) ∧ (-100 ≤ A 4 i ∧ A 4 i ≤ 100) ∧ (-100 ≤ A 5 i ∧ A 5 i ≤ 100) ∧ ((A 6 i = 0 ∧ A 7 i = 0) ∨ ((1 ≤ A 6 i ∧ A 6 i ≤ 200) ∧ (1 ≤ A 7 i ∧ A 7 i ≤ 200))) ∧ (0 ≤ A 8 i ∧ A 8 i ≤ 60000))
def WF (A : mm_W) : Prop := (∀ i, i < 16 → WS A i) ∧ 0 ≤ A 10 0 ∧ ∀ p, p < 256 → (A 9 p = 0 ∨ A 9 p = 1) ∧ (¬ A 9 p = 0 → p / 16 < p % 16 ∧ ¬ A 1 (p / 16) = 0 ∧ ¬ A 1 (p % 16) = 0)
theorem mm_16 (k : Nat) : (16 : Int32) * nI k = nI (16 * k) := pk_mul 16 k
theorem mm_256 (k : Nat) : (256 : Int32) * nI k = nI (256 * k) := pk_mul 256 k
theorem mm_120 (k : Nat) : (120 : Int32) * nI k = nI (120 * k) := pk_mul 120 k
theorem mm_p16 (k : Nat) : nI k + 16 = nI (k + 16) := nI_add k 16
theorem mm_d16 {n : Nat} (h : n < 65536) : nI n / 16 = nI (n / 16) := pk_div (d := 16) (by omega) (by decide) (by decide)
theorem mm_r16 {n : Nat} (h : n < 65536) : nI n - nI n / 16 * 16 = nI (n % 16) := pk_rem (d := 16) (by omega) (by decide) (by decide)
theorem mm_cl {n : Nat} (h : n < 65536) : (nI n).toNatClampNeg = n := nI_clamp (by omega)
theorem mm_inN {n N : Nat} (h : n < N) (hN : N < 65536) : vp_in (nI n) N := vp_in_nI h (by omega)
/-- a handle, as both see it: a number that is not negative -/
theorem mm_hnd {x : Int32} {i j : Nat} (hx : x &&& 15 = nI i) (hi : i < 16) (hj : j < 2 ^ 31) (e : x = nI j) : j % 16 = i ∧ x >>> ((4 : Int32) &&& 31) = nI (j / 16) ∧ x / 16 = nI (j / 16) ∧ x - x / 16 * 16 = nI i := by
  subst e
  have h1 : nI j &&& 15 = nI (j % 16) := pk_andN (m := 15) (by omega) 4 (by decide)
  rw [hx] at h1
  have h2 : j % 16 = i := ((nI_eq (by omega) (by omega)).mp h1).symm
  have h3 : nI j / 16 = nI (j / 16) := pk_div (d := 16) hj (by decide) (by decide)
  have h4 : nI j - nI j / 16 * 16 = nI (j % 16) := pk_rem (d := 16) hj (by decide) (by decide)
  refine ⟨h2, pk_shrN hj ((4 : Int32) &&& 31) 4 (by decide), h3, by rw [h4, h2]⟩
theorem mm_neg {x : Int32} (h : x < 0) : x >>> ((4 : Int32) &&& 31) < 0 := by
  rw [Int32.lt_iff_toInt_lt] at h ⊢
  rw [pk_shr x _ 4 (by decide)]
  have e : (0 : Int32).toInt = 0 := by decide
  rw [e] at h ⊢
  rw [Int.shiftRight_eq_div_pow]
  omega
set_option maxRecDepth 20000 in
theorem c_seek {G : mm_G} {Q : mm_O → mm_H → Prop} {h : mm_H} {k : Nat} (hk : k < 2) {i : Nat} {x : Int32} {A : mm_W} (hM : mm_Mo h) (hR : RM (mm_gi h) k A) (hg : 0 ≤ A 0 i) (hi : i < 16) (hx : x &&& 15 = nI i) (hq1 : a_good A x i → Q (.inl (some (.int (nI (16 * k + i))))) h) (hq0 : ¬ a_good A x i → Q (.inl (some (.int (-1)))) h) : mm_V G (0, 0) M_Mo_seek Q 0 (mm_ent 4 [.ref 52, .int (nI k), .int x]) [] h := by
  show mm_V G (0, 0) M_Mo_seek Q 0 [some (.ref 52), some (.int (nI k)), some (.int x), none] [] h
  refine mv_iload_n (pc := 0) d_Mo_seek_0 rfl ?_
  refine mv_if_ge 6 (pc := 1) d_Mo_seek_1 (by decide) (fun h1 => ?_) (fun h1 => ?_)
  · obtain ⟨j, hj, e⟩ := nI_of (x := x) (Int32.not_lt.mpr h1)
    obtain ⟨e1, e2, e3, e4⟩ := mm_hnd hx hi hj e
    obtain ⟨r0, r1, -⟩ := hR.2.1 i hi
    refine mv_bipush (v := 16) (pc := 6) d_Mo_seek_6 (by decide) ?_
    refine mv_iload_n (pc := 8) d_Mo_seek_8 rfl ?_
    refine mv_imul (pc := 9) d_Mo_seek_9 ?_
    refine mv_iload_n (pc := 10) d_Mo_seek_10 rfl ?_
    refine mv_bipush (v := 16) (pc := 11) d_Mo_seek_11 (by decide) ?_
    refine mv_irem (pc := 13) d_Mo_seek_13 (by decide) ?_
    refine mv_iadd (pc := 14) d_Mo_seek_14 ?_
    rw [mm_16, e4, nI_add]
    refine mv_istore_n (pc := 15) d_Mo_seek_15 (by decide) ?_
    refine mv_aload_n (pc := 16) d_Mo_seek_16 rfl ?_
    refine mr_getr (pc := 17) d_Mo_seek_17 fl_Mo_16 hM.1 rfl (by decide) hM.g_full ?_
    refine mv_iload_n (pc := 20) d_Mo_seek_20 rfl ?_
    refine mr_zald (pc := 21) d_Mo_seek_21 hM.a_full (mm_inN (by omega) (by decide)) ?_
    rw [mm_cl (by omega), r1]
    refine mv_if_eq 42 (pc := 22) d_Mo_seek_22 (by decide) (fun h22 => ?_) (fun h22 => ?_)
    · refine mv_iconst (v := -1) (pc := 42) d_Mo_seek_42 (by decide) ?_
      refine mv_iret (pc := 43) d_Mo_seek_43 rfl rfl ?_
      exact hq0 (fun z => z.1 h22)
    · refine mv_aload_n (pc := 25) d_Mo_seek_25 rfl ?_
      refine mr_getr (pc := 26) d_Mo_seek_26 fl_Mo_13 hM.1 rfl (by decide) hM.g_generation ?_
      refine mv_iload_n (pc := 29) d_Mo_seek_29 rfl ?_
      refine mr_iald (pc := 30) d_Mo_seek_30 hM.a_generation (mm_inN (by omega) (by decide)) ?_
      rw [mm_cl (by omega), r0]
      refine mv_iload_n (pc := 31) d_Mo_seek_31 rfl ?_
      refine mv_bipush (v := 16) (pc := 32) d_Mo_seek_32 (by decide) ?_
      refine mv_idiv (pc := 34) d_Mo_seek_34 (by decide) ?_
      rw [e3]
      refine mv_ic_ne 42 (pc := 35) d_Mo_seek_35 (by decide) (fun h35 => ?_) (fun h35 => ?_)
      · refine mv_iconst (v := -1) (pc := 42) d_Mo_seek_42 (by decide) ?_
        refine mv_iret (pc := 43) d_Mo_seek_43 rfl rfl ?_
        exact hq0 (fun z => h35 (by rw [← e2]; exact z.2))
      · refine mv_iload_n (pc := 38) d_Mo_seek_38 rfl ?_
        refine mv_goto 43 (pc := 39) d_Mo_seek_39 (by decide) ?_
        refine mv_iret (pc := 43) d_Mo_seek_43 rfl rfl ?_
        exact hq1 ⟨h22, by rw [e2]; exact h35⟩
  · refine mv_iconst (v := -1) (pc := 4) d_Mo_seek_4 (by decide) ?_
    refine mv_iret (pc := 5) d_Mo_seek_5 rfl rfl ?_
    exact hq0 (fun z => by have h9 := mm_neg (Int32.not_le.mp h1); rw [← z.2] at h9; exact Int32.not_le.mpr h9 hg)
set_option maxRecDepth 20000 in
theorem l_empty {G : mm_G} {Q : mm_O → mm_H → Prop} {h : mm_H} {k : Nat} (hk : k < 2) (hM : mm_Mo h) (hq : ∀ i, i < 16 → (∀ j, j < i → ¬ mm_gi h 55 (16 * k + j) = 0) → mm_gi h 55 (16 * k + i) = 0 → Q (.inl (some (.int (nI (16 * k + i))))) h) (hq0 : (∀ j, j < 16 → ¬ mm_gi h 55 (16 * k + j) = 0) → Q (.inl (some (.int (-1)))) h) :
    ∀ (i : Nat) (_ : Unit), i ≤ 16 → (∀ j, j < i → ¬ mm_gi h 55 (16 * k + j) = 0) → mm_V G (0, 0) M_Mo_emptySlot Q 5 [some (.ref 52), some (.int (nI k)), some (.int (nI (16 * k + i)))] [] h := by
  refine mr_loop _ _ 16 (fun _ hI => ?_) (fun i _ hi hI ih => ?_)
  · refine mv_iload_n (pc := 5) d_Mo_emptySlot_5 rfl ?_
    refine mv_bipush (v := 16) (pc := 6) d_Mo_emptySlot_6 (by decide) ?_
    refine mv_iload_n (pc := 8) d_Mo_emptySlot_8 rfl ?_
    refine mv_imul (pc := 9) d_Mo_emptySlot_9 ?_
    refine mv_bipush (v := 16) (pc := 10) d_Mo_emptySlot_10 (by decide) ?_
    refine mv_iadd (pc := 12) d_Mo_emptySlot_12 ?_
    rw [mm_16, mm_p16]
    refine mv_ic_ge 33 (pc := 13) d_Mo_emptySlot_13 (by decide) (fun h13 => ?_) (fun z => absurd z (fun z => z (nI_le (by omega) (by omega))))
    refine mv_iconst (v := -1) (pc := 33) d_Mo_emptySlot_33 (by decide) ?_
    refine mv_iret (pc := 34) d_Mo_emptySlot_34 rfl rfl ?_
    exact hq0 hI
  · refine mv_iload_n (pc := 5) d_Mo_emptySlot_5 rfl ?_
    refine mv_bipush (v := 16) (pc := 6) d_Mo_emptySlot_6 (by decide) ?_
    refine mv_iload_n (pc := 8) d_Mo_emptySlot_8 rfl ?_
    refine mv_imul (pc := 9) d_Mo_emptySlot_9 ?_
    refine mv_bipush (v := 16) (pc := 10) d_Mo_emptySlot_10 (by decide) ?_
    refine mv_iadd (pc := 12) d_Mo_emptySlot_12 ?_
    rw [mm_16, mm_p16]
    refine mv_ic_ge 33 (pc := 13) d_Mo_emptySlot_13 (by decide) (fun z => absurd z (nI_ge (by omega) (by omega))) (fun h13 => ?_)
    refine mv_aload_n (pc := 16) d_Mo_emptySlot_16 rfl ?_
    refine mr_getr (pc := 17) d_Mo_emptySlot_17 fl_Mo_16 hM.1 rfl (by decide) hM.g_full ?_
    refine mv_iload_n (pc := 20) d_Mo_emptySlot_20 rfl ?_
    refine mr_zald (pc := 21) d_Mo_emptySlot_21 hM.a_full (mm_inN (by omega) (by decide)) ?_
    rw [mm_cl (by omega)]
    refine mv_if_ne 27 (pc := 22) d_Mo_emptySlot_22 (by decide) (fun hf => ?_) (fun hf => ?_)
    · refine mv_iinc (pc := 27) d_Mo_emptySlot_27 rfl rfl (by decide) ?_
      refine mv_goto 5 (pc := 30) d_Mo_emptySlot_30 (by decide) ?_
      refine mm_V_ls (ls' := [some (.ref 52), some (.int (nI k)), some (.int (nI (16 * k + (i + 1))))]) (by simp only [List.set]; rw [← Nat.add_assoc, nI_succ]; rfl) (ih () fun j hj => ?_)
      by_cases hji : j = i
      · subst hji; exact hf
      · exact hI j (by omega)
    · refine mv_iload_n (pc := 25) d_Mo_emptySlot_25 rfl ?_
      refine mv_iret (pc := 26) d_Mo_emptySlot_26 rfl rfl ?_
      exact hq i hi hI hf
set_option maxRecDepth 20000 in
theorem c_emptySlot {G : mm_G} {Q : mm_O → mm_H → Prop} {h : mm_H} {k : Nat} (hk : k < 2) (hM : mm_Mo h) (hq : ∀ i, i < 16 → (∀ j, j < i → ¬ mm_gi h 55 (16 * k + j) = 0) → mm_gi h 55 (16 * k + i) = 0 → Q (.inl (some (.int (nI (16 * k + i))))) h) (hq0 : (∀ j, j < 16 → ¬ mm_gi h 55 (16 * k + j) = 0) → Q (.inl (some (.int (-1)))) h) : mm_V G (0, 0) M_Mo_emptySlot Q 0 (mm_ent 3 [.ref 52, .int (nI k)]) [] h := by
  show mm_V G (0, 0) M_Mo_emptySlot Q 0 [some (.ref 52), some (.int (nI k)), none] [] h
  refine mv_bipush (v := 16) (pc := 0) d_Mo_emptySlot_0 (by decide) ?_
  refine mv_iload_n (pc := 2) d_Mo_emptySlot_2 rfl ?_
  refine mv_imul (pc := 3) d_Mo_emptySlot_3 ?_
  rw [mm_16]
  refine mv_istore_n (pc := 4) d_Mo_emptySlot_4 (by decide) ?_
  exact l_empty hk hM hq hq0 0 () (by omega) (fun j hj => absurd hj (by omega))
set_option maxRecDepth 20000 in
theorem c_make {G : mm_G} {Q : mm_O → mm_H → Prop} {h : mm_H} {k : Nat} (hk : k < 2) {i : Nat} {x y : Int32} {A : mm_W} (hM : mm_Mo h) (hi : i < 16) (hR : RM (mm_gi h) k A) (hq : ∀ F', RM F' k (a_set A i x y) → mm_mfr k (mm_gi h) F' → (∀ a j, F' a j = if 55 ≤ a ∧ a ≤ 62 ∧ j = 16 * k + i then (if a = 55 then 1 else if a = 56 then x else if a = 57 then y else 0) else mm_gi h a j) → Q (.inl none) (mm_wi h F')) : mm_V G (0, 0) M_Mo_make Q 0 (mm_ent 4 [.ref 52, .int (nI (16 * k + i)), .int x, .int y]) [] h := by
  show mm_V G (0, 0) M_Mo_make Q 0 [some (.ref 52), some (.int (nI (16 * k + i))), some (.int x), some (.int y)] [] h
  refine mv_aload_n (pc := 0) d_Mo_make_0 rfl ?_
  refine mr_getr (pc := 1) d_Mo_make_1 fl_Mo_16 hM.1 rfl (by decide) hM.g_full ?_
  refine mv_iload_n (pc := 4) d_Mo_make_4 rfl ?_
  refine mv_iconst (v := 1) (pc := 5) d_Mo_make_5 (by decide) ?_
  refine mr_zast (pc := 6) d_Mo_make_6 hM.a_full (mm_inN (by omega) (by decide)) ?_
  rw [mm_nar1]
  refine mv_aload_n (pc := 7) d_Mo_make_7 rfl ?_
  refine mr_getr (pc := 8) d_Mo_make_8 fl_Mo_20 hM.1 rfl (by decide) hM.g_px ?_
  refine mv_iload_n (pc := 11) d_Mo_make_11 rfl ?_
  refine mv_iload_n (pc := 12) d_Mo_make_12 rfl ?_
  refine mr_iast (pc := 13) d_Mo_make_13 hM.a_px (mm_inN (by omega) (by decide)) ?_
  refine mv_aload_n (pc := 14) d_Mo_make_14 rfl ?_
  refine mr_getr (pc := 15) d_Mo_make_15 fl_Mo_23 hM.1 rfl (by decide) hM.g_py ?_
  refine mv_iload_n (pc := 18) d_Mo_make_18 rfl ?_
  refine mv_iload_n (pc := 19) d_Mo_make_19 rfl ?_
  refine mr_iast (pc := 20) d_Mo_make_20 hM.a_py (mm_inN (by omega) (by decide)) ?_
  refine mv_aload_n (pc := 21) d_Mo_make_21 rfl ?_
  refine mr_getr (pc := 22) d_Mo_make_22 fl_Mo_26 hM.1 rfl (by decide) hM.g_sx ?_
  refine mv_iload_n (pc := 25) d_Mo_make_25 rfl ?_
  refine mv_iconst (v := 0) (pc := 26) d_Mo_make_26 (by decide) ?_
  refine mr_iast (pc := 27) d_Mo_make_27 hM.a_sx (mm_inN (by omega) (by decide)) ?_
  refine mv_aload_n (pc := 28) d_Mo_make_28 rfl ?_
  refine mr_getr (pc := 29) d_Mo_make_29 fl_Mo_29 hM.1 rfl (by decide) hM.g_sy ?_
  refine mv_iload_n (pc := 32) d_Mo_make_32 rfl ?_
  refine mv_iconst (v := 0) (pc := 33) d_Mo_make_33 (by decide) ?_
  refine mr_iast (pc := 34) d_Mo_make_34 hM.a_sy (mm_inN (by omega) (by decide)) ?_
  refine mv_aload_n (pc := 35) d_Mo_make_35 rfl ?_
  refine mr_getr (pc := 36) d_Mo_make_36 fl_Mo_32 hM.1 rfl (by decide) hM.g_wide ?_
  refine mv_iload_n (pc := 39) d_Mo_make_39 rfl ?_
  refine mv_iconst (v := 0) (pc := 40) d_Mo_make_40 (by decide) ?_
  refine mr_iast (pc := 41) d_Mo_make_41 hM.a_wide (mm_inN (by omega) (by decide)) ?_
  refine mv_aload_n (pc := 42) d_Mo_make_42 rfl ?_
  refine mr_getr (pc := 43) d_Mo_make_43 fl_Mo_35 hM.1 rfl (by decide) hM.g_high ?_
  refine mv_iload_n (pc := 46) d_Mo_make_46 rfl ?_
  refine mv_iconst (v := 0) (pc := 47) d_Mo_make_47 (by decide) ?_
  refine mr_iast (pc := 48) d_Mo_make_48 hM.a_high (mm_inN (by omega) (by decide)) ?_
  refine mv_aload_n (pc := 49) d_Mo_make_49 rfl ?_
  refine mr_getr (pc := 50) d_Mo_make_50 fl_Mo_38 hM.1 rfl (by decide) hM.g_left ?_
  refine mv_iload_n (pc := 53) d_Mo_make_53 rfl ?_
  refine mv_iconst (v := 0) (pc := 54) d_Mo_make_54 (by decide) ?_
  refine mr_iast (pc := 55) d_Mo_make_55 hM.a_left (mm_inN (by omega) (by decide)) ?_
  rw [mm_cl (n := 16 * k + i) (by omega)]
  refine mv_ret (pc := 56) d_Mo_make_56 rfl ?_
  have key : ∀ F' : mm_W, (∀ a j, F' a j = if 55 ≤ a ∧ a ≤ 62 ∧ j = 16 * k + i then (if a = 55 then 1 else if a = 56 then x else if a = 57 then y else 0) else mm_gi h a j) → Q (.inl none) (mm_wi h F') := by
    intro F' hF
    refine hq _ (hR.slot hi (fun a j ha => ?_) (fun f j hf => ?_) ?_ ?_ (fun z f f1 f2 => ?_)) (fun a j ha => ?_) hF
    · rw [hF]; rw [if_neg (by omega)]
    · unfold a_set; grind
    · rw [hF, if_neg (by omega)]; rw [(hR.2.1 i hi).1]; simp [a_set]
    · rw [hF]; simp [a_set]
    · rw [hF, if_pos (by omega)]; unfold a_set; grind
    · rw [hF]; rw [if_neg (by omega)]
  refine key _ (fun a j => ?_)
  show mm_gi (mm_si (mm_si (mm_si (mm_si (mm_si (mm_si (mm_si (mm_si h 55 (16 * k + i) 1) 56 (16 * k + i) x) 57 (16 * k + i) y) 58 (16 * k + i) 0) 59 (16 * k + i) 0) 60 (16 * k + i) 0) 61 (16 * k + i) 0) 62 (16 * k + i) 0) a j = _
  simp only [mm_gsi]
  by_cases hj : j = 16 * k + i
  · subst hj
    by_cases h1 : 55 ≤ a ∧ a ≤ 62
    · have h2 : a = 55 ∨ a = 56 ∨ a = 57 ∨ a = 58 ∨ a = 59 ∨ a = 60 ∨ a = 61 ∨ a = 62 := by omega
      rcases h2 with rfl | rfl | rfl | rfl | rfl | rfl | rfl | rfl <;> simp
    · have h2 : a ≠ 55 ∧ a ≠ 56 ∧ a ≠ 57 ∧ a ≠ 58 ∧ a ≠ 59 ∧ a ≠ 60 ∧ a ≠ 61 ∧ a ≠ 62 := by omega
      have h3 : ¬ (55 ≤ a ∧ a ≤ 62 ∧ 16 * k + i = 16 * k + i) := fun z => h1 ⟨z.1, z.2.1⟩
      rw [if_neg h3]
      simp [h2]
  · simp [hj]
theorem mm_gen {g : Int32} (h : 0 ≤ g ∧ g ≤ 65535) : (g = 65535 → g + 1 - (g + 1) / 65536 * 65536 = 0) ∧ (¬ g = 65535 → g + 1 - (g + 1) / 65536 * 65536 = g + 1) := by
  obtain ⟨j, hj, rfl⟩ := nI_of2 (x := g) (M := 65535) (n := 65535) (by decide) (Int32.not_lt.mpr h.1) h.2
  have e : nI j + 1 - (nI j + 1) / 65536 * 65536 = nI ((j + 1) % 65536) := by
    rw [nI_1]; exact pk_rem (d := 65536) (by omega) (by decide) (by decide)
  have e2 : nI j = 65535 ↔ j = 65535 := nI_eq (b := 65535) (by omega) (by decide)
  rw [e, e2, nI_1]
  exact ⟨fun z => by subst z; rfl, fun z => by rw [Nat.mod_eq_of_lt (by omega)]⟩
theorem RM.rem {F F2 A : mm_W} {k i : Nat} (h : RM F k A) (hi : i < 16) (g' : Int32) (hg' : g' = A 0 i + 1 - (A 0 i + 1) / 65536 * 65536) (h1 : ∀ a j, a ≠ 63 → F2 a j = mm_u2 (mm_u2 F 55 (16 * k + i) 0) 54 (16 * k + i) g' a j)
    (h2 : ∀ p, p < 256 → F2 63 (256 * k + p) = if p / 16 = i ∨ p % 16 = i then 0 else F 63 (256 * k + p)) : RM F2 k (a_rem A i) := by
  have hr1 : RM (mm_u2 (mm_u2 F 55 (16 * k + i) 0) 54 (16 * k + i) g') k (a_put (a_put A 1 i 0) 0 i g') := by
    refine h.slot hi (fun a j ha => ?_) (fun f j hf => ?_) ?_ ?_ (fun z => ?_)
    · have n1 : ¬ (a = 54 ∧ j = 16 * k + i) := by omega
      have n2 : ¬ (a = 55 ∧ j = 16 * k + i) := by omega
      simp [mm_u2, n1, n2]
    · unfold a_put; grind
    · simp [mm_u2, a_put]
    · simp [mm_u2, a_put]
    · simp [a_put] at z
  refine hr1.touch (fun a j ha => h1 a j ha) (fun f j hf => ?_) (fun p hp => ?_)
  · subst hg'; unfold a_put a_rem; grind
  · rw [h2 p hp, h.2.2 p hp]; unfold a_rem; simp
set_option maxRecDepth 20000 in
theorem l_mrem {G : mm_G} {Q : mm_O → mm_H → Prop} {h : mm_H} {k : Nat} (hk : k < 2) {i : Nat} (hM : mm_Mo h) (hi : i < 16) (F1 : mm_W) (hq : ∀ F', (∀ a j, (a ≠ 63 ∨ j < 256 * k ∨ 256 * k + 256 ≤ j) → F' a j = F1 a j) → (∀ p, p < 256 → F' 63 (256 * k + p) = if p / 16 = i ∨ p % 16 = i then 0 else F1 63 (256 * k + p)) → Q (.inl none) (mm_wi h F')) :
    ∀ (b : Nat) (F : mm_W), b ≤ 16 → (∀ a j, (a ≠ 63 ∨ j < 256 * k ∨ 256 * k + 256 ≤ j) → F a j = F1 a j) ∧ (∀ p, p < 256 → F 63 (256 * k + p) = if (p / 16 = i ∧ p % 16 < b) ∨ (p % 16 = i ∧ p / 16 < b) then 0 else F1 63 (256 * k + p)) → mm_V G (0, 0) M_Mo_remove Q 43 [some (.ref 52), some (.int (nI (16 * k + i))), some (.int (nI k)), some (.int (nI b))] [] (mm_wi h F) := by
  refine mr_loop _ _ 16 (fun F hI => ?_) (fun b F hb hI ih => ?_)
  · refine mv_iload_n (pc := 43) d_Mo_remove_43 rfl ?_
    refine mv_bipush (v := 16) (pc := 44) d_Mo_remove_44 (by decide) ?_
    refine mv_ic_ge 97 (pc := 46) d_Mo_remove_46 (by decide) (fun h46 => ?_) (fun z => absurd z (mm_ge16))
    refine mv_ret (pc := 97) d_Mo_remove_97 rfl ?_
    refine hq F hI.1 (fun p hp => ?_)
    rw [hI.2 p hp]
    congr 1
    exact propext (by omega)
  · refine mv_iload_n (pc := 43) d_Mo_remove_43 rfl ?_
    refine mv_bipush (v := 16) (pc := 44) d_Mo_remove_44 (by decide) ?_
    refine mv_ic_ge 97 (pc := 46) d_Mo_remove_46 (by decide) (fun z => absurd z (mm_lt16 hb)) (fun h46 => ?_)
    refine mv_aload_n (pc := 49) d_Mo_remove_49 rfl ?_
    refine mr_getr (pc := 50) d_Mo_remove_50 fl_Mo_41 hM.1 rfl (by decide) hM.g_touch ?_
    refine mv_sipush (v := 256) (pc := 53) d_Mo_remove_53 (by decide) ?_
    refine mv_iload_n (pc := 56) d_Mo_remove_56 rfl ?_
    refine mv_imul (pc := 57) d_Mo_remove_57 ?_
    refine mv_bipush (v := 16) (pc := 58) d_Mo_remove_58 (by decide) ?_
    refine mv_iload_n (pc := 60) d_Mo_remove_60 rfl ?_
    refine mv_bipush (v := 16) (pc := 61) d_Mo_remove_61 (by decide) ?_
    refine mv_irem (pc := 63) d_Mo_remove_63 (by decide) ?_
    refine mv_imul (pc := 64) d_Mo_remove_64 ?_
    refine mv_iadd (pc := 65) d_Mo_remove_65 ?_
    refine mv_iload_n (pc := 66) d_Mo_remove_66 rfl ?_
    refine mv_iadd (pc := 67) d_Mo_remove_67 ?_
    rw [mm_256, mm_r16 (by omega), show (16 * k + i) % 16 = i by omega, mm_16, nI_add, nI_add]
    refine mv_iconst (v := 0) (pc := 68) d_Mo_remove_68 (by decide) ?_
    refine mr_zast (pc := 69) d_Mo_remove_69 hM.a_touch (mm_inN (by omega) (by decide)) ?_
    rw [mm_cl (by omega), mm_nar0]
    refine mv_aload_n (pc := 70) d_Mo_remove_70 rfl ?_
    refine mr_getr (pc := 71) d_Mo_remove_71 fl_Mo_41 hM.1 rfl (by decide) hM.g_touch ?_
    refine mv_sipush (v := 256) (pc := 74) d_Mo_remove_74 (by decide) ?_
    refine mv_iload_n (pc := 77) d_Mo_remove_77 rfl ?_
    refine mv_imul (pc := 78) d_Mo_remove_78 ?_
    refine mv_bipush (v := 16) (pc := 79) d_Mo_remove_79 (by decide) ?_
    refine mv_iload_n (pc := 81) d_Mo_remove_81 rfl ?_
    refine mv_imul (pc := 82) d_Mo_remove_82 ?_
    refine mv_iadd (pc := 83) d_Mo_remove_83 ?_
    refine mv_iload_n (pc := 84) d_Mo_remove_84 rfl ?_
    refine mv_bipush (v := 16) (pc := 85) d_Mo_remove_85 (by decide) ?_
    refine mv_irem (pc := 87) d_Mo_remove_87 (by decide) ?_
    refine mv_iadd (pc := 88) d_Mo_remove_88 ?_
    rw [mm_256, mm_r16 (by omega), show (16 * k + i) % 16 = i by omega, mm_16, nI_add, nI_add]
    refine mv_iconst (v := 0) (pc := 89) d_Mo_remove_89 (by decide) ?_
    refine mr_zast (pc := 90) d_Mo_remove_90 hM.a_touch (mm_inN (by omega) (by decide)) ?_
    rw [mm_cl (by omega), mm_nar0]
    refine mv_iinc (pc := 91) d_Mo_remove_91 rfl rfl (by decide) ?_
    refine mv_goto 43 (pc := 94) d_Mo_remove_94 (by decide) ?_
    refine mm_V_ls (ls' := [some (.ref 52), some (.int (nI (16 * k + i))), some (.int (nI k)), some (.int (nI (b + 1)))]) (by simp only [List.set]; rw [nI_succ]; rfl) (ih _ ⟨fun a j ha => ?_, fun p hp => ?_⟩)
    · have n1 : ¬ (a = 63 ∧ j = 256 * k + 16 * i + b) := by omega
      have n2 : ¬ (a = 63 ∧ j = 256 * k + 16 * b + i) := by omega
      simp only [mm_u2, mm_usi, mm_uwi, n1, n2, if_false]
      exact hI.1 a j ha
    · have hP := hI.2 p hp
      simp only [mm_u2, mm_usi, mm_uwi, true_and]
      by_cases e1 : 256 * k + p = 256 * k + 16 * b + i
      · rw [if_pos e1, if_pos (by omega)]
      · rw [if_neg e1]
        by_cases e2 : 256 * k + p = 256 * k + 16 * i + b
        · rw [if_pos e2, if_pos (by omega)]
        · rw [if_neg e2, hP]
          congr 1
          exact propext (by omega)
set_option maxRecDepth 20000 in
theorem c_mrem {G : mm_G} {Q : mm_O → mm_H → Prop} {h : mm_H} {k : Nat} (hk : k < 2) {i : Nat} {A : mm_W} (hM : mm_Mo h) (hi : i < 16) (hR : RM (mm_gi h) k A) (hg : 0 ≤ A 0 i ∧ A 0 i ≤ 65535) (hq : ∀ F', RM F' k (a_rem A i) → mm_mfr k (mm_gi h) F' → Q (.inl none) (mm_wi h F')) : mm_V G (0, 0) M_Mo_remove Q 0 (mm_ent 4 [.ref 52, .int (nI (16 * k + i))]) [] h := by
  show mm_V G (0, 0) M_Mo_remove Q 0 [some (.ref 52), some (.int (nI (16 * k + i))), none, none] [] h
  refine mv_iload_n (pc := 0) d_Mo_remove_0 rfl ?_
  refine mv_bipush (v := 16) (pc := 1) d_Mo_remove_1 (by decide) ?_
  refine mv_idiv (pc := 3) d_Mo_remove_3 (by decide) ?_
  rw [mm_d16 (by omega), show (16 * k + i) / 16 = k by omega]
  refine mv_istore_n (pc := 4) d_Mo_remove_4 (by decide) ?_
  refine mv_aload_n (pc := 5) d_Mo_remove_5 rfl ?_
  refine mr_getr (pc := 6) d_Mo_remove_6 fl_Mo_16 hM.1 rfl (by decide) hM.g_full ?_
  refine mv_iload_n (pc := 9) d_Mo_remove_9 rfl ?_
  refine mv_iconst (v := 0) (pc := 10) d_Mo_remove_10 (by decide) ?_
  refine mr_zast (pc := 11) d_Mo_remove_11 hM.a_full (mm_inN (by omega) (by decide)) ?_
  rw [mm_cl (by omega), mm_nar0]
  refine mv_aload_n (pc := 12) d_Mo_remove_12 rfl ?_
  refine mr_getr (pc := 13) d_Mo_remove_13 fl_Mo_13 hM.1 rfl (by decide) hM.g_generation ?_
  refine mv_iload_n (pc := 16) d_Mo_remove_16 rfl ?_
  refine mv_aload_n (pc := 17) d_Mo_remove_17 rfl ?_
  refine mr_getr (pc := 18) d_Mo_remove_18 fl_Mo_13 hM.1 rfl (by decide) hM.g_generation ?_
  refine mv_iload_n (pc := 21) d_Mo_remove_21 rfl ?_
  refine mr_iald (pc := 22) d_Mo_remove_22 hM.a_generation (mm_inN (by omega) (by decide)) ?_
  rw [mm_cl (by omega), show mm_gi (mm_si h 55 (16 * k + i) 0) 54 (16 * k + i) = A 0 i from (hR.2.1 i hi).1]
  refine mv_ldc (pc := 23) d_Mo_remove_23 lc_Mo_73 ?_
  refine mv_ic_ne 32 (pc := 25) d_Mo_remove_25 (by decide) (fun h25 => ?_) (fun h25 => ?_)
  · refine mv_aload_n (pc := 32) d_Mo_remove_32 rfl ?_
    refine mr_getr (pc := 33) d_Mo_remove_33 fl_Mo_13 hM.1 rfl (by decide) hM.g_generation ?_
    refine mv_iload_n (pc := 36) d_Mo_remove_36 rfl ?_
    refine mr_iald (pc := 37) d_Mo_remove_37 hM.a_generation (mm_inN (by omega) (by decide)) ?_
    rw [mm_cl (by omega), show mm_gi (mm_si h 55 (16 * k + i) 0) 54 (16 * k + i) = A 0 i from (hR.2.1 i hi).1]
    refine mv_iconst (v := 1) (pc := 38) d_Mo_remove_38 (by decide) ?_
    refine mv_iadd (pc := 39) d_Mo_remove_39 ?_
    refine mr_iast (pc := 40) d_Mo_remove_40 hM.a_generation (mm_inN (by omega) (by decide)) ?_
    rw [mm_cl (by omega)]
    refine mv_iconst (v := 0) (pc := 41) d_Mo_remove_41 (by decide) ?_
    refine mv_istore_n (pc := 42) d_Mo_remove_42 (by decide) ?_
    refine l_mrem hk hM hi (mm_u2 (mm_u2 (mm_gi h) 55 (16 * k + i) 0) 54 (16 * k + i) (A 0 i + 1)) (fun F' h1 h2 => hq F' (hR.rem hi (A 0 i + 1) ((mm_gen hg).2 h25).symm (fun a j ha => h1 a j (Or.inl ha)) (fun p hp => ?_)) (fun a j ha => ?_)) 0 _ (by omega) ⟨fun a j ha => rfl, fun p hp => ?_⟩
    · rw [h2 p hp]; simp [mm_u2]
    · rw [h1 a j (by omega)]
      have n1 : ¬ (a = 54 ∧ j = 16 * k + i) := by omega
      have n2 : ¬ (a = 55 ∧ j = 16 * k + i) := by omega
      simp [mm_u2, n1, n2]
    · simp; rfl
  · refine mv_iconst (v := 0) (pc := 28) d_Mo_remove_28 (by decide) ?_
    refine mv_goto 40 (pc := 29) d_Mo_remove_29 (by decide) ?_
    refine mr_iast (pc := 40) d_Mo_remove_40 hM.a_generation (mm_inN (by omega) (by decide)) ?_
    rw [mm_cl (by omega)]
    refine mv_iconst (v := 0) (pc := 41) d_Mo_remove_41 (by decide) ?_
    refine mv_istore_n (pc := 42) d_Mo_remove_42 (by decide) ?_
    refine l_mrem hk hM hi (mm_u2 (mm_u2 (mm_gi h) 55 (16 * k + i) 0) 54 (16 * k + i) 0) (fun F' h1 h2 => hq F' (hR.rem hi 0 ((mm_gen hg).1 h25).symm (fun a j ha => h1 a j (Or.inl ha)) (fun p hp => ?_)) (fun a j ha => ?_)) 0 _ (by omega) ⟨fun a j ha => rfl, fun p hp => ?_⟩
    · rw [h2 p hp]; simp [mm_u2]
    · rw [h1 a j (by omega)]
      have n1 : ¬ (a = 54 ∧ j = 16 * k + i) := by omega
      have n2 : ¬ (a = 55 ∧ j = 16 * k + i) := by omega
      simp [mm_u2, n1, n2]
    · simp; rfl
set_option maxRecDepth 20000 in
theorem c_near {G : mm_G} {Q : mm_O → mm_H → Prop} {h : mm_H} {x y z : Int32} (hq1 : (if y < x then x - y else y - x) < z → Q (.inl (some (.int 1))) h) (hq0 : ¬ (if y < x then x - y else y - x) < z → Q (.inl (some (.int 0))) h) : mm_V G (0, 0) M_Mo_near Q 0 (mm_ent 4 [.int x, .int y, .int z]) [] h := by
  show mm_V G (0, 0) M_Mo_near Q 0 [some (.int x), some (.int y), some (.int z), none] [] h
  refine mv_iload_n (pc := 0) d_Mo_near_0 rfl ?_
  refine mv_iload_n (pc := 1) d_Mo_near_1 rfl ?_
  refine mv_ic_le 11 (pc := 2) d_Mo_near_2 (by decide) (fun h2 => ?_) (fun h2 => ?_)
  · refine mv_iload_n (pc := 11) d_Mo_near_11 rfl ?_
    refine mv_iload_n (pc := 12) d_Mo_near_12 rfl ?_
    refine mv_isub (pc := 13) d_Mo_near_13 ?_
    refine mv_istore_n (pc := 14) d_Mo_near_14 (by decide) ?_
    refine mv_iload_n (pc := 15) d_Mo_near_15 rfl ?_
    refine mv_iload_n (pc := 16) d_Mo_near_16 rfl ?_
    refine mv_ic_ge 24 (pc := 17) d_Mo_near_17 (by decide) (fun h17 => ?_) (fun h17 => ?_)
    · refine mv_iconst (v := 0) (pc := 24) d_Mo_near_24 (by decide) ?_
      refine mv_iret (pc := 25) d_Mo_near_25 rfl rfl ?_
      exact hq0 (by clear hq1 hq0; grind)
    · refine mv_iconst (v := 1) (pc := 20) d_Mo_near_20 (by decide) ?_
      refine mv_goto 25 (pc := 21) d_Mo_near_21 (by decide) ?_
      refine mv_iret (pc := 25) d_Mo_near_25 rfl rfl ?_
      exact hq1 (by clear hq1 hq0; grind)
  · refine mv_iload_n (pc := 5) d_Mo_near_5 rfl ?_
    refine mv_iload_n (pc := 6) d_Mo_near_6 rfl ?_
    refine mv_isub (pc := 7) d_Mo_near_7 ?_
    refine mv_goto 14 (pc := 8) d_Mo_near_8 (by decide) ?_
    refine mv_istore_n (pc := 14) d_Mo_near_14 (by decide) ?_
    refine mv_iload_n (pc := 15) d_Mo_near_15 rfl ?_
    refine mv_iload_n (pc := 16) d_Mo_near_16 rfl ?_
    refine mv_ic_ge 24 (pc := 17) d_Mo_near_17 (by decide) (fun h17 => ?_) (fun h17 => ?_)
    · refine mv_iconst (v := 0) (pc := 24) d_Mo_near_24 (by decide) ?_
      refine mv_iret (pc := 25) d_Mo_near_25 rfl rfl ?_
      exact hq0 (by clear hq1 hq0; grind)
    · refine mv_iconst (v := 1) (pc := 20) d_Mo_near_20 (by decide) ?_
      refine mv_goto 25 (pc := 21) d_Mo_near_21 (by decide) ?_
      refine mv_iret (pc := 25) d_Mo_near_25 rfl rfl ?_
      exact hq1 (by clear hq1 hq0; grind)
theorem mm_near {x y z : Int32} (hx : 0 ≤ x ∧ x ≤ 4095) (hy : 0 ≤ y ∧ y ≤ 4095) : (if y < x then x - y else y - x) < z ↔ (x - y < z ∧ y - x < z) := by
  obtain ⟨a, ha, rfl⟩ := nI_of2 (x := x) (M := 4095) (n := 4095) (by decide) (Int32.not_lt.mpr hx.1) hx.2
  obtain ⟨b, hb, rfl⟩ := nI_of2 (x := y) (M := 4095) (n := 4095) (by decide) (Int32.not_lt.mpr hy.1) hy.2
  have e1 := pk_sub_toInt (a := a) (b := b) (by omega) (by omega)
  have e2 := pk_sub_toInt (a := b) (b := a) (by omega) (by omega)
  have e3 := nI_ltI (a := b) (b := a) (by omega) (by omega)
  simp only [Int32.lt_iff_toInt_lt] at e3 ⊢
  split <;> rename_i h9 <;> rw [e3] at h9 <;> omega
set_option maxRecDepth 20000 in
theorem c_overlap {G : mm_G} {Q : mm_O → mm_H → Prop} {h : mm_H} {k : Nat} (hk : k < 2) {a b : Nat} {A : mm_W} (hM : mm_Mo h) (ha : a < 16) (hb : b < 16) (hR : RM (mm_gi h) k A) (hW : ∀ i, i < 16 → WS A i) (hq1 : a_ov A a b → Q (.inl (some (.int 1))) h) (hq0 : ¬ a_ov A a b → Q (.inl (some (.int 0))) h) : mm_V G (1, 23) M_Mo_overlap Q 0 (mm_ent 3 [.ref 52, .int (nI (16 * k + a)), .int (nI (16 * k + b))]) [] h := by
  show mm_V G (1, 23) M_Mo_overlap Q 0 [some (.ref 52), some (.int (nI (16 * k + a))), some (.int (nI (16 * k + b)))] [] h
  refine mv_aload_n (pc := 0) d_Mo_overlap_0 rfl ?_
  refine mr_getr (pc := 1) d_Mo_overlap_1 fl_Mo_16 hM.1 rfl (by decide) hM.g_full ?_
  refine mv_iload_n (pc := 4) d_Mo_overlap_4 rfl ?_
  refine mr_zald (pc := 5) d_Mo_overlap_5 hM.a_full (mm_inN (by omega) (by decide)) ?_
  rw [mm_cl (by omega), (hR.2.1 a ha).2.1]
  refine mv_if_eq 102 (pc := 6) d_Mo_overlap_6 (by decide) (fun h6 => ?_) (fun h6 => ?_)
  · refine mv_iconst (v := 0) (pc := 102) d_Mo_overlap_102 (by decide) ?_
    refine mv_iret (pc := 103) d_Mo_overlap_103 rfl rfl ?_
    exact hq0 (fun z => z.1.1 h6)
  · refine mv_aload_n (pc := 9) d_Mo_overlap_9 rfl ?_
    refine mr_getr (pc := 10) d_Mo_overlap_10 fl_Mo_16 hM.1 rfl (by decide) hM.g_full ?_
    refine mv_iload_n (pc := 13) d_Mo_overlap_13 rfl ?_
    refine mr_zald (pc := 14) d_Mo_overlap_14 hM.a_full (mm_inN (by omega) (by decide)) ?_
    rw [mm_cl (by omega), (hR.2.1 b hb).2.1]
    refine mv_if_eq 102 (pc := 15) d_Mo_overlap_15 (by decide) (fun h15 => ?_) (fun h15 => ?_)
    · refine mv_iconst (v := 0) (pc := 102) d_Mo_overlap_102 (by decide) ?_
      refine mv_iret (pc := 103) d_Mo_overlap_103 rfl rfl ?_
      exact hq0 (fun z => z.2.1.1 h15)
    · have ra := (hR.2.1 a ha).2.2 h6
      have rb := (hR.2.1 b hb).2.2 h15
      have wa := (hW a ha).2.2 h6
      have wb := (hW b hb).2.2 h15
      refine mv_aload_n (pc := 18) d_Mo_overlap_18 rfl ?_
      refine mr_getr (pc := 19) d_Mo_overlap_19 fl_Mo_32 hM.1 rfl (by decide) hM.g_wide ?_
      refine mv_iload_n (pc := 22) d_Mo_overlap_22 rfl ?_
      refine mr_iald (pc := 23) d_Mo_overlap_23 hM.a_wide (mm_inN (by omega) (by decide)) ?_
      rw [mm_cl (by omega), show mm_gi h 60 (16 * k + a) = A 6 a from ra 6 (by omega) (by omega)]
      refine mv_if_le 102 (pc := 24) d_Mo_overlap_24 (by decide) (fun h24 => ?_) (fun h24 => ?_)
      · refine mv_iconst (v := 0) (pc := 102) d_Mo_overlap_102 (by decide) ?_
        refine mv_iret (pc := 103) d_Mo_overlap_103 rfl rfl ?_
        exact hq0 (fun z => Int32.not_le.mpr z.1.2 h24)
      · refine mv_aload_n (pc := 27) d_Mo_overlap_27 rfl ?_
        refine mr_getr (pc := 28) d_Mo_overlap_28 fl_Mo_32 hM.1 rfl (by decide) hM.g_wide ?_
        refine mv_iload_n (pc := 31) d_Mo_overlap_31 rfl ?_
        refine mr_iald (pc := 32) d_Mo_overlap_32 hM.a_wide (mm_inN (by omega) (by decide)) ?_
        rw [mm_cl (by omega), show mm_gi h 60 (16 * k + b) = A 6 b from rb 6 (by omega) (by omega)]
        refine mv_if_le 102 (pc := 33) d_Mo_overlap_33 (by decide) (fun h33 => ?_) (fun h33 => ?_)
        · refine mv_iconst (v := 0) (pc := 102) d_Mo_overlap_102 (by decide) ?_
          refine mv_iret (pc := 103) d_Mo_overlap_103 rfl rfl ?_
          exact hq0 (fun z => Int32.not_le.mpr z.2.1.2 h33)
        · refine mv_aload_n (pc := 36) d_Mo_overlap_36 rfl ?_
          refine mr_getr (pc := 37) d_Mo_overlap_37 fl_Mo_20 hM.1 rfl (by decide) hM.g_px ?_
          refine mv_iload_n (pc := 40) d_Mo_overlap_40 rfl ?_
          refine mr_iald (pc := 41) d_Mo_overlap_41 hM.a_px (mm_inN (by omega) (by decide)) ?_
          rw [mm_cl (by omega), show mm_gi h 56 (16 * k + a) = A 2 a from ra 2 (by omega) (by omega)]
          refine mv_aload_n (pc := 42) d_Mo_overlap_42 rfl ?_
          refine mr_getr (pc := 43) d_Mo_overlap_43 fl_Mo_20 hM.1 rfl (by decide) hM.g_px ?_
          refine mv_iload_n (pc := 46) d_Mo_overlap_46 rfl ?_
          refine mr_iald (pc := 47) d_Mo_overlap_47 hM.a_px (mm_inN (by omega) (by decide)) ?_
          rw [mm_cl (by omega), show mm_gi h 56 (16 * k + b) = A 2 b from rb 2 (by omega) (by omega)]
          refine mv_aload_n (pc := 48) d_Mo_overlap_48 rfl ?_
          refine mr_getr (pc := 49) d_Mo_overlap_49 fl_Mo_32 hM.1 rfl (by decide) hM.g_wide ?_
          refine mv_iload_n (pc := 52) d_Mo_overlap_52 rfl ?_
          refine mr_iald (pc := 53) d_Mo_overlap_53 hM.a_wide (mm_inN (by omega) (by decide)) ?_
          rw [mm_cl (by omega), show mm_gi h 60 (16 * k + a) = A 6 a from ra 6 (by omega) (by omega)]
          refine mv_aload_n (pc := 54) d_Mo_overlap_54 rfl ?_
          refine mr_getr (pc := 55) d_Mo_overlap_55 fl_Mo_32 hM.1 rfl (by decide) hM.g_wide ?_
          refine mv_iload_n (pc := 58) d_Mo_overlap_58 rfl ?_
          refine mr_iald (pc := 59) d_Mo_overlap_59 hM.a_wide (mm_inN (by omega) (by decide)) ?_
          rw [mm_cl (by omega), show mm_gi h 60 (16 * k + b) = A 6 b from rb 6 (by omega) (by omega)]
          refine mv_iadd (pc := 60) d_Mo_overlap_60 ?_
          refine mr_callS3 (pc := 61) d_Mo_overlap_61 (d2 := (0, 0)) ok_Mo_near li_Mo_74 sv_Mo_near ⟨by decide, rfl, rfl, rfl, Nat.le_of_ble_eq_true rfl, rfl, by decide, by decide⟩ ?_
          refine c_near (fun n1 => ?_) (fun n1 => ?_)
          · replace n1 := (mm_near wa.1 wb.1).mp n1
            refine mv_if_eq 102 (pc := 64) d_Mo_overlap_64 (by decide) (fun z => absurd z (by decide)) (fun _ => ?_)
            refine mv_aload_n (pc := 67) d_Mo_overlap_67 rfl ?_
            refine mr_getr (pc := 68) d_Mo_overlap_68 fl_Mo_23 hM.1 rfl (by decide) hM.g_py ?_
            refine mv_iload_n (pc := 71) d_Mo_overlap_71 rfl ?_
            refine mr_iald (pc := 72) d_Mo_overlap_72 hM.a_py (mm_inN (by omega) (by decide)) ?_
            rw [mm_cl (by omega), show mm_gi h 57 (16 * k + a) = A 3 a from ra 3 (by omega) (by omega)]
            refine mv_aload_n (pc := 73) d_Mo_overlap_73 rfl ?_
            refine mr_getr (pc := 74) d_Mo_overlap_74 fl_Mo_23 hM.1 rfl (by decide) hM.g_py ?_
            refine mv_iload_n (pc := 77) d_Mo_overlap_77 rfl ?_
            refine mr_iald (pc := 78) d_Mo_overlap_78 hM.a_py (mm_inN (by omega) (by decide)) ?_
            rw [mm_cl (by omega), show mm_gi h 57 (16 * k + b) = A 3 b from rb 3 (by omega) (by omega)]
            refine mv_aload_n (pc := 79) d_Mo_overlap_79 rfl ?_
            refine mr_getr (pc := 80) d_Mo_overlap_80 fl_Mo_35 hM.1 rfl (by decide) hM.g_high ?_
            refine mv_iload_n (pc := 83) d_Mo_overlap_83 rfl ?_
            refine mr_iald (pc := 84) d_Mo_overlap_84 hM.a_high (mm_inN (by omega) (by decide)) ?_
            rw [mm_cl (by omega), show mm_gi h 61 (16 * k + a) = A 7 a from ra 7 (by omega) (by omega)]
            refine mv_aload_n (pc := 85) d_Mo_overlap_85 rfl ?_
            refine mr_getr (pc := 86) d_Mo_overlap_86 fl_Mo_35 hM.1 rfl (by decide) hM.g_high ?_
            refine mv_iload_n (pc := 89) d_Mo_overlap_89 rfl ?_
            refine mr_iald (pc := 90) d_Mo_overlap_90 hM.a_high (mm_inN (by omega) (by decide)) ?_
            rw [mm_cl (by omega), show mm_gi h 61 (16 * k + b) = A 7 b from rb 7 (by omega) (by omega)]
            refine mv_iadd (pc := 91) d_Mo_overlap_91 ?_
            refine mr_callS3 (pc := 92) d_Mo_overlap_92 (d2 := (0, 0)) ok_Mo_near li_Mo_74 sv_Mo_near ⟨by decide, rfl, rfl, rfl, Nat.le_of_ble_eq_true rfl, rfl, by decide, by decide⟩ ?_
            refine c_near (fun n2 => ?_) (fun n2 => ?_)
            · replace n2 := (mm_near wa.2.1 wb.2.1).mp n2
              refine mv_if_eq 102 (pc := 95) d_Mo_overlap_95 (by decide) (fun z => absurd z (by decide)) (fun _ => ?_)
              refine mv_iconst (v := 1) (pc := 98) d_Mo_overlap_98 (by decide) ?_
              refine mv_goto 103 (pc := 99) d_Mo_overlap_99 (by decide) ?_
              refine mv_iret (pc := 103) d_Mo_overlap_103 rfl rfl ?_
              exact hq1 ⟨⟨h6, Int32.not_le.mp h24⟩, ⟨h15, Int32.not_le.mp h33⟩, n1, n2⟩
            · replace n2 := fun z => n2 ((mm_near wa.2.1 wb.2.1).mpr z)
              refine mv_if_eq 102 (pc := 95) d_Mo_overlap_95 (by decide) (fun _ => ?_) (fun z => absurd z (by decide))
              refine mv_iconst (v := 0) (pc := 102) d_Mo_overlap_102 (by decide) ?_
              refine mv_iret (pc := 103) d_Mo_overlap_103 rfl rfl ?_
              exact hq0 (fun z => n2 z.2.2.2)
          · replace n1 := fun z => n1 ((mm_near wa.1 wb.1).mpr z)
            refine mv_if_eq 102 (pc := 64) d_Mo_overlap_64 (by decide) (fun _ => ?_) (fun z => absurd z (by decide))
            refine mv_iconst (v := 0) (pc := 102) d_Mo_overlap_102 (by decide) ?_
            refine mv_iret (pc := 103) d_Mo_overlap_103 rfl rfl ?_
            exact hq0 (fun z => n1 z.2.2.1)
set_option maxRecDepth 20000 in
theorem c_note {G : mm_G} {Q : mm_O → mm_H → Prop} {h : mm_H} {k : Nat} (hk : k < 2) {a b : Nat} {kd : Int32} {E : mm_E} (hM : mm_Mo h) (ha : a < 16) (hb : b < 16) (hE : RME (mm_gi h) k E) (hl : E.length < 120) (hq : ∀ F', RME F' k (E ++ [(kd, a * 16 + b)]) → mm_nfr k (mm_gi h) F' → Q (.inl none) (mm_wi h F')) : mm_V G (0, 0) M_Mo_note Q 0 (mm_ent 6 [.ref 52, .int (nI k), .int kd, .int (nI a), .int (nI b)]) [] h := by
  show mm_V G (0, 0) M_Mo_note Q 0 [some (.ref 52), some (.int (nI k)), some (.int kd), some (.int (nI a)), some (.int (nI b)), none] [] h
  refine mv_bipush (v := 120) (pc := 0) d_Mo_note_0 (by decide) ?_
  refine mv_iload_n (pc := 2) d_Mo_note_2 rfl ?_
  refine mv_imul (pc := 3) d_Mo_note_3 ?_
  refine mv_aload_n (pc := 4) d_Mo_note_4 rfl ?_
  refine mr_getr (pc := 5) d_Mo_note_5 fl_Mo_44 hM.1 rfl (by decide) hM.g_events ?_
  refine mv_iload_n (pc := 8) d_Mo_note_8 rfl ?_
  refine mr_iald (pc := 9) d_Mo_note_9 hM.a_events (mm_inN (by omega) (by decide)) ?_
  rw [mm_cl (by omega), hE.1, mm_120]
  refine mv_iadd (pc := 10) d_Mo_note_10 ?_
  rw [nI_add]
  refine mv_istore (pc := 11) d_Mo_note_11 (by decide) ?_
  refine mv_aload_n (pc := 13) d_Mo_note_13 rfl ?_
  refine mr_getr (pc := 14) d_Mo_note_14 fl_Mo_47 hM.1 rfl (by decide) hM.g_kind ?_
  refine mv_iload (pc := 17) d_Mo_note_17 rfl ?_
  refine mv_iload_n (pc := 19) d_Mo_note_19 rfl ?_
  refine mr_iast (pc := 20) d_Mo_note_20 hM.a_kind (mm_inN (by omega) (by decide)) ?_
  refine mv_aload_n (pc := 21) d_Mo_note_21 rfl ?_
  refine mr_getr (pc := 22) d_Mo_note_22 fl_Mo_50 hM.1 rfl (by decide) hM.g_first ?_
  refine mv_iload (pc := 25) d_Mo_note_25 rfl ?_
  refine mv_iload_n (pc := 27) d_Mo_note_27 rfl ?_
  refine mr_iast (pc := 28) d_Mo_note_28 hM.a_first (mm_inN (by omega) (by decide)) ?_
  refine mv_aload_n (pc := 29) d_Mo_note_29 rfl ?_
  refine mr_getr (pc := 30) d_Mo_note_30 fl_Mo_53 hM.1 rfl (by decide) hM.g_second ?_
  refine mv_iload (pc := 33) d_Mo_note_33 rfl ?_
  refine mv_iload (pc := 35) d_Mo_note_35 rfl ?_
  refine mr_iast (pc := 37) d_Mo_note_37 hM.a_second (mm_inN (by omega) (by decide)) ?_
  refine mv_aload_n (pc := 38) d_Mo_note_38 rfl ?_
  refine mr_getr (pc := 39) d_Mo_note_39 fl_Mo_44 hM.1 rfl (by decide) hM.g_events ?_
  refine mv_iload_n (pc := 42) d_Mo_note_42 rfl ?_
  refine mv_dup2 (pc := 43) d_Mo_note_43 rfl rfl ?_
  refine mr_iald (pc := 44) d_Mo_note_44 hM.a_events (mm_inN (by omega) (by decide)) ?_
  rw [mm_cl (n := k) (by omega), mm_cl (n := 120 * k + E.length) (by omega)]
  refine mv_iconst (v := 1) (pc := 45) d_Mo_note_45 (by decide) ?_
  refine mv_iadd (pc := 46) d_Mo_note_46 ?_
  refine mr_iast (pc := 47) d_Mo_note_47 hM.a_events (mm_inN (by omega) (by decide)) ?_
  rw [mm_cl (n := k) (by omega), show mm_gi (mm_si (mm_si (mm_si h 65 (120 * k + E.length) kd) 66 (120 * k + E.length) (nI a)) 67 (120 * k + E.length) (nI b)) 64 k = nI E.length from hE.1, ← nI_succ]
  refine mv_ret (pc := 48) d_Mo_note_48 rfl ?_
  refine hq _ ⟨?_, fun j hj => ?_⟩ (fun a2 j hj => ?_)
  · simp [mm_u2, mm_gsi, mm_g0]
  · rw [List.length_append, List.length_singleton] at hj
    by_cases e : j = E.length
    · subst e
      have e1 : (a * 16 + b) / 16 = a := by omega
      have e2 : (a * 16 + b) % 16 = b := by omega
      simp [mm_u2, mm_gsi, mm_g0, List.getD_eq_getElem?_getD, e1, e2]
    · have hj2 : j < E.length := by omega
      have := hE.2 j hj2
      simp only [List.getD_eq_getElem?_getD] at this ⊢
      rw [List.getElem?_append_left hj2]
      simp [mm_u2, mm_gsi, mm_g0, e, this]
  · have n1 : ¬ (a2 = 64 ∧ j = k) := by omega
    have n2 : ∀ q, 65 ≤ q → q ≤ 67 → ¬ (a2 = q ∧ j = 120 * k + E.length) := fun q q1 q2 => by omega
    simp [mm_u2, mm_gsi, mm_g0, n1, n2 65 (by omega) (by omega), n2 66 (by omega) (by omega), n2 67 (by omega) (by omega)]
