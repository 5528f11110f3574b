/-! CONTRACTS: StateBytes: readPairs (rows by program: con_w.py) -/
def a_prf (T : Nat → Int32) : Nat → Nat → List Int32
  | _, 0 => []
  | b, k + 1 => (if T b = 0 then [] else mm_enc (nI b) 1) ++ a_prf T (b + 1) k
theorem a_prs_prf (T : Nat → Int32) : ∀ k b, a_prs T (b + k) = a_prs T b ++ a_prf T b k
  | 0, b => by simp [a_prf]
  | k + 1, b => by
    rw [show b + (k + 1) = (b + 1) + k by omega, a_prs_prf T k (b + 1)]
    simp only [a_prs, a_prf, List.append_assoc]
theorem a_pz {T : Nat → Int32} {b : Nat} : ∀ k, (∀ q, b ≤ q → q < b + k → T q = 0) → a_prs T (b + k) = a_prs T b ∧ a_cnt T (b + k) = a_cnt T b
  | 0, _ => ⟨rfl, rfl⟩
  | k + 1, h => by
    obtain ⟨e1, e2⟩ := a_pz (T := T) (b := b) k (fun q h1 h2 => h q h1 (by omega))
    have z := h (b + k) (by omega) (by omega)
    rw [show b + (k + 1) = (b + k) + 1 by omega]
    simp only [a_prs, a_cnt, z, if_true, List.append_nil, Nat.add_zero]
    exact ⟨e1, e2⟩
theorem a_pfz {T : Nat → Int32} : ∀ j b k, (∀ q, b ≤ q → q < b + j → T q = 0) → a_prf T b (j + k) = a_prf T (b + j) k
  | 0, b, k, _ => by rw [Nat.zero_add]; rfl
  | j + 1, b, k, h => by
    have z := h b (by omega) (by omega)
    rw [show j + 1 + k = (j + k) + 1 by omega]
    simp only [a_prf, z, if_true, List.nil_append]
    rw [a_pfz j (b + 1) k (fun q h1 h2 => h q (by omega) (by omega)), show b + 1 + j = b + (j + 1) by omega]
/-- the next pair -/
theorem a_nxt {T : Nat → Int32} : ∀ k b, a_cnt T b < a_cnt T (b + k) → ∃ q, b ≤ q ∧ q < b + k ∧ ¬ T q = 0 ∧ ∀ j, b ≤ j → j < q → T j = 0
  | 0, b, h => absurd h (Nat.lt_irrefl _)
  | k + 1, b, h => by
    by_cases c : T b = 0
    · have e : a_cnt T (b + 1) = a_cnt T b := by simp [a_cnt, c]
      rw [show b + (k + 1) = (b + 1) + k by omega, ← e] at h
      obtain ⟨q, q1, q2, q3, q4⟩ := a_nxt k (b + 1) h
      refine ⟨q, by omega, by omega, q3, fun j h1 h2 => ?_⟩
      by_cases d : j = b
      · subst d; exact c
      · exact q4 j (by omega) h2
    · exact ⟨b, Nat.le_refl _, by omega, c, fun j h1 h2 => absurd h2 (by omega)⟩
/-- pairs of things, not more than a byte can count -/
def okT (F : mm_W) (w : Nat) (T : Nat → Int32) : Prop := (∀ q, q < 256 → ¬ T q = 0 → q / 16 < q % 16 ∧ ¬ F (w + 6 + q / 16) 1 = 0 ∧ ¬ F (w + 6 + q % 16) 1 = 0) ∧ a_cnt T 256 ≤ 255
/-- what is known of the pairs in the middle of reading: b: behind the last that was read -/
def PI (bs : List Int32) (p : Nat) (F0 : mm_W) (y w : Nat) (c n b q : Nat) (F : mm_W) : Prop :=
  (∀ a k, a ≠ w + 2 → ¬ (a = y ∧ k = 2) → F a k = F0 a k) ∧ F y 2 = nI q ∧ q ≤ bs.length ∧ b ≤ 256 ∧ n ≤ c ∧ a_cnt (F (w + 2)) b = n ∧ (∀ j, b ≤ j → j < 256 → F (w + 2) j = 0) ∧ (∀ j, j < 256 → F (w + 2) j = 0 ∨ F (w + 2) j = 1) ∧ (∀ j, j < 256 → ¬ F (w + 2) j = 0 → j / 16 < j % 16 ∧ ¬ F0 (w + 6 + j / 16) 1 = 0 ∧ ¬ F0 (w + 6 + j % 16) 1 = 0) ∧
  bs.drop p = mm_enc (nI c) 1 ++ (a_prs (F (w + 2)) b ++ bs.drop q) ∧
  (∀ T r, okT F0 w T → bs.drop p = mm_enc (nI (a_cnt T 256)) 1 ++ (a_prs T 256 ++ r) → a_cnt T 256 = c ∧ a_cnt T b = n ∧ bs.drop q = a_prf T b (256 - b) ++ r)
theorem PI.init {bs : List Int32} (hb : a_byt bs) {p y w c : Nat} {F0 F : mm_W} (hc : mm_nv bs p 1 = nI c) (hc2 : c ≤ 255) (h1 : ∀ a k, a ≠ w + 2 → ¬ (a = y ∧ k = 2) → F a k = F0 a k) (h2 : F y 2 = nI (mm_np bs p 1)) (h3 : ∀ j, j < 256 → F (w + 2) j = 0) : PI bs p F0 y w c 0 0 (mm_np bs p 1) F := by
  have ne : ¬ mm_nv bs p 1 = -1 := nv_ge (a := 0) (by decide) (by rw [hc]; exact nI_pos' (by omega))
  have e := nv_pos hb (n := 1) (by omega) ne
  refine ⟨h1, h2, mm_np_le _ _ _, by omega, by omega, rfl, fun j _ hj => h3 j hj, fun j hj => Or.inl (h3 j hj), fun j hj z => absurd (h3 j hj) z, by rw [← hc]; exact e, fun T r hT hd => ?_⟩
  obtain ⟨v1, e1⟩ := nv_use hb (by omega) (by omega) (f_1 (mm_rng255 (j := a_cnt T 256) (by have := hT.2; omega))) hd
  rw [hc] at v1
  refine ⟨((nI_eq (by omega) (by have := hT.2; omega)).mp v1).symm, rfl, ?_⟩
  rw [e1, ← show a_prs T (0 + 256) = a_prs T 256 from rfl, a_prs_prf T 256 0]
  rfl
/-- the next pair is there -/
theorem PI.next {bs : List Int32} (hb : a_byt bs) {p y w c n b q : Nat} {F0 F : mm_W} (h : PI bs p F0 y w c n b q F) (hn : n < c) {T : Nat → Int32} {r : List Int32} (hT : okT F0 w T) (hd : bs.drop p = mm_enc (nI (a_cnt T 256)) 1 ++ (a_prs T 256 ++ r)) :
    ∃ j, b ≤ j ∧ j < 256 ∧ ¬ T j = 0 ∧ (∀ i, b ≤ i → i < j → T i = 0) ∧ mm_nv bs q 1 = nI j ∧ bs.drop (mm_np bs q 1) = a_prf T (j + 1) (256 - (j + 1)) ++ r := by
  obtain ⟨h1, h2, h3, h4, h5, h6, h7, h8, h9, h10, h11⟩ := h
  obtain ⟨k1, k2, k3⟩ := h11 T r hT hd
  obtain ⟨j, j1, j2, j3, j4⟩ := a_nxt (T := T) (256 - b) b (by rw [show b + (256 - b) = 256 by omega]; omega)
  have j5 : j < 256 := by omega
  have e := a_pfz (T := T) (j - b) b (256 - j) (fun i i1 i2 => j4 i i1 (by omega))
  rw [show j - b + (256 - j) = 256 - b by omega, show b + (j - b) = j by omega, show 256 - j = (256 - (j + 1)) + 1 by omega] at e
  simp only [a_prf, j3, if_false] at e
  rw [e, List.append_assoc] at k3
  obtain ⟨v1, e1⟩ := nv_use hb (by omega) (by omega) (f_1 (mm_rng255 (j := j) (by omega))) k3
  exact ⟨j, j1, j5, j3, j4, v1, e1⟩
theorem PI.step {bs : List Int32} (hb : a_byt bs) {p y w c n b q j : Nat} {F0 F : mm_W} (h : PI bs p F0 y w c n b q F) (hn : n < c) (hy : w + 2 ≠ y) (hj : mm_nv bs q 1 = nI j) (hj1 : b ≤ j) (hj2 : j < 256) (hv : j / 16 < j % 16 ∧ ¬ F0 (w + 6 + j / 16) 1 = 0 ∧ ¬ F0 (w + 6 + j % 16) 1 = 0) :
    PI bs p F0 y w c (n + 1) (j + 1) (mm_np bs q 1) (mm_u2 (mm_u2 F y 2 (nI (mm_np bs q 1))) (w + 2) j 1) := by
  have hnx := fun T r hT hd => h.next hb hn (T := T) (r := r) hT hd
  obtain ⟨h1, h2, h3, h4, h5, h6, h7, h8, h9, h10, h11⟩ := h
  have ny : ¬ y = w + 2 := fun z => hy z.symm
  have fT : ∀ i, mm_u2 (mm_u2 F y 2 (nI (mm_np bs q 1))) (w + 2) j 1 (w + 2) i = if i = j then 1 else F (w + 2) i := fun i => by simp [mm_u2, hy]
  have ne : ¬ mm_nv bs q 1 = -1 := nv_ge (a := 0) (by decide) (by rw [hj]; exact nI_pos' (by omega))
  have er := nv_pos hb (n := 1) (by omega) ne
  have z1 : ∀ i, b ≤ i → i < b + (j - b) → F (w + 2) i = 0 := fun i i1 i2 => h7 i i1 (by omega)
  obtain ⟨e1, e2⟩ := a_pz (T := F (w + 2)) (b := b) (j - b) z1
  rw [show b + (j - b) = j by omega] at e1 e2
  obtain ⟨T9, hT9⟩ : ∃ T9, T9 = mm_u2 (mm_u2 F y 2 (nI (mm_np bs q 1))) (w + 2) j 1 (w + 2) := ⟨_, rfl⟩
  rw [← hT9] at fT
  have e3 : a_prs T9 j = a_prs (F (w + 2)) j := a_prs_eq j fun i hi => by rw [fT, if_neg (by omega)]
  have e4 : a_cnt T9 j = a_cnt (F (w + 2)) j := a_cnt_eq j fun i hi => by rw [fT, if_neg (by omega)]
  have nz : ¬ T9 j = 0 := by rw [fT, if_pos rfl]; decide
  have e5 : a_prs T9 (j + 1) = a_prs (F (w + 2)) b ++ mm_enc (nI j) 1 := by simp only [a_prs, nz, if_false]; rw [e3, e1]
  have e6 : a_cnt T9 (j + 1) = n + 1 := by simp only [a_cnt, nz, if_false]; rw [e4, e2, h6]
  refine ⟨fun a k ha hk => ?_, ?_, mm_np_le _ _ _, by omega, by omega, ?_, fun i i1 i2 => ?_, fun i hi => ?_, fun i hi z => ?_, ?_, fun T r hT hd => ?_⟩
  · simp only [mm_u2, ha, hk, false_and, if_false]; exact h1 a k ha hk
  · simp [mm_u2, ny]
  · rw [← hT9]; exact e6
  · rw [← hT9, fT, if_neg (by omega)]; exact h7 i (by omega) i2
  · rw [← hT9, fT]
    by_cases d : i = j
    · rw [if_pos d]; exact Or.inr rfl
    · rw [if_neg d]; exact h8 i hi
  · rw [← hT9, fT] at z
    by_cases d : i = j
    · subst d; exact hv
    · rw [if_neg d] at z; exact h9 i hi z
  · rw [← hT9, e5, List.append_assoc, h10, er, hj]
  · obtain ⟨k1, k2, k3⟩ := h11 T r hT hd
    obtain ⟨i, i1, i2, i3, i4, i5, i6⟩ := hnx T r hT hd
    have d : i = j := ((nI_eq (by omega) (by omega)).mp (hj.symm.trans i5)).symm
    subst d
    obtain ⟨-, z2⟩ := a_pz (T := T) (b := b) (i - b) (fun q q1 q2 => i4 q q1 (by omega))
    rw [show b + (i - b) = i by omega] at z2
    exact ⟨k1, by simp only [a_cnt, i3, if_false]; rw [z2, k2], i6⟩
theorem PI.done {bs : List Int32} {p y w c b q : Nat} {F0 F : mm_W} (h : PI bs p F0 y w c c b q F) : a_cnt (F (w + 2)) 256 = c ∧ bs.drop p = mm_enc (nI (a_cnt (F (w + 2)) 256)) 1 ++ (a_prs (F (w + 2)) 256 ++ bs.drop q) := by
  obtain ⟨h1, h2, h3, h4, h5, h6, h7, h8, h9, h10, h11⟩ := h
  obtain ⟨e1, e2⟩ := a_pz (T := F (w + 2)) (b := b) (256 - b) (fun i i1 i2 => h7 i i1 (by omega))
  rw [show b + (256 - b) = 256 by omega] at e1 e2
  rw [e2, h6, e1]
  exact ⟨rfl, h10⟩
theorem mm_m1le {b : Nat} (h : b < 65536) : -1 ≤ nI b - 1 := by
  cases b with
  | zero => decide
  | succ b => rw [nI_pred]; exact Int32.le_trans (by decide) (nI_pos' (by omega))
theorem mm_gtm1 {x : Int32} (h : -1 < x) : 0 ≤ x := by
  simp only [Int32.le_iff_toInt_le, Int32.lt_iff_toInt_lt, i_0, show (-1 : Int32).toInt = -1 from by decide] at h ⊢
  omega
theorem mm_bj {b j : Nat} (hb : b < 65536) (hj : j < 256) (h : nI b - 1 < nI j) : b ≤ j := by
  cases b with
  | zero => omega
  | succ b => rw [nI_pred] at h; exact (nI_ltI (by omega) (by omega)).mp h
theorem mm_jb {b j : Nat} (hb : b < 65536) (hj : j < 256) (h : b ≤ j) : nI b - 1 < nI j := by
  cases b with
  | zero => exact Int32.lt_of_lt_of_le (by decide) (nI_pos' (n := j) (by omega))
  | succ b => rw [nI_pred]; exact nI_lt (by omega) (by omega)
theorem mm_gsiN {h : mm_H} {F : mm_W} {a b k j : Nat} {x : Int32} (h1 : b ≠ a) : mm_gi (mm_si (mm_wi h F) a k x) b j = F b j := by
  simp [mm_gsi, mm_gwi, h1]
theorem nI_nm1b {c : Nat} (hc : c ≤ 255) : ¬ nI c = -1 := fun z => by
  have h1 := nI_toInt (n := c) (by omega)
  rw [z] at h1
  have h2 : (-1 : Int32).toInt = -1 := by decide
  omega
set_option maxRecDepth 20000 in
theorem l_readPairs {G : mm_G} {Q : mm_O → mm_H → Prop} {h : mm_H} {z y N w p : Nat} {bs : List Int32} (hz : mm_Hd h z 4 y N) (hw : mm_Wd h w) (hd : y + 1 < w ∨ w + 22 ≤ y) (hb : a_byt bs) (hN : bs.length ≤ N) {c : Nat} (hc : c ≤ 255) (F0 : mm_W) (hB : mm_By F0 y bs) (hq1 : ∀ F' q, (∀ a k, a ≠ w + 2 → ¬ (a = y ∧ k = 2) → F' a k = F0 a k) → F' y 2 = nI q → q ≤ bs.length → (∀ j, j < 256 → F' (w + 2) j = 0 ∨ F' (w + 2) j = 1) → okT F0 w (F' (w + 2)) → bs.drop p = mm_enc (nI (a_cnt (F' (w + 2)) 256)) 1 ++ (a_prs (F' (w + 2)) 256 ++ bs.drop q) → Q (.inl (some (.int 1))) (mm_wi h F')) (hq0 : ∀ F', (∀ a k, a ≠ w + 2 → ¬ (a = y ∧ k = 2) → F' a k = F0 a k) → (∀ T r, okT F0 w T → ¬ bs.drop p = mm_enc (nI (a_cnt T 256)) 1 ++ (a_prs T 256 ++ r)) → Q (.inl (some (.int 0))) (mm_wi h F')) :
    ∀ (n : Nat) (s : Nat × Nat × mm_W), n ≤ c → PI bs p F0 y w c n s.2.1 s.1 s.2.2 → mm_V G (2, 44) M_Sb_readPairs Q 18 [some (.ref z), some (.ref w), some (.int (nI c)), some (.int (nI s.2.1 - 1)), some (.int (nI n)), none] [] (mm_wi h s.2.2) := by
  refine mr_loop _ _ c (fun s hI => ?_) (fun n s hn hI ih => ?_)
  · obtain ⟨q, b, F⟩ := s
    replace hI : PI bs p F0 y w c c b q F := hI
    show mm_V G (2, 44) M_Sb_readPairs Q 18 [some (.ref z), some (.ref w), some (.int (nI c)), some (.int (nI b - 1)), some (.int (nI c)), none] [] (mm_wi h F)
    refine mv_iload (pc := 18) d_Sb_readPairs_18 rfl ?_
    refine mv_iload_n (pc := 20) d_Sb_readPairs_20 rfl ?_
    refine mv_ic_ge 68 (pc := 21) d_Sb_readPairs_21 (by decide) (fun h21 => ?_) (fun z => absurd z (fun z => z (nI_le (by omega) (by omega))))
    refine mv_iload_n (pc := 68) d_Sb_readPairs_68 rfl ?_
    refine mv_iconst (v := -1) (pc := 69) d_Sb_readPairs_69 (by decide) ?_
    refine mv_ic_eq 77 (pc := 70) d_Sb_readPairs_70 (by decide) (fun z => absurd z (fun z => nI_nm1b hc z)) (fun h70 => ?_)
    refine mv_iconst (v := 1) (pc := 73) d_Sb_readPairs_73 (by decide) ?_
    refine mv_goto 78 (pc := 74) d_Sb_readPairs_74 (by decide) ?_
    refine mv_iret (pc := 78) d_Sb_readPairs_78 rfl rfl ?_
    obtain ⟨d1, d2⟩ := hI.done
    exact hq1 F q hI.1 hI.2.1 hI.2.2.1 hI.2.2.2.2.2.2.2.1 ⟨hI.2.2.2.2.2.2.2.2.1, by rw [d1]; exact hc⟩ d2
  · obtain ⟨q, b, F⟩ := s
    replace hI : PI bs p F0 y w c n b q F := hI
    show mm_V G (2, 44) M_Sb_readPairs Q 18 [some (.ref z), some (.ref w), some (.int (nI c)), some (.int (nI b - 1)), some (.int (nI n)), none] [] (mm_wi h F)
    have hBF : mm_By F y bs := ⟨by rw [hI.1 y 1 (by omega) (by omega)]; exact hB.1, fun j hj => by rw [hI.1 (y + 1) j (by omega) (by omega)]; exact hB.2 j hj⟩
    refine mv_iload (pc := 18) d_Sb_readPairs_18 rfl ?_
    refine mv_iload_n (pc := 20) d_Sb_readPairs_20 rfl ?_
    refine mv_ic_ge 68 (pc := 21) d_Sb_readPairs_21 (by decide) (fun z => absurd z (nI_ge (by omega) (by omega))) (fun h21 => ?_)
    refine mv_aload_n (pc := 24) d_Sb_readPairs_24 rfl ?_
    refine mr_getr (pc := 25) d_Sb_readPairs_25 fl_Sb_14 hz.1 rfl (by decide) hz.2.1 ?_
    refine mv_iconst (v := 1) (pc := 28) d_Sb_readPairs_28 (by decide) ?_
    refine mr_callV1 (pc := 29) d_Sb_readPairs_29 (d2 := (1, 21)) ok_By_next li_Sb_117 sv_By_next hz.2.2.1 ⟨by decide, rfl⟩ ⟨by decide, rfl, Nat.le_of_ble_eq_true rfl, rfl, by decide, by decide⟩ ?_
    refine c_nx (h := mm_wi h F) (n := 1) (p := q) hz.2.2 (by omega) hN hBF hI.2.2.1 hI.2.1 ?_
    refine mv_istore (pc := 32) d_Sb_readPairs_32 (by decide) ?_
    refine mv_iload (pc := 34) d_Sb_readPairs_34 rfl ?_
    refine mv_iload_n (pc := 36) d_Sb_readPairs_36 rfl ?_
    refine mv_ic_le 49 (pc := 37) d_Sb_readPairs_37 (by decide) (fun h37 => ?_) (fun h37 => ?_)
    · refine mv_iconst (v := 0) (pc := 49) d_Sb_readPairs_49 (by decide) ?_
      refine mv_iret (pc := 50) d_Sb_readPairs_50 rfl rfl ?_
      refine hq0 _ (fun a k ha hk => ?_) (fun T r hT hd9 => ?_)
      · simp only [mm_usi, mm_u2, mm_uwi, hk, if_false]; exact hI.1 a k ha hk
      · obtain ⟨i, i1, i2, i3, i4, i5, i6⟩ := hI.next hb hn hT hd9
        rw [i5] at h37
        exact Int32.not_le.mpr (mm_jb (by have := hI.2.2.2.1; omega) i2 i1) h37
    · obtain ⟨j, hj2, hj⟩ : ∃ j, j < 256 ∧ mm_nv bs q 1 = nI j := by
        have r9 := nv_rng1 hb q
        have g9 : 0 ≤ mm_nv bs q 1 := by
          have hb9 : -1 ≤ nI b - 1 := mm_m1le (by have := hI.2.2.2.1; omega)
          exact mm_gtm1 (Int32.lt_of_le_of_lt hb9 (Int32.not_le.mp h37))
        obtain ⟨j, hj, e⟩ := nI_of2 (x := mm_nv bs q 1) (M := 255) (n := 255) (by decide) (Int32.not_lt.mpr g9) r9.2
        exact ⟨j, by omega, e⟩
      have hjb : b ≤ j := mm_bj (by have := hI.2.2.2.1; omega) hj2 (by rw [← hj]; exact Int32.not_le.mp h37)
      have hx1 := hI.1 (w + 6 + j / 16) 1 (by omega) (by omega)
      have hx2 := hI.1 (w + 6 + j % 16) 1 (by omega) (by omega)
      rw [hj]
      refine mv_aload_n (pc := 40) d_Sb_readPairs_40 rfl ?_
      refine mv_iload (pc := 41) d_Sb_readPairs_41 rfl ?_
      refine mr_callV1 (pc := 43) d_Sb_readPairs_43 (d2 := (1, 20)) ok_Wo_isPairOfThings li_Sb_164 sv_Wo_isPairOfThings hw.1 ⟨by decide, rfl⟩ ⟨by decide, rfl, Nat.le_of_ble_eq_true rfl, rfl, by decide, by decide⟩ ?_
      refine c_isPair (h := mm_si (mm_wi h F) y 2 (nI (mm_np bs q 1))) (p := j) hw hj2 (fun hv => ?_) (fun hv => ?_)
      · rw [show mm_gi (mm_si (mm_wi h F) y 2 (nI (mm_np bs q 1))) (w + 6 + j / 16) 1 = F (w + 6 + j / 16) 1 from mm_gsiN (by omega), show mm_gi (mm_si (mm_wi h F) y 2 (nI (mm_np bs q 1))) (w + 6 + j % 16) 1 = F (w + 6 + j % 16) 1 from mm_gsiN (by omega)] at hv
        refine mv_if_ne 51 (pc := 46) d_Sb_readPairs_46 (by decide) (fun _ => ?_) (fun z => absurd z (by decide))
        refine mv_aload_n (pc := 51) d_Sb_readPairs_51 rfl ?_
        refine mr_getr (pc := 52) d_Sb_readPairs_52 fl_Sb_97 hw.1 rfl (by decide) hw.2.2.2.2.2.2.1 ?_
        refine mv_iload (pc := 55) d_Sb_readPairs_55 rfl ?_
        refine mv_iconst (v := 1) (pc := 57) d_Sb_readPairs_57 (by decide) ?_
        refine mr_zast (pc := 58) d_Sb_readPairs_58 hw.2.2.1 (mm_in256 hj2) ?_
        rw [mm_cl (n := j) (by omega), mm_nar1]
        refine mv_iload (pc := 59) d_Sb_readPairs_59 rfl ?_
        refine mv_istore_n (pc := 61) d_Sb_readPairs_61 (by decide) ?_
        refine mv_iinc (pc := 62) d_Sb_readPairs_62 rfl rfl (by decide) ?_
        refine mv_goto 18 (pc := 65) d_Sb_readPairs_65 (by decide) ?_
        refine mm_V_drop 5 ?_
        refine mm_V_ls (ls' := [some (.ref z), some (.ref w), some (.int (nI c)), some (.int (nI (j + 1) - 1)), some (.int (nI (n + 1))), none]) (by simp only [List.set]; rw [nI_pred, nI_succ n]; rfl) (ih (mm_np bs q 1, j + 1, _) (hI.step hb hn (by omega) hj hjb hj2 ⟨hv.1, hx1.symm ▸ hv.2.1, hx2.symm ▸ hv.2.2⟩))
      · rw [show mm_gi (mm_si (mm_wi h F) y 2 (nI (mm_np bs q 1))) (w + 6 + j / 16) 1 = F (w + 6 + j / 16) 1 from mm_gsiN (by omega), show mm_gi (mm_si (mm_wi h F) y 2 (nI (mm_np bs q 1))) (w + 6 + j % 16) 1 = F (w + 6 + j % 16) 1 from mm_gsiN (by omega)] at hv
        refine mv_if_ne 51 (pc := 46) d_Sb_readPairs_46 (by decide) (fun z => absurd z (by decide)) (fun _ => ?_)
        refine mv_iconst (v := 0) (pc := 49) d_Sb_readPairs_49 (by decide) ?_
        refine mv_iret (pc := 50) d_Sb_readPairs_50 rfl rfl ?_
        refine hq0 _ (fun a k ha hk => ?_) (fun T r hT hd9 => ?_)
        · simp only [mm_usi, mm_u2, mm_uwi, hk, if_false]; exact hI.1 a k ha hk
        · obtain ⟨i, i1, i2, i3, i4, i5, i6⟩ := hI.next hb hn hT hd9
          have d : i = j := ((nI_eq (by omega) (by omega)).mp (hj.symm.trans i5)).symm
          subst d
          obtain ⟨v1, v2, v3⟩ := hT.1 i i2 i3
          exact hv ⟨v1, by rw [hx1]; exact v2, by rw [hx2]; exact v3⟩
set_option maxRecDepth 20000 in
theorem c_readPairs {G : mm_G} {Q : mm_O → mm_H → Prop} {h : mm_H} {z y N w p : Nat} {bs : List Int32} (hz : mm_Hd h z 4 y N) (hw : mm_Wd h w) (hd : y + 1 < w ∨ w + 22 ≤ y) (hb : a_byt bs) (hN : bs.length ≤ N) (hB : mm_By (mm_gi h) y bs) (hp : p ≤ bs.length) (hpl : mm_gi h y 2 = nI p) (hq1 : ∀ F' q, (∀ a k, a ≠ w + 2 → ¬ (a = y ∧ k = 2) → F' a k = (mm_gi h) a k) → F' y 2 = nI q → q ≤ bs.length → (∀ j, j < 256 → F' (w + 2) j = 0 ∨ F' (w + 2) j = 1) → okT (mm_gi h) w (F' (w + 2)) → bs.drop p = mm_enc (nI (a_cnt (F' (w + 2)) 256)) 1 ++ (a_prs (F' (w + 2)) 256 ++ bs.drop q) → Q (.inl (some (.int 1))) (mm_wi h F')) (hq0 : ∀ F', (∀ a k, a ≠ w + 2 → ¬ (a = y ∧ k = 2) → F' a k = (mm_gi h) a k) → (∀ T r, okT (mm_gi h) w T → ¬ bs.drop p = mm_enc (nI (a_cnt T 256)) 1 ++ (a_prs T 256 ++ r)) → Q (.inl (some (.int 0))) (mm_wi h F')) : mm_V G (2, 44) M_Sb_readPairs Q 0 (mm_ent 6 [.ref z, .ref w]) [] h := by
  show mm_V G (2, 44) M_Sb_readPairs Q 0 [some (.ref z), some (.ref w), none, none, none, none] [] h
  refine mv_aload_n (pc := 0) d_Sb_readPairs_0 rfl ?_
  refine mr_callV0 (pc := 1) d_Sb_readPairs_1 (d2 := (0, 0)) ok_Wo_forgetTouching li_Sb_161 sv_Wo_forgetTouching hw.1 ⟨by decide, rfl⟩ ⟨by decide, Nat.le_of_ble_eq_true rfl, rfl, by decide, by decide⟩ ?_
  refine c_forget hw (fun F1 f1 z1 => ?_)
  refine mv_aload_n (pc := 4) d_Sb_readPairs_4 rfl ?_
  refine mr_getr (pc := 5) d_Sb_readPairs_5 fl_Sb_14 hz.1 rfl (by decide) hz.2.1 ?_
  refine mv_iconst (v := 1) (pc := 8) d_Sb_readPairs_8 (by decide) ?_
  refine mr_callV1 (pc := 9) d_Sb_readPairs_9 (d2 := (1, 21)) ok_By_next li_Sb_117 sv_By_next hz.2.2.1 ⟨by decide, rfl⟩ ⟨by decide, rfl, Nat.le_of_ble_eq_true rfl, rfl, by decide, by decide⟩ ?_
  refine c_nx (h := mm_wi h F1) (n := 1) (p := p) hz.2.2 (by omega) hN ⟨(f1 y 1 (by omega)).trans hB.1, fun j hj => (f1 (y + 1) j (by omega)).trans (hB.2 j hj)⟩ hp ((f1 y 2 (by omega)).trans hpl) ?_
  refine mv_istore_n (pc := 12) d_Sb_readPairs_12 (by decide) ?_
  refine mv_iconst (v := -1) (pc := 13) d_Sb_readPairs_13 (by decide) ?_
  refine mv_istore_n (pc := 14) d_Sb_readPairs_14 (by decide) ?_
  refine mv_iconst (v := 0) (pc := 15) d_Sb_readPairs_15 (by decide) ?_
  refine mv_istore (pc := 16) d_Sb_readPairs_16 (by decide) ?_
  have nyw : ¬ (w + 2 = y) := by omega
  have hF2 : ∀ a k, a ≠ w + 2 → ¬ (a = y ∧ k = 2) → mm_u2 F1 y 2 (nI (mm_np bs p 1)) a k = mm_gi h a k := fun a k h1 h2 => by simp only [mm_u2, h2, if_false]; exact f1 a k h1
  by_cases hneg : mm_nv bs p 1 = -1
  · rw [hneg]
    refine mv_iload (pc := 18) d_Sb_readPairs_18 rfl ?_
    refine mv_iload_n (pc := 20) d_Sb_readPairs_20 rfl ?_
    refine mv_ic_ge 68 (pc := 21) d_Sb_readPairs_21 (by decide) (fun _ => ?_) (fun z => absurd z (by decide))
    refine mv_iload_n (pc := 68) d_Sb_readPairs_68 rfl ?_
    refine mv_iconst (v := -1) (pc := 69) d_Sb_readPairs_69 (by decide) ?_
    refine mv_ic_eq 77 (pc := 70) d_Sb_readPairs_70 (by decide) (fun _ => ?_) (fun z => absurd z (by decide))
    refine mv_iconst (v := 0) (pc := 77) d_Sb_readPairs_77 (by decide) ?_
    refine mv_iret (pc := 78) d_Sb_readPairs_78 rfl rfl ?_
    refine hq0 _ hF2 (fun T r hT hd9 => ?_)
    obtain ⟨v1, -⟩ := nv_use hb (by omega) (by omega) (f_1 (mm_rng255 (j := a_cnt T 256) (by have := hT.2; omega))) hd9
    rw [hneg] at v1
    exact nI_nm1b hT.2 v1.symm
  · obtain ⟨c, hc, ec⟩ : ∃ c, c ≤ 255 ∧ mm_nv bs p 1 = nI c := by
      have r9 := nv_rng1 hb p
      have hlt : -1 < mm_nv bs p 1 := Int32.lt_of_le_of_ne r9.1 (fun z => hneg z.symm)
      exact nI_of2 (x := mm_nv bs p 1) (M := 255) (n := 255) (by decide) (Int32.not_lt.mpr (mm_gtm1 hlt)) r9.2
    rw [ec]
    refine l_readPairs hz hw hd hb hN hc (mm_gi h) hB hq1 hq0 0 (mm_np bs p 1, 0, mm_u2 F1 y 2 (nI (mm_np bs p 1))) (by omega) (PI.init hb ec hc hF2 (by simp [mm_u2]) (fun j hj => ?_))
    simp only [mm_u2, nyw, false_and, if_false]
    exact z1 j hj
theorem a_cnt_up {T U : Nat → Int32} : ∀ n, (∀ q, q < n → ¬ T q = 0 → ¬ U q = 0) → a_cnt T n ≤ a_cnt U n
  | 0, _ => Nat.le_refl _
  | n + 1, h => by
    have h1 := a_cnt_up n (fun q hq => h q (by omega))
    have h2 := h n (by omega)
    simp only [a_cnt]
    by_cases c : T n = 0
    · rw [if_pos c]; split <;> omega
    · rw [if_neg c, if_neg (h2 c)]; omega
theorem a_cnt_120 {T : Nat → Int32} (h : ∀ q, q < 256 → ¬ T q = 0 → q / 16 < q % 16) : a_cnt T 256 ≤ 120 := by
  have h1 := a_cnt_up (T := T) (U := fun q => if q / 16 < q % 16 then 1 else 0) 256 (fun q hq z => by
    show ¬ (if q / 16 < q % 16 then (1 : Int32) else 0) = 0
    rw [if_pos (h q hq z)]; decide)
  have h2 : a_cnt (fun q => if q / 16 < q % 16 then (1 : Int32) else 0) 256 = 120 := by decide +kernel
  omega
theorem chk_app (l r : List Int32) : ∀ n, n ≤ l.length → mm_chc (l ++ r) n = mm_chc l n ∧ mm_chd (l ++ r) n = mm_chd l n
  | 0, _ => ⟨rfl, rfl⟩
  | n + 1, hn => by
    obtain ⟨e1, e2⟩ := chk_app l r n (by omega)
    have e3 : (l ++ r).getD n 0 = l.getD n 0 := by
      rw [List.getD_eq_getElem?_getD, List.getD_eq_getElem?_getD, List.getElem?_append_left (by omega)]
    have e4 : mm_chc (l ++ r) (n + 1) = mm_chc l (n + 1) := by simp only [mm_chc, e1, e3]
    exact ⟨e4, by simp only [mm_chd, e2, e4]⟩
/-- the check as it is written -/
def a_chk (l : List Int32) (n : Nat) : Int32 := (mm_chd l n <<< ((8 : Int32) &&& 31)) ||| mm_chc l n
theorem a_chk_rng {l : List Int32} (h : a_byt l) (n : Nat) : 0 ≤ a_chk l n ∧ a_chk l n ≤ 65535 := by
  obtain ⟨⟨c, hc, ec⟩, ⟨d, hd, ed⟩⟩ := mm_chk h n
  unfold a_chk
  rw [ec, ed, mm_pk8 (by omega) (by omega)]
  exact ⟨nI_pos' (by omega), nI_le (b := 65535) (by omega) (by decide)⟩
theorem WF.okT {A F : mm_W} {w : Nat} (h : WF A) (hs : ∀ i, i < 16 → F (w + 6 + i) 1 = A 1 i) : okT F w (A 9) := by
  refine ⟨fun q hq z => ?_, ?_⟩
  · obtain ⟨q1, q2, q3⟩ := (h.2.2 q hq).2 z
    exact ⟨q1, by rw [hs _ (by omega)]; exact q2, by rw [hs _ (by omega)]; exact q3⟩
  · have := a_cnt_120 (T := A 9) (fun q hq z => ((h.2.2 q hq).2 z).1)
    omega
/-- the world that stands in w -/
def a_all9 (F : mm_W) (w : Nat) : mm_W := fun k i => if k = 9 then F (w + 2) i else if k = 10 then F w 3 else F (w + 6 + i) k
theorem a_all9_RC (F : mm_W) (w : Nat) : RC F w (a_all9 F w) := ⟨rfl, fun i _ => ⟨rfl, rfl, fun _ k k1 k2 => by have n1 : ¬ k = 9 := (by omega); have n2 : ¬ k = 10 := (by omega); simp [a_all9, n1, n2]⟩, fun _ _ => rfl⟩
/-- sound: the bytes of a world in order -/
def a_snd (bs : List Int32) : Prop := ∃ A, WF A ∧ bs = a_encW A
theorem a_sls_eqR {A B : mm_W} : ∀ n, (∀ i, i < n → ∀ k, k ≤ 8 → A k i = B k i) → a_sls A n = a_sls B n
  | 0, _ => rfl
  | n + 1, h => by
    simp only [a_sls]
    rw [a_sls_eqR n (fun i hi => h i (by omega)), a_encR_eq (f := fun k => A k n) (g := fun k => B k n) (h n (by omega) 0 (by omega)) (h n (by omega) 1 (by omega)) (fun _ k k1 k2 => h n (by omega) k k2)]
theorem snd_of {bs : List Int32} (hb : a_byt bs) {F : mm_W} {w p1 p2 p3 : Nat} (h0 : bs = mm_enc 84 1 ++ (mm_enc (F w 3) 4 ++ bs.drop p1)) (hc : 0 ≤ F w 3) (h1 : bs.drop p1 = a_sls (a_of F w) 16 ++ bs.drop p2) (hs : ∀ i, i < 16 → WSf (F (w + 6 + i))) (h2 : bs.drop p2 = mm_enc (nI (a_cnt (F (w + 2)) 256)) 1 ++ (a_prs (F (w + 2)) 256 ++ bs.drop p3)) (hp3 : p3 ≤ bs.length)
    (ht : ∀ j, j < 256 → F (w + 2) j = 0 ∨ F (w + 2) j = 1) (hk : okT F w (F (w + 2))) (h3 : mm_nv bs p3 2 = a_chk bs p3 ∧ bs.length ≤ mm_np bs p3 2) : WF (a_all9 F w) ∧ bs = a_encW (a_all9 F w) := by
  have eb : a_body (a_all9 F w) = mm_enc 84 1 ++ mm_enc (F w 3) 4 ++ a_sls (a_of F w) 16 ++ mm_enc (nI (a_cnt (F (w + 2)) 256)) 1 ++ a_prs (F (w + 2)) 256 := by
    unfold a_body
    rw [a_sls_eqR (A := a_all9 F w) (B := a_of F w) 16 (fun i hi k hk => by have n1 : ¬ k = 9 := (by omega); have n2 : ¬ k = 10 := (by omega); simp [a_all9, a_of, n1, n2])]
    rfl
  have e1 : bs = a_body (a_all9 F w) ++ bs.drop p3 := by
    rw [eb]
    simp only [List.append_assoc]
    rw [← h2, ← h1]; exact h0
  have e2 : (a_body (a_all9 F w)).length = p3 := by
    have := congrArg List.length e1
    rw [List.length_append, List.length_drop] at this
    omega
  have hb2 : a_byt (a_body (a_all9 F w)) := a_body_byt _
  obtain ⟨g1, g2⟩ := chk_app (a_body (a_all9 F w)) (bs.drop p3) p3 (by omega)
  rw [← e1] at g1 g2
  have e3 : a_chk bs p3 = a_chk (a_body (a_all9 F w)) (a_body (a_all9 F w)).length := by unfold a_chk; rw [g1, g2, e2]
  have ne : ¬ mm_nv bs p3 2 = -1 := nv_ge (a := 0) (by decide) (by rw [h3.1]; exact (a_chk_rng hb p3).1)
  have e4 := nv_pos hb (n := 2) (by omega) ne
  rw [List.drop_eq_nil_of_le h3.2, List.append_nil, h3.1, e3] at e4
  refine ⟨⟨fun i hi => ?_, hc, fun p hp => ⟨ht p hp, fun z => ?_⟩⟩, ?_⟩
  · exact (show WS (fun k _ => F (w + 6 + i) k) 0 from hs i hi)
  · exact hk.1 p hp z
  · rw [e4] at e1
    exact e1
theorem snd_use {bs : List Int32} (hb : a_byt bs) {A : mm_W} (hA : WF A) (e : bs = a_encW A) : mm_nv bs 0 1 = 84 ∧ mm_nv bs (mm_np bs 0 1) 4 = A 10 0 ∧ bs.drop (mm_np bs (mm_np bs 0 1) 4) = a_sls A 16 ++ (mm_enc (nI (a_cnt (A 9) 256)) 1 ++ (a_prs (A 9) 256 ++ mm_enc (a_chk (a_body A) (a_body A).length) 2)) := by
  have e0 : bs.drop 0 = mm_enc 84 1 ++ (mm_enc (A 10 0) 4 ++ (a_sls A 16 ++ (mm_enc (nI (a_cnt (A 9) 256)) 1 ++ (a_prs (A 9) 256 ++ mm_enc (a_chk (a_body A) (a_body A).length) 2)))) := by
    rw [List.drop_zero, e]
    show a_body A ++ mm_enc (a_chk (a_body A) (a_body A).length) 2 = _
    simp only [a_body, List.append_assoc]
  obtain ⟨v1, e1⟩ := nv_use hb (by omega) (by omega) (f_1 (by decide)) e0
  obtain ⟨v2, e2⟩ := nv_use hb (by omega) (by omega) (by have := b_lt (A 10 0); omega) e1
  exact ⟨v1, v2, e2⟩
