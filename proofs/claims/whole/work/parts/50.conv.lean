/-! CONTRACTS: StateBytes: readSlots, readHead, readCheck (rows by program: con_v.py) -/
theorem e_inj {x y : Int32} {n : Nat} {u v : List Int32} (hn : n ≤ 4) (hx : x.toBitVec.toNat < 256 ^ n) (hy : y.toBitVec.toNat < 256 ^ n) (e : mm_enc x n ++ u = mm_enc y n ++ v) : x = y ∧ u = v := by
  obtain ⟨e1, e2⟩ := List.append_inj e (by rw [mm_enc_len, mm_enc_len])
  exact ⟨b_inj n hn hx hy e1, e2⟩
theorem i_addr {x y z : Int32} (h : x + z = y + z) : x = y := by
  have := congrArg (· - z) h
  simpa [Int32.add_sub_cancel] using this
theorem n_iff {P Q : Prop} (h : ¬ P ↔ ¬ Q) : P ↔ Q := ⟨fun p => Classical.not_not.mp fun q => h.mpr q p, fun q => Classical.not_not.mp fun p => h.mp p q⟩
/-- two slots in order that look alike as bytes are alike, and so is what follows -/
theorem encR_inj {f g : Nat → Int32} {u v : List Int32} (hf : WSf f) (hg : WSf g) (e : a_encR f ++ u = a_encR g ++ v) : u = v ∧ f 0 = g 0 ∧ f 1 = g 1 ∧ (¬ g 1 = 0 → ∀ k, 2 ≤ k → k ≤ 8 → f k = g k) := by
  have f0 : 0 ≤ f 0 ∧ f 0 ≤ 65535 := hf.2.1
  have g0 : 0 ≤ g 0 ∧ g 0 ≤ 65535 := hg.2.1
  have kf := f_1 (f_le (a_kind_rng f) (by decide) (by decide))
  have kg := f_1 (f_le (a_kind_rng g) (by decide) (by decide))
  by_cases cf : f 1 = 0
  · by_cases cg : g 1 = 0
    · rw [a_encR0 cf, a_encR0 cg, List.append_assoc, List.append_assoc] at e
      obtain ⟨e1, e2⟩ := e_inj (by omega) (f_2 f0) (f_2 g0) e
      obtain ⟨-, e3⟩ := e_inj (by omega) (f_1 (by decide)) (f_1 (by decide)) e2
      exact ⟨e3, e1, by rw [cf, cg], fun z => absurd cg z⟩
    · rw [a_encR0 cf, a_encR1 cg, List.append_assoc] at e
      obtain ⟨e1, e2⟩ := e_inj (by omega) (f_2 f0) (f_2 g0) e
      obtain ⟨e3, -⟩ := e_inj (by omega) (f_1 (by decide)) kg e2
      exact absurd e3.symm (a_kind_bits cg).2.2.1
  · by_cases cg : g 1 = 0
    · rw [a_encR0 cg, a_encR1 cf, List.append_assoc] at e
      obtain ⟨e1, e2⟩ := e_inj (by omega) (f_2 f0) (f_2 g0) e
      obtain ⟨e3, -⟩ := e_inj (by omega) kf (f_1 (by decide)) e2
      exact absurd e3 (a_kind_bits cf).2.2.1
    · rw [a_encR1 cf, a_encR1 cg] at e
      obtain ⟨x2, x3, x4, x5, x6, x8⟩ := hf.2.2 cf
      obtain ⟨y2, y3, y4, y5, y6, y8⟩ := hg.2.2 cg
      have x6 : (f 6 = 0 ∧ f 7 = 0) ∨ ((1 ≤ f 6 ∧ f 6 ≤ 200) ∧ (1 ≤ f 7 ∧ f 7 ≤ 200)) := x6
      have y6 : (g 6 = 0 ∧ g 7 = 0) ∨ ((1 ≤ g 6 ∧ g 6 ≤ 200) ∧ (1 ≤ g 7 ∧ g 7 ≤ 200)) := y6
      have x8 : 0 ≤ f 8 ∧ f 8 ≤ 60000 := x8
      have y8 : 0 ≤ g 8 ∧ g 8 ≤ 60000 := y8
      obtain ⟨e0, e⟩ := e_inj (by omega) (f_2 f0) (f_2 g0) e
      obtain ⟨ek, e⟩ := e_inj (by omega) kf kg e
      obtain ⟨e2, e⟩ := e_inj (by omega) (f_2 (f_le x2 (by decide) (by decide))) (f_2 (f_le y2 (by decide) (by decide))) e
      obtain ⟨e3, e⟩ := e_inj (by omega) (f_2 (f_le x3 (by decide) (by decide))) (f_2 (f_le y3 (by decide) (by decide))) e
      obtain ⟨e4, e⟩ := e_inj (by omega) (f_1 (f_le (f_128 x4).1 (by decide) (by decide))) (f_1 (f_le (f_128 y4).1 (by decide) (by decide))) e
      obtain ⟨e5, e⟩ := e_inj (by omega) (f_1 (f_le (f_128 x5).1 (by decide) (by decide))) (f_1 (f_le (f_128 y5).1 (by decide) (by decide))) e
      have e4 := i_addr e4
      have e5 := i_addr e5
      have e2 : f 2 = g 2 := e2
      have e3 : f 3 = g 3 := e3
      have e4 : f 4 = g 4 := e4
      have e5 : f 5 = g 5 := e5
      obtain ⟨-, -, -, bf6, bf8⟩ := a_kind_bits cf
      obtain ⟨-, -, -, bg6, bg8⟩ := a_kind_bits cg
      have i6 : 0 < f 6 ↔ 0 < g 6 := by rw [ek] at bf6; exact n_iff (bf6.symm.trans bg6)
      have i8 : 0 < f 8 ↔ 0 < g 8 := by rw [ek] at bf8; exact n_iff (bf8.symm.trans bg8)
      have h6 : f 6 = g 6 ∧ f 7 = g 7 ∧ a_ti f ++ u = a_ti g ++ v := by
        by_cases c : 0 < f 6
        · have c' := i6.mp c
          have n : ∀ t : Int32, t = 0 → ¬ 0 < t := fun t z => by rw [z]; decide
          have x7 := x6.resolve_left fun z => n _ z.1 c
          have y7 := y6.resolve_left fun z => n _ z.1 c'
          rw [a_sh, a_sh, if_pos c, if_pos c', List.append_assoc, List.append_assoc] at e
          obtain ⟨q1, e⟩ := e_inj (by omega) (f_1 (f_le x7.1 (by decide) (by decide))) (f_1 (f_le y7.1 (by decide) (by decide))) e
          obtain ⟨q2, e⟩ := e_inj (by omega) (f_1 (f_le x7.2 (by decide) (by decide))) (f_1 (f_le y7.2 (by decide) (by decide))) e
          exact ⟨q1, q2, e⟩
        · have c' : ¬ 0 < g 6 := fun z => c (i6.mpr z)
          have n : ∀ t : Int32, 1 ≤ t → 0 < t := fun t z => Int32.lt_of_lt_of_le (by decide) z
          have x7 := x6.resolve_right fun z => c (n _ z.1.1)
          have y7 := y6.resolve_right fun z => c' (n _ z.1.1)
          rw [a_sh, a_sh, if_neg c, if_neg c', List.nil_append, List.nil_append] at e
          exact ⟨x7.1.trans y7.1.symm, x7.2.trans y7.2.symm, e⟩
      obtain ⟨e6, e7, e⟩ := h6
      have h8 : f 8 = g 8 ∧ u = v := by
        by_cases c : 0 < f 8
        · have c' := i8.mp c
          rw [a_ti, a_ti, if_pos c, if_pos c'] at e
          exact e_inj (by omega) (f_2 (f_le x8 (by decide) (by decide))) (f_2 (f_le y8 (by decide) (by decide))) e
        · have c' : ¬ 0 < g 8 := fun z => c (i8.mpr z)
          rw [a_ti, a_ti, if_neg c, if_neg c', List.nil_append, List.nil_append] at e
          exact ⟨(Int32.le_antisymm (Int32.not_lt.mp c) x8.1).trans (Int32.le_antisymm (Int32.not_lt.mp c') y8.1).symm, e⟩
      refine ⟨h8.2, e0, ?_, fun _ k k1 k2 => ?_⟩
      · exact (hf.1.resolve_left cf).trans (hg.1.resolve_left cg).symm
      · have hk : k = 2 ∨ k = 3 ∨ k = 4 ∨ k = 5 ∨ k = 6 ∨ k = 7 ∨ k = 8 := by omega
        rcases hk with rfl | rfl | rfl | rfl | rfl | rfl | rfl <;> first | assumption | exact h8.1
/-- the first n slots -/
theorem sls_inj {A B : mm_W} {u v : List Int32} : ∀ n, (∀ i, i < n → WSf (fun k => A k i)) → (∀ i, i < n → WSf (fun k => B k i)) → ∀ u v, a_sls A n ++ u = a_sls B n ++ v → u = v ∧ ∀ i, i < n → A 0 i = B 0 i ∧ A 1 i = B 1 i ∧ (¬ B 1 i = 0 → ∀ k, 2 ≤ k → k ≤ 8 → A k i = B k i)
  | 0, _, _, u, v, e => ⟨e, fun i hi => absurd hi (by omega)⟩
  | n + 1, hA, hB, u, v, e => by
    simp only [a_sls, List.append_assoc] at e
    obtain ⟨e1, e2⟩ := sls_inj (u := u) (v := v) n (fun i hi => hA i (by omega)) (fun i hi => hB i (by omega)) _ _ e
    obtain ⟨e3, e4⟩ := encR_inj (hA n (by omega)) (hB n (by omega)) e1
    refine ⟨e3, fun i hi => ?_⟩
    by_cases c : i = n
    · subst c; exact e4
    · exact e2 i (by omega)
theorem a_sls_eq {A B : mm_W} : ∀ n, (∀ i, i < n → ∀ k, A k i = B k i) → a_sls A n = a_sls B n
  | 0, _ => rfl
  | n + 1, h => by
    simp only [a_sls]
    rw [a_sls_eq n (fun i hi => h i (by omega)), show (fun k => A k n) = (fun k => B k n) from funext fun k => h n (by omega) k]
theorem a_sls_split (A : mm_W) {n : Nat} (hn : n < 16) : ∃ r, a_sls A 16 = a_sls A n ++ (a_encR (fun k => A k n) ++ r) := by
  have key : ∀ m, ∃ r, a_sls A (n + 1 + m) = a_sls A (n + 1) ++ r := by
    intro m
    induction m with
    | zero => exact ⟨[], by simp⟩
    | succ m ih =>
      obtain ⟨r, e⟩ := ih
      refine ⟨r ++ a_encR (fun k => A k (n + 1 + m)), ?_⟩
      show a_sls A (n + 1 + m) ++ _ = _
      rw [e, List.append_assoc]
      rfl
  obtain ⟨r, e⟩ := key (15 - n)
  refine ⟨r, ?_⟩
  rw [show n + 1 + (15 - n) = 16 by omega] at e
  rw [e]
  simp only [a_sls, List.append_assoc]
/-- of the slots of w and the place of y alone -/
def mm_qfr (y w : Nat) (F F' : mm_W) : Prop := ∀ a k, (a < w + 6 ∨ w + 22 ≤ a) → ¬ (a = y ∧ k = 2) → F' a k = F a k
theorem mm_qfr.rfl' {y w : Nat} {F : mm_W} : mm_qfr y w F F := fun _ _ _ _ => rfl
/-- the world that stands in the slots of w -/
def a_of (F : mm_W) (w : Nat) : mm_W := fun k i => F (w + 6 + i) k
set_option maxRecDepth 20000 in
theorem l_readSlots {G : mm_G} {Q : mm_O → mm_H → Prop} {h : mm_H} {z y N w p : Nat} {bs : List Int32} (hz : mm_Hd h z 4 y N) (hw : mm_Wd h w) (hd : y + 1 < w ∨ w + 22 ≤ y) (hb : a_byt bs) (hN : bs.length ≤ N) (F0 : mm_W) (hq1 : ∀ F' p', mm_qfr y w F0 F' → F' y 2 = nI p' → p' ≤ bs.length → bs.drop p = a_sls (a_of F' w) 16 ++ bs.drop p' → (∀ i, i < 16 → WSf (F' (w + 6 + i))) → Q (.inl (some (.int 1))) (mm_wi h F')) (hq0 : ∀ F', mm_qfr y w F0 F' → (∀ (A : mm_W) r, (∀ i, i < 16 → WSf (fun k => A k i)) → ¬ bs.drop p = a_sls A 16 ++ r) → Q (.inl (some (.int 0))) (mm_wi h F')) :
    ∀ (i : Nat) (F : mm_W), i ≤ 16 → (mm_qfr y w F0 F ∧ mm_By F y bs ∧ (∀ j, j < i → WSf (F (w + 6 + j))) ∧ ∃ q, F y 2 = nI q ∧ q ≤ bs.length ∧ bs.drop p = a_sls (a_of F w) i ++ bs.drop q) → mm_V G (4, 92) M_Sb_readSlots Q 2 [some (.ref z), some (.ref w), some (.int (nI i))] [] (mm_wi h F) := by
  refine mr_loop _ _ 16 (fun F hI => ?_) (fun i F hi hI ih => ?_)
  · obtain ⟨i1, i2, i3, q, i4, i5, i6⟩ := hI
    refine mv_iload_n (pc := 2) d_Sb_readSlots_2 rfl ?_
    refine mv_bipush (v := 16) (pc := 3) d_Sb_readSlots_3 (by decide) ?_
    refine mv_ic_ge 29 (pc := 5) d_Sb_readSlots_5 (by decide) (fun h5 => ?_) (fun z => absurd z (mm_ge16))
    refine mv_iconst (v := 1) (pc := 29) d_Sb_readSlots_29 (by decide) ?_
    refine mv_iret (pc := 30) d_Sb_readSlots_30 rfl rfl ?_
    exact hq1 F q i1 i4 i5 i6 i3
  · obtain ⟨i1, i2, i3, q, i4, i5, i6⟩ := hI
    refine mv_iload_n (pc := 2) d_Sb_readSlots_2 rfl ?_
    refine mv_bipush (v := 16) (pc := 3) d_Sb_readSlots_3 (by decide) ?_
    refine mv_ic_ge 29 (pc := 5) d_Sb_readSlots_5 (by decide) (fun z => absurd z (mm_lt16 hi)) (fun h5 => ?_)
    refine mv_aload_n (pc := 8) d_Sb_readSlots_8 rfl ?_
    refine mv_aload_n (pc := 9) d_Sb_readSlots_9 rfl ?_
    refine mr_getr (pc := 10) d_Sb_readSlots_10 fl_Sb_33 hw.1 rfl (by decide) hw.2.2.2.2.2.1 ?_
    refine mv_iload_n (pc := 13) d_Sb_readSlots_13 rfl ?_
    refine mr_aald (pc := 14) d_Sb_readSlots_14 hw.2.1 (mm_in16 hi) (hw.sl hi) ?_
    refine mr_callV1 (pc := 15) d_Sb_readSlots_15 (d2 := (3, 69)) ok_Sb_readSlot li_Sb_120 sv_Sb_readSlot hz.1 ⟨by decide, rfl⟩ ⟨by decide, rfl, Nat.le_of_ble_eq_true rfl, rfl, by decide, by decide⟩ ?_
    refine c_readSlot (h := mm_wi h F) (p := q) hz (hw.at_ hi) (by omega) (by omega) hb hN i2 i5 i4 (fun F1 p1 r1 r2 r3 r4 r5 => ?_) (fun F1 r1 r2 => ?_)
    · refine mv_if_ne 23 (pc := 18) d_Sb_readSlots_18 (by decide) (fun _ => ?_) (fun z => absurd z (by decide))
      refine mv_iinc (pc := 23) d_Sb_readSlots_23 rfl rfl (by decide) ?_
      refine mv_goto 2 (pc := 26) d_Sb_readSlots_26 (by decide) ?_
      have fr1 : mm_qfr y w F0 F1 := fun a k h1 h2 => (r1 a k (by omega) h2).trans (i1 a k h1 h2)
      have old : ∀ j, j < i → ∀ k, F1 (w + 6 + j) k = F (w + 6 + j) k := fun j hj k => r1 _ k (by omega) (by omega)
      refine mm_V_ls (ls' := [some (.ref z), some (.ref w), some (.int (nI (i + 1)))]) (by simp only [List.set]; rw [nI_succ]; rfl) (ih F1 ⟨fr1, i2.rfr r1 (by omega) (by omega), fun j hj => ?_, p1, r2, r3, ?_⟩)
      · by_cases c : j = i
        · subst c; exact r5
        · rw [show F1 (w + 6 + j) = F (w + 6 + j) from funext fun k => old j (by omega) k]; exact i3 j (by omega)
      · rw [i6, r4]
        show _ = (a_sls (a_of F1 w) i ++ a_encR (fun k => a_of F1 w k i)) ++ _
        rw [a_sls_eq (A := a_of F1 w) (B := a_of F w) i (fun j hj k => old j hj k), List.append_assoc]
        rfl
    · refine mv_if_ne 23 (pc := 18) d_Sb_readSlots_18 (by decide) (fun z => absurd z (by decide)) (fun _ => ?_)
      refine mv_iconst (v := 0) (pc := 21) d_Sb_readSlots_21 (by decide) ?_
      refine mv_iret (pc := 22) d_Sb_readSlots_22 rfl rfl ?_
      have fr1 : mm_qfr y w F0 F1 := fun a k h1 h2 => (r1 a k (by omega) h2).trans (i1 a k h1 h2)
      refine hq0 F1 fr1 (fun A r hA e => ?_)
      obtain ⟨r9, e9⟩ := a_sls_split A hi
      rw [i6, e9, List.append_assoc, List.append_assoc] at e
      obtain ⟨e1, -⟩ := sls_inj (u := []) (v := []) i i3 (fun j hj => hA j (by omega)) _ _ e
      exact r2 _ _ (hA i hi) e1
set_option maxRecDepth 20000 in
theorem c_readSlots {G : mm_G} {Q : mm_O → mm_H → Prop} {h : mm_H} {z y N w p : Nat} {bs : List Int32} (hz : mm_Hd h z 4 y N) (hw : mm_Wd h w) (hd : y + 1 < w ∨ w + 22 ≤ y) (hb : a_byt bs) (hN : bs.length ≤ N) (hB : mm_By (mm_gi h) y bs) (hp : p ≤ bs.length) (hpl : mm_gi h y 2 = nI p) (hq1 : ∀ F' p', mm_qfr y w (mm_gi h) F' → F' y 2 = nI p' → p' ≤ bs.length → bs.drop p = a_sls (a_of F' w) 16 ++ bs.drop p' → (∀ i, i < 16 → WSf (F' (w + 6 + i))) → Q (.inl (some (.int 1))) (mm_wi h F')) (hq0 : ∀ F', mm_qfr y w (mm_gi h) F' → (∀ (A : mm_W) r, (∀ i, i < 16 → WSf (fun k => A k i)) → ¬ bs.drop p = a_sls A 16 ++ r) → Q (.inl (some (.int 0))) (mm_wi h F')) : mm_V G (4, 92) M_Sb_readSlots Q 0 (mm_ent 3 [.ref z, .ref w]) [] h := by
  show mm_V G (4, 92) M_Sb_readSlots Q 0 [some (.ref z), some (.ref w), none] [] h
  refine mv_iconst (v := 0) (pc := 0) d_Sb_readSlots_0 (by decide) ?_
  refine mv_istore_n (pc := 1) d_Sb_readSlots_1 (by decide) ?_
  exact l_readSlots hz hw hd hb hN (mm_gi h) hq1 hq0 0 (mm_gi h) (by omega) ⟨mm_qfr.rfl', hB, fun j hj => absurd hj (by omega), p, hpl, hp, rfl⟩
set_option maxRecDepth 20000 in
theorem c_readHead {G : mm_G} {Q : mm_O → mm_H → Prop} {h : mm_H} {z y N w p : Nat} {bs : List Int32} (hz : mm_Hd h z 4 y N) (hw : mm_Wd h w) (hd : y + 1 < w ∨ w + 22 ≤ y) (hb : a_byt bs) (hN : bs.length ≤ N) (hB : mm_By (mm_gi h) y bs) (hp : p ≤ bs.length) (hpl : mm_gi h y 2 = nI p) (hq1 : ∀ F', (∀ a k, ¬ (a = w ∧ k = 3) → ¬ (a = y ∧ k = 2) → F' a k = mm_gi h a k) → F' y 2 = nI (mm_np bs (mm_np bs p 1) 4) → F' w 3 = (mm_nv bs (mm_np bs p 1) 4) → ((mm_nv bs p 1) = 84 ∧ 0 ≤ (mm_nv bs (mm_np bs p 1) 4)) → Q (.inl (some (.int 1))) (mm_wi h F')) (hq0 : ∀ F', (∀ a k, ¬ (a = w ∧ k = 3) → ¬ (a = y ∧ k = 2) → F' a k = mm_gi h a k) → F' y 2 = nI (mm_np bs (mm_np bs p 1) 4) → F' w 3 = (mm_nv bs (mm_np bs p 1) 4) → ¬ ((mm_nv bs p 1) = 84 ∧ 0 ≤ (mm_nv bs (mm_np bs p 1) 4)) → Q (.inl (some (.int 0))) (mm_wi h F')) : mm_V G (2, 44) M_Sb_readHead Q 0 (mm_ent 3 [.ref z, .ref w]) [] h := by
  show mm_V G (2, 44) M_Sb_readHead Q 0 [some (.ref z), some (.ref w), none] [] h
  refine mv_aload_n (pc := 0) d_Sb_readHead_0 rfl ?_
  refine mr_getr (pc := 1) d_Sb_readHead_1 fl_Sb_14 hz.1 rfl (by decide) hz.2.1 ?_
  refine mv_iconst (v := 1) (pc := 4) d_Sb_readHead_4 (by decide) ?_
  refine mr_callV1 (pc := 5) d_Sb_readHead_5 (d2 := (1, 21)) ok_By_next li_Sb_117 sv_By_next hz.2.2.1 ⟨by decide, rfl⟩ ⟨by decide, rfl, Nat.le_of_ble_eq_true rfl, rfl, by decide, by decide⟩ ?_
  refine c_nx (h := h) (n := 1) (p := p) hz.2.2 (by omega) hN hB (by first | exact hp | exact mm_np_le _ _ _) hpl ?_
  refine mv_bipush (v := 84) (pc := 8) d_Sb_readHead_8 (by decide) ?_
  refine mv_ic_ne 17 (pc := 10) d_Sb_readHead_10 (by decide) (fun h10 => ?_) (fun h10 => ?_)
  · refine mv_iconst (v := 0) (pc := 17) d_Sb_readHead_17 (by decide) ?_
    refine mv_istore_n (pc := 18) d_Sb_readHead_18 (by decide) ?_
    refine mv_aload_n (pc := 19) d_Sb_readHead_19 rfl ?_
    refine mv_aload_n (pc := 20) d_Sb_readHead_20 rfl ?_
    refine mr_getr (pc := 21) d_Sb_readHead_21 fl_Sb_14 hz.1 rfl (by decide) hz.2.1 ?_
    refine mv_iconst (v := 4) (pc := 24) d_Sb_readHead_24 (by decide) ?_
    refine mr_callV1 (pc := 25) d_Sb_readHead_25 (d2 := (1, 21)) ok_By_next li_Sb_117 sv_By_next hz.2.2.1 ⟨by decide, rfl⟩ ⟨by decide, rfl, Nat.le_of_ble_eq_true rfl, rfl, by decide, by decide⟩ ?_
    refine c_nx (h := (mm_si h y 2 (nI (mm_np bs p 1)))) (n := 4) (p := (mm_np bs p 1)) hz.2.2 (by omega) hN (hB.pl _) (by first | exact hp | exact mm_np_le _ _ _) (mm_gss _ _ _ _) ?_
    refine mr_puti (pc := 28) d_Sb_readHead_28 fl_Sb_27 hw.1 rfl (by decide) ⟨rfl, rfl⟩ ?_
    refine mv_iload_n (pc := 31) d_Sb_readHead_31 rfl ?_
    refine mv_if_eq 46 (pc := 32) d_Sb_readHead_32 (by decide) (fun _ => ?_) (fun z => absurd z (by decide))
    refine mv_iconst (v := 0) (pc := 46) d_Sb_readHead_46 (by decide) ?_
    refine mv_iret (pc := 47) d_Sb_readHead_47 rfl rfl ?_
    have nw : ¬ w = y := by omega
    have ny : ¬ y = w := by omega
    refine hq0 _ (fun a k h1 h2 => ?_) ?_ ?_ (fun z => h10 z.1)
    · simp [mm_u2, mm_usi, mm_g0, mm_gsi, h1, h2]
    · simp [mm_u2, mm_usi, mm_g0, mm_gsi, nw, ny]
    · simp [mm_u2, mm_usi, mm_g0, mm_gsi, nw, ny]
  · refine mv_iconst (v := 1) (pc := 13) d_Sb_readHead_13 (by decide) ?_
    refine mv_goto 18 (pc := 14) d_Sb_readHead_14 (by decide) ?_
    refine mv_istore_n (pc := 18) d_Sb_readHead_18 (by decide) ?_
    refine mv_aload_n (pc := 19) d_Sb_readHead_19 rfl ?_
    refine mv_aload_n (pc := 20) d_Sb_readHead_20 rfl ?_
    refine mr_getr (pc := 21) d_Sb_readHead_21 fl_Sb_14 hz.1 rfl (by decide) hz.2.1 ?_
    refine mv_iconst (v := 4) (pc := 24) d_Sb_readHead_24 (by decide) ?_
    refine mr_callV1 (pc := 25) d_Sb_readHead_25 (d2 := (1, 21)) ok_By_next li_Sb_117 sv_By_next hz.2.2.1 ⟨by decide, rfl⟩ ⟨by decide, rfl, Nat.le_of_ble_eq_true rfl, rfl, by decide, by decide⟩ ?_
    refine c_nx (h := (mm_si h y 2 (nI (mm_np bs p 1)))) (n := 4) (p := (mm_np bs p 1)) hz.2.2 (by omega) hN (hB.pl _) (by first | exact hp | exact mm_np_le _ _ _) (mm_gss _ _ _ _) ?_
    refine mr_puti (pc := 28) d_Sb_readHead_28 fl_Sb_27 hw.1 rfl (by decide) ⟨rfl, rfl⟩ ?_
    refine mv_iload_n (pc := 31) d_Sb_readHead_31 rfl ?_
    refine mv_if_eq 46 (pc := 32) d_Sb_readHead_32 (by decide) (fun z => absurd z (by decide)) (fun _ => ?_)
    refine mv_aload_n (pc := 35) d_Sb_readHead_35 rfl ?_
    refine mr_geti (pc := 36) d_Sb_readHead_36 fl_Sb_27 hw.1 rfl (by decide) ?_
    rw [mm_gss]
    refine mv_if_lt 46 (pc := 39) d_Sb_readHead_39 (by decide) (fun h39 => ?_) (fun h39 => ?_)
    · refine mv_iconst (v := 0) (pc := 46) d_Sb_readHead_46 (by decide) ?_
      refine mv_iret (pc := 47) d_Sb_readHead_47 rfl rfl ?_
      have nw : ¬ w = y := by omega
      have ny : ¬ y = w := by omega
      refine hq0 _ (fun a k h1 h2 => ?_) ?_ ?_ (fun z => Int32.not_lt.mpr z.2 h39)
      · simp [mm_u2, mm_usi, mm_g0, mm_gsi, h1, h2]
      · simp [mm_u2, mm_usi, mm_g0, mm_gsi, nw, ny]
      · simp [mm_u2, mm_usi, mm_g0, mm_gsi, nw, ny]
    · refine mv_iconst (v := 1) (pc := 42) d_Sb_readHead_42 (by decide) ?_
      refine mv_goto 47 (pc := 43) d_Sb_readHead_43 (by decide) ?_
      refine mv_iret (pc := 47) d_Sb_readHead_47 rfl rfl ?_
      have nw : ¬ w = y := by omega
      have ny : ¬ y = w := by omega
      refine hq1 _ (fun a k h1 h2 => ?_) ?_ ?_ ⟨h10, Int32.not_lt.mp h39⟩
      · simp [mm_u2, mm_usi, mm_g0, mm_gsi, h1, h2]
      · simp [mm_u2, mm_usi, mm_g0, mm_gsi, nw, ny]
      · simp [mm_u2, mm_usi, mm_g0, mm_gsi, nw, ny]
set_option maxRecDepth 20000 in
theorem c_readCheck {G : mm_G} {Q : mm_O → mm_H → Prop} {h : mm_H} {z y N p : Nat} {bs : List Int32} (hz : mm_Hd h z 4 y N) (hb : a_byt bs) (hN : bs.length ≤ N) (hB : mm_By (mm_gi h) y bs) (hp : p ≤ bs.length) (hpl : mm_gi h y 2 = nI p) (hq1 : ((mm_nv bs p 2) = ((mm_chd bs p <<< ((8 : Int32) &&& 31)) ||| mm_chc bs p) ∧ bs.length ≤ mm_np bs p 2) → Q (.inl (some (.int 1))) (mm_si h y 2 (nI (mm_np bs p 2)))) (hq0 : ¬ ((mm_nv bs p 2) = ((mm_chd bs p <<< ((8 : Int32) &&& 31)) ||| mm_chc bs p) ∧ bs.length ≤ mm_np bs p 2) → Q (.inl (some (.int 0))) (mm_si h y 2 (nI (mm_np bs p 2)))) : mm_V G (2, 44) M_Sb_readCheck Q 0 (mm_ent 2 [.ref z]) [] h := by
  show mm_V G (2, 44) M_Sb_readCheck Q 0 [some (.ref z), none] [] h
  refine mv_aload_n (pc := 0) d_Sb_readCheck_0 rfl ?_
  refine mr_getr (pc := 1) d_Sb_readCheck_1 fl_Sb_14 hz.1 rfl (by decide) hz.2.1 ?_
  refine mv_aload_n (pc := 4) d_Sb_readCheck_4 rfl ?_
  refine mr_getr (pc := 5) d_Sb_readCheck_5 fl_Sb_14 hz.1 rfl (by decide) hz.2.1 ?_
  refine mr_geti (pc := 8) d_Sb_readCheck_8 fl_Sb_101 hz.2.2.1 rfl (by decide) ?_
  rw [hpl]
  refine mr_callV1 (pc := 11) d_Sb_readCheck_11 (d2 := (0, 0)) ok_By_checkOfFirst li_Sb_48 sv_By_checkOfFirst hz.2.2.1 ⟨by decide, rfl⟩ ⟨by decide, rfl, Nat.le_of_ble_eq_true rfl, rfl, by decide, by decide⟩ ?_
  refine c_byCheck hz.2.2 hN hB hp ?_
  refine mv_istore_n (pc := 14) d_Sb_readCheck_14 (by decide) ?_
  refine mv_aload_n (pc := 15) d_Sb_readCheck_15 rfl ?_
  refine mr_getr (pc := 16) d_Sb_readCheck_16 fl_Sb_14 hz.1 rfl (by decide) hz.2.1 ?_
  refine mv_iconst (v := 2) (pc := 19) d_Sb_readCheck_19 (by decide) ?_
  refine mr_callV1 (pc := 20) d_Sb_readCheck_20 (d2 := (1, 21)) ok_By_next li_Sb_117 sv_By_next hz.2.2.1 ⟨by decide, rfl⟩ ⟨by decide, rfl, Nat.le_of_ble_eq_true rfl, rfl, by decide, by decide⟩ ?_
  refine c_nx (h := h) (n := 2) (p := p) hz.2.2 (by omega) hN hB (by first | exact hp | exact mm_np_le _ _ _) hpl ?_
  refine mv_iload_n (pc := 23) d_Sb_readCheck_23 rfl ?_
  refine mv_ic_ne 41 (pc := 24) d_Sb_readCheck_24 (by decide) (fun h24 => ?_) (fun h24 => ?_)
  · refine mv_iconst (v := 0) (pc := 41) d_Sb_readCheck_41 (by decide) ?_
    refine mv_iret (pc := 42) d_Sb_readCheck_42 rfl rfl ?_
    exact hq0 (fun z => h24 z.1)
  · refine mv_aload_n (pc := 27) d_Sb_readCheck_27 rfl ?_
    refine mr_getr (pc := 28) d_Sb_readCheck_28 fl_Sb_14 hz.1 rfl (by decide) hz.2.1 ?_
    refine mr_callV0 (pc := 31) d_Sb_readCheck_31 (d2 := (0, 0)) ok_By_isAtEnd li_Sb_167 sv_By_isAtEnd hz.2.2.1 ⟨by decide, rfl⟩ ⟨by decide, Nat.le_of_ble_eq_true rfl, rfl, by decide, by decide⟩ ?_
    refine c_byAtEnd (h := mm_si h y 2 (nI (mm_np bs p 2))) hz.2.2 (fun hc => ?_) (fun hc => ?_)
    · (rw [mm_gss, show mm_gi (mm_si h y 2 (nI (mm_np bs p 2))) y 1 = nI bs.length from hB.pl _ |>.1] at hc; replace hc := (nI_leI (by have := hz.2.2.2.2.2; omega) (by have := hz.2.2.2.2.2; have := mm_np_le bs p 2; omega)).mp hc)
      refine mv_if_eq 41 (pc := 34) d_Sb_readCheck_34 (by decide) (fun z => absurd z (by decide)) (fun _ => ?_)
      refine mv_iconst (v := 1) (pc := 37) d_Sb_readCheck_37 (by decide) ?_
      refine mv_goto 42 (pc := 38) d_Sb_readCheck_38 (by decide) ?_
      refine mv_iret (pc := 42) d_Sb_readCheck_42 rfl rfl ?_
      exact hq1 ⟨h24, hc⟩
    · (rw [mm_gss, show mm_gi (mm_si h y 2 (nI (mm_np bs p 2))) y 1 = nI bs.length from hB.pl _ |>.1] at hc; replace hc := fun z => hc ((nI_leI (by have := hz.2.2.2.2.2; omega) (by have := hz.2.2.2.2.2; have := mm_np_le bs p 2; omega)).mpr z))
      refine mv_if_eq 41 (pc := 34) d_Sb_readCheck_34 (by decide) (fun _ => ?_) (fun z => absurd z (by decide))
      refine mv_iconst (v := 0) (pc := 41) d_Sb_readCheck_41 (by decide) ?_
      refine mv_iret (pc := 42) d_Sb_readCheck_42 rfl rfl ?_
      exact hq0 (fun z => hc z.2)
