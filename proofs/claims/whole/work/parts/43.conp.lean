/-! CONTRACTS: the reference: fits, act, add, addHandle, allowed; its publics but save, load, replay (rows by program: con_p.py) -/
theorem mm_gss (h : mm_H) (a k : Nat) (x : Int32) : mm_gi (mm_si h a k x) a k = x := by simp [mm_gsi]
/-- the reference's state -/
def MS (F : mm_W) (A : mm_W) (E : mm_E) (sv lg : List Int32) : Prop := RM F 0 A ∧ RME F 0 E ∧ (F 52 16 = nI sv.length ∧ ∀ j, j < sv.length → F 68 j = sv.getD j 0) ∧ (F 52 18 = nI lg.length ∧ ∀ j, j < lg.length → F 69 j = lg.getD j 0) ∧ sv.length ≤ 336 ∧ lg.length ≤ 400
/-- nothing of the class's has changed -/
def mm_ofr (F F' : mm_W) : Prop := ∀ a j, a < 52 → F' a j = F a j
theorem mm_ofr.rfl' {F : mm_W} : mm_ofr F F := fun _ _ _ => rfl
theorem mm_ofr.trans {F F1 F2 : mm_W} (h1 : mm_ofr F F1) (h2 : mm_ofr F1 F2) : mm_ofr F F2 := fun a j ha => (h2 a j ha).trans (h1 a j ha)
theorem mm_sfr.o {k : Nat} {F F' : mm_W} (h : mm_sfr k F F') : mm_ofr F F' := fun a j ha => h a j ⟨by omega, by omega⟩
theorem mm_ofr.cd {F F' : mm_W} (h : mm_ofr F F') (k : Nat) (x : Int32) : mm_ofr F (mm_u2 F' 52 k x) := fun a j ha => by
  have n1 : ¬ a = 52 := by omega
  simp only [mm_u2, n1, false_and, if_false]
  exact h a j ha
/-- another world and events; the rest as it stood -/
theorem MS.world {F F' A A' : mm_W} {E E' : mm_E} {sv lg : List Int32} (h : MS F A E sv lg) (hR : RM F' 0 A') (hE : RME F' 0 E') (h1 : ∀ j, F' 52 j = F 52 j) (h2 : ∀ a j, 68 ≤ a → F' a j = F a j) : MS F' A' E' sv lg :=
  ⟨hR, hE, ⟨by rw [h1]; exact h.2.2.1.1, fun j hj => by rw [h2 _ _ (by omega)]; exact h.2.2.1.2 j hj⟩, ⟨by rw [h1]; exact h.2.2.2.1.1, fun j hj => by rw [h2 _ _ (by omega)]; exact h.2.2.2.1.2 j hj⟩, h.2.2.2.2.1, h.2.2.2.2.2⟩
theorem MS.code {F A : mm_W} {E : mm_E} {sv lg : List Int32} (h : MS F A E sv lg) (x : Int32) : MS (mm_u2 F 52 0 x) A E sv lg :=
  ⟨h.1.same fun a j h1 h2 => by have n1 : ¬ a = 52 := (by omega); simp [mm_u2, n1], h.2.1.off fun a j h1 h2 => by have n1 : ¬ a = 52 := (by omega); simp [mm_u2, n1], ⟨by simpa [mm_u2] using h.2.2.1.1, fun j hj => by simpa [mm_u2] using h.2.2.1.2 j hj⟩, ⟨by simpa [mm_u2] using h.2.2.2.1.1, fun j hj => by simpa [mm_u2] using h.2.2.2.1.2 j hj⟩, h.2.2.2.2.1, h.2.2.2.2.2⟩
theorem MS.log {F A : mm_W} {E : mm_E} {sv lg : List Int32} (h : MS F A E sv lg) (hl : lg.length < 400) (x : Int32) : MS (mm_u2 (mm_u2 F 69 lg.length x) 52 18 (nI (lg.length + 1))) A E sv (lg ++ [x]) := by
  refine ⟨h.1.same fun a j h1 h2 => by have n1 : ¬ a = 52 := (by omega); have n2 : ¬ a = 69 := (by omega); simp [mm_u2, n1, n2], h.2.1.off fun a j h1 h2 => by have n1 : ¬ a = 52 := (by omega); have n2 : ¬ a = 69 := (by omega); simp [mm_u2, n1, n2], ⟨by simpa [mm_u2] using h.2.2.1.1, fun j hj => by simpa [mm_u2] using h.2.2.1.2 j hj⟩, ⟨by simp [mm_u2], fun j hj => ?_⟩, h.2.2.2.2.1, by simp; omega⟩
  rw [List.length_append, List.length_singleton] at hj
  rw [mm_getD_app hj]
  by_cases e : j = lg.length
  · subst e; simp [mm_u2]
  · rw [if_neg e]
    have := h.2.2.2.1.2 j (by omega)
    simpa [mm_u2, e] using this
theorem mm_e1 (x : Int32) : mm_enc x 1 = [x &&& 255] := by
  show [(x >>> (nI (8 * 0) &&& 31)) &&& 255] = _
  rw [show nI (8 * 0) &&& 31 = 0 from by decide, Int32.shiftRight_zero]
theorem mm_e2 (x : Int32) : mm_enc x 2 = [(x >>> ((8 : Int32) &&& 31)) &&& 255, x &&& 255] := by
  show ((x >>> (nI (8 * 1) &&& 31)) &&& 255) :: mm_enc x 1 = _
  rw [mm_e1]; rfl
theorem mm_e3 (x : Int32) : mm_enc x 3 = [(x >>> ((16 : Int32) &&& 31)) &&& 255, (x >>> ((8 : Int32) &&& 31)) &&& 255, x &&& 255] := by
  show ((x >>> (nI (8 * 2) &&& 31)) &&& 255) :: mm_enc x 2 = _
  rw [mm_e2]; rfl
theorem RM.at0 {F A : mm_W} (h : RM F 0 A) {i : Nat} (hi : i < 16) : F 54 i = A 0 i ∧ F 55 i = A 1 i ∧ (¬ A 1 i = 0 → ∀ f, 2 ≤ f → f ≤ 8 → F (54 + f) i = A f i) := by
  have := h.2.1 i hi
  simpa only [Nat.mul_zero, Nat.zero_add] using this
theorem RME.at0 {F : mm_W} {E : mm_E} (h : RME F 0 E) {j : Nat} (hj : j < E.length) : F 65 j = (E.getD j (0, 0)).1 ∧ F 66 j = nI ((E.getD j (0, 0)).2 / 16) ∧ F 67 j = nI ((E.getD j (0, 0)).2 % 16) := by
  have := h.2 j hj
  simpa only [Nat.mul_zero, Nat.zero_add] using this
def a_fit (what : Nat) (b c : Int32) : Prop := (what = 3 → (-100 ≤ b ∧ b ≤ 100) ∧ (-100 ≤ c ∧ c ≤ 100)) ∧ (what = 4 → (b = 0 ∧ c = 0) ∨ ((1 ≤ b ∧ b ≤ 200) ∧ (1 ≤ c ∧ c ≤ 200))) ∧ (what = 5 → 0 ≤ b ∧ b ≤ 60000)
/-- what an order about a thing makes of the world -/
def a_ord (A : mm_W) (what i : Nat) (b c : Int32) : mm_W := if what = 2 then a_rem A i else if what = 3 then a_put (a_put A 4 i b) 5 i c else if what = 4 then a_put (a_put A 6 i b) 7 i c else a_put A 8 i b
def a_sz (what : Nat) : Nat := if what = 2 then 4 else 6
theorem mm_roomI {a n : Nat} (ha : a ≤ 400) (hn : n ≤ 400) : nI a + nI n ≤ 400 ↔ a + n ≤ 400 := by
  rw [nI_add]; exact nI_leI (b := 400) (by omega) (by decide)
set_option maxRecDepth 20000 in
theorem c_fits2 {G : mm_G} {Q : mm_O → mm_H → Prop} {h : mm_H} {b c : Int32} (hq1 : a_fit 2 b c → Q (.inl (some (.int 1))) h) (hq0 : ¬ (a_fit 2 b c) → Q (.inl (some (.int 0))) h) : mm_V G (0, 0) M_Mo_fits Q 0 (mm_ent 3 [.int 2, .int b, .int c]) [] h := by
  show mm_V G (0, 0) M_Mo_fits Q 0 [some (.int 2), some (.int b), some (.int c)] [] h
  refine mv_iload_n (pc := 0) d_Mo_fits_0 rfl ?_
  refine mv_tabOut 112 (pc := 1) d_Mo_fits_1 (by decide) (by decide) ?_
  refine mv_iconst (v := 1) (pc := 112) d_Mo_fits_112 (by decide) ?_
  refine mv_iret (pc := 113) d_Mo_fits_113 rfl rfl ?_
  exact hq1 (by clear hq1 hq0; unfold a_fit; grind)
set_option maxRecDepth 20000 in
theorem c_fits3 {G : mm_G} {Q : mm_O → mm_H → Prop} {h : mm_H} {b c : Int32} (hq1 : a_fit 3 b c → Q (.inl (some (.int 1))) h) (hq0 : ¬ (a_fit 3 b c) → Q (.inl (some (.int 0))) h) : mm_V G (0, 0) M_Mo_fits Q 0 (mm_ent 3 [.int 3, .int b, .int c]) [] h := by
  show mm_V G (0, 0) M_Mo_fits Q 0 [some (.int 3), some (.int b), some (.int c)] [] h
  refine mv_iload_n (pc := 0) d_Mo_fits_0 rfl ?_
  refine mv_tabIn 28 (pc := 1) d_Mo_fits_1 (by decide) (by decide) rfl (by decide) ?_
  refine mv_iload_n (pc := 28) d_Mo_fits_28 rfl ?_
  refine mv_bipush (v := -100) (pc := 29) d_Mo_fits_29 (by decide) ?_
  refine mv_ic_lt 56 (pc := 31) d_Mo_fits_31 (by decide) (fun h31 => ?_) (fun h31 => ?_)
  · refine mv_iconst (v := 0) (pc := 56) d_Mo_fits_56 (by decide) ?_
    refine mv_iret (pc := 57) d_Mo_fits_57 rfl rfl ?_
    exact hq0 (by clear hq1 hq0; unfold a_fit; grind)
  · refine mv_iload_n (pc := 34) d_Mo_fits_34 rfl ?_
    refine mv_bipush (v := 100) (pc := 35) d_Mo_fits_35 (by decide) ?_
    refine mv_ic_gt 56 (pc := 37) d_Mo_fits_37 (by decide) (fun h37 => ?_) (fun h37 => ?_)
    · refine mv_iconst (v := 0) (pc := 56) d_Mo_fits_56 (by decide) ?_
      refine mv_iret (pc := 57) d_Mo_fits_57 rfl rfl ?_
      exact hq0 (by clear hq1 hq0; unfold a_fit; grind)
    · refine mv_iload_n (pc := 40) d_Mo_fits_40 rfl ?_
      refine mv_bipush (v := -100) (pc := 41) d_Mo_fits_41 (by decide) ?_
      refine mv_ic_lt 56 (pc := 43) d_Mo_fits_43 (by decide) (fun h43 => ?_) (fun h43 => ?_)
      · refine mv_iconst (v := 0) (pc := 56) d_Mo_fits_56 (by decide) ?_
        refine mv_iret (pc := 57) d_Mo_fits_57 rfl rfl ?_
        exact hq0 (by clear hq1 hq0; unfold a_fit; grind)
      · refine mv_iload_n (pc := 46) d_Mo_fits_46 rfl ?_
        refine mv_bipush (v := 100) (pc := 47) d_Mo_fits_47 (by decide) ?_
        refine mv_ic_gt 56 (pc := 49) d_Mo_fits_49 (by decide) (fun h49 => ?_) (fun h49 => ?_)
        · refine mv_iconst (v := 0) (pc := 56) d_Mo_fits_56 (by decide) ?_
          refine mv_iret (pc := 57) d_Mo_fits_57 rfl rfl ?_
          exact hq0 (by clear hq1 hq0; unfold a_fit; grind)
        · refine mv_iconst (v := 1) (pc := 52) d_Mo_fits_52 (by decide) ?_
          refine mv_goto 57 (pc := 53) d_Mo_fits_53 (by decide) ?_
          refine mv_iret (pc := 57) d_Mo_fits_57 rfl rfl ?_
          exact hq1 (by clear hq1 hq0; unfold a_fit; grind)
set_option maxRecDepth 20000 in
theorem c_fits4 {G : mm_G} {Q : mm_O → mm_H → Prop} {h : mm_H} {b c : Int32} (hq1 : a_fit 4 b c → Q (.inl (some (.int 1))) h) (hq0 : ¬ (a_fit 4 b c) → Q (.inl (some (.int 0))) h) : mm_V G (0, 0) M_Mo_fits Q 0 (mm_ent 3 [.int 4, .int b, .int c]) [] h := by
  show mm_V G (0, 0) M_Mo_fits Q 0 [some (.int 4), some (.int b), some (.int c)] [] h
  refine mv_iload_n (pc := 0) d_Mo_fits_0 rfl ?_
  refine mv_tabIn 58 (pc := 1) d_Mo_fits_1 (by decide) (by decide) rfl (by decide) ?_
  refine mv_iload_n (pc := 58) d_Mo_fits_58 rfl ?_
  refine mv_if_ne 66 (pc := 59) d_Mo_fits_59 (by decide) (fun h59 => ?_) (fun h59 => ?_)
  · refine mv_iload_n (pc := 66) d_Mo_fits_66 rfl ?_
    refine mv_iconst (v := 1) (pc := 67) d_Mo_fits_67 (by decide) ?_
    refine mv_ic_lt 94 (pc := 68) d_Mo_fits_68 (by decide) (fun h68 => ?_) (fun h68 => ?_)
    · refine mv_iconst (v := 0) (pc := 94) d_Mo_fits_94 (by decide) ?_
      refine mv_iret (pc := 95) d_Mo_fits_95 rfl rfl ?_
      exact hq0 (by clear hq1 hq0; unfold a_fit; grind)
    · refine mv_iload_n (pc := 71) d_Mo_fits_71 rfl ?_
      refine mv_sipush (v := 200) (pc := 72) d_Mo_fits_72 (by decide) ?_
      refine mv_ic_gt 94 (pc := 75) d_Mo_fits_75 (by decide) (fun h75 => ?_) (fun h75 => ?_)
      · refine mv_iconst (v := 0) (pc := 94) d_Mo_fits_94 (by decide) ?_
        refine mv_iret (pc := 95) d_Mo_fits_95 rfl rfl ?_
        exact hq0 (by clear hq1 hq0; unfold a_fit; grind)
      · refine mv_iload_n (pc := 78) d_Mo_fits_78 rfl ?_
        refine mv_iconst (v := 1) (pc := 79) d_Mo_fits_79 (by decide) ?_
        refine mv_ic_lt 94 (pc := 80) d_Mo_fits_80 (by decide) (fun h80 => ?_) (fun h80 => ?_)
        · refine mv_iconst (v := 0) (pc := 94) d_Mo_fits_94 (by decide) ?_
          refine mv_iret (pc := 95) d_Mo_fits_95 rfl rfl ?_
          exact hq0 (by clear hq1 hq0; unfold a_fit; grind)
        · refine mv_iload_n (pc := 83) d_Mo_fits_83 rfl ?_
          refine mv_sipush (v := 200) (pc := 84) d_Mo_fits_84 (by decide) ?_
          refine mv_ic_gt 94 (pc := 87) d_Mo_fits_87 (by decide) (fun h87 => ?_) (fun h87 => ?_)
          · refine mv_iconst (v := 0) (pc := 94) d_Mo_fits_94 (by decide) ?_
            refine mv_iret (pc := 95) d_Mo_fits_95 rfl rfl ?_
            exact hq0 (by clear hq1 hq0; unfold a_fit; grind)
          · refine mv_iconst (v := 1) (pc := 90) d_Mo_fits_90 (by decide) ?_
            refine mv_goto 95 (pc := 91) d_Mo_fits_91 (by decide) ?_
            refine mv_iret (pc := 95) d_Mo_fits_95 rfl rfl ?_
            exact hq1 (by clear hq1 hq0; unfold a_fit; grind)
  · refine mv_iload_n (pc := 62) d_Mo_fits_62 rfl ?_
    refine mv_if_eq 90 (pc := 63) d_Mo_fits_63 (by decide) (fun h63 => ?_) (fun h63 => ?_)
    · refine mv_iconst (v := 1) (pc := 90) d_Mo_fits_90 (by decide) ?_
      refine mv_goto 95 (pc := 91) d_Mo_fits_91 (by decide) ?_
      refine mv_iret (pc := 95) d_Mo_fits_95 rfl rfl ?_
      exact hq1 (by clear hq1 hq0; unfold a_fit; grind)
    · refine mv_iload_n (pc := 66) d_Mo_fits_66 rfl ?_
      refine mv_iconst (v := 1) (pc := 67) d_Mo_fits_67 (by decide) ?_
      refine mv_ic_lt 94 (pc := 68) d_Mo_fits_68 (by decide) (fun h68 => ?_) (fun h68 => ?_)
      · refine mv_iconst (v := 0) (pc := 94) d_Mo_fits_94 (by decide) ?_
        refine mv_iret (pc := 95) d_Mo_fits_95 rfl rfl ?_
        exact hq0 (by clear hq1 hq0; unfold a_fit; grind)
      · refine mv_iload_n (pc := 71) d_Mo_fits_71 rfl ?_
        refine mv_sipush (v := 200) (pc := 72) d_Mo_fits_72 (by decide) ?_
        refine mv_ic_gt 94 (pc := 75) d_Mo_fits_75 (by decide) (fun h75 => ?_) (fun h75 => ?_)
        · refine mv_iconst (v := 0) (pc := 94) d_Mo_fits_94 (by decide) ?_
          refine mv_iret (pc := 95) d_Mo_fits_95 rfl rfl ?_
          exact hq0 (by clear hq1 hq0; unfold a_fit; grind)
        · refine mv_iload_n (pc := 78) d_Mo_fits_78 rfl ?_
          refine mv_iconst (v := 1) (pc := 79) d_Mo_fits_79 (by decide) ?_
          refine mv_ic_lt 94 (pc := 80) d_Mo_fits_80 (by decide) (fun h80 => ?_) (fun h80 => ?_)
          · refine mv_iconst (v := 0) (pc := 94) d_Mo_fits_94 (by decide) ?_
            refine mv_iret (pc := 95) d_Mo_fits_95 rfl rfl ?_
            exact hq0 (by clear hq1 hq0; unfold a_fit; grind)
          · refine mv_iload_n (pc := 83) d_Mo_fits_83 rfl ?_
            refine mv_sipush (v := 200) (pc := 84) d_Mo_fits_84 (by decide) ?_
            refine mv_ic_gt 94 (pc := 87) d_Mo_fits_87 (by decide) (fun h87 => ?_) (fun h87 => ?_)
            · refine mv_iconst (v := 0) (pc := 94) d_Mo_fits_94 (by decide) ?_
              refine mv_iret (pc := 95) d_Mo_fits_95 rfl rfl ?_
              exact hq0 (by clear hq1 hq0; unfold a_fit; grind)
            · refine mv_iconst (v := 1) (pc := 90) d_Mo_fits_90 (by decide) ?_
              refine mv_goto 95 (pc := 91) d_Mo_fits_91 (by decide) ?_
              refine mv_iret (pc := 95) d_Mo_fits_95 rfl rfl ?_
              exact hq1 (by clear hq1 hq0; unfold a_fit; grind)
set_option maxRecDepth 20000 in
theorem c_fits5 {G : mm_G} {Q : mm_O → mm_H → Prop} {h : mm_H} {b c : Int32} (hq1 : a_fit 5 b c → Q (.inl (some (.int 1))) h) (hq0 : ¬ (a_fit 5 b c) → Q (.inl (some (.int 0))) h) : mm_V G (0, 0) M_Mo_fits Q 0 (mm_ent 3 [.int 5, .int b, .int c]) [] h := by
  show mm_V G (0, 0) M_Mo_fits Q 0 [some (.int 5), some (.int b), some (.int c)] [] h
  refine mv_iload_n (pc := 0) d_Mo_fits_0 rfl ?_
  refine mv_tabIn 96 (pc := 1) d_Mo_fits_1 (by decide) (by decide) rfl (by decide) ?_
  refine mv_iload_n (pc := 96) d_Mo_fits_96 rfl ?_
  refine mv_if_lt 110 (pc := 97) d_Mo_fits_97 (by decide) (fun h97 => ?_) (fun h97 => ?_)
  · refine mv_iconst (v := 0) (pc := 110) d_Mo_fits_110 (by decide) ?_
    refine mv_iret (pc := 111) d_Mo_fits_111 rfl rfl ?_
    exact hq0 (by clear hq1 hq0; unfold a_fit; grind)
  · refine mv_iload_n (pc := 100) d_Mo_fits_100 rfl ?_
    refine mv_ldc (pc := 101) d_Mo_fits_101 lc_Mo_109 ?_
    refine mv_ic_gt 110 (pc := 103) d_Mo_fits_103 (by decide) (fun h103 => ?_) (fun h103 => ?_)
    · refine mv_iconst (v := 0) (pc := 110) d_Mo_fits_110 (by decide) ?_
      refine mv_iret (pc := 111) d_Mo_fits_111 rfl rfl ?_
      exact hq0 (by clear hq1 hq0; unfold a_fit; grind)
    · refine mv_iconst (v := 1) (pc := 106) d_Mo_fits_106 (by decide) ?_
      refine mv_goto 111 (pc := 107) d_Mo_fits_107 (by decide) ?_
      refine mv_iret (pc := 111) d_Mo_fits_111 rfl rfl ?_
      exact hq1 (by clear hq1 hq0; unfold a_fit; grind)
set_option maxRecDepth 20000 in
theorem c_act2 {G : mm_G} {Q : mm_O → mm_H → Prop} {h : mm_H} {k : Nat} (hk : k < 2) {i : Nat} {x b c : Int32} {A : mm_W} (hM : mm_Mo h) (hR : RM (mm_gi h) k A) (hW : WF A) (hi : i < 16) (hx : x &&& 15 = nI i) (hq0 : ¬ (a_good A x i ∧ a_fit 2 b c) → Q (.inl (some (.int 0))) h) (hq : ∀ F', a_good A x i → a_fit 2 b c → RM F' k (a_ord A 2 i b c) → mm_mfr k (mm_gi h) F' → Q (.inl (some (.int 1))) (mm_wi h F')) : mm_V G (3, 70) M_Mo_act Q 0 (mm_ent 8 [.ref 52, .int (nI k), .int 2, .int x, .int b, .int c]) [] h := by
  show mm_V G (3, 70) M_Mo_act Q 0 [some (.ref 52), some (.int (nI k)), some (.int 2), some (.int x), some (.int b), some (.int c), none, none] [] h
  refine mv_iload_n (pc := 0) d_Mo_act_0 rfl ?_
  refine mv_bipush (v := 6) (pc := 1) d_Mo_act_1 (by decide) ?_
  refine mv_ic_ne 13 (pc := 3) d_Mo_act_3 (by decide) (fun _ => ?_) (fun z => absurd z (by decide))
  refine mv_iload_n (pc := 13) d_Mo_act_13 rfl ?_
  refine mv_iconst (v := 1) (pc := 14) d_Mo_act_14 (by decide) ?_
  refine mv_ic_ne 78 (pc := 15) d_Mo_act_15 (by decide) (fun _ => ?_) (fun z => absurd z (by decide))
  refine mv_aload_n (pc := 78) d_Mo_act_78 rfl ?_
  refine mv_iload_n (pc := 79) d_Mo_act_79 rfl ?_
  refine mv_iload_n (pc := 80) d_Mo_act_80 rfl ?_
  refine mr_callV2 (pc := 81) d_Mo_act_81 (d2 := (0, 0)) ok_Mo_seek li_Mo_102 sv_Mo_seek hM.1 ⟨by decide, rfl⟩ ⟨by decide, rfl, rfl, Nat.le_of_ble_eq_true rfl, rfl, by decide, by decide⟩ ?_
  refine c_seek hk hM hR (hW.1 i hi).2.1.1 hi hx (fun hg => ?_) (fun hg => ?_)
  · refine mv_istore (pc := 84) d_Mo_act_84 (by decide) ?_
    refine mv_iload (pc := 86) d_Mo_act_86 rfl ?_
    refine mv_if_lt 102 (pc := 88) d_Mo_act_88 (by decide) (fun z => absurd z (nI_pos (by omega))) (fun h88 => ?_)
    refine mv_iload_n (pc := 91) d_Mo_act_91 rfl ?_
    refine mv_iload (pc := 92) d_Mo_act_92 rfl ?_
    refine mv_iload (pc := 94) d_Mo_act_94 rfl ?_
    refine mr_callS3 (pc := 96) d_Mo_act_96 (d2 := (0, 0)) ok_Mo_fits li_Mo_106 sv_Mo_fits ⟨by decide, rfl, rfl, rfl, Nat.le_of_ble_eq_true rfl, rfl, by decide, by decide⟩ ?_
    refine c_fits2 (fun hf => ?_) (fun hf => ?_)
    · refine mv_if_ne 104 (pc := 99) d_Mo_act_99 (by decide) (fun _ => ?_) (fun z => absurd z (by decide))
      refine mv_iload_n (pc := 104) d_Mo_act_104 rfl ?_
      refine mv_tabIn 132 (pc := 105) d_Mo_act_105 (by decide) (by decide) rfl (by decide) ?_
      refine mv_aload_n (pc := 132) d_Mo_act_132 rfl ?_
      refine mv_iload (pc := 133) d_Mo_act_133 rfl ?_
      refine mr_callV1 (pc := 135) d_Mo_act_135 (d2 := (0, 0)) ok_Mo_remove li_Mo_79 sv_Mo_remove hM.1 ⟨by decide, rfl⟩ ⟨by decide, rfl, Nat.le_of_ble_eq_true rfl, rfl, by decide, by decide⟩ ?_
      refine c_mrem hk hM hi hR (hW.1 i hi).2.1 (fun F2 r2 f2 => ?_)
      refine mv_iconst (v := 1) (pc := 138) d_Mo_act_138 (by decide) ?_
      refine mv_iret (pc := 139) d_Mo_act_139 rfl rfl ?_
      exact hq F2 hg hf r2 f2
    · refine mv_if_ne 104 (pc := 99) d_Mo_act_99 (by decide) (fun z => absurd z (by decide)) (fun _ => ?_)
      refine mv_iconst (v := 0) (pc := 102) d_Mo_act_102 (by decide) ?_
      refine mv_iret (pc := 103) d_Mo_act_103 rfl rfl ?_
      exact hq0 (fun z => hf z.2)
  · refine mv_istore (pc := 84) d_Mo_act_84 (by decide) ?_
    refine mv_iload (pc := 86) d_Mo_act_86 rfl ?_
    refine mv_if_lt 102 (pc := 88) d_Mo_act_88 (by decide) (fun _ => ?_) (fun z => absurd z (by decide))
    refine mv_iconst (v := 0) (pc := 102) d_Mo_act_102 (by decide) ?_
    refine mv_iret (pc := 103) d_Mo_act_103 rfl rfl ?_
    exact hq0 (fun z => hg z.1)
set_option maxRecDepth 20000 in
theorem c_act3 {G : mm_G} {Q : mm_O → mm_H → Prop} {h : mm_H} {k : Nat} (hk : k < 2) {i : Nat} {x b c : Int32} {A : mm_W} (hM : mm_Mo h) (hR : RM (mm_gi h) k A) (hW : WF A) (hi : i < 16) (hx : x &&& 15 = nI i) (hq0 : ¬ (a_good A x i ∧ a_fit 3 b c) → Q (.inl (some (.int 0))) h) (hq : ∀ F', a_good A x i → a_fit 3 b c → RM F' k (a_ord A 3 i b c) → mm_mfr k (mm_gi h) F' → Q (.inl (some (.int 1))) (mm_wi h F')) : mm_V G (3, 70) M_Mo_act Q 0 (mm_ent 8 [.ref 52, .int (nI k), .int 3, .int x, .int b, .int c]) [] h := by
  show mm_V G (3, 70) M_Mo_act Q 0 [some (.ref 52), some (.int (nI k)), some (.int 3), some (.int x), some (.int b), some (.int c), none, none] [] h
  refine mv_iload_n (pc := 0) d_Mo_act_0 rfl ?_
  refine mv_bipush (v := 6) (pc := 1) d_Mo_act_1 (by decide) ?_
  refine mv_ic_ne 13 (pc := 3) d_Mo_act_3 (by decide) (fun _ => ?_) (fun z => absurd z (by decide))
  refine mv_iload_n (pc := 13) d_Mo_act_13 rfl ?_
  refine mv_iconst (v := 1) (pc := 14) d_Mo_act_14 (by decide) ?_
  refine mv_ic_ne 78 (pc := 15) d_Mo_act_15 (by decide) (fun _ => ?_) (fun z => absurd z (by decide))
  refine mv_aload_n (pc := 78) d_Mo_act_78 rfl ?_
  refine mv_iload_n (pc := 79) d_Mo_act_79 rfl ?_
  refine mv_iload_n (pc := 80) d_Mo_act_80 rfl ?_
  refine mr_callV2 (pc := 81) d_Mo_act_81 (d2 := (0, 0)) ok_Mo_seek li_Mo_102 sv_Mo_seek hM.1 ⟨by decide, rfl⟩ ⟨by decide, rfl, rfl, Nat.le_of_ble_eq_true rfl, rfl, by decide, by decide⟩ ?_
  refine c_seek hk hM hR (hW.1 i hi).2.1.1 hi hx (fun hg => ?_) (fun hg => ?_)
  · refine mv_istore (pc := 84) d_Mo_act_84 (by decide) ?_
    refine mv_iload (pc := 86) d_Mo_act_86 rfl ?_
    refine mv_if_lt 102 (pc := 88) d_Mo_act_88 (by decide) (fun z => absurd z (nI_pos (by omega))) (fun h88 => ?_)
    refine mv_iload_n (pc := 91) d_Mo_act_91 rfl ?_
    refine mv_iload (pc := 92) d_Mo_act_92 rfl ?_
    refine mv_iload (pc := 94) d_Mo_act_94 rfl ?_
    refine mr_callS3 (pc := 96) d_Mo_act_96 (d2 := (0, 0)) ok_Mo_fits li_Mo_106 sv_Mo_fits ⟨by decide, rfl, rfl, rfl, Nat.le_of_ble_eq_true rfl, rfl, by decide, by decide⟩ ?_
    refine c_fits3 (fun hf => ?_) (fun hf => ?_)
    · refine mv_if_ne 104 (pc := 99) d_Mo_act_99 (by decide) (fun _ => ?_) (fun z => absurd z (by decide))
      refine mv_iload_n (pc := 104) d_Mo_act_104 rfl ?_
      refine mv_tabIn 140 (pc := 105) d_Mo_act_105 (by decide) (by decide) rfl (by decide) ?_
      refine mv_aload_n (pc := 140) d_Mo_act_140 rfl ?_
      refine mr_getr (pc := 141) d_Mo_act_141 fl_Mo_26 hM.1 rfl (by decide) hM.g_sx ?_
      refine mv_iload (pc := 144) d_Mo_act_144 rfl ?_
      refine mv_iload (pc := 146) d_Mo_act_146 rfl ?_
      refine mr_iast (pc := 148) d_Mo_act_148 hM.a_sx (mm_inN (by omega) (by decide)) ?_
      refine mv_aload_n (pc := 149) d_Mo_act_149 rfl ?_
      refine mr_getr (pc := 150) d_Mo_act_150 fl_Mo_29 hM.1 rfl (by decide) hM.g_sy ?_
      refine mv_iload (pc := 153) d_Mo_act_153 rfl ?_
      refine mv_iload (pc := 155) d_Mo_act_155 rfl ?_
      refine mr_iast (pc := 157) d_Mo_act_157 hM.a_sy (mm_inN (by omega) (by decide)) ?_
      rw [mm_cl (n := 16 * k + i) (by omega)]
      refine mv_iconst (v := 1) (pc := 158) d_Mo_act_158 (by decide) ?_
      refine mv_iret (pc := 159) d_Mo_act_159 rfl rfl ?_
      exact hq _ hg hf ((hR.put (f := 4) hi (by omega) (by omega) _).put (f := 5) hi (by omega) (by omega) _) ((mm_mfr.rfl'.put (f := 4) hi (by omega) _).put (f := 5) hi (by omega) _)
    · refine mv_if_ne 104 (pc := 99) d_Mo_act_99 (by decide) (fun z => absurd z (by decide)) (fun _ => ?_)
      refine mv_iconst (v := 0) (pc := 102) d_Mo_act_102 (by decide) ?_
      refine mv_iret (pc := 103) d_Mo_act_103 rfl rfl ?_
      exact hq0 (fun z => hf z.2)
  · refine mv_istore (pc := 84) d_Mo_act_84 (by decide) ?_
    refine mv_iload (pc := 86) d_Mo_act_86 rfl ?_
    refine mv_if_lt 102 (pc := 88) d_Mo_act_88 (by decide) (fun _ => ?_) (fun z => absurd z (by decide))
    refine mv_iconst (v := 0) (pc := 102) d_Mo_act_102 (by decide) ?_
    refine mv_iret (pc := 103) d_Mo_act_103 rfl rfl ?_
    exact hq0 (fun z => hg z.1)
set_option maxRecDepth 20000 in
theorem c_act4 {G : mm_G} {Q : mm_O → mm_H → Prop} {h : mm_H} {k : Nat} (hk : k < 2) {i : Nat} {x b c : Int32} {A : mm_W} (hM : mm_Mo h) (hR : RM (mm_gi h) k A) (hW : WF A) (hi : i < 16) (hx : x &&& 15 = nI i) (hq0 : ¬ (a_good A x i ∧ a_fit 4 b c) → Q (.inl (some (.int 0))) h) (hq : ∀ F', a_good A x i → a_fit 4 b c → RM F' k (a_ord A 4 i b c) → mm_mfr k (mm_gi h) F' → Q (.inl (some (.int 1))) (mm_wi h F')) : mm_V G (3, 70) M_Mo_act Q 0 (mm_ent 8 [.ref 52, .int (nI k), .int 4, .int x, .int b, .int c]) [] h := by
  show mm_V G (3, 70) M_Mo_act Q 0 [some (.ref 52), some (.int (nI k)), some (.int 4), some (.int x), some (.int b), some (.int c), none, none] [] h
  refine mv_iload_n (pc := 0) d_Mo_act_0 rfl ?_
  refine mv_bipush (v := 6) (pc := 1) d_Mo_act_1 (by decide) ?_
  refine mv_ic_ne 13 (pc := 3) d_Mo_act_3 (by decide) (fun _ => ?_) (fun z => absurd z (by decide))
  refine mv_iload_n (pc := 13) d_Mo_act_13 rfl ?_
  refine mv_iconst (v := 1) (pc := 14) d_Mo_act_14 (by decide) ?_
  refine mv_ic_ne 78 (pc := 15) d_Mo_act_15 (by decide) (fun _ => ?_) (fun z => absurd z (by decide))
  refine mv_aload_n (pc := 78) d_Mo_act_78 rfl ?_
  refine mv_iload_n (pc := 79) d_Mo_act_79 rfl ?_
  refine mv_iload_n (pc := 80) d_Mo_act_80 rfl ?_
  refine mr_callV2 (pc := 81) d_Mo_act_81 (d2 := (0, 0)) ok_Mo_seek li_Mo_102 sv_Mo_seek hM.1 ⟨by decide, rfl⟩ ⟨by decide, rfl, rfl, Nat.le_of_ble_eq_true rfl, rfl, by decide, by decide⟩ ?_
  refine c_seek hk hM hR (hW.1 i hi).2.1.1 hi hx (fun hg => ?_) (fun hg => ?_)
  · refine mv_istore (pc := 84) d_Mo_act_84 (by decide) ?_
    refine mv_iload (pc := 86) d_Mo_act_86 rfl ?_
    refine mv_if_lt 102 (pc := 88) d_Mo_act_88 (by decide) (fun z => absurd z (nI_pos (by omega))) (fun h88 => ?_)
    refine mv_iload_n (pc := 91) d_Mo_act_91 rfl ?_
    refine mv_iload (pc := 92) d_Mo_act_92 rfl ?_
    refine mv_iload (pc := 94) d_Mo_act_94 rfl ?_
    refine mr_callS3 (pc := 96) d_Mo_act_96 (d2 := (0, 0)) ok_Mo_fits li_Mo_106 sv_Mo_fits ⟨by decide, rfl, rfl, rfl, Nat.le_of_ble_eq_true rfl, rfl, by decide, by decide⟩ ?_
    refine c_fits4 (fun hf => ?_) (fun hf => ?_)
    · refine mv_if_ne 104 (pc := 99) d_Mo_act_99 (by decide) (fun _ => ?_) (fun z => absurd z (by decide))
      refine mv_iload_n (pc := 104) d_Mo_act_104 rfl ?_
      refine mv_tabIn 160 (pc := 105) d_Mo_act_105 (by decide) (by decide) rfl (by decide) ?_
      refine mv_aload_n (pc := 160) d_Mo_act_160 rfl ?_
      refine mr_getr (pc := 161) d_Mo_act_161 fl_Mo_32 hM.1 rfl (by decide) hM.g_wide ?_
      refine mv_iload (pc := 164) d_Mo_act_164 rfl ?_
      refine mv_iload (pc := 166) d_Mo_act_166 rfl ?_
      refine mr_iast (pc := 168) d_Mo_act_168 hM.a_wide (mm_inN (by omega) (by decide)) ?_
      refine mv_aload_n (pc := 169) d_Mo_act_169 rfl ?_
      refine mr_getr (pc := 170) d_Mo_act_170 fl_Mo_35 hM.1 rfl (by decide) hM.g_high ?_
      refine mv_iload (pc := 173) d_Mo_act_173 rfl ?_
      refine mv_iload (pc := 175) d_Mo_act_175 rfl ?_
      refine mr_iast (pc := 177) d_Mo_act_177 hM.a_high (mm_inN (by omega) (by decide)) ?_
      rw [mm_cl (n := 16 * k + i) (by omega)]
      refine mv_iconst (v := 1) (pc := 178) d_Mo_act_178 (by decide) ?_
      refine mv_iret (pc := 179) d_Mo_act_179 rfl rfl ?_
      exact hq _ hg hf ((hR.put (f := 6) hi (by omega) (by omega) _).put (f := 7) hi (by omega) (by omega) _) ((mm_mfr.rfl'.put (f := 6) hi (by omega) _).put (f := 7) hi (by omega) _)
    · refine mv_if_ne 104 (pc := 99) d_Mo_act_99 (by decide) (fun z => absurd z (by decide)) (fun _ => ?_)
      refine mv_iconst (v := 0) (pc := 102) d_Mo_act_102 (by decide) ?_
      refine mv_iret (pc := 103) d_Mo_act_103 rfl rfl ?_
      exact hq0 (fun z => hf z.2)
  · refine mv_istore (pc := 84) d_Mo_act_84 (by decide) ?_
    refine mv_iload (pc := 86) d_Mo_act_86 rfl ?_
    refine mv_if_lt 102 (pc := 88) d_Mo_act_88 (by decide) (fun _ => ?_) (fun z => absurd z (by decide))
    refine mv_iconst (v := 0) (pc := 102) d_Mo_act_102 (by decide) ?_
    refine mv_iret (pc := 103) d_Mo_act_103 rfl rfl ?_
    exact hq0 (fun z => hg z.1)
set_option maxRecDepth 20000 in
theorem c_act5 {G : mm_G} {Q : mm_O → mm_H → Prop} {h : mm_H} {k : Nat} (hk : k < 2) {i : Nat} {x b c : Int32} {A : mm_W} (hM : mm_Mo h) (hR : RM (mm_gi h) k A) (hW : WF A) (hi : i < 16) (hx : x &&& 15 = nI i) (hq0 : ¬ (a_good A x i ∧ a_fit 5 b c) → Q (.inl (some (.int 0))) h) (hq : ∀ F', a_good A x i → a_fit 5 b c → RM F' k (a_ord A 5 i b c) → mm_mfr k (mm_gi h) F' → Q (.inl (some (.int 1))) (mm_wi h F')) : mm_V G (3, 70) M_Mo_act Q 0 (mm_ent 8 [.ref 52, .int (nI k), .int 5, .int x, .int b, .int c]) [] h := by
  show mm_V G (3, 70) M_Mo_act Q 0 [some (.ref 52), some (.int (nI k)), some (.int 5), some (.int x), some (.int b), some (.int c), none, none] [] h
  refine mv_iload_n (pc := 0) d_Mo_act_0 rfl ?_
  refine mv_bipush (v := 6) (pc := 1) d_Mo_act_1 (by decide) ?_
  refine mv_ic_ne 13 (pc := 3) d_Mo_act_3 (by decide) (fun _ => ?_) (fun z => absurd z (by decide))
  refine mv_iload_n (pc := 13) d_Mo_act_13 rfl ?_
  refine mv_iconst (v := 1) (pc := 14) d_Mo_act_14 (by decide) ?_
  refine mv_ic_ne 78 (pc := 15) d_Mo_act_15 (by decide) (fun _ => ?_) (fun z => absurd z (by decide))
  refine mv_aload_n (pc := 78) d_Mo_act_78 rfl ?_
  refine mv_iload_n (pc := 79) d_Mo_act_79 rfl ?_
  refine mv_iload_n (pc := 80) d_Mo_act_80 rfl ?_
  refine mr_callV2 (pc := 81) d_Mo_act_81 (d2 := (0, 0)) ok_Mo_seek li_Mo_102 sv_Mo_seek hM.1 ⟨by decide, rfl⟩ ⟨by decide, rfl, rfl, Nat.le_of_ble_eq_true rfl, rfl, by decide, by decide⟩ ?_
  refine c_seek hk hM hR (hW.1 i hi).2.1.1 hi hx (fun hg => ?_) (fun hg => ?_)
  · refine mv_istore (pc := 84) d_Mo_act_84 (by decide) ?_
    refine mv_iload (pc := 86) d_Mo_act_86 rfl ?_
    refine mv_if_lt 102 (pc := 88) d_Mo_act_88 (by decide) (fun z => absurd z (nI_pos (by omega))) (fun h88 => ?_)
    refine mv_iload_n (pc := 91) d_Mo_act_91 rfl ?_
    refine mv_iload (pc := 92) d_Mo_act_92 rfl ?_
    refine mv_iload (pc := 94) d_Mo_act_94 rfl ?_
    refine mr_callS3 (pc := 96) d_Mo_act_96 (d2 := (0, 0)) ok_Mo_fits li_Mo_106 sv_Mo_fits ⟨by decide, rfl, rfl, rfl, Nat.le_of_ble_eq_true rfl, rfl, by decide, by decide⟩ ?_
    refine c_fits5 (fun hf => ?_) (fun hf => ?_)
    · refine mv_if_ne 104 (pc := 99) d_Mo_act_99 (by decide) (fun _ => ?_) (fun z => absurd z (by decide))
      refine mv_iload_n (pc := 104) d_Mo_act_104 rfl ?_
      refine mv_tabOut 180 (pc := 105) d_Mo_act_105 (by decide) (by decide) ?_
      refine mv_aload_n (pc := 180) d_Mo_act_180 rfl ?_
      refine mr_getr (pc := 181) d_Mo_act_181 fl_Mo_38 hM.1 rfl (by decide) hM.g_left ?_
      refine mv_iload (pc := 184) d_Mo_act_184 rfl ?_
      refine mv_iload (pc := 186) d_Mo_act_186 rfl ?_
      refine mr_iast (pc := 188) d_Mo_act_188 hM.a_left (mm_inN (by omega) (by decide)) ?_
      rw [mm_cl (n := 16 * k + i) (by omega)]
      refine mv_iconst (v := 1) (pc := 189) d_Mo_act_189 (by decide) ?_
      refine mv_iret (pc := 190) d_Mo_act_190 rfl rfl ?_
      exact hq _ hg hf (hR.put (f := 8) hi (by omega) (by omega) _) (mm_mfr.rfl'.put (f := 8) hi (by omega) _)
    · refine mv_if_ne 104 (pc := 99) d_Mo_act_99 (by decide) (fun z => absurd z (by decide)) (fun _ => ?_)
      refine mv_iconst (v := 0) (pc := 102) d_Mo_act_102 (by decide) ?_
      refine mv_iret (pc := 103) d_Mo_act_103 rfl rfl ?_
      exact hq0 (fun z => hf z.2)
  · refine mv_istore (pc := 84) d_Mo_act_84 (by decide) ?_
    refine mv_iload (pc := 86) d_Mo_act_86 rfl ?_
    refine mv_if_lt 102 (pc := 88) d_Mo_act_88 (by decide) (fun _ => ?_) (fun z => absurd z (by decide))
    refine mv_iconst (v := 0) (pc := 102) d_Mo_act_102 (by decide) ?_
    refine mv_iret (pc := 103) d_Mo_act_103 rfl rfl ?_
    exact hq0 (fun z => hg z.1)
set_option maxRecDepth 20000 in
theorem c_act6 {G : mm_G} {Q : mm_O → mm_H → Prop} {h : mm_H} {k : Nat} (hk : k < 2) {x b c : Int32} {A : mm_W} (hM : mm_Mo h) (hR : RM (mm_gi h) k A) (hW : WF A) (hq : ∀ F', RM F' k (a_step A).2 → RME F' k (a_step A).1 → mm_sfr k (mm_gi h) F' → Q (.inl (some (.int 1))) (mm_wi h F')) : mm_V G (3, 70) M_Mo_act Q 0 (mm_ent 8 [.ref 52, .int (nI k), .int 6, .int x, .int b, .int c]) [] h := by
  show mm_V G (3, 70) M_Mo_act Q 0 [some (.ref 52), some (.int (nI k)), some (.int 6), some (.int x), some (.int b), some (.int c), none, none] [] h
  refine mv_iload_n (pc := 0) d_Mo_act_0 rfl ?_
  refine mv_bipush (v := 6) (pc := 1) d_Mo_act_1 (by decide) ?_
  refine mv_ic_ne 13 (pc := 3) d_Mo_act_3 (by decide) (fun z => absurd z (by decide)) (fun _ => ?_)
  refine mv_aload_n (pc := 6) d_Mo_act_6 rfl ?_
  refine mv_iload_n (pc := 7) d_Mo_act_7 rfl ?_
  refine mr_callV1 (pc := 8) d_Mo_act_8 (d2 := (2, 45)) ok_Mo_step li_Mo_91 sv_Mo_step hM.1 ⟨by decide, rfl⟩ ⟨by decide, rfl, Nat.le_of_ble_eq_true rfl, rfl, by decide, by decide⟩ ?_
  refine c_mstep hk hM hR hW (fun F2 r2 e2 f2 => ?_)
  refine mv_iconst (v := 1) (pc := 11) d_Mo_act_11 (by decide) ?_
  refine mv_iret (pc := 12) d_Mo_act_12 rfl rfl ?_
  exact hq F2 r2 e2 f2
set_option maxRecDepth 20000 in
theorem c_act1 {G : mm_G} {Q : mm_O → mm_H → Prop} {h : mm_H} {k : Nat} (hk : k < 2) {x y c : Int32} {A : mm_W} (hM : mm_Mo h) (hR : RM (mm_gi h) k A) (hq0 : ¬ (((0 ≤ x ∧ x ≤ 4095) ∧ (0 ≤ y ∧ y ≤ 4095)) ∧ ¬ (∀ j, j < 16 → ¬ A 1 j = 0)) → Q (.inl (some (.int 0))) h) (hq : ∀ i F', ((0 ≤ x ∧ x ≤ 4095) ∧ (0 ≤ y ∧ y ≤ 4095)) → i < 16 → (∀ j, j < i → ¬ A 1 j = 0) → A 1 i = 0 → RM F' k (a_set A i x y) → mm_mfr k (mm_gi h) F' → Q (.inl (some (.int 1))) (mm_wi h F')) : mm_V G (3, 70) M_Mo_act Q 0 (mm_ent 8 [.ref 52, .int (nI k), .int 1, .int x, .int y, .int c]) [] h := by
  show mm_V G (3, 70) M_Mo_act Q 0 [some (.ref 52), some (.int (nI k)), some (.int 1), some (.int x), some (.int y), some (.int c), none, none] [] h
  refine mv_iload_n (pc := 0) d_Mo_act_0 rfl ?_
  refine mv_bipush (v := 6) (pc := 1) d_Mo_act_1 (by decide) ?_
  refine mv_ic_ne 13 (pc := 3) d_Mo_act_3 (by decide) (fun _ => ?_) (fun z => absurd z (by decide))
  refine mv_iload_n (pc := 13) d_Mo_act_13 rfl ?_
  refine mv_iconst (v := 1) (pc := 14) d_Mo_act_14 (by decide) ?_
  refine mv_ic_ne 78 (pc := 15) d_Mo_act_15 (by decide) (fun z => absurd z (by decide)) (fun _ => ?_)
  refine mv_aload_n (pc := 18) d_Mo_act_18 rfl ?_
  refine mv_iload_n (pc := 19) d_Mo_act_19 rfl ?_
  refine mr_callV1 (pc := 20) d_Mo_act_20 (d2 := (0, 0)) ok_Mo_emptySlot li_Mo_94 sv_Mo_emptySlot hM.1 ⟨by decide, rfl⟩ ⟨by decide, rfl, Nat.le_of_ble_eq_true rfl, rfl, by decide, by decide⟩ ?_
  refine c_emptySlot hk hM (fun i hi hlow hz => ?_) (fun hall => ?_)
  · have hlow2 : ∀ j, j < i → ¬ A 1 j = 0 := fun j hj => by rw [← (hR.2.1 j (by omega)).2.1]; exact hlow j hj
    have hz2 : A 1 i = 0 := by rw [← (hR.2.1 i hi).2.1]; exact hz
    refine mv_istore (pc := 23) d_Mo_act_23 (by decide) ?_
    refine mv_iload_n (pc := 25) d_Mo_act_25 rfl ?_
    refine mv_if_lt 58 (pc := 26) d_Mo_act_26 (by decide) (fun h26 => ?_) (fun h26 => ?_)
    · refine mv_iconst (v := 0) (pc := 58) d_Mo_act_58 (by decide) ?_
      refine mv_istore (pc := 59) d_Mo_act_59 (by decide) ?_
      refine mv_iload (pc := 61) d_Mo_act_61 rfl ?_
      refine mv_if_eq 75 (pc := 63) d_Mo_act_63 (by decide) (fun _ => ?_) (fun z => absurd z (by decide))
      refine mv_iload (pc := 75) d_Mo_act_75 rfl ?_
      refine mv_iret (pc := 77) d_Mo_act_77 rfl rfl ?_
      exact hq0 (fun z => by clear hq0 hq; grind)
    · refine mv_iload_n (pc := 29) d_Mo_act_29 rfl ?_
      refine mv_sipush (v := 4095) (pc := 30) d_Mo_act_30 (by decide) ?_
      refine mv_ic_gt 58 (pc := 33) d_Mo_act_33 (by decide) (fun h33 => ?_) (fun h33 => ?_)
      · refine mv_iconst (v := 0) (pc := 58) d_Mo_act_58 (by decide) ?_
        refine mv_istore (pc := 59) d_Mo_act_59 (by decide) ?_
        refine mv_iload (pc := 61) d_Mo_act_61 rfl ?_
        refine mv_if_eq 75 (pc := 63) d_Mo_act_63 (by decide) (fun _ => ?_) (fun z => absurd z (by decide))
        refine mv_iload (pc := 75) d_Mo_act_75 rfl ?_
        refine mv_iret (pc := 77) d_Mo_act_77 rfl rfl ?_
        exact hq0 (fun z => by clear hq0 hq; grind)
      · refine mv_iload (pc := 36) d_Mo_act_36 rfl ?_
        refine mv_if_lt 58 (pc := 38) d_Mo_act_38 (by decide) (fun h38 => ?_) (fun h38 => ?_)
        · refine mv_iconst (v := 0) (pc := 58) d_Mo_act_58 (by decide) ?_
          refine mv_istore (pc := 59) d_Mo_act_59 (by decide) ?_
          refine mv_iload (pc := 61) d_Mo_act_61 rfl ?_
          refine mv_if_eq 75 (pc := 63) d_Mo_act_63 (by decide) (fun _ => ?_) (fun z => absurd z (by decide))
          refine mv_iload (pc := 75) d_Mo_act_75 rfl ?_
          refine mv_iret (pc := 77) d_Mo_act_77 rfl rfl ?_
          exact hq0 (fun z => by clear hq0 hq; grind)
        · refine mv_iload (pc := 41) d_Mo_act_41 rfl ?_
          refine mv_sipush (v := 4095) (pc := 43) d_Mo_act_43 (by decide) ?_
          refine mv_ic_gt 58 (pc := 46) d_Mo_act_46 (by decide) (fun h46 => ?_) (fun h46 => ?_)
          · refine mv_iconst (v := 0) (pc := 58) d_Mo_act_58 (by decide) ?_
            refine mv_istore (pc := 59) d_Mo_act_59 (by decide) ?_
            refine mv_iload (pc := 61) d_Mo_act_61 rfl ?_
            refine mv_if_eq 75 (pc := 63) d_Mo_act_63 (by decide) (fun _ => ?_) (fun z => absurd z (by decide))
            refine mv_iload (pc := 75) d_Mo_act_75 rfl ?_
            refine mv_iret (pc := 77) d_Mo_act_77 rfl rfl ?_
            exact hq0 (fun z => by clear hq0 hq; grind)
          · refine mv_iload (pc := 49) d_Mo_act_49 rfl ?_
            refine mv_if_lt 58 (pc := 51) d_Mo_act_51 (by decide) (fun z => absurd z (nI_pos (by omega))) (fun h51 => ?_)
            refine mv_iconst (v := 1) (pc := 54) d_Mo_act_54 (by decide) ?_
            refine mv_goto 59 (pc := 55) d_Mo_act_55 (by decide) ?_
            refine mv_istore (pc := 59) d_Mo_act_59 (by decide) ?_
            refine mv_iload (pc := 61) d_Mo_act_61 rfl ?_
            refine mv_if_eq 75 (pc := 63) d_Mo_act_63 (by decide) (fun z => absurd z (by decide)) (fun _ => ?_)
            refine mv_aload_n (pc := 66) d_Mo_act_66 rfl ?_
            refine mv_iload (pc := 67) d_Mo_act_67 rfl ?_
            refine mv_iload_n (pc := 69) d_Mo_act_69 rfl ?_
            refine mv_iload (pc := 70) d_Mo_act_70 rfl ?_
            refine mr_callV3 (pc := 72) d_Mo_act_72 (d2 := (0, 0)) ok_Mo_make li_Mo_98 sv_Mo_make hM.1 ⟨by decide, rfl⟩ ⟨by decide, rfl, rfl, rfl, Nat.le_of_ble_eq_true rfl, rfl, by decide, by decide⟩ ?_
            refine c_make hk hM hi hR (fun F2 r2 f2 _ => ?_)
            refine mv_iload (pc := 75) d_Mo_act_75 rfl ?_
            refine mv_iret (pc := 77) d_Mo_act_77 rfl rfl ?_
            exact hq i F2 ⟨⟨Int32.not_lt.mp h26, Int32.not_lt.mp h33⟩, ⟨Int32.not_lt.mp h38, Int32.not_lt.mp h46⟩⟩ hi hlow2 hz2 r2 f2
  · have hall2 : ∀ j, j < 16 → ¬ A 1 j = 0 := fun j hj => by rw [← (hR.2.1 j hj).2.1]; exact hall j hj
    refine mv_istore (pc := 23) d_Mo_act_23 (by decide) ?_
    refine mv_iload_n (pc := 25) d_Mo_act_25 rfl ?_
    refine mv_if_lt 58 (pc := 26) d_Mo_act_26 (by decide) (fun h26 => ?_) (fun h26 => ?_)
    · refine mv_iconst (v := 0) (pc := 58) d_Mo_act_58 (by decide) ?_
      refine mv_istore (pc := 59) d_Mo_act_59 (by decide) ?_
      refine mv_iload (pc := 61) d_Mo_act_61 rfl ?_
      refine mv_if_eq 75 (pc := 63) d_Mo_act_63 (by decide) (fun _ => ?_) (fun z => absurd z (by decide))
      refine mv_iload (pc := 75) d_Mo_act_75 rfl ?_
      refine mv_iret (pc := 77) d_Mo_act_77 rfl rfl ?_
      exact hq0 (fun z => by clear hq0 hq; grind)
    · refine mv_iload_n (pc := 29) d_Mo_act_29 rfl ?_
      refine mv_sipush (v := 4095) (pc := 30) d_Mo_act_30 (by decide) ?_
      refine mv_ic_gt 58 (pc := 33) d_Mo_act_33 (by decide) (fun h33 => ?_) (fun h33 => ?_)
      · refine mv_iconst (v := 0) (pc := 58) d_Mo_act_58 (by decide) ?_
        refine mv_istore (pc := 59) d_Mo_act_59 (by decide) ?_
        refine mv_iload (pc := 61) d_Mo_act_61 rfl ?_
        refine mv_if_eq 75 (pc := 63) d_Mo_act_63 (by decide) (fun _ => ?_) (fun z => absurd z (by decide))
        refine mv_iload (pc := 75) d_Mo_act_75 rfl ?_
        refine mv_iret (pc := 77) d_Mo_act_77 rfl rfl ?_
        exact hq0 (fun z => by clear hq0 hq; grind)
      · refine mv_iload (pc := 36) d_Mo_act_36 rfl ?_
        refine mv_if_lt 58 (pc := 38) d_Mo_act_38 (by decide) (fun h38 => ?_) (fun h38 => ?_)
        · refine mv_iconst (v := 0) (pc := 58) d_Mo_act_58 (by decide) ?_
          refine mv_istore (pc := 59) d_Mo_act_59 (by decide) ?_
          refine mv_iload (pc := 61) d_Mo_act_61 rfl ?_
          refine mv_if_eq 75 (pc := 63) d_Mo_act_63 (by decide) (fun _ => ?_) (fun z => absurd z (by decide))
          refine mv_iload (pc := 75) d_Mo_act_75 rfl ?_
          refine mv_iret (pc := 77) d_Mo_act_77 rfl rfl ?_
          exact hq0 (fun z => by clear hq0 hq; grind)
        · refine mv_iload (pc := 41) d_Mo_act_41 rfl ?_
          refine mv_sipush (v := 4095) (pc := 43) d_Mo_act_43 (by decide) ?_
          refine mv_ic_gt 58 (pc := 46) d_Mo_act_46 (by decide) (fun h46 => ?_) (fun h46 => ?_)
          · refine mv_iconst (v := 0) (pc := 58) d_Mo_act_58 (by decide) ?_
            refine mv_istore (pc := 59) d_Mo_act_59 (by decide) ?_
            refine mv_iload (pc := 61) d_Mo_act_61 rfl ?_
            refine mv_if_eq 75 (pc := 63) d_Mo_act_63 (by decide) (fun _ => ?_) (fun z => absurd z (by decide))
            refine mv_iload (pc := 75) d_Mo_act_75 rfl ?_
            refine mv_iret (pc := 77) d_Mo_act_77 rfl rfl ?_
            exact hq0 (fun z => by clear hq0 hq; grind)
          · refine mv_iload (pc := 49) d_Mo_act_49 rfl ?_
            refine mv_if_lt 58 (pc := 51) d_Mo_act_51 (by decide) (fun _ => ?_) (fun z => absurd z (by decide))
            refine mv_iconst (v := 0) (pc := 58) d_Mo_act_58 (by decide) ?_
            refine mv_istore (pc := 59) d_Mo_act_59 (by decide) ?_
            refine mv_iload (pc := 61) d_Mo_act_61 rfl ?_
            refine mv_if_eq 75 (pc := 63) d_Mo_act_63 (by decide) (fun _ => ?_) (fun z => absurd z (by decide))
            refine mv_iload (pc := 75) d_Mo_act_75 rfl ?_
            refine mv_iret (pc := 77) d_Mo_act_77 rfl rfl ?_
            exact hq0 (fun z => z.2 hall2)
set_option maxRecDepth 20000 in
theorem c_madd {G : mm_G} {Q : mm_O → mm_H → Prop} {h : mm_H} {A : mm_W} {E : mm_E} {sv lg : List Int32} (hM : mm_Mo h) (hS : MS (mm_gi h) A E sv lg) {x : Int32} (hl : lg.length < 400) (hq : ∀ F', MS F' A E sv (lg ++ [x &&& 255]) → F' 52 0 = mm_gi h 52 0 → mm_ofr (mm_gi h) F' → Q (.inl none) (mm_wi h F')) : mm_V G (0, 0) M_Mo_add Q 0 (mm_ent 2 [.ref 52, .int x]) [] h := by
  show mm_V G (0, 0) M_Mo_add Q 0 [some (.ref 52), some (.int x)] [] h
  refine mv_aload_n (pc := 0) d_Mo_add_0 rfl ?_
  refine mr_getr (pc := 1) d_Mo_add_1 fl_Mo_59 hM.1 rfl (by decide) hM.g_log ?_
  refine mv_aload_n (pc := 4) d_Mo_add_4 rfl ?_
  refine mr_geti (pc := 5) d_Mo_add_5 fl_Mo_110 hM.1 rfl (by decide) ?_
  rw [show mm_gi h 52 18 = nI lg.length from hS.2.2.2.1.1]
  refine mv_iload_n (pc := 8) d_Mo_add_8 rfl ?_
  refine mv_sipush (v := 255) (pc := 9) d_Mo_add_9 (by decide) ?_
  refine mv_iand (pc := 12) d_Mo_add_12 ?_
  refine mr_iast (pc := 13) d_Mo_add_13 hM.a_log (mm_inN (by omega) (by decide)) ?_
  rw [mm_cl (by omega)]
  refine mv_aload_n (pc := 14) d_Mo_add_14 rfl ?_
  refine mv_dup (pc := 15) d_Mo_add_15 rfl ?_
  refine mr_geti (pc := 16) d_Mo_add_16 fl_Mo_110 hM.1 rfl (by decide) ?_
  rw [show mm_gi (mm_si h 69 lg.length (x &&& 255)) 52 18 = nI lg.length from hS.2.2.2.1.1]
  refine mv_iconst (v := 1) (pc := 19) d_Mo_add_19 (by decide) ?_
  refine mv_iadd (pc := 20) d_Mo_add_20 ?_
  rw [← nI_succ]
  refine mr_puti (pc := 21) d_Mo_add_21 fl_Mo_110 hM.1 rfl (by decide) ⟨rfl, rfl⟩ ?_
  refine mv_ret (pc := 24) d_Mo_add_24 rfl ?_
  refine hq _ (hS.log hl (x &&& 255)) ?_ (fun a j ha => ?_)
  · simp [mm_u2, mm_g0, mm_gsi]
  · have n1 : ¬ a = 52 := by omega
    have n2 : ¬ a = 69 := by omega
    simp [mm_u2, mm_g0, mm_gsi, n1, n2]
set_option maxRecDepth 20000 in
theorem c_maddH {G : mm_G} {Q : mm_O → mm_H → Prop} {h : mm_H} {A : mm_W} {E : mm_E} {sv lg : List Int32} (hM : mm_Mo h) (hS : MS (mm_gi h) A E sv lg) {x : Int32} (hl : lg.length + 3 ≤ 400) (hq : ∀ F', MS F' A E sv (lg ++ mm_enc x 3) → F' 52 0 = mm_gi h 52 0 → mm_ofr (mm_gi h) F' → Q (.inl none) (mm_wi h F')) : mm_V G (1, 21) M_Mo_addHandle Q 0 (mm_ent 2 [.ref 52, .int x]) [] h := by
  show mm_V G (1, 21) M_Mo_addHandle Q 0 [some (.ref 52), some (.int x)] [] h
  refine mv_aload_n (pc := 0) d_Mo_addHandle_0 rfl ?_
  refine mv_iload_n (pc := 1) d_Mo_addHandle_1 rfl ?_
  refine mv_bipush (v := 16) (pc := 2) d_Mo_addHandle_2 (by decide) ?_
  refine mv_ishr (pc := 4) d_Mo_addHandle_4 ?_
  refine mr_callV1 (pc := 5) d_Mo_addHandle_5 (d2 := (0, 0)) ok_Mo_add li_Mo_113 sv_Mo_add hM.1 ⟨by decide, rfl⟩ ⟨by decide, rfl, Nat.le_of_ble_eq_true rfl, rfl, by decide, by decide⟩ ?_
  refine c_madd hM hS (by omega) (fun F1 s1 c1 o1 => ?_)
  refine mv_aload_n (pc := 8) d_Mo_addHandle_8 rfl ?_
  refine mv_iload_n (pc := 9) d_Mo_addHandle_9 rfl ?_
  refine mv_bipush (v := 8) (pc := 10) d_Mo_addHandle_10 (by decide) ?_
  refine mv_ishr (pc := 12) d_Mo_addHandle_12 ?_
  refine mr_callV1 (pc := 13) d_Mo_addHandle_13 (d2 := (0, 0)) ok_Mo_add li_Mo_113 sv_Mo_add hM.1 ⟨by decide, rfl⟩ ⟨by decide, rfl, Nat.le_of_ble_eq_true rfl, rfl, by decide, by decide⟩ ?_
  refine c_madd (h := mm_wi h F1) hM s1 (by simp; omega) (fun F2 s2 c2 o2 => ?_)
  refine mv_aload_n (pc := 16) d_Mo_addHandle_16 rfl ?_
  refine mv_iload_n (pc := 17) d_Mo_addHandle_17 rfl ?_
  refine mr_callV1 (pc := 18) d_Mo_addHandle_18 (d2 := (0, 0)) ok_Mo_add li_Mo_113 sv_Mo_add hM.1 ⟨by decide, rfl⟩ ⟨by decide, rfl, Nat.le_of_ble_eq_true rfl, rfl, by decide, by decide⟩ ?_
  refine c_madd (h := mm_wi h F2) hM s2 (by simp; omega) (fun F3 s3 c3 o3 => ?_)
  refine mv_ret (pc := 21) d_Mo_addHandle_21 rfl ?_
  refine hq F3 ?_ (c3.trans (c2.trans c1)) (o1.trans (o2.trans o3))
  rw [mm_e3]
  simpa only [List.append_assoc, List.cons_append, List.nil_append] using s3
set_option maxRecDepth 20000 in
theorem c_allowed2 {G : mm_G} {Q : mm_O → mm_H → Prop} {h : mm_H} {i : Nat} {x b c : Int32} {A : mm_W} {E : mm_E} {sv lg : List Int32} (hM : mm_Mo h) (hS : MS (mm_gi h) A E sv lg) (hW : WF A) (hi : i < 16) (hx : x &&& 15 = nI i) (hq1 : ∀ F', ¬ (a_good A x i ∧ a_fit 2 b c) → MS F' A E sv lg → F' 52 0 = 1 → mm_ofr (mm_gi h) F' → Q (.inl (some (.int 0))) (mm_wi h F')) (hq2 : ∀ F', a_good A x i → a_fit 2 b c → ¬ lg.length + 4 ≤ 400 → MS F' A E sv lg → F' 52 0 = 2 → mm_ofr (mm_gi h) F' → Q (.inl (some (.int 0))) (mm_wi h F')) (hq : ∀ F', a_good A x i → a_fit 2 b c → lg.length + 4 ≤ 400 → MS F' (a_ord A 2 i b c) E sv (lg ++ mm_enc 2 1 ++ mm_enc x 3) → F' 52 0 = 0 → mm_ofr (mm_gi h) F' → Q (.inl (some (.int 1))) (mm_wi h F')) : mm_V G (4, 97) M_Mo_allowed Q 0 (mm_ent 6 [.ref 52, .int x, .int 2, .int b, .int c, .int 4]) [] h := by
  show mm_V G (4, 97) M_Mo_allowed Q 0 [some (.ref 52), some (.int x), some (.int 2), some (.int b), some (.int c), some (.int 4)] [] h
  refine mv_aload_n (pc := 0) d_Mo_allowed_0 rfl ?_
  refine mv_aload_n (pc := 1) d_Mo_allowed_1 rfl ?_
  refine mv_iconst (v := 0) (pc := 2) d_Mo_allowed_2 (by decide) ?_
  refine mv_iload_n (pc := 3) d_Mo_allowed_3 rfl ?_
  refine mr_callV2 (pc := 4) d_Mo_allowed_4 (d2 := (0, 0)) ok_Mo_seek li_Mo_102 sv_Mo_seek hM.1 ⟨by decide, rfl⟩ ⟨by decide, rfl, rfl, Nat.le_of_ble_eq_true rfl, rfl, by decide, by decide⟩ ?_
  refine c_seek (k := 0) (by omega) hM hS.1 (hW.1 i hi).2.1.1 hi hx (fun hg => ?_) (fun hg => ?_)
  · refine mv_if_lt 20 (pc := 7) d_Mo_allowed_7 (by decide) (fun z => absurd z (nI_pos (by omega))) (fun h7 => ?_)
    refine mv_iload_n (pc := 10) d_Mo_allowed_10 rfl ?_
    refine mv_iload_n (pc := 11) d_Mo_allowed_11 rfl ?_
    refine mv_iload (pc := 12) d_Mo_allowed_12 rfl ?_
    refine mr_callS3 (pc := 14) d_Mo_allowed_14 (d2 := (0, 0)) ok_Mo_fits li_Mo_106 sv_Mo_fits ⟨by decide, rfl, rfl, rfl, Nat.le_of_ble_eq_true rfl, rfl, by decide, by decide⟩ ?_
    refine c_fits2 (fun hf => ?_) (fun hf => ?_)
    · refine mv_if_ne 24 (pc := 17) d_Mo_allowed_17 (by decide) (fun _ => ?_) (fun z => absurd z (by decide))
      refine mv_aload_n (pc := 24) d_Mo_allowed_24 rfl ?_
      refine mr_geti (pc := 25) d_Mo_allowed_25 fl_Mo_110 hM.1 rfl (by decide) ?_
      refine mv_iload (pc := 28) d_Mo_allowed_28 rfl ?_
      rw [show mm_gi h 52 18 = nI lg.length from hS.2.2.2.1.1]
      refine mv_iadd (pc := 30) d_Mo_allowed_30 ?_
      refine mv_sipush (v := 400) (pc := 31) d_Mo_allowed_31 (by decide) ?_
      refine mv_ic_le 41 (pc := 34) d_Mo_allowed_34 (by decide) (fun h34 => ?_) (fun h34 => ?_)
      · refine mv_iconst (v := 0) (pc := 41) d_Mo_allowed_41 (by decide) ?_
        refine mr_puti (pc := 42) d_Mo_allowed_42 fl_Mo_69 hM.1 rfl (by decide) ⟨rfl, rfl⟩ ?_
        refine mv_aload_n (pc := 45) d_Mo_allowed_45 rfl ?_
        refine mr_geti (pc := 46) d_Mo_allowed_46 fl_Mo_69 hM.1 rfl (by decide) ?_
        rw [mm_gss]
        refine mv_if_le 54 (pc := 49) d_Mo_allowed_49 (by decide) (fun _ => ?_) (fun z => absurd z (by decide))
        have hroom2 : lg.length + 4 ≤ 400 := (mm_roomI (n := 4) (by have := hS.2.2.2.2.2; omega) (by omega)).mp h34
        refine mv_aload_n (pc := 54) d_Mo_allowed_54 rfl ?_
        refine mv_iload_n (pc := 55) d_Mo_allowed_55 rfl ?_
        refine mr_callV1 (pc := 56) d_Mo_allowed_56 (d2 := (0, 0)) ok_Mo_add li_Mo_113 sv_Mo_add hM.1 ⟨by decide, rfl⟩ ⟨by decide, rfl, Nat.le_of_ble_eq_true rfl, rfl, by decide, by decide⟩ ?_
        refine c_madd (h := mm_si h 52 0 0) hM (hS.code 0) (by omega) (fun F1 s1 c1 o1 => ?_)
        rw [← mm_e1] at s1
        refine mv_aload_n (pc := 59) d_Mo_allowed_59 rfl ?_
        refine mv_iload_n (pc := 60) d_Mo_allowed_60 rfl ?_
        refine mr_callV1 (pc := 61) d_Mo_allowed_61 (d2 := (1, 21)) ok_Mo_addHandle li_Mo_116 sv_Mo_addHandle hM.1 ⟨by decide, rfl⟩ ⟨by decide, rfl, Nat.le_of_ble_eq_true rfl, rfl, by decide, by decide⟩ ?_
        refine c_maddH (h := mm_wi h F1) hM s1 (by rw [List.length_append, mm_enc_len]; omega) (fun F2 s2 c2 o2 => ?_)
        refine mv_aload_n (pc := 64) d_Mo_allowed_64 rfl ?_
        refine mv_iconst (v := 0) (pc := 65) d_Mo_allowed_65 (by decide) ?_
        refine mv_iload_n (pc := 66) d_Mo_allowed_66 rfl ?_
        refine mv_iload_n (pc := 67) d_Mo_allowed_67 rfl ?_
        refine mv_iload_n (pc := 68) d_Mo_allowed_68 rfl ?_
        refine mv_iload (pc := 69) d_Mo_allowed_69 rfl ?_
        refine mr_callV5 (pc := 71) d_Mo_allowed_71 (d2 := (3, 70)) ok_Mo_act li_Mo_119 sv_Mo_act hM.1 ⟨by decide, rfl⟩ ⟨by decide, rfl, rfl, rfl, rfl, rfl, Nat.le_of_ble_eq_true rfl, rfl, by decide, by decide⟩ ?_
        refine c_act2 (k := 0) (h := mm_wi h F2) (by omega) hM s2.1 hW hi hx (fun hno => ?_) (fun F3 _ _ r3 f3 => ?_)
        · refine mv_iret (pc := 74) d_Mo_allowed_74 rfl rfl ?_
          exact absurd ⟨hg, hf⟩ hno
        · refine mv_iret (pc := 74) d_Mo_allowed_74 rfl rfl ?_
          refine hq F3 hg hf hroom2 (MS.world (E := E) s2 r3 (s2.2.1.off fun a j h1 h2 => f3 a j (by omega)) (fun j => f3 52 j (by omega)) (fun a j ha => f3 a j (by omega))) ?_ ?_
          · rw [f3 52 0 (by omega)]; exact c2.trans (c1.trans (by simp [mm_gsi]))
          · exact ((mm_ofr.rfl'.cd 0 0).trans (o1.trans o2)).trans f3.s.o
      · refine mv_iconst (v := 2) (pc := 37) d_Mo_allowed_37 (by decide) ?_
        refine mv_goto 42 (pc := 38) d_Mo_allowed_38 (by decide) ?_
        refine mr_puti (pc := 42) d_Mo_allowed_42 fl_Mo_69 hM.1 rfl (by decide) ⟨rfl, rfl⟩ ?_
        refine mv_aload_n (pc := 45) d_Mo_allowed_45 rfl ?_
        refine mr_geti (pc := 46) d_Mo_allowed_46 fl_Mo_69 hM.1 rfl (by decide) ?_
        rw [mm_gss]
        refine mv_if_le 54 (pc := 49) d_Mo_allowed_49 (by decide) (fun z => absurd z (by decide)) (fun _ => ?_)
        refine mv_iconst (v := 0) (pc := 52) d_Mo_allowed_52 (by decide) ?_
        refine mv_iret (pc := 53) d_Mo_allowed_53 rfl rfl ?_
        exact hq2 _ hg hf (fun z => h34 ((mm_roomI (n := 4) (by have := hS.2.2.2.2.2; omega) (by omega)).mpr z)) (hS.code 2) (by simp [mm_u2]) (mm_ofr.rfl'.cd 0 2)
    · refine mv_if_ne 24 (pc := 17) d_Mo_allowed_17 (by decide) (fun z => absurd z (by decide)) (fun _ => ?_)
      refine mv_iconst (v := 1) (pc := 20) d_Mo_allowed_20 (by decide) ?_
      refine mv_goto 42 (pc := 21) d_Mo_allowed_21 (by decide) ?_
      refine mr_puti (pc := 42) d_Mo_allowed_42 fl_Mo_69 hM.1 rfl (by decide) ⟨rfl, rfl⟩ ?_
      refine mv_aload_n (pc := 45) d_Mo_allowed_45 rfl ?_
      refine mr_geti (pc := 46) d_Mo_allowed_46 fl_Mo_69 hM.1 rfl (by decide) ?_
      rw [mm_gss]
      refine mv_if_le 54 (pc := 49) d_Mo_allowed_49 (by decide) (fun z => absurd z (by decide)) (fun _ => ?_)
      refine mv_iconst (v := 0) (pc := 52) d_Mo_allowed_52 (by decide) ?_
      refine mv_iret (pc := 53) d_Mo_allowed_53 rfl rfl ?_
      exact hq1 _ (fun z => hf z.2) (hS.code 1) (by simp [mm_u2]) (mm_ofr.rfl'.cd 0 1)
  · refine mv_if_lt 20 (pc := 7) d_Mo_allowed_7 (by decide) (fun _ => ?_) (fun z => absurd z (by decide))
    refine mv_iconst (v := 1) (pc := 20) d_Mo_allowed_20 (by decide) ?_
    refine mv_goto 42 (pc := 21) d_Mo_allowed_21 (by decide) ?_
    refine mr_puti (pc := 42) d_Mo_allowed_42 fl_Mo_69 hM.1 rfl (by decide) ⟨rfl, rfl⟩ ?_
    refine mv_aload_n (pc := 45) d_Mo_allowed_45 rfl ?_
    refine mr_geti (pc := 46) d_Mo_allowed_46 fl_Mo_69 hM.1 rfl (by decide) ?_
    rw [mm_gss]
    refine mv_if_le 54 (pc := 49) d_Mo_allowed_49 (by decide) (fun z => absurd z (by decide)) (fun _ => ?_)
    refine mv_iconst (v := 0) (pc := 52) d_Mo_allowed_52 (by decide) ?_
    refine mv_iret (pc := 53) d_Mo_allowed_53 rfl rfl ?_
    exact hq1 _ (fun z => hg z.1) (hS.code 1) (by simp [mm_u2]) (mm_ofr.rfl'.cd 0 1)
set_option maxRecDepth 20000 in
theorem c_allowed3 {G : mm_G} {Q : mm_O → mm_H → Prop} {h : mm_H} {i : Nat} {x b c : Int32} {A : mm_W} {E : mm_E} {sv lg : List Int32} (hM : mm_Mo h) (hS : MS (mm_gi h) A E sv lg) (hW : WF A) (hi : i < 16) (hx : x &&& 15 = nI i) (hq1 : ∀ F', ¬ (a_good A x i ∧ a_fit 3 b c) → MS F' A E sv lg → F' 52 0 = 1 → mm_ofr (mm_gi h) F' → Q (.inl (some (.int 0))) (mm_wi h F')) (hq2 : ∀ F', a_good A x i → a_fit 3 b c → ¬ lg.length + 6 ≤ 400 → MS F' A E sv lg → F' 52 0 = 2 → mm_ofr (mm_gi h) F' → Q (.inl (some (.int 0))) (mm_wi h F')) (hq : ∀ F', a_good A x i → a_fit 3 b c → lg.length + 6 ≤ 400 → MS F' (a_ord A 3 i b c) E sv (lg ++ mm_enc 3 1 ++ mm_enc x 3) → F' 52 0 = 0 → mm_ofr (mm_gi h) F' → Q (.inl (some (.int 1))) (mm_wi h F')) : mm_V G (4, 97) M_Mo_allowed Q 0 (mm_ent 6 [.ref 52, .int x, .int 3, .int b, .int c, .int 6]) [] h := by
  show mm_V G (4, 97) M_Mo_allowed Q 0 [some (.ref 52), some (.int x), some (.int 3), some (.int b), some (.int c), some (.int 6)] [] h
  refine mv_aload_n (pc := 0) d_Mo_allowed_0 rfl ?_
  refine mv_aload_n (pc := 1) d_Mo_allowed_1 rfl ?_
  refine mv_iconst (v := 0) (pc := 2) d_Mo_allowed_2 (by decide) ?_
  refine mv_iload_n (pc := 3) d_Mo_allowed_3 rfl ?_
  refine mr_callV2 (pc := 4) d_Mo_allowed_4 (d2 := (0, 0)) ok_Mo_seek li_Mo_102 sv_Mo_seek hM.1 ⟨by decide, rfl⟩ ⟨by decide, rfl, rfl, Nat.le_of_ble_eq_true rfl, rfl, by decide, by decide⟩ ?_
  refine c_seek (k := 0) (by omega) hM hS.1 (hW.1 i hi).2.1.1 hi hx (fun hg => ?_) (fun hg => ?_)
  · refine mv_if_lt 20 (pc := 7) d_Mo_allowed_7 (by decide) (fun z => absurd z (nI_pos (by omega))) (fun h7 => ?_)
    refine mv_iload_n (pc := 10) d_Mo_allowed_10 rfl ?_
    refine mv_iload_n (pc := 11) d_Mo_allowed_11 rfl ?_
    refine mv_iload (pc := 12) d_Mo_allowed_12 rfl ?_
    refine mr_callS3 (pc := 14) d_Mo_allowed_14 (d2 := (0, 0)) ok_Mo_fits li_Mo_106 sv_Mo_fits ⟨by decide, rfl, rfl, rfl, Nat.le_of_ble_eq_true rfl, rfl, by decide, by decide⟩ ?_
    refine c_fits3 (fun hf => ?_) (fun hf => ?_)
    · refine mv_if_ne 24 (pc := 17) d_Mo_allowed_17 (by decide) (fun _ => ?_) (fun z => absurd z (by decide))
      refine mv_aload_n (pc := 24) d_Mo_allowed_24 rfl ?_
      refine mr_geti (pc := 25) d_Mo_allowed_25 fl_Mo_110 hM.1 rfl (by decide) ?_
      refine mv_iload (pc := 28) d_Mo_allowed_28 rfl ?_
      rw [show mm_gi h 52 18 = nI lg.length from hS.2.2.2.1.1]
      refine mv_iadd (pc := 30) d_Mo_allowed_30 ?_
      refine mv_sipush (v := 400) (pc := 31) d_Mo_allowed_31 (by decide) ?_
      refine mv_ic_le 41 (pc := 34) d_Mo_allowed_34 (by decide) (fun h34 => ?_) (fun h34 => ?_)
      · refine mv_iconst (v := 0) (pc := 41) d_Mo_allowed_41 (by decide) ?_
        refine mr_puti (pc := 42) d_Mo_allowed_42 fl_Mo_69 hM.1 rfl (by decide) ⟨rfl, rfl⟩ ?_
        refine mv_aload_n (pc := 45) d_Mo_allowed_45 rfl ?_
        refine mr_geti (pc := 46) d_Mo_allowed_46 fl_Mo_69 hM.1 rfl (by decide) ?_
        rw [mm_gss]
        refine mv_if_le 54 (pc := 49) d_Mo_allowed_49 (by decide) (fun _ => ?_) (fun z => absurd z (by decide))
        have hroom2 : lg.length + 6 ≤ 400 := (mm_roomI (n := 6) (by have := hS.2.2.2.2.2; omega) (by omega)).mp h34
        refine mv_aload_n (pc := 54) d_Mo_allowed_54 rfl ?_
        refine mv_iload_n (pc := 55) d_Mo_allowed_55 rfl ?_
        refine mr_callV1 (pc := 56) d_Mo_allowed_56 (d2 := (0, 0)) ok_Mo_add li_Mo_113 sv_Mo_add hM.1 ⟨by decide, rfl⟩ ⟨by decide, rfl, Nat.le_of_ble_eq_true rfl, rfl, by decide, by decide⟩ ?_
        refine c_madd (h := mm_si h 52 0 0) hM (hS.code 0) (by omega) (fun F1 s1 c1 o1 => ?_)
        rw [← mm_e1] at s1
        refine mv_aload_n (pc := 59) d_Mo_allowed_59 rfl ?_
        refine mv_iload_n (pc := 60) d_Mo_allowed_60 rfl ?_
        refine mr_callV1 (pc := 61) d_Mo_allowed_61 (d2 := (1, 21)) ok_Mo_addHandle li_Mo_116 sv_Mo_addHandle hM.1 ⟨by decide, rfl⟩ ⟨by decide, rfl, Nat.le_of_ble_eq_true rfl, rfl, by decide, by decide⟩ ?_
        refine c_maddH (h := mm_wi h F1) hM s1 (by rw [List.length_append, mm_enc_len]; omega) (fun F2 s2 c2 o2 => ?_)
        refine mv_aload_n (pc := 64) d_Mo_allowed_64 rfl ?_
        refine mv_iconst (v := 0) (pc := 65) d_Mo_allowed_65 (by decide) ?_
        refine mv_iload_n (pc := 66) d_Mo_allowed_66 rfl ?_
        refine mv_iload_n (pc := 67) d_Mo_allowed_67 rfl ?_
        refine mv_iload_n (pc := 68) d_Mo_allowed_68 rfl ?_
        refine mv_iload (pc := 69) d_Mo_allowed_69 rfl ?_
        refine mr_callV5 (pc := 71) d_Mo_allowed_71 (d2 := (3, 70)) ok_Mo_act li_Mo_119 sv_Mo_act hM.1 ⟨by decide, rfl⟩ ⟨by decide, rfl, rfl, rfl, rfl, rfl, Nat.le_of_ble_eq_true rfl, rfl, by decide, by decide⟩ ?_
        refine c_act3 (k := 0) (h := mm_wi h F2) (by omega) hM s2.1 hW hi hx (fun hno => ?_) (fun F3 _ _ r3 f3 => ?_)
        · refine mv_iret (pc := 74) d_Mo_allowed_74 rfl rfl ?_
          exact absurd ⟨hg, hf⟩ hno
        · refine mv_iret (pc := 74) d_Mo_allowed_74 rfl rfl ?_
          refine hq F3 hg hf hroom2 (MS.world (E := E) s2 r3 (s2.2.1.off fun a j h1 h2 => f3 a j (by omega)) (fun j => f3 52 j (by omega)) (fun a j ha => f3 a j (by omega))) ?_ ?_
          · rw [f3 52 0 (by omega)]; exact c2.trans (c1.trans (by simp [mm_gsi]))
          · exact ((mm_ofr.rfl'.cd 0 0).trans (o1.trans o2)).trans f3.s.o
      · refine mv_iconst (v := 2) (pc := 37) d_Mo_allowed_37 (by decide) ?_
        refine mv_goto 42 (pc := 38) d_Mo_allowed_38 (by decide) ?_
        refine mr_puti (pc := 42) d_Mo_allowed_42 fl_Mo_69 hM.1 rfl (by decide) ⟨rfl, rfl⟩ ?_
        refine mv_aload_n (pc := 45) d_Mo_allowed_45 rfl ?_
        refine mr_geti (pc := 46) d_Mo_allowed_46 fl_Mo_69 hM.1 rfl (by decide) ?_
        rw [mm_gss]
        refine mv_if_le 54 (pc := 49) d_Mo_allowed_49 (by decide) (fun z => absurd z (by decide)) (fun _ => ?_)
        refine mv_iconst (v := 0) (pc := 52) d_Mo_allowed_52 (by decide) ?_
        refine mv_iret (pc := 53) d_Mo_allowed_53 rfl rfl ?_
        exact hq2 _ hg hf (fun z => h34 ((mm_roomI (n := 6) (by have := hS.2.2.2.2.2; omega) (by omega)).mpr z)) (hS.code 2) (by simp [mm_u2]) (mm_ofr.rfl'.cd 0 2)
    · refine mv_if_ne 24 (pc := 17) d_Mo_allowed_17 (by decide) (fun z => absurd z (by decide)) (fun _ => ?_)
      refine mv_iconst (v := 1) (pc := 20) d_Mo_allowed_20 (by decide) ?_
      refine mv_goto 42 (pc := 21) d_Mo_allowed_21 (by decide) ?_
      refine mr_puti (pc := 42) d_Mo_allowed_42 fl_Mo_69 hM.1 rfl (by decide) ⟨rfl, rfl⟩ ?_
      refine mv_aload_n (pc := 45) d_Mo_allowed_45 rfl ?_
      refine mr_geti (pc := 46) d_Mo_allowed_46 fl_Mo_69 hM.1 rfl (by decide) ?_
      rw [mm_gss]
      refine mv_if_le 54 (pc := 49) d_Mo_allowed_49 (by decide) (fun z => absurd z (by decide)) (fun _ => ?_)
      refine mv_iconst (v := 0) (pc := 52) d_Mo_allowed_52 (by decide) ?_
      refine mv_iret (pc := 53) d_Mo_allowed_53 rfl rfl ?_
      exact hq1 _ (fun z => hf z.2) (hS.code 1) (by simp [mm_u2]) (mm_ofr.rfl'.cd 0 1)
  · refine mv_if_lt 20 (pc := 7) d_Mo_allowed_7 (by decide) (fun _ => ?_) (fun z => absurd z (by decide))
    refine mv_iconst (v := 1) (pc := 20) d_Mo_allowed_20 (by decide) ?_
    refine mv_goto 42 (pc := 21) d_Mo_allowed_21 (by decide) ?_
    refine mr_puti (pc := 42) d_Mo_allowed_42 fl_Mo_69 hM.1 rfl (by decide) ⟨rfl, rfl⟩ ?_
    refine mv_aload_n (pc := 45) d_Mo_allowed_45 rfl ?_
    refine mr_geti (pc := 46) d_Mo_allowed_46 fl_Mo_69 hM.1 rfl (by decide) ?_
    rw [mm_gss]
    refine mv_if_le 54 (pc := 49) d_Mo_allowed_49 (by decide) (fun z => absurd z (by decide)) (fun _ => ?_)
    refine mv_iconst (v := 0) (pc := 52) d_Mo_allowed_52 (by decide) ?_
    refine mv_iret (pc := 53) d_Mo_allowed_53 rfl rfl ?_
    exact hq1 _ (fun z => hg z.1) (hS.code 1) (by simp [mm_u2]) (mm_ofr.rfl'.cd 0 1)
set_option maxRecDepth 20000 in
theorem c_allowed4 {G : mm_G} {Q : mm_O → mm_H → Prop} {h : mm_H} {i : Nat} {x b c : Int32} {A : mm_W} {E : mm_E} {sv lg : List Int32} (hM : mm_Mo h) (hS : MS (mm_gi h) A E sv lg) (hW : WF A) (hi : i < 16) (hx : x &&& 15 = nI i) (hq1 : ∀ F', ¬ (a_good A x i ∧ a_fit 4 b c) → MS F' A E sv lg → F' 52 0 = 1 → mm_ofr (mm_gi h) F' → Q (.inl (some (.int 0))) (mm_wi h F')) (hq2 : ∀ F', a_good A x i → a_fit 4 b c → ¬ lg.length + 6 ≤ 400 → MS F' A E sv lg → F' 52 0 = 2 → mm_ofr (mm_gi h) F' → Q (.inl (some (.int 0))) (mm_wi h F')) (hq : ∀ F', a_good A x i → a_fit 4 b c → lg.length + 6 ≤ 400 → MS F' (a_ord A 4 i b c) E sv (lg ++ mm_enc 4 1 ++ mm_enc x 3) → F' 52 0 = 0 → mm_ofr (mm_gi h) F' → Q (.inl (some (.int 1))) (mm_wi h F')) : mm_V G (4, 97) M_Mo_allowed Q 0 (mm_ent 6 [.ref 52, .int x, .int 4, .int b, .int c, .int 6]) [] h := by
  show mm_V G (4, 97) M_Mo_allowed Q 0 [some (.ref 52), some (.int x), some (.int 4), some (.int b), some (.int c), some (.int 6)] [] h
  refine mv_aload_n (pc := 0) d_Mo_allowed_0 rfl ?_
  refine mv_aload_n (pc := 1) d_Mo_allowed_1 rfl ?_
  refine mv_iconst (v := 0) (pc := 2) d_Mo_allowed_2 (by decide) ?_
  refine mv_iload_n (pc := 3) d_Mo_allowed_3 rfl ?_
  refine mr_callV2 (pc := 4) d_Mo_allowed_4 (d2 := (0, 0)) ok_Mo_seek li_Mo_102 sv_Mo_seek hM.1 ⟨by decide, rfl⟩ ⟨by decide, rfl, rfl, Nat.le_of_ble_eq_true rfl, rfl, by decide, by decide⟩ ?_
  refine c_seek (k := 0) (by omega) hM hS.1 (hW.1 i hi).2.1.1 hi hx (fun hg => ?_) (fun hg => ?_)
  · refine mv_if_lt 20 (pc := 7) d_Mo_allowed_7 (by decide) (fun z => absurd z (nI_pos (by omega))) (fun h7 => ?_)
    refine mv_iload_n (pc := 10) d_Mo_allowed_10 rfl ?_
    refine mv_iload_n (pc := 11) d_Mo_allowed_11 rfl ?_
    refine mv_iload (pc := 12) d_Mo_allowed_12 rfl ?_
    refine mr_callS3 (pc := 14) d_Mo_allowed_14 (d2 := (0, 0)) ok_Mo_fits li_Mo_106 sv_Mo_fits ⟨by decide, rfl, rfl, rfl, Nat.le_of_ble_eq_true rfl, rfl, by decide, by decide⟩ ?_
    refine c_fits4 (fun hf => ?_) (fun hf => ?_)
    · refine mv_if_ne 24 (pc := 17) d_Mo_allowed_17 (by decide) (fun _ => ?_) (fun z => absurd z (by decide))
      refine mv_aload_n (pc := 24) d_Mo_allowed_24 rfl ?_
      refine mr_geti (pc := 25) d_Mo_allowed_25 fl_Mo_110 hM.1 rfl (by decide) ?_
      refine mv_iload (pc := 28) d_Mo_allowed_28 rfl ?_
      rw [show mm_gi h 52 18 = nI lg.length from hS.2.2.2.1.1]
      refine mv_iadd (pc := 30) d_Mo_allowed_30 ?_
      refine mv_sipush (v := 400) (pc := 31) d_Mo_allowed_31 (by decide) ?_
      refine mv_ic_le 41 (pc := 34) d_Mo_allowed_34 (by decide) (fun h34 => ?_) (fun h34 => ?_)
      · refine mv_iconst (v := 0) (pc := 41) d_Mo_allowed_41 (by decide) ?_
        refine mr_puti (pc := 42) d_Mo_allowed_42 fl_Mo_69 hM.1 rfl (by decide) ⟨rfl, rfl⟩ ?_
        refine mv_aload_n (pc := 45) d_Mo_allowed_45 rfl ?_
        refine mr_geti (pc := 46) d_Mo_allowed_46 fl_Mo_69 hM.1 rfl (by decide) ?_
        rw [mm_gss]
        refine mv_if_le 54 (pc := 49) d_Mo_allowed_49 (by decide) (fun _ => ?_) (fun z => absurd z (by decide))
        have hroom2 : lg.length + 6 ≤ 400 := (mm_roomI (n := 6) (by have := hS.2.2.2.2.2; omega) (by omega)).mp h34
        refine mv_aload_n (pc := 54) d_Mo_allowed_54 rfl ?_
        refine mv_iload_n (pc := 55) d_Mo_allowed_55 rfl ?_
        refine mr_callV1 (pc := 56) d_Mo_allowed_56 (d2 := (0, 0)) ok_Mo_add li_Mo_113 sv_Mo_add hM.1 ⟨by decide, rfl⟩ ⟨by decide, rfl, Nat.le_of_ble_eq_true rfl, rfl, by decide, by decide⟩ ?_
        refine c_madd (h := mm_si h 52 0 0) hM (hS.code 0) (by omega) (fun F1 s1 c1 o1 => ?_)
        rw [← mm_e1] at s1
        refine mv_aload_n (pc := 59) d_Mo_allowed_59 rfl ?_
        refine mv_iload_n (pc := 60) d_Mo_allowed_60 rfl ?_
        refine mr_callV1 (pc := 61) d_Mo_allowed_61 (d2 := (1, 21)) ok_Mo_addHandle li_Mo_116 sv_Mo_addHandle hM.1 ⟨by decide, rfl⟩ ⟨by decide, rfl, Nat.le_of_ble_eq_true rfl, rfl, by decide, by decide⟩ ?_
        refine c_maddH (h := mm_wi h F1) hM s1 (by rw [List.length_append, mm_enc_len]; omega) (fun F2 s2 c2 o2 => ?_)
        refine mv_aload_n (pc := 64) d_Mo_allowed_64 rfl ?_
        refine mv_iconst (v := 0) (pc := 65) d_Mo_allowed_65 (by decide) ?_
        refine mv_iload_n (pc := 66) d_Mo_allowed_66 rfl ?_
        refine mv_iload_n (pc := 67) d_Mo_allowed_67 rfl ?_
        refine mv_iload_n (pc := 68) d_Mo_allowed_68 rfl ?_
        refine mv_iload (pc := 69) d_Mo_allowed_69 rfl ?_
        refine mr_callV5 (pc := 71) d_Mo_allowed_71 (d2 := (3, 70)) ok_Mo_act li_Mo_119 sv_Mo_act hM.1 ⟨by decide, rfl⟩ ⟨by decide, rfl, rfl, rfl, rfl, rfl, Nat.le_of_ble_eq_true rfl, rfl, by decide, by decide⟩ ?_
        refine c_act4 (k := 0) (h := mm_wi h F2) (by omega) hM s2.1 hW hi hx (fun hno => ?_) (fun F3 _ _ r3 f3 => ?_)
        · refine mv_iret (pc := 74) d_Mo_allowed_74 rfl rfl ?_
          exact absurd ⟨hg, hf⟩ hno
        · refine mv_iret (pc := 74) d_Mo_allowed_74 rfl rfl ?_
          refine hq F3 hg hf hroom2 (MS.world (E := E) s2 r3 (s2.2.1.off fun a j h1 h2 => f3 a j (by omega)) (fun j => f3 52 j (by omega)) (fun a j ha => f3 a j (by omega))) ?_ ?_
          · rw [f3 52 0 (by omega)]; exact c2.trans (c1.trans (by simp [mm_gsi]))
          · exact ((mm_ofr.rfl'.cd 0 0).trans (o1.trans o2)).trans f3.s.o
      · refine mv_iconst (v := 2) (pc := 37) d_Mo_allowed_37 (by decide) ?_
        refine mv_goto 42 (pc := 38) d_Mo_allowed_38 (by decide) ?_
        refine mr_puti (pc := 42) d_Mo_allowed_42 fl_Mo_69 hM.1 rfl (by decide) ⟨rfl, rfl⟩ ?_
        refine mv_aload_n (pc := 45) d_Mo_allowed_45 rfl ?_
        refine mr_geti (pc := 46) d_Mo_allowed_46 fl_Mo_69 hM.1 rfl (by decide) ?_
        rw [mm_gss]
        refine mv_if_le 54 (pc := 49) d_Mo_allowed_49 (by decide) (fun z => absurd z (by decide)) (fun _ => ?_)
        refine mv_iconst (v := 0) (pc := 52) d_Mo_allowed_52 (by decide) ?_
        refine mv_iret (pc := 53) d_Mo_allowed_53 rfl rfl ?_
        exact hq2 _ hg hf (fun z => h34 ((mm_roomI (n := 6) (by have := hS.2.2.2.2.2; omega) (by omega)).mpr z)) (hS.code 2) (by simp [mm_u2]) (mm_ofr.rfl'.cd 0 2)
    · refine mv_if_ne 24 (pc := 17) d_Mo_allowed_17 (by decide) (fun z => absurd z (by decide)) (fun _ => ?_)
      refine mv_iconst (v := 1) (pc := 20) d_Mo_allowed_20 (by decide) ?_
      refine mv_goto 42 (pc := 21) d_Mo_allowed_21 (by decide) ?_
      refine mr_puti (pc := 42) d_Mo_allowed_42 fl_Mo_69 hM.1 rfl (by decide) ⟨rfl, rfl⟩ ?_
      refine mv_aload_n (pc := 45) d_Mo_allowed_45 rfl ?_
      refine mr_geti (pc := 46) d_Mo_allowed_46 fl_Mo_69 hM.1 rfl (by decide) ?_
      rw [mm_gss]
      refine mv_if_le 54 (pc := 49) d_Mo_allowed_49 (by decide) (fun z => absurd z (by decide)) (fun _ => ?_)
      refine mv_iconst (v := 0) (pc := 52) d_Mo_allowed_52 (by decide) ?_
      refine mv_iret (pc := 53) d_Mo_allowed_53 rfl rfl ?_
      exact hq1 _ (fun z => hf z.2) (hS.code 1) (by simp [mm_u2]) (mm_ofr.rfl'.cd 0 1)
  · refine mv_if_lt 20 (pc := 7) d_Mo_allowed_7 (by decide) (fun _ => ?_) (fun z => absurd z (by decide))
    refine mv_iconst (v := 1) (pc := 20) d_Mo_allowed_20 (by decide) ?_
    refine mv_goto 42 (pc := 21) d_Mo_allowed_21 (by decide) ?_
    refine mr_puti (pc := 42) d_Mo_allowed_42 fl_Mo_69 hM.1 rfl (by decide) ⟨rfl, rfl⟩ ?_
    refine mv_aload_n (pc := 45) d_Mo_allowed_45 rfl ?_
    refine mr_geti (pc := 46) d_Mo_allowed_46 fl_Mo_69 hM.1 rfl (by decide) ?_
    rw [mm_gss]
    refine mv_if_le 54 (pc := 49) d_Mo_allowed_49 (by decide) (fun z => absurd z (by decide)) (fun _ => ?_)
    refine mv_iconst (v := 0) (pc := 52) d_Mo_allowed_52 (by decide) ?_
    refine mv_iret (pc := 53) d_Mo_allowed_53 rfl rfl ?_
    exact hq1 _ (fun z => hg z.1) (hS.code 1) (by simp [mm_u2]) (mm_ofr.rfl'.cd 0 1)
set_option maxRecDepth 20000 in
theorem c_allowed5 {G : mm_G} {Q : mm_O → mm_H → Prop} {h : mm_H} {i : Nat} {x b c : Int32} {A : mm_W} {E : mm_E} {sv lg : List Int32} (hM : mm_Mo h) (hS : MS (mm_gi h) A E sv lg) (hW : WF A) (hi : i < 16) (hx : x &&& 15 = nI i) (hq1 : ∀ F', ¬ (a_good A x i ∧ a_fit 5 b c) → MS F' A E sv lg → F' 52 0 = 1 → mm_ofr (mm_gi h) F' → Q (.inl (some (.int 0))) (mm_wi h F')) (hq2 : ∀ F', a_good A x i → a_fit 5 b c → ¬ lg.length + 6 ≤ 400 → MS F' A E sv lg → F' 52 0 = 2 → mm_ofr (mm_gi h) F' → Q (.inl (some (.int 0))) (mm_wi h F')) (hq : ∀ F', a_good A x i → a_fit 5 b c → lg.length + 6 ≤ 400 → MS F' (a_ord A 5 i b c) E sv (lg ++ mm_enc 5 1 ++ mm_enc x 3) → F' 52 0 = 0 → mm_ofr (mm_gi h) F' → Q (.inl (some (.int 1))) (mm_wi h F')) : mm_V G (4, 97) M_Mo_allowed Q 0 (mm_ent 6 [.ref 52, .int x, .int 5, .int b, .int c, .int 6]) [] h := by
  show mm_V G (4, 97) M_Mo_allowed Q 0 [some (.ref 52), some (.int x), some (.int 5), some (.int b), some (.int c), some (.int 6)] [] h
  refine mv_aload_n (pc := 0) d_Mo_allowed_0 rfl ?_
  refine mv_aload_n (pc := 1) d_Mo_allowed_1 rfl ?_
  refine mv_iconst (v := 0) (pc := 2) d_Mo_allowed_2 (by decide) ?_
  refine mv_iload_n (pc := 3) d_Mo_allowed_3 rfl ?_
  refine mr_callV2 (pc := 4) d_Mo_allowed_4 (d2 := (0, 0)) ok_Mo_seek li_Mo_102 sv_Mo_seek hM.1 ⟨by decide, rfl⟩ ⟨by decide, rfl, rfl, Nat.le_of_ble_eq_true rfl, rfl, by decide, by decide⟩ ?_
  refine c_seek (k := 0) (by omega) hM hS.1 (hW.1 i hi).2.1.1 hi hx (fun hg => ?_) (fun hg => ?_)
  · refine mv_if_lt 20 (pc := 7) d_Mo_allowed_7 (by decide) (fun z => absurd z (nI_pos (by omega))) (fun h7 => ?_)
    refine mv_iload_n (pc := 10) d_Mo_allowed_10 rfl ?_
    refine mv_iload_n (pc := 11) d_Mo_allowed_11 rfl ?_
    refine mv_iload (pc := 12) d_Mo_allowed_12 rfl ?_
    refine mr_callS3 (pc := 14) d_Mo_allowed_14 (d2 := (0, 0)) ok_Mo_fits li_Mo_106 sv_Mo_fits ⟨by decide, rfl, rfl, rfl, Nat.le_of_ble_eq_true rfl, rfl, by decide, by decide⟩ ?_
    refine c_fits5 (fun hf => ?_) (fun hf => ?_)
    · refine mv_if_ne 24 (pc := 17) d_Mo_allowed_17 (by decide) (fun _ => ?_) (fun z => absurd z (by decide))
      refine mv_aload_n (pc := 24) d_Mo_allowed_24 rfl ?_
      refine mr_geti (pc := 25) d_Mo_allowed_25 fl_Mo_110 hM.1 rfl (by decide) ?_
      refine mv_iload (pc := 28) d_Mo_allowed_28 rfl ?_
      rw [show mm_gi h 52 18 = nI lg.length from hS.2.2.2.1.1]
      refine mv_iadd (pc := 30) d_Mo_allowed_30 ?_
      refine mv_sipush (v := 400) (pc := 31) d_Mo_allowed_31 (by decide) ?_
      refine mv_ic_le 41 (pc := 34) d_Mo_allowed_34 (by decide) (fun h34 => ?_) (fun h34 => ?_)
      · refine mv_iconst (v := 0) (pc := 41) d_Mo_allowed_41 (by decide) ?_
        refine mr_puti (pc := 42) d_Mo_allowed_42 fl_Mo_69 hM.1 rfl (by decide) ⟨rfl, rfl⟩ ?_
        refine mv_aload_n (pc := 45) d_Mo_allowed_45 rfl ?_
        refine mr_geti (pc := 46) d_Mo_allowed_46 fl_Mo_69 hM.1 rfl (by decide) ?_
        rw [mm_gss]
        refine mv_if_le 54 (pc := 49) d_Mo_allowed_49 (by decide) (fun _ => ?_) (fun z => absurd z (by decide))
        have hroom2 : lg.length + 6 ≤ 400 := (mm_roomI (n := 6) (by have := hS.2.2.2.2.2; omega) (by omega)).mp h34
        refine mv_aload_n (pc := 54) d_Mo_allowed_54 rfl ?_
        refine mv_iload_n (pc := 55) d_Mo_allowed_55 rfl ?_
        refine mr_callV1 (pc := 56) d_Mo_allowed_56 (d2 := (0, 0)) ok_Mo_add li_Mo_113 sv_Mo_add hM.1 ⟨by decide, rfl⟩ ⟨by decide, rfl, Nat.le_of_ble_eq_true rfl, rfl, by decide, by decide⟩ ?_
        refine c_madd (h := mm_si h 52 0 0) hM (hS.code 0) (by omega) (fun F1 s1 c1 o1 => ?_)
        rw [← mm_e1] at s1
        refine mv_aload_n (pc := 59) d_Mo_allowed_59 rfl ?_
        refine mv_iload_n (pc := 60) d_Mo_allowed_60 rfl ?_
        refine mr_callV1 (pc := 61) d_Mo_allowed_61 (d2 := (1, 21)) ok_Mo_addHandle li_Mo_116 sv_Mo_addHandle hM.1 ⟨by decide, rfl⟩ ⟨by decide, rfl, Nat.le_of_ble_eq_true rfl, rfl, by decide, by decide⟩ ?_
        refine c_maddH (h := mm_wi h F1) hM s1 (by rw [List.length_append, mm_enc_len]; omega) (fun F2 s2 c2 o2 => ?_)
        refine mv_aload_n (pc := 64) d_Mo_allowed_64 rfl ?_
        refine mv_iconst (v := 0) (pc := 65) d_Mo_allowed_65 (by decide) ?_
        refine mv_iload_n (pc := 66) d_Mo_allowed_66 rfl ?_
        refine mv_iload_n (pc := 67) d_Mo_allowed_67 rfl ?_
        refine mv_iload_n (pc := 68) d_Mo_allowed_68 rfl ?_
        refine mv_iload (pc := 69) d_Mo_allowed_69 rfl ?_
        refine mr_callV5 (pc := 71) d_Mo_allowed_71 (d2 := (3, 70)) ok_Mo_act li_Mo_119 sv_Mo_act hM.1 ⟨by decide, rfl⟩ ⟨by decide, rfl, rfl, rfl, rfl, rfl, Nat.le_of_ble_eq_true rfl, rfl, by decide, by decide⟩ ?_
        refine c_act5 (k := 0) (h := mm_wi h F2) (by omega) hM s2.1 hW hi hx (fun hno => ?_) (fun F3 _ _ r3 f3 => ?_)
        · refine mv_iret (pc := 74) d_Mo_allowed_74 rfl rfl ?_
          exact absurd ⟨hg, hf⟩ hno
        · refine mv_iret (pc := 74) d_Mo_allowed_74 rfl rfl ?_
          refine hq F3 hg hf hroom2 (MS.world (E := E) s2 r3 (s2.2.1.off fun a j h1 h2 => f3 a j (by omega)) (fun j => f3 52 j (by omega)) (fun a j ha => f3 a j (by omega))) ?_ ?_
          · rw [f3 52 0 (by omega)]; exact c2.trans (c1.trans (by simp [mm_gsi]))
          · exact ((mm_ofr.rfl'.cd 0 0).trans (o1.trans o2)).trans f3.s.o
      · refine mv_iconst (v := 2) (pc := 37) d_Mo_allowed_37 (by decide) ?_
        refine mv_goto 42 (pc := 38) d_Mo_allowed_38 (by decide) ?_
        refine mr_puti (pc := 42) d_Mo_allowed_42 fl_Mo_69 hM.1 rfl (by decide) ⟨rfl, rfl⟩ ?_
        refine mv_aload_n (pc := 45) d_Mo_allowed_45 rfl ?_
        refine mr_geti (pc := 46) d_Mo_allowed_46 fl_Mo_69 hM.1 rfl (by decide) ?_
        rw [mm_gss]
        refine mv_if_le 54 (pc := 49) d_Mo_allowed_49 (by decide) (fun z => absurd z (by decide)) (fun _ => ?_)
        refine mv_iconst (v := 0) (pc := 52) d_Mo_allowed_52 (by decide) ?_
        refine mv_iret (pc := 53) d_Mo_allowed_53 rfl rfl ?_
        exact hq2 _ hg hf (fun z => h34 ((mm_roomI (n := 6) (by have := hS.2.2.2.2.2; omega) (by omega)).mpr z)) (hS.code 2) (by simp [mm_u2]) (mm_ofr.rfl'.cd 0 2)
    · refine mv_if_ne 24 (pc := 17) d_Mo_allowed_17 (by decide) (fun z => absurd z (by decide)) (fun _ => ?_)
      refine mv_iconst (v := 1) (pc := 20) d_Mo_allowed_20 (by decide) ?_
      refine mv_goto 42 (pc := 21) d_Mo_allowed_21 (by decide) ?_
      refine mr_puti (pc := 42) d_Mo_allowed_42 fl_Mo_69 hM.1 rfl (by decide) ⟨rfl, rfl⟩ ?_
      refine mv_aload_n (pc := 45) d_Mo_allowed_45 rfl ?_
      refine mr_geti (pc := 46) d_Mo_allowed_46 fl_Mo_69 hM.1 rfl (by decide) ?_
      rw [mm_gss]
      refine mv_if_le 54 (pc := 49) d_Mo_allowed_49 (by decide) (fun z => absurd z (by decide)) (fun _ => ?_)
      refine mv_iconst (v := 0) (pc := 52) d_Mo_allowed_52 (by decide) ?_
      refine mv_iret (pc := 53) d_Mo_allowed_53 rfl rfl ?_
      exact hq1 _ (fun z => hf z.2) (hS.code 1) (by simp [mm_u2]) (mm_ofr.rfl'.cd 0 1)
  · refine mv_if_lt 20 (pc := 7) d_Mo_allowed_7 (by decide) (fun _ => ?_) (fun z => absurd z (by decide))
    refine mv_iconst (v := 1) (pc := 20) d_Mo_allowed_20 (by decide) ?_
    refine mv_goto 42 (pc := 21) d_Mo_allowed_21 (by decide) ?_
    refine mr_puti (pc := 42) d_Mo_allowed_42 fl_Mo_69 hM.1 rfl (by decide) ⟨rfl, rfl⟩ ?_
    refine mv_aload_n (pc := 45) d_Mo_allowed_45 rfl ?_
    refine mr_geti (pc := 46) d_Mo_allowed_46 fl_Mo_69 hM.1 rfl (by decide) ?_
    rw [mm_gss]
    refine mv_if_le 54 (pc := 49) d_Mo_allowed_49 (by decide) (fun z => absurd z (by decide)) (fun _ => ?_)
    refine mv_iconst (v := 0) (pc := 52) d_Mo_allowed_52 (by decide) ?_
    refine mv_iret (pc := 53) d_Mo_allowed_53 rfl rfl ?_
    exact hq1 _ (fun z => hg z.1) (hS.code 1) (by simp [mm_u2]) (mm_ofr.rfl'.cd 0 1)
