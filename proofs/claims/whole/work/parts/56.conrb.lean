/-! CONTRACTS: the reference: take; events as they come (rows by program: con_rb.py) -/
theorem a_okE_mt {s : mm_E × mm_W} {a b : Nat} (ha : a < 16) (hb : b < 16) (h : ∀ x ∈ s.1, x.2 < 256) : ∀ x ∈ (a_mt s a b).1, x.2 < 256 := by
  intro x hx
  have hx : x ∈ a_mtE s.1 (s.2 9 (a * 16 + b)) (a * 16 + b) (a_b (a_ov s.2 a b)) := hx
  unfold a_mtE at hx
  split at hx
  · rcases List.mem_append.mp hx with hx | hx
    · exact h x hx
    · rw [List.mem_singleton] at hx; subst hx; show a * 16 + b < 256; omega
  · split at hx
    · rcases List.mem_append.mp hx with hx | hx
      · exact h x hx
      · rw [List.mem_singleton] at hx; subst hx; show a * 16 + b < 256; omega
    · exact h x hx
theorem a_okE_row {s : mm_E × mm_W} {a : Nat} (ha : a < 16) (h : ∀ x ∈ s.1, x.2 < 256) : ∀ n, a + 1 + n ≤ 16 → ∀ x ∈ (a_row a s n).1, x.2 < 256
  | 0, _ => h
  | n + 1, hn => a_okE_mt ha (by omega) (a_okE_row ha h n (by omega))
theorem a_okE_all {s : mm_E × mm_W} (h : ∀ x ∈ s.1, x.2 < 256) : ∀ n, n ≤ 16 → ∀ x ∈ (a_all s n).1, x.2 < 256
  | 0, _ => h
  | n + 1, hn => a_okE_row (by omega) (a_okE_all h n (by omega)) _ (by omega)
theorem a_okE_of {E : mm_E} (h1 : E.length ≤ 120) (h2 : ∀ x ∈ E, x.2 < 256) : a_okE E := ⟨h1, fun j hj => by
  rw [List.getD_eq_getElem?_getD, List.getElem?_eq_getElem hj]
  exact h2 _ (List.getElem_mem hj)⟩
theorem a_okE_step (A : mm_W) : a_okE (a_step A).1 := by
  unfold a_step
  generalize a_mv (a_cd (a_put A 10 0 (if A 10 0 < 2147483647 then A 10 0 + 1 else A 10 0)) 16) 16 = B
  refine a_okE_of ?_ (a_okE_all (s := ([], B)) (fun x hx => by simp at hx) 16 (by omega))
  have h1 := a_all_len ([], B) 16
  have h2 := a_tri_le 16 (by omega)
  simp only [List.length_nil] at h1
  omega
theorem a_okE_tks {A : mm_W} {E : mm_E} (h : a_okE E) : ∀ n, a_okE (a_tks (E, A) n).1
  | 0 => h
  | n + 1 => a_okE_step _
theorem a_okE_nil : a_okE [] := ⟨by simp, fun j hj => absurd hj (by simp)⟩
theorem mm_a16 (i : Nat) : (16 : Int32) + nI i = nI (16 + i) := nI_add 16 i
theorem mm_a256 (i : Nat) : (256 : Int32) + nI i = nI (256 + i) := nI_add 256 i
theorem mm_nar01 {x : Int32} (h : x = 0 ∨ x = 1) : vp_nar .boolean x = x := by
  rcases h with rfl | rfl
  · exact mm_nar0
  · exact mm_nar1
set_option maxRecDepth 20000 in
theorem l_take1 {G : mm_G} {Q : mm_O → mm_H → Prop} {h : mm_H} (hM : mm_Mo h) (F0 : mm_W) (hf : ∀ k, k < 16 → F0 55 (16 + k) = 0 ∨ F0 55 (16 + k) = 1) (hq : ∀ F', (∀ a k, (a < 54 ∨ 62 < a ∨ 16 ≤ k) → F' a k = F0 a k) → (∀ a k, 54 ≤ a → a ≤ 62 → k < 16 → F' a k = F0 a (16 + k)) → mm_V G (0, 0) M_Mo_take Q 161 [some (.ref 52), some (.int (nI 16))] [] (mm_wi h F')) :
    ∀ (j : Nat) (F : mm_W), j ≤ 16 → (∀ a k, (a < 54 ∨ 62 < a ∨ j ≤ k) → F a k = F0 a k) ∧ (∀ a k, 54 ≤ a → a ≤ 62 → k < j → F a k = F0 a (16 + k)) → mm_V G (0, 0) M_Mo_take Q 14 [some (.ref 52), some (.int (nI j))] [] (mm_wi h F) := by
  refine mr_loop _ _ 16 (fun F hI => ?_) (fun j F hj hI ih => ?_)
  · refine mv_iload_n (pc := 14) d_Mo_take_14 rfl ?_
    refine mv_bipush (v := 16) (pc := 15) d_Mo_take_15 (by decide) ?_
    refine mv_ic_ge 161 (pc := 17) d_Mo_take_17 (by decide) (fun h17 => ?_) (fun z => absurd z (mm_ge16))
    exact hq F hI.1 hI.2
  · refine mv_iload_n (pc := 14) d_Mo_take_14 rfl ?_
    refine mv_bipush (v := 16) (pc := 15) d_Mo_take_15 (by decide) ?_
    refine mv_ic_ge 161 (pc := 17) d_Mo_take_17 (by decide) (fun z => absurd z (mm_lt16 hj)) (fun h17 => ?_)
    refine mv_aload_n (pc := 20) d_Mo_take_20 rfl ?_
    refine mr_getr (pc := 21) d_Mo_take_21 fl_Mo_13 hM.1 rfl (by decide) hM.g_generation ?_
    refine mv_iload_n (pc := 24) d_Mo_take_24 rfl ?_
    refine mv_aload_n (pc := 25) d_Mo_take_25 rfl ?_
    refine mr_getr (pc := 26) d_Mo_take_26 fl_Mo_13 hM.1 rfl (by decide) hM.g_generation ?_
    refine mv_bipush (v := 16) (pc := 29) d_Mo_take_29 (by decide) ?_
    refine mv_iload_n (pc := 31) d_Mo_take_31 rfl ?_
    refine mv_iadd (pc := 32) d_Mo_take_32 ?_
    rw [mm_a16]
    refine mr_iald (pc := 33) d_Mo_take_33 hM.a_generation (mm_inN (by omega) (by decide)) ?_
    refine mr_iast (pc := 34) d_Mo_take_34 hM.a_generation (mm_inN (by omega) (by decide)) ?_
    refine mv_aload_n (pc := 35) d_Mo_take_35 rfl ?_
    refine mr_getr (pc := 36) d_Mo_take_36 fl_Mo_16 hM.1 rfl (by decide) hM.g_full ?_
    refine mv_iload_n (pc := 39) d_Mo_take_39 rfl ?_
    refine mv_aload_n (pc := 40) d_Mo_take_40 rfl ?_
    refine mr_getr (pc := 41) d_Mo_take_41 fl_Mo_16 hM.1 rfl (by decide) hM.g_full ?_
    refine mv_bipush (v := 16) (pc := 44) d_Mo_take_44 (by decide) ?_
    refine mv_iload_n (pc := 46) d_Mo_take_46 rfl ?_
    refine mv_iadd (pc := 47) d_Mo_take_47 ?_
    rw [mm_a16]
    refine mr_zald (pc := 48) d_Mo_take_48 hM.a_full (mm_inN (by omega) (by decide)) ?_
    refine mr_zast (pc := 49) d_Mo_take_49 hM.a_full (mm_inN (by omega) (by decide)) ?_
    refine mv_aload_n (pc := 50) d_Mo_take_50 rfl ?_
    refine mr_getr (pc := 51) d_Mo_take_51 fl_Mo_20 hM.1 rfl (by decide) hM.g_px ?_
    refine mv_iload_n (pc := 54) d_Mo_take_54 rfl ?_
    refine mv_aload_n (pc := 55) d_Mo_take_55 rfl ?_
    refine mr_getr (pc := 56) d_Mo_take_56 fl_Mo_20 hM.1 rfl (by decide) hM.g_px ?_
    refine mv_bipush (v := 16) (pc := 59) d_Mo_take_59 (by decide) ?_
    refine mv_iload_n (pc := 61) d_Mo_take_61 rfl ?_
    refine mv_iadd (pc := 62) d_Mo_take_62 ?_
    rw [mm_a16]
    refine mr_iald (pc := 63) d_Mo_take_63 hM.a_px (mm_inN (by omega) (by decide)) ?_
    refine mr_iast (pc := 64) d_Mo_take_64 hM.a_px (mm_inN (by omega) (by decide)) ?_
    refine mv_aload_n (pc := 65) d_Mo_take_65 rfl ?_
    refine mr_getr (pc := 66) d_Mo_take_66 fl_Mo_23 hM.1 rfl (by decide) hM.g_py ?_
    refine mv_iload_n (pc := 69) d_Mo_take_69 rfl ?_
    refine mv_aload_n (pc := 70) d_Mo_take_70 rfl ?_
    refine mr_getr (pc := 71) d_Mo_take_71 fl_Mo_23 hM.1 rfl (by decide) hM.g_py ?_
    refine mv_bipush (v := 16) (pc := 74) d_Mo_take_74 (by decide) ?_
    refine mv_iload_n (pc := 76) d_Mo_take_76 rfl ?_
    refine mv_iadd (pc := 77) d_Mo_take_77 ?_
    rw [mm_a16]
    refine mr_iald (pc := 78) d_Mo_take_78 hM.a_py (mm_inN (by omega) (by decide)) ?_
    refine mr_iast (pc := 79) d_Mo_take_79 hM.a_py (mm_inN (by omega) (by decide)) ?_
    refine mv_aload_n (pc := 80) d_Mo_take_80 rfl ?_
    refine mr_getr (pc := 81) d_Mo_take_81 fl_Mo_26 hM.1 rfl (by decide) hM.g_sx ?_
    refine mv_iload_n (pc := 84) d_Mo_take_84 rfl ?_
    refine mv_aload_n (pc := 85) d_Mo_take_85 rfl ?_
    refine mr_getr (pc := 86) d_Mo_take_86 fl_Mo_26 hM.1 rfl (by decide) hM.g_sx ?_
    refine mv_bipush (v := 16) (pc := 89) d_Mo_take_89 (by decide) ?_
    refine mv_iload_n (pc := 91) d_Mo_take_91 rfl ?_
    refine mv_iadd (pc := 92) d_Mo_take_92 ?_
    rw [mm_a16]
    refine mr_iald (pc := 93) d_Mo_take_93 hM.a_sx (mm_inN (by omega) (by decide)) ?_
    refine mr_iast (pc := 94) d_Mo_take_94 hM.a_sx (mm_inN (by omega) (by decide)) ?_
    refine mv_aload_n (pc := 95) d_Mo_take_95 rfl ?_
    refine mr_getr (pc := 96) d_Mo_take_96 fl_Mo_29 hM.1 rfl (by decide) hM.g_sy ?_
    refine mv_iload_n (pc := 99) d_Mo_take_99 rfl ?_
    refine mv_aload_n (pc := 100) d_Mo_take_100 rfl ?_
    refine mr_getr (pc := 101) d_Mo_take_101 fl_Mo_29 hM.1 rfl (by decide) hM.g_sy ?_
    refine mv_bipush (v := 16) (pc := 104) d_Mo_take_104 (by decide) ?_
    refine mv_iload_n (pc := 106) d_Mo_take_106 rfl ?_
    refine mv_iadd (pc := 107) d_Mo_take_107 ?_
    rw [mm_a16]
    refine mr_iald (pc := 108) d_Mo_take_108 hM.a_sy (mm_inN (by omega) (by decide)) ?_
    refine mr_iast (pc := 109) d_Mo_take_109 hM.a_sy (mm_inN (by omega) (by decide)) ?_
    refine mv_aload_n (pc := 110) d_Mo_take_110 rfl ?_
    refine mr_getr (pc := 111) d_Mo_take_111 fl_Mo_32 hM.1 rfl (by decide) hM.g_wide ?_
    refine mv_iload_n (pc := 114) d_Mo_take_114 rfl ?_
    refine mv_aload_n (pc := 115) d_Mo_take_115 rfl ?_
    refine mr_getr (pc := 116) d_Mo_take_116 fl_Mo_32 hM.1 rfl (by decide) hM.g_wide ?_
    refine mv_bipush (v := 16) (pc := 119) d_Mo_take_119 (by decide) ?_
    refine mv_iload_n (pc := 121) d_Mo_take_121 rfl ?_
    refine mv_iadd (pc := 122) d_Mo_take_122 ?_
    rw [mm_a16]
    refine mr_iald (pc := 123) d_Mo_take_123 hM.a_wide (mm_inN (by omega) (by decide)) ?_
    refine mr_iast (pc := 124) d_Mo_take_124 hM.a_wide (mm_inN (by omega) (by decide)) ?_
    refine mv_aload_n (pc := 125) d_Mo_take_125 rfl ?_
    refine mr_getr (pc := 126) d_Mo_take_126 fl_Mo_35 hM.1 rfl (by decide) hM.g_high ?_
    refine mv_iload_n (pc := 129) d_Mo_take_129 rfl ?_
    refine mv_aload_n (pc := 130) d_Mo_take_130 rfl ?_
    refine mr_getr (pc := 131) d_Mo_take_131 fl_Mo_35 hM.1 rfl (by decide) hM.g_high ?_
    refine mv_bipush (v := 16) (pc := 134) d_Mo_take_134 (by decide) ?_
    refine mv_iload_n (pc := 136) d_Mo_take_136 rfl ?_
    refine mv_iadd (pc := 137) d_Mo_take_137 ?_
    rw [mm_a16]
    refine mr_iald (pc := 138) d_Mo_take_138 hM.a_high (mm_inN (by omega) (by decide)) ?_
    refine mr_iast (pc := 139) d_Mo_take_139 hM.a_high (mm_inN (by omega) (by decide)) ?_
    refine mv_aload_n (pc := 140) d_Mo_take_140 rfl ?_
    refine mr_getr (pc := 141) d_Mo_take_141 fl_Mo_38 hM.1 rfl (by decide) hM.g_left ?_
    refine mv_iload_n (pc := 144) d_Mo_take_144 rfl ?_
    refine mv_aload_n (pc := 145) d_Mo_take_145 rfl ?_
    refine mr_getr (pc := 146) d_Mo_take_146 fl_Mo_38 hM.1 rfl (by decide) hM.g_left ?_
    refine mv_bipush (v := 16) (pc := 149) d_Mo_take_149 (by decide) ?_
    refine mv_iload_n (pc := 151) d_Mo_take_151 rfl ?_
    refine mv_iadd (pc := 152) d_Mo_take_152 ?_
    rw [mm_a16]
    refine mr_iald (pc := 153) d_Mo_take_153 hM.a_left (mm_inN (by omega) (by decide)) ?_
    refine mr_iast (pc := 154) d_Mo_take_154 hM.a_left (mm_inN (by omega) (by decide)) ?_
    rw [mm_cl (n := 16 + j) (by omega), mm_cl (n := j) (by omega)]
    refine mv_iinc (pc := 155) d_Mo_take_155 rfl rfl (by decide) ?_
    refine mv_goto 14 (pc := 158) d_Mo_take_158 (by decide) ?_
    have n16 : ¬ (16 + j = j) := by omega
    refine mm_V_ls (ls' := [some (.ref 52), some (.int (nI (j + 1)))]) (by simp only [List.set]; rw [nI_succ]; rfl) (ih _ ⟨fun a k ha => ?_, fun a k h1 h2 h3 => ?_⟩)
    · have nn : ∀ q, 54 ≤ q → q ≤ 62 → ¬ (a = q ∧ k = j) := fun q q1 q2 => by omega
      simp only [mm_usi, mm_uwi, mm_u2, nn 54 (by omega) (by omega), nn 55 (by omega) (by omega), nn 56 (by omega) (by omega), nn 57 (by omega) (by omega), nn 58 (by omega) (by omega), nn 59 (by omega) (by omega), nn 60 (by omega) (by omega), nn 61 (by omega) (by omega), nn 62 (by omega) (by omega), if_false]
      exact hI.1 a k (by omega)
    · by_cases e : k = j
      · subst e
        have hv : ∀ q, 54 ≤ q → q ≤ 62 → F q (16 + k) = F0 q (16 + k) := fun q q1 q2 => hI.1 q (16 + k) (by omega)
        have hb := mm_nar01 (hf k hj)
        have hc : a = 54 ∨ a = 55 ∨ a = 56 ∨ a = 57 ∨ a = 58 ∨ a = 59 ∨ a = 60 ∨ a = 61 ∨ a = 62 := by omega
        rcases hc with rfl | rfl | rfl | rfl | rfl | rfl | rfl | rfl | rfl <;> simp [mm_usi, mm_uwi, mm_u2, mm_gsi, mm_gwi, n16, hv, hb]
      · have nn : ∀ q, ¬ (a = q ∧ k = j) := fun q z => e z.2
        simp only [mm_usi, mm_uwi, mm_u2, nn, if_false]
        exact hI.2 a k h1 h2 (by omega)
set_option maxRecDepth 20000 in
theorem l_take2 {G : mm_G} {Q : mm_O → mm_H → Prop} {h : mm_H} (hM : mm_Mo h) (F0 : mm_W) (hf : ∀ k, k < 256 → F0 63 (256 + k) = 0 ∨ F0 63 (256 + k) = 1) (hq : ∀ F', (∀ a k, (a ≠ 63 ∨ 256 ≤ k) → F' a k = F0 a k) → (∀ k, k < 256 → F' 63 k = F0 63 (256 + k)) → Q (.inl none) (mm_wi h F')) :
    ∀ (j : Nat) (F : mm_W), j ≤ 256 → (∀ a k, (a ≠ 63 ∨ j ≤ k) → F a k = F0 a k) ∧ (∀ k, k < j → F 63 k = F0 63 (256 + k)) → mm_V G (0, 0) M_Mo_take Q 163 [some (.ref 52), some (.int (nI j))] [] (mm_wi h F) := by
  refine mr_loop _ _ 256 (fun F hI => ?_) (fun j F hj hI ih => ?_)
  · refine mv_iload_n (pc := 163) d_Mo_take_163 rfl ?_
    refine mv_sipush (v := 256) (pc := 164) d_Mo_take_164 (by decide) ?_
    refine mv_ic_ge 192 (pc := 167) d_Mo_take_167 (by decide) (fun h167 => ?_) (fun z => absurd z (mm_ge256))
    refine mv_ret (pc := 192) d_Mo_take_192 rfl ?_
    exact hq F hI.1 hI.2
  · refine mv_iload_n (pc := 163) d_Mo_take_163 rfl ?_
    refine mv_sipush (v := 256) (pc := 164) d_Mo_take_164 (by decide) ?_
    refine mv_ic_ge 192 (pc := 167) d_Mo_take_167 (by decide) (fun z => absurd z (mm_lt256 hj)) (fun h167 => ?_)
    refine mv_aload_n (pc := 170) d_Mo_take_170 rfl ?_
    refine mr_getr (pc := 171) d_Mo_take_171 fl_Mo_41 hM.1 rfl (by decide) hM.g_touch ?_
    refine mv_iload_n (pc := 174) d_Mo_take_174 rfl ?_
    refine mv_aload_n (pc := 175) d_Mo_take_175 rfl ?_
    refine mr_getr (pc := 176) d_Mo_take_176 fl_Mo_41 hM.1 rfl (by decide) hM.g_touch ?_
    refine mv_sipush (v := 256) (pc := 179) d_Mo_take_179 (by decide) ?_
    refine mv_iload_n (pc := 182) d_Mo_take_182 rfl ?_
    refine mv_iadd (pc := 183) d_Mo_take_183 ?_
    rw [mm_a256]
    refine mr_zald (pc := 184) d_Mo_take_184 hM.a_touch (mm_inN (by omega) (by decide)) ?_
    rw [mm_cl (n := 256 + j) (by omega), show mm_gi (mm_wi h F) 63 (256 + j) = F0 63 (256 + j) from hI.1 63 (256 + j) (by omega)]
    refine mr_zast (pc := 185) d_Mo_take_185 hM.a_touch (mm_inN (by omega) (by decide)) ?_
    rw [mm_cl (n := j) (by omega), mm_nar01 (hf j hj)]
    refine mv_iinc (pc := 186) d_Mo_take_186 rfl rfl (by decide) ?_
    refine mv_goto 163 (pc := 189) d_Mo_take_189 (by decide) ?_
    refine mm_V_ls (ls' := [some (.ref 52), some (.int (nI (j + 1)))]) (by simp only [List.set]; rw [nI_succ]; rfl) (ih _ ⟨fun a k ha => ?_, fun k hk => ?_⟩)
    · have nn : ¬ (a = 63 ∧ k = j) := by omega
      simp only [mm_usi, mm_uwi, mm_u2, nn, if_false]
      exact hI.1 a k (by omega)
    · by_cases e : k = j
      · subst e; simp [mm_u2]
      · simp only [mm_usi, mm_uwi, mm_u2, e, and_false, if_false]; exact hI.2 k (by omega)
set_option maxRecDepth 20000 in
theorem c_take {G : mm_G} {Q : mm_O → mm_H → Prop} {h : mm_H} {A : mm_W} (hM : mm_Mo h) (hR : RM (mm_gi h) 1 A) (hW : WF A) (hq : ∀ F', RM F' 0 A → mm_mfr 0 (mm_gi h) F' → Q (.inl none) (mm_wi h F')) : mm_V G (0, 0) M_Mo_take Q 0 (mm_ent 2 [.ref 52]) [] h := by
  show mm_V G (0, 0) M_Mo_take Q 0 [some (.ref 52), none] [] h
  refine mv_aload_n (pc := 0) d_Mo_take_0 rfl ?_
  refine mr_getr (pc := 1) d_Mo_take_1 fl_Mo_7 hM.1 rfl (by decide) hM.g_clocks ?_
  refine mv_iconst (v := 0) (pc := 4) d_Mo_take_4 (by decide) ?_
  refine mv_aload_n (pc := 5) d_Mo_take_5 rfl ?_
  refine mr_getr (pc := 6) d_Mo_take_6 fl_Mo_7 hM.1 rfl (by decide) hM.g_clocks ?_
  refine mv_iconst (v := 1) (pc := 9) d_Mo_take_9 (by decide) ?_
  refine mr_iald (pc := 10) d_Mo_take_10 hM.a_clocks (mm_inN (n := 1) (by omega) (by decide)) ?_
  rw [show mm_gi h 53 (1 : Int32).toNatClampNeg = A 10 0 from hR.1]
  refine mr_iast (pc := 11) d_Mo_take_11 hM.a_clocks (mm_inN (n := 0) (by omega) (by decide)) ?_
  rw [show (0 : Int32).toNatClampNeg = 0 from rfl]
  refine mv_iconst (v := 0) (pc := 12) d_Mo_take_12 (by decide) ?_
  refine mv_istore_n (pc := 13) d_Mo_take_13 (by decide) ?_
  have rs := hR.2.1
  have rt := hR.2.2
  simp only [Nat.mul_one] at rs rt
  refine l_take1 (h := h) hM (mm_u2 (mm_gi h) 53 0 (A 10 0)) (fun k hk => ?_) (fun F1 g1 g2 => ?_) 0 _ (by omega) ⟨fun a k ha => rfl, fun a k h1 h2 h3 => absurd h3 (by omega)⟩
  · simp only [mm_u2]; simp; rw [(rs k hk).2.1]; exact (hW.1 k hk).1
  · refine mv_iconst (v := 0) (pc := 161) d_Mo_take_161 (by decide) ?_
    refine mv_istore_n (pc := 162) d_Mo_take_162 (by decide) ?_
    refine l_take2 (h := h) hM F1 (fun k hk => ?_) (fun F2 e1 e2 => hq F2 ⟨?_, fun i hi => ⟨?_, ?_, fun z f f1 f2 => ?_⟩, fun p hp => ?_⟩ (fun a j ha => ?_)) 0 F1 (by omega) ⟨fun a k ha => rfl, fun k hk => absurd hk (by omega)⟩
    · rw [g1 63 _ (by omega)]; simp only [mm_u2]; simp; rw [rt k hk]; exact (hW.2.2 k hk).1
    · rw [e1 53 0 (by omega), g1 53 0 (by omega)]; simp [mm_u2]
    · rw [Nat.mul_zero, Nat.zero_add, e1 54 i (by omega), g2 54 i (by omega) (by omega) hi]; simp only [mm_u2]; simp; exact (rs i hi).1
    · rw [Nat.mul_zero, Nat.zero_add, e1 55 i (by omega), g2 55 i (by omega) (by omega) hi]; simp only [mm_u2]; simp; exact (rs i hi).2.1
    · have n9 : ¬ (54 + f = 53) := by omega
      rw [Nat.mul_zero, Nat.zero_add, e1 (54 + f) i (by omega), g2 (54 + f) i (by omega) (by omega) hi]
      simp only [mm_u2, n9, false_and, if_false]
      exact (rs i hi).2.2 z f f1 f2
    · rw [Nat.mul_zero, Nat.zero_add, e2 p hp, g1 63 _ (by omega)]; simp only [mm_u2]; simp; exact rt p hp
    · rw [e1 a j (by omega), g1 a j (by omega)]
      have n9 : ¬ (a = 53 ∧ j = 0) := by omega
      simp only [mm_u2, n9, if_false]
