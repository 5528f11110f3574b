/-! CONTRACTS: the reference: restore: the pairs are forgotten; the comparison (rows by program: con_re.py) -/
theorem a_encW_like {A B : mm_W} (e : a_like A B) : a_encW A = a_encW B := by
  have h1 : a_sls A 16 = a_sls B 16 := by
    have key : ∀ n, n ≤ 16 → a_sls A n = a_sls B n := by
      intro n
      induction n with
      | zero => intro _; rfl
      | succ n ih =>
        intro hn
        obtain ⟨d1, d2, d3⟩ := e.2.1 n (by omega)
        simp only [a_sls]
        rw [ih (by omega), a_encR_eq (f := fun k => A k n) (g := fun k => B k n) d1 d2 (fun z k k1 k2 => d3 z k k1 k2)]
    exact key 16 (Nat.le_refl _)
  have h2 : a_body A = a_body B := by
    unfold a_body
    rw [h1, e.1, a_cnt_eq 256 e.2.2, a_prs_eq 256 e.2.2]
  unfold a_encW
  rw [h2]
theorem mm_512 : (512 : Int32) = nI (256 * 1 + 256) := rfl
set_option maxRecDepth 20000 in
theorem l_rstT {G : mm_G} {Q : mm_O → mm_H → Prop} {h : mm_H} {q9 : Int32} (hM : mm_Mo h) (F0 : mm_W) (hq : ∀ F', (∀ a k, (a ≠ 63 ∨ k < 256) → F' a k = F0 a k) → (∀ k, k < 256 → F' 63 (256 * 1 + k) = 0) → mm_V G (3, 69) M_Mo_restore Q 89 [some (.ref 52), some (.int q9), some (.int (nI (256 * 1 + 256))), none, none] [] (mm_wi h F')) :
    ∀ (j : Nat) (F : mm_W), j ≤ 256 → (∀ a k, (a ≠ 63 ∨ k < 256) → F a k = F0 a k) ∧ (∀ k, k < j → F 63 (256 * 1 + k) = 0) → mm_V G (3, 69) M_Mo_restore Q 69 [some (.ref 52), some (.int q9), some (.int (nI (256 * 1 + j))), none, none] [] (mm_wi h F) := by
  refine mr_loop _ _ 256 (fun F hI => ?_) (fun j F hj hI ih => ?_)
  · refine mv_iload_n (pc := 69) d_Mo_restore_69 rfl ?_
    refine mv_sipush (v := 512) (pc := 70) d_Mo_restore_70 (by decide) ?_
    rw [mm_512]
    refine mv_ic_ge 89 (pc := 73) d_Mo_restore_73 (by decide) (fun h73 => ?_) (fun z => absurd z (fun z => z (nI_le (by omega) (by omega))))
    exact hq F hI.1 hI.2
  · refine mv_iload_n (pc := 69) d_Mo_restore_69 rfl ?_
    refine mv_sipush (v := 512) (pc := 70) d_Mo_restore_70 (by decide) ?_
    rw [mm_512]
    refine mv_ic_ge 89 (pc := 73) d_Mo_restore_73 (by decide) (fun z => absurd z (nI_ge (by omega) (by omega))) (fun h73 => ?_)
    refine mv_aload_n (pc := 76) d_Mo_restore_76 rfl ?_
    refine mr_getr (pc := 77) d_Mo_restore_77 fl_Mo_41 hM.1 rfl (by decide) hM.g_touch ?_
    refine mv_iload_n (pc := 80) d_Mo_restore_80 rfl ?_
    refine mv_iconst (v := 0) (pc := 81) d_Mo_restore_81 (by decide) ?_
    refine mr_zast (pc := 82) d_Mo_restore_82 hM.a_touch (mm_inN (by omega) (by decide)) ?_
    rw [mm_cl (n := 256 * 1 + j) (by omega), mm_nar0]
    refine mv_iinc (pc := 83) d_Mo_restore_83 rfl rfl (by decide) ?_
    refine mv_goto 69 (pc := 86) d_Mo_restore_86 (by decide) ?_
    refine mm_V_ls (ls' := [some (.ref 52), some (.int q9), some (.int (nI (256 * 1 + (j + 1)))), none, none]) (by simp only [List.set]; rw [← Nat.add_assoc, nI_succ]; rfl) (ih _ ⟨fun a k ha => ?_, fun k hk => ?_⟩)
    · have n1 : ¬ (a = 63 ∧ k = 256 * 1 + j) := by omega
      simp only [mm_usi, mm_uwi, mm_u2, n1, if_false]
      exact hI.1 a k ha
    · by_cases e : k = j
      · subst e; simp [mm_u2]
      · have n1 : ¬ (256 * 1 + k = 256 * 1 + j) := by omega
        simp only [mm_usi, mm_uwi, mm_u2, n1, and_false, if_false]
        exact hI.2 k (by omega)
set_option maxRecDepth 20000 in
theorem l_cmp0 {G : mm_G} {Q : mm_O → mm_H → Prop} {h : mm_H} {q9 q8 : Int32} {j : Nat} {F : mm_W} (hM : mm_Mo h) (hq : Q (.inl (some (.int 0))) (mm_wi h F)) : mm_V G (3, 69) M_Mo_restore Q 232 [some (.ref 52), some (.int q9), some (.int q8), some (.int 0), some (.int (nI j))] [] (mm_wi h F) := by
  refine mv_iload (pc := 232) d_Mo_restore_232 rfl ?_
  refine mv_aload_n (pc := 234) d_Mo_restore_234 rfl ?_
  refine mr_geti (pc := 235) d_Mo_restore_235 fl_Mo_126 hM.1 rfl (by decide) ?_
  refine mv_ic_ge 274 (pc := 238) d_Mo_restore_238 (by decide) (fun h238 => ?_) (fun h238 => ?_)
  · refine mv_iload_n (pc := 274) d_Mo_restore_274 rfl ?_
    refine mv_iret (pc := 275) d_Mo_restore_275 rfl rfl ?_
    exact hq
  · refine mv_iload_n (pc := 241) d_Mo_restore_241 rfl ?_
    refine mv_if_eq 274 (pc := 242) d_Mo_restore_242 (by decide) (fun _ => ?_) (fun z => absurd z (by decide))
    refine mv_iload_n (pc := 274) d_Mo_restore_274 rfl ?_
    refine mv_iret (pc := 275) d_Mo_restore_275 rfl rfl ?_
    exact hq
set_option maxRecDepth 20000 in
theorem l_cmp {G : mm_G} {Q : mm_O → mm_H → Prop} {h : mm_H} {q9 q8 : Int32} {ds sv : List Int32} (hM : mm_Mo h) (F : mm_W) (hD : DR F ds) (hV : SVs F sv) (hl : sv.length ≤ 336) (he : ds.length = sv.length) (hq1 : ds = sv → Q (.inl (some (.int 1))) (mm_wi h F)) (hq0 : ¬ ds = sv → Q (.inl (some (.int 0))) (mm_wi h F)) :
    ∀ (j : Nat) (_ : Unit), j ≤ ds.length → (∀ i, i < j → ds.getD i 0 = sv.getD i 0) → mm_V G (3, 69) M_Mo_restore Q 232 [some (.ref 52), some (.int q9), some (.int q8), some (.int 1), some (.int (nI j))] [] (mm_wi h F) := by
  refine mr_loop _ _ ds.length (fun _ hI => ?_) (fun j _ hj hI ih => ?_)
  · have hs : ds = sv := by
      refine List.ext_getElem he (fun i h1 h2 => ?_)
      have := hI i h1
      simpa [List.getD_eq_getElem?_getD, h1, h2] using this
    refine mv_iload (pc := 232) d_Mo_restore_232 rfl ?_
    refine mv_aload_n (pc := 234) d_Mo_restore_234 rfl ?_
    refine mr_geti (pc := 235) d_Mo_restore_235 fl_Mo_126 hM.1 rfl (by decide) ?_
    rw [show mm_gi (mm_wi h F) 52 20 = nI ds.length from hD.1]
    refine mv_ic_ge 274 (pc := 238) d_Mo_restore_238 (by decide) (fun h238 => ?_) (fun z => absurd z (fun z => z (nI_le (by omega) (by omega))))
    refine mv_iload_n (pc := 274) d_Mo_restore_274 rfl ?_
    refine mv_iret (pc := 275) d_Mo_restore_275 rfl rfl ?_
    exact hq1 hs
  · refine mv_iload (pc := 232) d_Mo_restore_232 rfl ?_
    refine mv_aload_n (pc := 234) d_Mo_restore_234 rfl ?_
    refine mr_geti (pc := 235) d_Mo_restore_235 fl_Mo_126 hM.1 rfl (by decide) ?_
    rw [show mm_gi (mm_wi h F) 52 20 = nI ds.length from hD.1]
    refine mv_ic_ge 274 (pc := 238) d_Mo_restore_238 (by decide) (fun z => absurd z (nI_ge (by omega) (by omega))) (fun h238 => ?_)
    refine mv_iload_n (pc := 241) d_Mo_restore_241 rfl ?_
    refine mv_if_eq 274 (pc := 242) d_Mo_restore_242 (by decide) (fun z => absurd z (by decide)) (fun _ => ?_)
    refine mv_aload_n (pc := 245) d_Mo_restore_245 rfl ?_
    refine mr_getr (pc := 246) d_Mo_restore_246 fl_Mo_62 hM.1 rfl (by decide) hM.g_draft ?_
    refine mv_iload (pc := 249) d_Mo_restore_249 rfl ?_
    refine mr_iald (pc := 251) d_Mo_restore_251 hM.a_draft (mm_inN (by omega) (by decide)) ?_
    rw [mm_cl (n := j) (by omega), show mm_gi (mm_wi h F) 70 j = ds.getD j 0 from hD.2 j hj]
    refine mv_aload_n (pc := 252) d_Mo_restore_252 rfl ?_
    refine mr_getr (pc := 253) d_Mo_restore_253 fl_Mo_56 hM.1 rfl (by decide) hM.g_saved ?_
    refine mv_iload (pc := 256) d_Mo_restore_256 rfl ?_
    refine mr_iald (pc := 258) d_Mo_restore_258 hM.a_saved (mm_inN (by omega) (by decide)) ?_
    rw [mm_cl (n := j) (by omega), show mm_gi (mm_wi h F) 68 j = sv.getD j 0 from hV.2 j (by omega)]
    refine mv_ic_ne 266 (pc := 259) d_Mo_restore_259 (by decide) (fun h259 => ?_) (fun h259 => ?_)
    · refine mv_iconst (v := 0) (pc := 266) d_Mo_restore_266 (by decide) ?_
      refine mv_istore_n (pc := 267) d_Mo_restore_267 (by decide) ?_
      refine mv_iinc (pc := 268) d_Mo_restore_268 rfl rfl (by decide) ?_
      refine mv_goto 232 (pc := 271) d_Mo_restore_271 (by decide) ?_
      refine mm_V_ls (ls' := [some (.ref 52), some (.int q9), some (.int q8), some (.int 0), some (.int (nI (j + 1)))]) (by simp only [List.set]; rw [nI_succ]; rfl) (l_cmp0 hM (hq0 (fun z => h259 (by rw [z]))))
    · refine mv_iconst (v := 1) (pc := 262) d_Mo_restore_262 (by decide) ?_
      refine mv_goto 267 (pc := 263) d_Mo_restore_263 (by decide) ?_
      refine mv_istore_n (pc := 267) d_Mo_restore_267 (by decide) ?_
      refine mv_iinc (pc := 268) d_Mo_restore_268 rfl rfl (by decide) ?_
      refine mv_goto 232 (pc := 271) d_Mo_restore_271 (by decide) ?_
      refine mm_V_ls (ls' := [some (.ref 52), some (.int q9), some (.int q8), some (.int 1), some (.int (nI (j + 1)))]) (by simp only [List.set]; rw [nI_succ]; rfl) (ih () (fun i hi => ?_))
      by_cases e : i = j
      · subst e; exact h259
      · exact hI i (by omega)
