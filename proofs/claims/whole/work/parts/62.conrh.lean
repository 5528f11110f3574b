/-! CONTRACTS: the reference: restore (rows by program: con_rh.py) -/
/-- what restore leaves as it was -/
def mm_gfr (F F' : mm_W) : Prop := ∀ a k, ¬ (a = 52 ∧ (k = 20 ∨ k = 22 ∨ k = 23)) → ¬ (a = 53 ∧ k = 1) → ¬ (54 ≤ a ∧ a ≤ 62 ∧ 16 ≤ k) → ¬ (a = 63 ∧ 256 ≤ k) → a ≠ 70 → F' a k = F a k
theorem mm_gfr.rfl' {F : mm_W} : mm_gfr F F := fun _ _ _ _ _ _ _ => rfl
theorem mm_gfr.ffr {F0 F F' : mm_W} (h : mm_gfr F0 F) (f : mm_ffr F F') : mm_gfr F0 F' := fun a k h1 h2 h3 h4 h5 => (f a k (by omega)).trans (h a k h1 h2 h3 h4 h5)
theorem mm_gfr.pl {F0 F : mm_W} (h : mm_gfr F0 F) {k : Nat} (hk : k = 22 ∨ k = 23) (x : Int32) : mm_gfr F0 (mm_u2 F 52 k x) := h.ffr (mm_ffr.rfl'.put hk x)
theorem mm_gfr.ck {F0 F : mm_W} (h : mm_gfr F0 F) (x : Int32) : mm_gfr F0 (mm_u2 F 53 1 x) := fun a k h1 h2 h3 h4 h5 => by
  simp only [mm_u2, h2, if_false]
  exact h a k h1 h2 h3 h4 h5
theorem mm_gfr.zfr {F0 F F' : mm_W} (h : mm_gfr F0 F) (f : mm_zfr F F') : mm_gfr F0 F' := fun a k h1 h2 h3 h4 h5 => (f a k h3 (by omega)).trans (h a k h1 h2 h3 h4 h5)
theorem mm_gfr.T {F0 F F' : mm_W} (h : mm_gfr F0 F) (f : ∀ a k, (a ≠ 63 ∨ k < 256) → F' a k = F a k) : mm_gfr F0 F' := fun a k h1 h2 h3 h4 h5 => (f a k (by omega)).trans (h a k h1 h2 h3 h4 h5)
theorem mm_gfr.tfr {F0 F F' : mm_W} (h : mm_gfr F0 F) (f : mm_tfr F F') : mm_gfr F0 F' := fun a k h1 h2 h3 h4 h5 => (f a k h4 (by omega)).trans (h a k h1 h2 h3 h4 h5)
theorem mm_gfr.dfr {F0 F F' : mm_W} (h : mm_gfr F0 F) (f : mm_dfr F F') : mm_gfr F0 F' := fun a k h1 h2 h3 h4 h5 => (f a k h5 (by omega)).trans (h a k h1 h2 h3 h4 h5)
theorem mm_gfr.o {F F' : mm_W} (h : mm_gfr F F') : mm_ofr F F' := fun a j ha => h a j (by omega) (by omega) (by omega) (by omega) (by omega)
theorem MS.gfr {F F' A : mm_W} {E : mm_E} {sv lg : List Int32} (h : MS F A E sv lg) (g : mm_gfr F F') : MS F' A E sv lg := by
  obtain ⟨⟨a1, a2, a3⟩, b, ⟨c1, c2⟩, ⟨d1, d2⟩, e1, e2⟩ := h
  refine ⟨⟨(g 53 0 (by omega) (by omega) (by omega) (by omega) (by omega)).trans a1, fun i hi => ?_, fun p hp => (g 63 _ (by omega) (by omega) (by omega) (by omega) (by omega)).trans (a3 p hp)⟩, b.off (fun a j h1 h2 => g a j (by omega) (by omega) (by omega) (by omega) (by omega)), ⟨(g 52 16 (by omega) (by omega) (by omega) (by omega) (by omega)).trans c1, fun j hj => (g 68 j (by omega) (by omega) (by omega) (by omega) (by omega)).trans (c2 j hj)⟩, ⟨(g 52 18 (by omega) (by omega) (by omega) (by omega) (by omega)).trans d1, fun j hj => (g 69 j (by omega) (by omega) (by omega) (by omega) (by omega)).trans (d2 j hj)⟩, e1, e2⟩
  obtain ⟨u1, u2, u3⟩ := a2 i hi
  exact ⟨(g 54 _ (by omega) (by omega) (by omega) (by omega) (by omega)).trans u1, (g 55 _ (by omega) (by omega) (by omega) (by omega) (by omega)).trans u2, fun z f f1 f2 => (g (54 + f) _ (by omega) (by omega) (by omega) (by omega) (by omega)).trans (u3 z f f1 f2)⟩
theorem PJ.init {sv : List Int32} (hb : a_byt sv) {p c : Nat} {F0 : mm_W} (hc : mm_nv sv p 1 = nI c) (hc2 : c ≤ 120) (h0 : ∀ k, k < 256 → F0 63 (256 * 1 + k) = 0) : PJ sv p F0 c 0 (mm_np sv p 1) F0 := by
  intro T r hT hd
  have hT2 := hT.2
  obtain ⟨v1, v2⟩ := nv_use hb (n := 1) (by omega) (by omega) (f_1 (mm_rng255 (j := a_cnt T 256) (by omega))) hd
  refine ⟨((nI_eq (by omega) (by omega)).mp (hc.symm.trans v1)).symm, 0, by omega, rfl, ?_, fun j hj => ?_⟩
  · have e := a_prs_prf T 256 0
    rw [Nat.zero_add] at e
    rw [v2, e]; rfl
  · rw [h0 j hj]; simp
theorem a_cnt_hi {T : Nat → Int32} {b j : Nat} (h1 : b ≤ j) (h2 : j < 256) (e : a_cnt T b = a_cnt T 256) : T j = 0 := by
  apply Classical.byContradiction
  intro z
  have m1 := a_cnt_mono T h1
  have m2 := a_cnt_mono T (show j + 1 ≤ 256 by omega)
  have m3 : a_cnt T (j + 1) = a_cnt T j + 1 := by simp only [a_cnt, z, if_false]
  omega
/-- the slots as they were read, held against those of a world whose bytes these are -/
theorem rst_use {sv : List Int32} (hb : a_byt sv) {F1 F3 : mm_W} {q : Nat} (hs : sv.drop (mm_np sv (mm_np sv 0 1) 4) = a_sls (a_m F1 1) 16 ++ sv.drop q) (hw : ∀ j, j < 16 → WSf (fun k => a_m F1 1 k j)) (h31 : ∀ k, F3 55 k = F1 55 k) {A : mm_W} (hA : WF A) (e : sv = a_encW A) :
    okM F3 (A 9) ∧ sv.drop q = mm_enc (nI (a_cnt (A 9) 256)) 1 ++ (a_prs (A 9) 256 ++ mm_enc (a_chk (a_body A) (a_body A).length) 2) ∧ ∀ i, i < 16 → a_m F1 1 0 i = A 0 i ∧ a_m F1 1 1 i = A 1 i ∧ (¬ A 1 i = 0 → ∀ k, 2 ≤ k → k ≤ 8 → a_m F1 1 k i = A k i) := by
  have u := (snd_use hb hA e).2.2
  rw [hs] at u
  obtain ⟨s1, s2⟩ := sls_inj (u := []) (v := []) 16 hw (fun i hi => hA.1 i hi) _ _ u
  refine ⟨⟨fun p hp z => ?_, hA.cnt⟩, s1, s2⟩
  obtain ⟨v1, v2, v3⟩ := (hA.2.2 p hp).2 z
  refine ⟨v1, ?_, ?_⟩
  · have q1 := (s2 (p / 16) (by omega)).2.1
    rw [← q1] at v2; rw [h31]; exact v2
  · have q1 := (s2 (p % 16) (by omega)).2.1
    rw [← q1] at v3; rw [h31]; exact v3
theorem b01_eq {x y : Int32} (h1 : x = 0 ∨ x = 1) (h2 : y = 0 ∨ y = 1) (h : ¬ x = 0 ↔ ¬ y = 0) : x = y := by
  rcases h1 with rfl | rfl <;> rcases h2 with rfl | rfl <;> simp at h ⊢
theorem rst_eq {sv : List Int32} (hb : a_byt sv) {F1 F3 F4 : mm_W} {q c q4 : Nat} (hs : sv.drop (mm_np sv (mm_np sv 0 1) 4) = a_sls (a_m F1 1) 16 ++ sv.drop q) (hw : ∀ j, j < 16 → WSf (fun k => a_m F1 1 k j)) (h31 : ∀ k, F3 55 k = F1 55 k) (h41 : ∀ a k, 54 ≤ a → a ≤ 62 → F4 a k = F1 a k) (hc : F4 53 1 = mm_nv sv (mm_np sv 0 1) 4) (h01 : ∀ j, j < 256 → F4 63 (256 * 1 + j) = 0 ∨ F4 63 (256 * 1 + j) = 1) (hP : PJ sv q F3 c c q4 F4) {A : mm_W} (hA : WF A) (e : sv = a_encW A) : a_encW (a_m F4 1) = sv := by
  obtain ⟨r1, r2, r3⟩ := rst_use hb hs hw h31 hA e
  obtain ⟨k1, b, k2, k3, -, k4⟩ := hP (A 9) _ r1 r2
  refine (a_encW_like (B := A) ⟨hc.trans (snd_use hb hA e).2.1, fun i hi => ?_, fun p hp => ?_⟩).trans e.symm
  · obtain ⟨x1, x2, x3⟩ := r3 i hi
    refine ⟨(h41 54 _ (by omega) (by omega)).trans x1, (h41 55 _ (by omega) (by omega)).trans x2, fun z k h1 h2 => ?_⟩
    have n1 : ¬ k = 10 := by omega
    have n2 : ¬ k = 9 := by omega
    have y := x3 z k h1 h2
    simp only [a_m, n1, n2, if_false] at y ⊢
    rw [h41 (54 + k) _ (by omega) (by omega)]; exact y
  · refine b01_eq (h01 p hp) (hA.2.2 p hp).1 ((k4 p hp).trans ⟨fun z => z.2, fun z => ⟨Nat.not_le.mp fun c9 => z (a_cnt_hi c9 hp (by omega)), z⟩⟩)
theorem rst_wf {sv : List Int32} {F1 F3 F4 : mm_W} (hw : ∀ j, j < 16 → WSf (fun k => a_m F1 1 k j)) (h31 : ∀ k, F3 55 k = F1 55 k) (h41 : ∀ a k, 54 ≤ a → a ≤ 62 → F4 a k = F1 a k) (hc : F4 53 1 = mm_nv sv (mm_np sv 0 1) 4) (hc0 : 0 ≤ mm_nv sv (mm_np sv 0 1) 4) (h01 : ∀ j, j < 256 → F4 63 (256 * 1 + j) = 0 ∨ F4 63 (256 * 1 + j) = 1) (hv : ∀ j, j < 256 → ¬ F4 63 (256 * 1 + j) = 0 → j / 16 < j % 16 ∧ ¬ F3 55 (16 * 1 + j / 16) = 0 ∧ ¬ F3 55 (16 * 1 + j % 16) = 0) : WF (a_m F4 1) := by
  refine ⟨fun i hi => ?_, ?_, fun p hp => ⟨h01 p hp, fun z => ?_⟩⟩
  · refine WS.same (A := a_m F1 1) (hw i hi) (fun k hk => ?_)
    have n1 : ¬ k = 10 := by omega
    have n2 : ¬ k = 9 := by omega
    simp only [a_m, n1, n2, if_false]
    exact h41 _ _ (by omega) (by omega)
  · show 0 ≤ F4 53 1
    rw [hc]; exact hc0
  · obtain ⟨v1, v2, v3⟩ := hv p hp z
    refine ⟨v1, ?_, ?_⟩
    · show ¬ F4 55 (16 * 1 + p / 16) = 0
      rw [h41 55 _ (by omega) (by omega), ← h31]; exact v2
    · show ¬ F4 55 (16 * 1 + p % 16) = 0
      rw [h41 55 _ (by omega) (by omega), ← h31]; exact v3
theorem SVs.dfr {F F' : mm_W} {sv : List Int32} (h : SVs F sv) (f : mm_dfr F F') : SVs F' sv := ⟨by rw [f 52 16 (by omega) (by omega)]; exact h.1, fun j hj => by rw [f 68 j (by omega) (by omega)]; exact h.2 j hj⟩
set_option maxRecDepth 20000 in
theorem l_w207 {G : mm_G} {Q : mm_O → mm_H → Prop} {h : mm_H} {q9 q8 q7 : Int32} {sv : List Int32} (hM : mm_Mo h) (hl : sv.length ≤ 336) (F4 : mm_W) (hV : SVs F4 sv) (hq1 : ∀ F', a_encW (a_m F4 1) = sv → mm_dfr F4 F' → Q (.inl (some (.int 1))) (mm_wi h F')) (hq0 : ∀ F', ¬ a_encW (a_m F4 1) = sv → mm_dfr F4 F' → Q (.inl (some (.int 0))) (mm_wi h F')) : mm_V G (3, 69) M_Mo_restore Q 207 [some (.ref 52), some (.int q9), some (.int q8), some (.int q7), none] [] (mm_wi h F4) := by
  refine mv_aload_n (pc := 207) d_Mo_restore_207 rfl ?_
  refine mv_iconst (v := 1) (pc := 208) d_Mo_restore_208 (by decide) ?_
  refine mr_callV1 (pc := 209) d_Mo_restore_209 (d2 := (1, 23)) ok_Mo_writeWorld li_Mo_133 sv_Mo_writeWorld hM.1 ⟨by decide, rfl⟩ ⟨by decide, rfl, Nat.le_of_ble_eq_true rfl, rfl, by decide, by decide⟩ ?_
  refine c_mww (k := 1) (h := mm_wi h F4) (by omega) hM (RM_self F4 1) (fun F5 d5 f5 => ?_)
  refine mv_aload_n (pc := 212) d_Mo_restore_212 rfl ?_
  refine mr_geti (pc := 213) d_Mo_restore_213 fl_Mo_126 hM.1 rfl (by decide) ?_
  refine mv_aload_n (pc := 216) d_Mo_restore_216 rfl ?_
  refine mr_geti (pc := 217) d_Mo_restore_217 fl_Mo_136 hM.1 rfl (by decide) ?_
  rw [show mm_gi (mm_wi (mm_wi h F4) F5) 52 20 = nI (a_encW (a_m F4 1)).length from d5.1, show mm_gi (mm_wi (mm_wi h F4) F5) 52 16 = nI sv.length from (hV.dfr f5).1]
  refine mv_ic_ne 227 (pc := 220) d_Mo_restore_220 (by decide) (fun h220 => ?_) (fun h220 => ?_)
  · refine mv_iconst (v := 0) (pc := 227) d_Mo_restore_227 (by decide) ?_
    refine mv_istore_n (pc := 228) d_Mo_restore_228 (by decide) ?_
    refine mv_iconst (v := 0) (pc := 229) d_Mo_restore_229 (by decide) ?_
    refine mv_istore (pc := 230) d_Mo_restore_230 (by decide) ?_
    refine mm_V_ls (ls' := [some (.ref 52), some (.int q9), some (.int q8), some (.int 0), some (.int (nI 0))]) rfl (l_cmp0 hM (hq0 F5 (fun z => h220 ?_) f5))
    rw [z]
  · refine mv_iconst (v := 1) (pc := 223) d_Mo_restore_223 (by decide) ?_
    refine mv_goto 228 (pc := 224) d_Mo_restore_224 (by decide) ?_
    refine mv_istore_n (pc := 228) d_Mo_restore_228 (by decide) ?_
    refine mv_iconst (v := 0) (pc := 229) d_Mo_restore_229 (by decide) ?_
    refine mv_istore (pc := 230) d_Mo_restore_230 (by decide) ?_
    have he : (a_encW (a_m F4 1)).length = sv.length := by
      have hb4 := a_body_len (a_m F4 1)
      have hb5 := a_cnt_le (a_m F4 1 9) 256
      have hb6 : (a_encW (a_m F4 1)).length = (a_body (a_m F4 1)).length + 2 := by unfold a_encW; rw [List.length_append, mm_enc_len]
      exact (nI_eq (by omega) (by omega)).mp h220
    refine mm_V_ls (ls' := [some (.ref 52), some (.int q9), some (.int q8), some (.int 1), some (.int (nI 0))]) rfl (l_cmp hM F5 d5 (hV.dfr f5) hl he (fun z => hq1 F5 z f5) (fun z => hq0 F5 z f5) 0 () (by omega) (fun i hi => absurd hi (by omega)))
theorem SVs.T {F F' : mm_W} {sv : List Int32} (h : SVs F sv) (f : ∀ a k, (a ≠ 63 ∨ k < 256) → F' a k = F a k) : SVs F' sv := ⟨by rw [f 52 16 (by omega)]; exact h.1, fun j hj => by rw [f 68 j (by omega)]; exact h.2 j hj⟩
theorem MR.T {F F' : mm_W} {sv : List Int32} {p : Nat} (h : MR F sv p) (f : ∀ a k, (a ≠ 63 ∨ k < 256) → F' a k = F a k) : MR F' sv p := ⟨by rw [f 52 23 (by omega)]; exact h.1, by rw [f 52 22 (by omega)]; exact h.2.1, h.2.2⟩
set_option maxRecDepth 20000 in
theorem l_r65 {G : mm_G} {Q : mm_O → mm_H → Prop} {h : mm_H} {q9 : Int32} {sv : List Int32} {q : Nat} (hM : mm_Mo h) (hb : a_byt sv) (hl : sv.length ≤ 336) (F1 : mm_W) (hV : SVs F1 sv) (hR : MR F1 sv q) (hc : F1 53 1 = mm_nv sv (mm_np sv 0 1) 4) (hc0 : 0 ≤ mm_nv sv (mm_np sv 0 1) 4) (hw : ∀ j, j < 16 → WSf (fun k => a_m F1 1 k j)) (hs : sv.drop (mm_np sv (mm_np sv 0 1) 4) = a_sls (a_m F1 1) 16 ++ sv.drop q)
    (hq1 : ∀ F' B, WF B → sv = a_encW B → RM F' 1 B → mm_gfr F1 F' → Q (.inl (some (.int 1))) (mm_wi h F')) (hq0 : ∀ F', ¬ a_snd sv → mm_gfr F1 F' → Q (.inl (some (.int 0))) (mm_wi h F')) : mm_V G (3, 69) M_Mo_restore Q 65 [some (.ref 52), some (.int q9), some (.int (nI (16 * 1 + 16))), none, none] [] (mm_wi h F1) := by
  refine mv_sipush (v := 256) (pc := 65) d_Mo_restore_65 (by decide) ?_
  refine mv_istore_n (pc := 68) d_Mo_restore_68 (by decide) ?_
  refine l_rstT hM F1 (fun F2 a1 a2 => ?_) 0 F1 (by omega) ⟨fun _ _ _ => rfl, fun k hk => absurd hk (by omega)⟩
  refine mv_aload_n (pc := 89) d_Mo_restore_89 rfl ?_
  refine mv_iconst (v := 1) (pc := 90) d_Mo_restore_90 (by decide) ?_
  refine mv_iconst (v := 0) (pc := 91) d_Mo_restore_91 (by decide) ?_
  refine mv_bipush (v := 120) (pc := 92) d_Mo_restore_92 (by decide) ?_
  refine mr_callV3 (pc := 94) d_Mo_restore_94 (d2 := (1, 23)) ok_Mo_readIn li_Mo_149 sv_Mo_readIn hM.1 ⟨by decide, rfl⟩ ⟨by decide, rfl, rfl, rfl, Nat.le_of_ble_eq_true rfl, rfl, by decide, by decide⟩ ?_
  refine c_mri (h := mm_wi h F2) (n := 1) (p := q) hM (by omega) (by decide) hl (hV.T a1) (hR.T a1) (fun d3 F3 r3 f3 => ?_) (fun d3 F3 r3 f3 => ?_)
  · refine mv_istore_n (pc := 97) d_Mo_restore_97 (by decide) ?_
    refine mv_iconst (v := 0) (pc := 98) d_Mo_restore_98 (by decide) ?_
    refine mv_istore_n (pc := 99) d_Mo_restore_99 (by decide) ?_
    obtain ⟨c, hc9, ec⟩ := nI_of2 (x := mm_nv sv q 1) (M := 120) (n := 120) (by decide) (Int32.not_lt.mpr d3.1) d3.2
    have x3 : ∀ k, F3 55 k = F1 55 k := fun k => (f3 55 k (by omega)).trans (a1 55 k (by omega))
    refine mm_V_ls (ls' := [some (.ref 52), some (.int q9), some (.int (nI c)), some (.int (nI 0)), none]) (by rw [ec]; rfl) ?_
    refine l_prs (p := q) (c := c) hM hb hl hc9 F3 ((hV.T a1).ffr f3) (fun F4 q4 t4 z4 v4 r4 j4 => ?_) (fun F4 n4 t4 => hq0 F4 (fun ⟨A, hA, e⟩ => ?_) (((mm_gfr.rfl'.T a1).ffr f3).tfr t4)) 0 F3 (by omega) ⟨fun _ _ _ _ => rfl, fun j hj => Or.inl ?_, fun j hj z => absurd ?_ z, mm_np sv q 1, r3, PJ.init hb ec hc9 (fun j hj => ?_)⟩
    · have x4 : ∀ a k, 54 ≤ a → a ≤ 62 → F4 a k = F1 a k := fun a k h1 h2 => (t4 a k (by omega) (by omega)).trans ((f3 a k (by omega)).trans (a1 a k (by omega)))
      have y4 : F4 53 1 = mm_nv sv (mm_np sv 0 1) 4 := ((t4 53 1 (by omega) (by omega)).trans ((f3 53 1 (by omega)).trans (a1 53 1 (by omega)))).trans hc
      have G4 := ((mm_gfr.rfl'.T a1).ffr f3).tfr t4
      refine l_w207 hM hl F4 (((hV.T a1).ffr f3).tfr t4) (fun F5 e5 f5 => hq1 F5 (a_m F4 1) (rst_wf hw x3 x4 y4 hc0 z4 v4) e5.symm ((RM_self F4 1).dfr f5) (G4.dfr f5)) (fun F5 e5 f5 => hq0 F5 (fun ⟨A, hA, e⟩ => e5 (rst_eq hb hs hw x3 x4 y4 z4 j4 hA e)) (G4.dfr f5))
    · obtain ⟨y1, y2, -⟩ := rst_use hb hs hw x3 hA e
      exact n4 _ _ y1 y2
    · exact (f3 63 _ (by omega)).trans (a2 j hj)
    · exact (f3 63 _ (by omega)).trans (a2 j hj)
    · exact (f3 63 _ (by omega)).trans (a2 j hj)
  · refine mv_istore_n (pc := 97) d_Mo_restore_97 (by decide) ?_
    refine mv_iconst (v := 0) (pc := 98) d_Mo_restore_98 (by decide) ?_
    refine mv_istore_n (pc := 99) d_Mo_restore_99 (by decide) ?_
    refine l_prx0 (c := 0) (n := 0) hM r3 (hq0 F3 (fun ⟨A, hA, e⟩ => d3 ?_) ((mm_gfr.rfl'.T a1).ffr f3))
    obtain ⟨y1, y2, -⟩ := rst_use hb hs hw (fun _ => rfl) hA e
    have y3 := hA.cnt
    rw [(nv_use hb (n := 1) (by omega) (by omega) (f_1 (mm_rng255 (j := a_cnt (A 9) 256) (by omega))) y2).1]
    exact ⟨nI_pos' (by omega), nI_le (b := 120) (by omega) (by decide)⟩
theorem mm_gfr.trans {F F1 F2 : mm_W} (h1 : mm_gfr F F1) (h2 : mm_gfr F1 F2) : mm_gfr F F2 := fun a k c1 c2 c3 c4 c5 => (h2 a k c1 c2 c3 c4 c5).trans (h1 a k c1 c2 c3 c4 c5)
theorem SVs.ck {F : mm_W} {sv : List Int32} (h : SVs F sv) (x : Int32) : SVs (mm_u2 F 53 1 x) sv := ⟨by simpa [mm_u2] using h.1, fun j hj => by simpa [mm_u2] using h.2 j hj⟩
set_option maxRecDepth 20000 in
theorem c_restore {G : mm_G} {Q : mm_O → mm_H → Prop} {h : mm_H} {A : mm_W} {E : mm_E} {sv lg : List Int32} (hM : mm_Mo h) (hS : MS (mm_gi h) A E sv lg) (hb : a_byt sv) (hq1 : ∀ F' B, WF B → sv = a_encW B → RM F' 1 B → mm_gfr (mm_gi h) F' → Q (.inl (some (.int 1))) (mm_wi h F')) (hq0 : ∀ F', ¬ a_snd sv → mm_gfr (mm_gi h) F' → Q (.inl (some (.int 0))) (mm_wi h F')) : mm_V G (3, 69) M_Mo_restore Q 0 (mm_ent 5 [.ref 52]) [] h := by
  show mm_V G (3, 69) M_Mo_restore Q 0 [some (.ref 52), none, none, none, none] [] h
  refine mv_aload_n (pc := 0) d_Mo_restore_0 rfl ?_
  refine mv_iconst (v := 1) (pc := 1) d_Mo_restore_1 (by decide) ?_
  refine mr_puti (pc := 2) d_Mo_restore_2 fl_Mo_139 hM.1 rfl (by decide) ⟨rfl, rfl⟩ ?_
  refine mv_aload_n (pc := 5) d_Mo_restore_5 rfl ?_
  refine mv_iconst (v := 0) (pc := 6) d_Mo_restore_6 (by decide) ?_
  refine mr_puti (pc := 7) d_Mo_restore_7 fl_Mo_143 hM.1 rfl (by decide) ⟨rfl, rfl⟩ ?_
  have hl : sv.length ≤ 336 := hS.2.2.2.2.1
  have hV0 : SVs (mm_gi (mm_si (mm_si h 52 23 1) 52 22 0)) sv := ⟨hS.2.2.1.1, hS.2.2.1.2⟩
  have hR0 : MR (mm_gi (mm_si (mm_si h 52 23 1) 52 22 0)) sv 0 := ⟨rfl, rfl, Nat.zero_le _⟩
  refine mv_aload_n (pc := 10) d_Mo_restore_10 rfl ?_
  refine mv_iconst (v := 1) (pc := 11) d_Mo_restore_11 (by decide) ?_
  refine mv_bipush (v := 84) (pc := 12) d_Mo_restore_12 (by decide) ?_
  refine mv_bipush (v := 84) (pc := 14) d_Mo_restore_14 (by decide) ?_
  refine mr_callV3 (pc := 16) d_Mo_restore_16 (d2 := (1, 23)) ok_Mo_readIn li_Mo_149 sv_Mo_readIn hM.1 ⟨by decide, rfl⟩ ⟨by decide, rfl, rfl, rfl, Nat.le_of_ble_eq_true rfl, rfl, by decide, by decide⟩ ?_
  refine c_mri (h := mm_si (mm_si h 52 23 1) 52 22 0) (n := 1) (p := 0) hM (by omega) (by decide) hl hV0 hR0 (fun d1 F1 r1 f1 => ?_) (fun d1 F1 r1 f1 => ?_)
  · refine mv_istore_n (pc := 19) d_Mo_restore_19 (by decide) ?_
    refine mv_aload_n (pc := 20) d_Mo_restore_20 rfl ?_
    refine mr_getr (pc := 21) d_Mo_restore_21 fl_Mo_7 hM.1 rfl (by decide) hM.g_clocks ?_
    refine mv_iconst (v := 1) (pc := 24) d_Mo_restore_24 (by decide) ?_
    refine mv_aload_n (pc := 25) d_Mo_restore_25 rfl ?_
    refine mv_iconst (v := 4) (pc := 26) d_Mo_restore_26 (by decide) ?_
    refine mv_iconst (v := 0) (pc := 27) d_Mo_restore_27 (by decide) ?_
    refine mv_ldc (pc := 28) d_Mo_restore_28 lc_Mo_78 ?_
    refine mr_callV3 (pc := 30) d_Mo_restore_30 (d2 := (1, 23)) ok_Mo_readIn li_Mo_149 sv_Mo_readIn hM.1 ⟨by decide, rfl⟩ ⟨by decide, rfl, rfl, rfl, Nat.le_of_ble_eq_true rfl, rfl, by decide, by decide⟩ ?_
    refine c_mri (h := mm_wi h F1) (n := 4) (p := (mm_np sv 0 1)) hM (by omega) (by decide) hl (hV0.ffr f1) r1 (fun d2 F2 r2 f2 => ?_) (fun d2 F2 r2 f2 => ?_)
    · refine mr_iast (pc := 33) d_Mo_restore_33 hM.a_clocks (mm_inN (n := 1) (by omega) (by decide)) ?_
      rw [show (1 : Int32).toNatClampNeg = 1 from rfl]
      refine mv_bipush (v := 16) (pc := 34) d_Mo_restore_34 (by decide) ?_
      refine mv_istore_n (pc := 36) d_Mo_restore_36 (by decide) ?_
      have hV2 : SVs (mm_u2 F2 53 1 (mm_nv sv (mm_np sv 0 1) 4)) sv := ((hV0.ffr f1).ffr f2).ck _
      refine mm_V_ls (ls' := [some (.ref 52), some (.int _), some (.int (nI (16 * 1 + 0))), none, none]) rfl ?_
      refine l_rst1 (h := h) (p := (mm_np sv (mm_np sv 0 1) 4)) hM hb hl (mm_u2 F2 53 1 (mm_nv sv (mm_np sv 0 1) 4)) hV2 (fun F3 q3 z3 w3 r3 s3 => ?_) (fun F3 n3 r3 z3 => ?_) 0 (mm_u2 F2 53 1 (mm_nv sv (mm_np sv 0 1) 4)) (by omega) ⟨fun _ _ _ _ => rfl, fun j hj => absurd hj (by omega), (mm_np sv (mm_np sv 0 1) 4), r2.put (by decide) _, rfl⟩
      · have G3 := ((((((mm_gfr.rfl' (F := mm_gi h)).pl (Or.inr rfl) 1).pl (Or.inl rfl) 0).ffr f1).ffr f2).ck (mm_nv sv (mm_np sv 0 1) 4)).zfr z3
        refine l_r65 hM hb hl F3 (hV2.zfr z3) r3 ((z3 53 1 (by omega) (by omega)).trans (by simp [mm_u2])) d2.1 w3 s3 (fun F4 B w4 e4 r4 g4 => hq1 F4 B w4 e4 r4 (G3.trans g4)) (fun F4 n4 g4 => hq0 F4 n4 (G3.trans g4))
      · refine l_z65 hM F3 r3 (fun F4 t4 => hq0 F4 (fun ⟨A, hA, e⟩ => n3 A _ (fun i hi => hA.1 i hi) (snd_use hb hA e).2.2) ((((((((mm_gfr.rfl' (F := mm_gi h)).pl (Or.inr rfl) 1).pl (Or.inl rfl) 0).ffr f1).ffr f2).ck (mm_nv sv (mm_np sv 0 1) 4)).zfr z3).tfr t4))
    · refine mr_iast (pc := 33) d_Mo_restore_33 hM.a_clocks (mm_inN (n := 1) (by omega) (by decide)) ?_
      rw [show (1 : Int32).toNatClampNeg = 1 from rfl]
      refine mv_bipush (v := 16) (pc := 34) d_Mo_restore_34 (by decide) ?_
      refine mv_istore_n (pc := 36) d_Mo_restore_36 (by decide) ?_
      refine mm_V_ls (ls' := [some (.ref 52), some (.int _), some (.int (nI (16 * 1 + 0))), none, none]) rfl ?_
      refine l_rst0 (h := h) hM (mm_u2 F2 53 1 0) (fun F3 r3 z3 => ?_) 0 (mm_u2 F2 53 1 0) (by omega) ⟨by simpa [mm_u2] using r2, fun _ _ _ _ => rfl⟩
      refine l_z65 hM F3 r3 (fun F4 t4 => hq0 F4 (fun ⟨A, hA, e⟩ => d2 ?_) ((((((((mm_gfr.rfl' (F := mm_gi h)).pl (Or.inr rfl) 1).pl (Or.inl rfl) 0).ffr f1).ffr f2).ck 0).zfr z3).tfr t4))
      rw [(snd_use hb hA e).2.1]
      exact ⟨hA.2.1, Int32.le_iff_toInt_le.mpr (by rw [i_max]; exact (i_bd _).2)⟩
  · refine mv_istore_n (pc := 19) d_Mo_restore_19 (by decide) ?_
    refine mv_aload_n (pc := 20) d_Mo_restore_20 rfl ?_
    refine mr_getr (pc := 21) d_Mo_restore_21 fl_Mo_7 hM.1 rfl (by decide) hM.g_clocks ?_
    refine mv_iconst (v := 1) (pc := 24) d_Mo_restore_24 (by decide) ?_
    refine mv_aload_n (pc := 25) d_Mo_restore_25 rfl ?_
    refine mv_iconst (v := 4) (pc := 26) d_Mo_restore_26 (by decide) ?_
    refine mv_iconst (v := 0) (pc := 27) d_Mo_restore_27 (by decide) ?_
    refine mv_ldc (pc := 28) d_Mo_restore_28 lc_Mo_78 ?_
    refine mr_callV3 (pc := 30) d_Mo_restore_30 (d2 := (1, 23)) ok_Mo_readIn li_Mo_149 sv_Mo_readIn hM.1 ⟨by decide, rfl⟩ ⟨by decide, rfl, rfl, rfl, Nat.le_of_ble_eq_true rfl, rfl, by decide, by decide⟩ ?_
    refine c_mreadIn0 (h := mm_wi h F1) (n := 4) hM (by omega) r1 (fun F2 r2 f2 => ?_)
    refine mr_iast (pc := 33) d_Mo_restore_33 hM.a_clocks (mm_inN (n := 1) (by omega) (by decide)) ?_
    rw [show (1 : Int32).toNatClampNeg = 1 from rfl]
    refine mv_bipush (v := 16) (pc := 34) d_Mo_restore_34 (by decide) ?_
    refine mv_istore_n (pc := 36) d_Mo_restore_36 (by decide) ?_
    refine mm_V_ls (ls' := [some (.ref 52), some (.int _), some (.int (nI (16 * 1 + 0))), none, none]) rfl ?_
    refine l_rst0 (h := h) hM (mm_u2 F2 53 1 0) (fun F3 r3 z3 => ?_) 0 (mm_u2 F2 53 1 0) (by omega) ⟨by simpa [mm_u2] using r2, fun _ _ _ _ => rfl⟩
    refine l_z65 hM F3 r3 (fun F4 t4 => hq0 F4 (fun ⟨A, hA, e⟩ => d1 ?_) ((((((((mm_gfr.rfl' (F := mm_gi h)).pl (Or.inr rfl) 1).pl (Or.inl rfl) 0).ffr f1).ffr f2).ck 0).zfr z3).tfr t4))
    rw [(snd_use hb hA e).1]
    exact ⟨by decide, by decide⟩
