/-! THE LAW: each of its calls (rows by program: con_law.py) -/
def LI (t : Nat) (h : mm_H) : Prop := ∃ (w w2 : Nat) (A : mm_W) (E : mm_E) (sv lg : List Int32), mm_Ta h w w2 ∧ mm_Mo h ∧ mm_at h 71 103 1 ∧ CS (mm_gi h) w A E sv lg ∧ MS (mm_gi h) A E sv lg ∧ WF A ∧ a_okE E ∧ a_byt sv ∧ a_byt lg ∧ mm_c h ≤ 71 + t ∧ mm_s h ≤ 5300 + 6 * t
theorem LI.next {t : Nat} {h : mm_H} (x : LI t h) : LI (t + 1) h := by
  obtain ⟨w, w2, A, E, sv, lg, a1, a2, a3, a4, a5, a6, a7, a8, a9, b1, b2⟩ := x
  exact ⟨w, w2, A, E, sv, lg, a1, a2, a3, a4, a5, a6, a7, a8, a9, by omega, by omega⟩
theorem CS.ofr {F F' A : mm_W} {w : Nat} {E : mm_E} {sv lg : List Int32} (h : CS F w A E sv lg) (hw : w ≤ 24) (f : mm_ofr F F') : CS F' w A E sv lg :=
  ⟨h.1.same9 (fun a k h1 h2 => f a k (by omega)), h.2.1.same (fun a k ha => f a k (by omega)), h.2.2.1.off (f 47 1 (by omega)) (fun k => f 48 k (by omega)), h.2.2.2.1.off (f 50 1 (by omega)) (fun k => f 51 k (by omega)), h.2.2.2.2.1, h.2.2.2.2.2⟩
theorem MS.cfr {F F' A : mm_W} {E : mm_E} {sv lg : List Int32} (h : MS F A E sv lg) (f : mm_cfr F F') : MS F' A E sv lg :=
  h.world (h.1.same (fun a j h1 h2 => f a j (by omega))) (h.2.1.off (fun a j h1 h2 => f a j (by omega))) (fun j => f 52 j (by omega)) (fun a j h1 => f a j (by omega))
theorem CS.like {F A B : mm_W} {w : Nat} {E : mm_E} {sv lg : List Int32} (h : CS F w A E sv lg) (e : a_like A B) : CS F w B E sv lg := ⟨h.1.like e, h.2⟩
theorem mm_Mo.swp {h : mm_H} {w w2 : Nat} (hM : mm_Mo h) : mm_Mo (mm_swp h w w2) := ⟨hM.1, hM.2.1, fun q hq => by rw [mm_swp_gr (by decide)]; exact hM.2.2 q hq⟩
theorem LI.of {t : Nat} {h1 : mm_H} {w w2 : Nat} {A : mm_W} {E : mm_E} {sv lg : List Int32} {F2 : mm_W} (hT : mm_Ta h1 w w2) (hM : mm_Mo h1) (hO : mm_at h1 71 103 1) (hC : CS (mm_gi h1) w A E sv lg) (f : mm_ofr (mm_gi h1) F2) (hS : MS F2 A E sv lg) (hW : WF A) (hE : a_okE E) (hs : a_byt sv) (hl : a_byt lg) (hc : mm_c h1 ≤ 71 + t) (hs' : mm_s h1 ≤ 5300 + 6 * t) : LI t (mm_wi h1 F2) :=
  ⟨w, w2, A, E, sv, lg, hT, hM, hO, hC.ofr hT.le.1 f, hS, hW, hE, hs, hl, hc, hs'⟩
theorem a_tl_byt : ∀ n, a_byt (a_tl n)
  | 0 => a_byt.nil
  | n + 1 => (a_tl_byt n).app (mm_enc_byt _ _)
theorem a_byt.set {l : List Int32} (h : a_byt l) (j : Nat) {v : Int32} (hv : 0 ≤ v ∧ v ≤ 255) : a_byt (l.set j v) := fun b hb => by
  rcases List.mem_or_eq_of_mem_set hb with q | q
  · exact h b q
  · rw [q]; exact hv
theorem a_encW_byt (A : mm_W) : a_byt (a_encW A) := (a_body_byt A).app (mm_enc_byt _ _)
theorem mm_t50 {x : Int32} {n : Nat} (h : x = nI n) (h1 : 1 ≤ n) (h2 : n ≤ 50) : 1 ≤ x ∧ x ≤ 50 := by
  rw [h]
  exact ⟨nI_le (a := 1) h1 (by omega), nI_le (b := 50) h2 (by decide)⟩
theorem mm_cmp0 (x : Int64) : lg_cmp x x = 0 := by simp [lg_cmp]
set_option maxRecDepth 20000 in
theorem k_create {P : State → Prop} {G : mm_G} {Q : mm_O → mm_H → Prop} {h : mm_H} {L : Nat} {xs : Nat → Int32} {w w2 t i : Nat} {A : mm_W} {E : mm_E} {sv lg : List Int32} (hP : ∀ s, P s → va_X (mm_sc G) L xs s s.heap) (hG : G.1.stackTraces = false) (hL : L ≤ 2048) (hi : i + 4 ≤ L) (ht : t ≤ 512) (hBC : 600 ≤ mm_BC G) (hBS : 9000 ≤ mm_BS G) (hT : mm_Ta h w w2) (hM : mm_Mo h) (hO : mm_at h 71 103 1) (hC : CS (mm_gi h) w A E sv lg) (hS : MS (mm_gi h) A E sv lg) (hW : WF A) (hE : a_okE E) (hbs : a_byt sv) (hbl : a_byt lg) (hcc : mm_c h ≤ 71 + t) (hss : mm_s h ≤ 5300 + 6 * t) (hk : ∀ h', LI (t + 1) h' → mm_VP P G (9, 178) M_La_law Q 1032 [some (.ref 0), some (.ref 1), some (.ref 52), some (.ref 71), some (.int (nI i)), none, none] [] h') : mm_VP P G (9, 178) M_La_law Q 124 [some (.ref 0), some (.ref 1), some (.ref 52), some (.ref 71), some (.int (nI i)), none, none] [] h := by
  have hr : mm_rm G h := ⟨by omega, by omega⟩
  refine mp_aload_n (pc := 124) d_La_law_124 rfl ?_
  refine mp_aload_n (pc := 125) d_La_law_125 rfl ?_
  refine mp_iload (pc := 126) d_La_law_126 rfl ?_
  refine mp_iconst (v := 1) (pc := 128) d_La_law_128 (by decide) ?_
  refine mp_iadd (pc := 129) d_La_law_129 ?_
  rw [show nI i + 1 = nI (i + 1) from nI_add i 1]
  refine mp_sld hP (pc := 130) d_La_law_130 (mm_inN (n := i + 1) (by omega) (by omega)) ?_
  rw [mm_cl (n := i + 1) (by omega)]
  refine mp_aload_n (pc := 131) d_La_law_131 rfl ?_
  refine mp_iload (pc := 132) d_La_law_132 rfl ?_
  refine mp_iconst (v := 2) (pc := 134) d_La_law_134 (by decide) ?_
  refine mp_iadd (pc := 135) d_La_law_135 ?_
  rw [show nI i + 2 = nI (i + 2) from nI_add i 2]
  refine mp_sld hP (pc := 136) d_La_law_136 (mm_inN (n := i + 2) (by omega) (by omega)) ?_
  rw [mm_cl (n := i + 2) (by omega)]
  refine mp_aload_n (pc := 137) d_La_law_137 rfl ?_
  refine mrp_callS4 (pc := 138) d_La_law_138 (d2 := (8, 133)) ok_La_create li_La_71 sv_La_create ⟨by decide, rfl, rfl, rfl, rfl, Nat.le_of_ble_eq_true rfl, rfl, by decide, by decide⟩ ?_
  refine c_La_create (o := 71) hT.1 (c_create hG hr hT hC (fun p1 => ⟨by decide, ?_⟩) (fun p1 a1 => ⟨by decide, ?_⟩) (fun i1 p1 hi1 e1 l1 => ⟨by decide, ?_⟩) (fun i1 F1 p1 hi1 lo1 e1 l1 c1 f1 => ⟨hO, ?_⟩))
  · refine mp_istore (pc := 141) d_La_law_141 (by decide) ?_
    refine mp_aload_n (pc := 143) d_La_law_143 rfl ?_
    refine mp_aload_n (pc := 144) d_La_law_144 rfl ?_
    refine mp_iload (pc := 145) d_La_law_145 rfl ?_
    refine mp_iconst (v := 1) (pc := 147) d_La_law_147 (by decide) ?_
    refine mp_iadd (pc := 148) d_La_law_148 ?_
    rw [show nI i + 1 = nI (i + 1) from nI_add i 1]
    refine mp_sld hP (pc := 149) d_La_law_149 (mm_inN (n := i + 1) (by omega) (by omega)) ?_
    rw [mm_cl (n := i + 1) (by omega)]
    refine mp_aload_n (pc := 150) d_La_law_150 rfl ?_
    refine mp_iload (pc := 151) d_La_law_151 rfl ?_
    refine mp_iconst (v := 2) (pc := 153) d_La_law_153 (by decide) ?_
    refine mp_iadd (pc := 154) d_La_law_154 ?_
    rw [show nI i + 2 = nI (i + 2) from nI_add i 2]
    refine mp_sld hP (pc := 155) d_La_law_155 (mm_inN (n := i + 2) (by omega) (by omega)) ?_
    rw [mm_cl (n := i + 2) (by omega)]
    refine mrp_callV2 (pc := 156) d_La_law_156 (d2 := (1, 23)) ok_Mo_create li_La_76 sv_Mo_create hM.1 ⟨by decide, rfl⟩ ⟨by decide, rfl, rfl, Nat.le_of_ble_eq_true rfl, rfl, by decide, by decide⟩ ?_
    refine c_mcreate (h := (mm_exc h)) hM hS (fun F2 p2 s2 k2 f2 => ?_) (fun F2 p2 a2 s2 k2 f2 => ?_) (fun i2 F2 p2 hi2 e2 l2 s2 k2 f2 => ?_) (fun i2 F2 p2 hi2 lo2 e2 l2 s2 k2 f2 => ?_)
    · refine mp_istore (pc := 159) d_La_law_159 (by decide) ?_
      refine mp_aload_n (pc := 161) d_La_law_161 rfl ?_
      refine mrp_callV0 (pc := 162) d_La_law_162 (d2 := (0, 0)) ok_Mo_thrown li_La_77 sv_Mo_thrown hM.1 ⟨by decide, rfl⟩ ⟨by decide, Nat.le_of_ble_eq_true rfl, rfl, by decide, by decide⟩ ?_
      refine c_thrown (h := mm_wi (mm_exc h) F2) hM ?_
      rw [show mm_gi (mm_wi (mm_exc h) F2) 52 0 = 1 from k2]
      refine mp_iload (pc := 165) d_La_law_165 rfl ?_
      refine mp_ic_eq 172 (pc := 167) d_La_law_167 (by decide) (fun _ => ?_) (fun z => absurd z (by decide))
      refine mp_iload (pc := 172) d_La_law_172 rfl ?_
      refine mp_if_ne 189 (pc := 174) d_La_law_174 (by decide) (fun _ => ?_) (fun z => absurd z (by decide))
      refine mp_goto 1032 (pc := 189) d_La_law_189 (by decide) ?_
      refine mm_VP_drop 5 ?_
      refine mm_VP_drop 6 ?_
      refine mm_VP_ls (ls' := [some (.ref 0), some (.ref 1), some (.ref 52), some (.ref 71), some (.int (nI i)), none, none]) rfl (hk _ ?_)
      exact LI.of (h1 := (mm_exc h)) hT hM hO hC f2 s2 hW hE hbs hbl (by show mm_c h + 1 ≤ _; omega) (by show mm_s h + 6 ≤ _; omega)
    · exact absurd p2 p1
    · exact absurd p2 p1
    · exact absurd p2 p1
  · refine mp_istore (pc := 141) d_La_law_141 (by decide) ?_
    refine mp_aload_n (pc := 143) d_La_law_143 rfl ?_
    refine mp_aload_n (pc := 144) d_La_law_144 rfl ?_
    refine mp_iload (pc := 145) d_La_law_145 rfl ?_
    refine mp_iconst (v := 1) (pc := 147) d_La_law_147 (by decide) ?_
    refine mp_iadd (pc := 148) d_La_law_148 ?_
    rw [show nI i + 1 = nI (i + 1) from nI_add i 1]
    refine mp_sld hP (pc := 149) d_La_law_149 (mm_inN (n := i + 1) (by omega) (by omega)) ?_
    rw [mm_cl (n := i + 1) (by omega)]
    refine mp_aload_n (pc := 150) d_La_law_150 rfl ?_
    refine mp_iload (pc := 151) d_La_law_151 rfl ?_
    refine mp_iconst (v := 2) (pc := 153) d_La_law_153 (by decide) ?_
    refine mp_iadd (pc := 154) d_La_law_154 ?_
    rw [show nI i + 2 = nI (i + 2) from nI_add i 2]
    refine mp_sld hP (pc := 155) d_La_law_155 (mm_inN (n := i + 2) (by omega) (by omega)) ?_
    rw [mm_cl (n := i + 2) (by omega)]
    refine mrp_callV2 (pc := 156) d_La_law_156 (d2 := (1, 23)) ok_Mo_create li_La_76 sv_Mo_create hM.1 ⟨by decide, rfl⟩ ⟨by decide, rfl, rfl, Nat.le_of_ble_eq_true rfl, rfl, by decide, by decide⟩ ?_
    refine c_mcreate (h := (mm_exc h)) hM hS (fun F2 p2 s2 k2 f2 => ?_) (fun F2 p2 a2 s2 k2 f2 => ?_) (fun i2 F2 p2 hi2 e2 l2 s2 k2 f2 => ?_) (fun i2 F2 p2 hi2 lo2 e2 l2 s2 k2 f2 => ?_)
    · exact absurd p1 p2
    · refine mp_istore (pc := 159) d_La_law_159 (by decide) ?_
      refine mp_aload_n (pc := 161) d_La_law_161 rfl ?_
      refine mrp_callV0 (pc := 162) d_La_law_162 (d2 := (0, 0)) ok_Mo_thrown li_La_77 sv_Mo_thrown hM.1 ⟨by decide, rfl⟩ ⟨by decide, Nat.le_of_ble_eq_true rfl, rfl, by decide, by decide⟩ ?_
      refine c_thrown (h := mm_wi (mm_exc h) F2) hM ?_
      rw [show mm_gi (mm_wi (mm_exc h) F2) 52 0 = 2 from k2]
      refine mp_iload (pc := 165) d_La_law_165 rfl ?_
      refine mp_ic_eq 172 (pc := 167) d_La_law_167 (by decide) (fun _ => ?_) (fun z => absurd z (by decide))
      refine mp_iload (pc := 172) d_La_law_172 rfl ?_
      refine mp_if_ne 189 (pc := 174) d_La_law_174 (by decide) (fun _ => ?_) (fun z => absurd z (by decide))
      refine mp_goto 1032 (pc := 189) d_La_law_189 (by decide) ?_
      refine mm_VP_drop 5 ?_
      refine mm_VP_drop 6 ?_
      refine mm_VP_ls (ls' := [some (.ref 0), some (.ref 1), some (.ref 52), some (.ref 71), some (.int (nI i)), none, none]) rfl (hk _ ?_)
      exact LI.of (h1 := (mm_exc h)) hT hM hO hC f2 s2 hW hE hbs hbl (by show mm_c h + 1 ≤ _; omega) (by show mm_s h + 6 ≤ _; omega)
    · exact absurd e2 (a1 _ hi2)
    · exact absurd e2 (a1 _ hi2)
  · refine mp_istore (pc := 141) d_La_law_141 (by decide) ?_
    refine mp_aload_n (pc := 143) d_La_law_143 rfl ?_
    refine mp_aload_n (pc := 144) d_La_law_144 rfl ?_
    refine mp_iload (pc := 145) d_La_law_145 rfl ?_
    refine mp_iconst (v := 1) (pc := 147) d_La_law_147 (by decide) ?_
    refine mp_iadd (pc := 148) d_La_law_148 ?_
    rw [show nI i + 1 = nI (i + 1) from nI_add i 1]
    refine mp_sld hP (pc := 149) d_La_law_149 (mm_inN (n := i + 1) (by omega) (by omega)) ?_
    rw [mm_cl (n := i + 1) (by omega)]
    refine mp_aload_n (pc := 150) d_La_law_150 rfl ?_
    refine mp_iload (pc := 151) d_La_law_151 rfl ?_
    refine mp_iconst (v := 2) (pc := 153) d_La_law_153 (by decide) ?_
    refine mp_iadd (pc := 154) d_La_law_154 ?_
    rw [show nI i + 2 = nI (i + 2) from nI_add i 2]
    refine mp_sld hP (pc := 155) d_La_law_155 (mm_inN (n := i + 2) (by omega) (by omega)) ?_
    rw [mm_cl (n := i + 2) (by omega)]
    refine mrp_callV2 (pc := 156) d_La_law_156 (d2 := (1, 23)) ok_Mo_create li_La_76 sv_Mo_create hM.1 ⟨by decide, rfl⟩ ⟨by decide, rfl, rfl, Nat.le_of_ble_eq_true rfl, rfl, by decide, by decide⟩ ?_
    refine c_mcreate (h := (mm_exc h)) hM hS (fun F2 p2 s2 k2 f2 => ?_) (fun F2 p2 a2 s2 k2 f2 => ?_) (fun i2 F2 p2 hi2 e2 l2 s2 k2 f2 => ?_) (fun i2 F2 p2 hi2 lo2 e2 l2 s2 k2 f2 => ?_)
    · exact absurd p1 p2
    · exact absurd e1 (a2 _ hi1)
    · refine mp_istore (pc := 159) d_La_law_159 (by decide) ?_
      refine mp_aload_n (pc := 161) d_La_law_161 rfl ?_
      refine mrp_callV0 (pc := 162) d_La_law_162 (d2 := (0, 0)) ok_Mo_thrown li_La_77 sv_Mo_thrown hM.1 ⟨by decide, rfl⟩ ⟨by decide, Nat.le_of_ble_eq_true rfl, rfl, by decide, by decide⟩ ?_
      refine c_thrown (h := mm_wi (mm_exc h) F2) hM ?_
      rw [show mm_gi (mm_wi (mm_exc h) F2) 52 0 = 3 from k2]
      refine mp_iload (pc := 165) d_La_law_165 rfl ?_
      refine mp_ic_eq 172 (pc := 167) d_La_law_167 (by decide) (fun _ => ?_) (fun z => absurd z (by decide))
      refine mp_iload (pc := 172) d_La_law_172 rfl ?_
      refine mp_if_ne 189 (pc := 174) d_La_law_174 (by decide) (fun _ => ?_) (fun z => absurd z (by decide))
      refine mp_goto 1032 (pc := 189) d_La_law_189 (by decide) ?_
      refine mm_VP_drop 5 ?_
      refine mm_VP_drop 6 ?_
      refine mm_VP_ls (ls' := [some (.ref 0), some (.ref 1), some (.ref 52), some (.ref 71), some (.int (nI i)), none, none]) rfl (hk _ ?_)
      exact LI.of (h1 := (mm_exc h)) hT hM hO hC f2 s2 hW hE hbs hbl (by show mm_c h + 1 ≤ _; omega) (by show mm_s h + 6 ≤ _; omega)
    · exact absurd l2 l1
  · refine mp_istore (pc := 141) d_La_law_141 (by decide) ?_
    refine mp_aload_n (pc := 143) d_La_law_143 rfl ?_
    refine mp_aload_n (pc := 144) d_La_law_144 rfl ?_
    refine mp_iload (pc := 145) d_La_law_145 rfl ?_
    refine mp_iconst (v := 1) (pc := 147) d_La_law_147 (by decide) ?_
    refine mp_iadd (pc := 148) d_La_law_148 ?_
    rw [show nI i + 1 = nI (i + 1) from nI_add i 1]
    refine mp_sld hP (pc := 149) d_La_law_149 (mm_inN (n := i + 1) (by omega) (by omega)) ?_
    rw [mm_cl (n := i + 1) (by omega)]
    refine mp_aload_n (pc := 150) d_La_law_150 rfl ?_
    refine mp_iload (pc := 151) d_La_law_151 rfl ?_
    refine mp_iconst (v := 2) (pc := 153) d_La_law_153 (by decide) ?_
    refine mp_iadd (pc := 154) d_La_law_154 ?_
    rw [show nI i + 2 = nI (i + 2) from nI_add i 2]
    refine mp_sld hP (pc := 155) d_La_law_155 (mm_inN (n := i + 2) (by omega) (by omega)) ?_
    rw [mm_cl (n := i + 2) (by omega)]
    refine mrp_callV2 (pc := 156) d_La_law_156 (d2 := (1, 23)) ok_Mo_create li_La_76 sv_Mo_create hM.1 ⟨by decide, rfl⟩ ⟨by decide, rfl, rfl, Nat.le_of_ble_eq_true rfl, rfl, by decide, by decide⟩ ?_
    refine c_mcreate (h := (mm_sl (mm_wi h F1) 71 0 (nI i1 + 16 * A 0 i1).toInt64)) hM (hS.cfr f1) (fun F2 p2 s2 k2 f2 => ?_) (fun F2 p2 a2 s2 k2 f2 => ?_) (fun i2 F2 p2 hi2 e2 l2 s2 k2 f2 => ?_) (fun i2 F2 p2 hi2 lo2 e2 l2 s2 k2 f2 => ?_)
    · exact absurd p1 p2
    · exact absurd e1 (a2 _ hi1)
    · exact absurd l1 l2
    · have ij : i1 = i2 := (a_low0 hi1 lo1 e1).symm.trans (a_low0 hi2 lo2 e2)
      subst ij
      refine mp_istore (pc := 159) d_La_law_159 (by decide) ?_
      refine mp_aload_n (pc := 161) d_La_law_161 rfl ?_
      refine mrp_callV0 (pc := 162) d_La_law_162 (d2 := (0, 0)) ok_Mo_thrown li_La_77 sv_Mo_thrown hM.1 ⟨by decide, rfl⟩ ⟨by decide, Nat.le_of_ble_eq_true rfl, rfl, by decide, by decide⟩ ?_
      refine c_thrown (h := mm_wi (mm_sl (mm_wi h F1) 71 0 (nI i1 + 16 * A 0 i1).toInt64) F2) hM ?_
      rw [show mm_gi (mm_wi (mm_sl (mm_wi h F1) 71 0 (nI i1 + 16 * A 0 i1).toInt64) F2) 52 0 = 0 from k2]
      refine mp_iload (pc := 165) d_La_law_165 rfl ?_
      refine mp_ic_eq 172 (pc := 167) d_La_law_167 (by decide) (fun _ => ?_) (fun z => absurd z (by decide))
      refine mp_iload (pc := 172) d_La_law_172 rfl ?_
      refine mp_if_ne 189 (pc := 174) d_La_law_174 (by decide) (fun z => absurd z (by decide)) (fun _ => ?_)
      refine mp_aload_n (pc := 177) d_La_law_177 rfl ?_
      refine mp_iconst (v := 0) (pc := 178) d_La_law_178 (by decide) ?_
      refine mrp_lald (pc := 179) d_La_law_179 hO mm_in01 ?_
      rw [show mm_gl (mm_wi (mm_sl (mm_wi h F1) 71 0 (nI i1 + 16 * A 0 i1).toInt64) F2) 71 (0 : Int32).toNatClampNeg = (nI i1 + 16 * A 0 i1).toInt64 from rfl]
      refine mp_iload (pc := 180) d_La_law_180 rfl ?_
      refine mp_i2l (pc := 182) d_La_law_182 ?_
      refine mp_lcmp (pc := 183) d_La_law_183 ?_
      rw [mm_cmp0]
      refine mp_if_eq 189 (pc := 184) d_La_law_184 (by decide) (fun _ => ?_) (fun z => absurd z (by decide))
      refine mp_goto 1032 (pc := 189) d_La_law_189 (by decide) ?_
      refine mm_VP_drop 5 ?_
      refine mm_VP_drop 6 ?_
      refine mm_VP_ls (ls' := [some (.ref 0), some (.ref 1), some (.ref 52), some (.ref 71), some (.int (nI i)), none, none]) rfl (hk _ ?_)
      exact LI.of (h1 := (mm_sl (mm_wi h F1) 71 0 (nI i1 + 16 * A 0 i1).toInt64)) hT hM hO c1 f2 s2 (hW.set hi1 p1.1 p1.2) hE hbs (hbl.app (((mm_enc_byt _ _).app (mm_enc_byt _ _)).app (mm_enc_byt _ _))) (by show mm_c h ≤ _; omega) (by show mm_s h ≤ _; omega)
set_option maxRecDepth 20000 in
theorem k_destroy {P : State → Prop} {G : mm_G} {Q : mm_O → mm_H → Prop} {h : mm_H} {L : Nat} {xs : Nat → Int32} {w w2 t i : Nat} {A : mm_W} {E : mm_E} {sv lg : List Int32} (hP : ∀ s, P s → va_X (mm_sc G) L xs s s.heap) (hG : G.1.stackTraces = false) (hL : L ≤ 2048) (hi : i + 4 ≤ L) (ht : t ≤ 512) (hBC : 600 ≤ mm_BC G) (hBS : 9000 ≤ mm_BS G) (hT : mm_Ta h w w2) (hM : mm_Mo h) (hO : mm_at h 71 103 1) (hC : CS (mm_gi h) w A E sv lg) (hS : MS (mm_gi h) A E sv lg) (hW : WF A) (hE : a_okE E) (hbs : a_byt sv) (hbl : a_byt lg) (hcc : mm_c h ≤ 71 + t) (hss : mm_s h ≤ 5300 + 6 * t) (hk : ∀ h', LI (t + 1) h' → mm_VP P G (9, 178) M_La_law Q 1032 [some (.ref 0), some (.ref 1), some (.ref 52), some (.ref 71), some (.int (nI i)), none, none] [] h') : mm_VP P G (9, 178) M_La_law Q 192 [some (.ref 0), some (.ref 1), some (.ref 52), some (.ref 71), some (.int (nI i)), none, none] [] h := by
  have hr : mm_rm G h := ⟨by omega, by omega⟩
  refine mp_aload_n (pc := 192) d_La_law_192 rfl ?_
  refine mp_aload_n (pc := 193) d_La_law_193 rfl ?_
  refine mp_iload (pc := 194) d_La_law_194 rfl ?_
  refine mp_iconst (v := 1) (pc := 196) d_La_law_196 (by decide) ?_
  refine mp_iadd (pc := 197) d_La_law_197 ?_
  rw [show nI i + 1 = nI (i + 1) from nI_add i 1]
  refine mp_sld hP (pc := 198) d_La_law_198 (mm_inN (n := i + 1) (by omega) (by omega)) ?_
  rw [mm_cl (n := i + 1) (by omega)]
  refine mrp_callS2 (pc := 199) d_La_law_199 (d2 := (8, 132)) ok_La_destroy li_La_80 sv_La_destroy ⟨by decide, rfl, rfl, Nat.le_of_ble_eq_true rfl, rfl, by decide, by decide⟩ ?_
  refine c_La_destroy hT.1 (c_destroy hG hr hT hC (a_ix_lt (xs (i + 1))) (a_ix_eq (xs (i + 1))) (fun g1 => ⟨by decide, ?_⟩) (fun g1 l1 => ⟨by decide, ?_⟩) (fun F1 g1 l1 c1 f1 => ?_))
  · refine mp_istore (pc := 202) d_La_law_202 (by decide) ?_
    refine mp_aload_n (pc := 204) d_La_law_204 rfl ?_
    refine mp_aload_n (pc := 205) d_La_law_205 rfl ?_
    refine mp_iload (pc := 206) d_La_law_206 rfl ?_
    refine mp_iconst (v := 1) (pc := 208) d_La_law_208 (by decide) ?_
    refine mp_iadd (pc := 209) d_La_law_209 ?_
    rw [show nI i + 1 = nI (i + 1) from nI_add i 1]
    refine mp_sld hP (pc := 210) d_La_law_210 (mm_inN (n := i + 1) (by omega) (by omega)) ?_
    rw [mm_cl (n := i + 1) (by omega)]
    refine mrp_callV1 (pc := 211) d_La_law_211 (d2 := (5, 122)) ok_Mo_destroy li_La_83 sv_Mo_destroy hM.1 ⟨by decide, rfl⟩ ⟨by decide, rfl, Nat.le_of_ble_eq_true rfl, rfl, by decide, by decide⟩ ?_
    refine c_mdestroy (h := (mm_exc h)) hM hS hW (a_ix_lt (xs (i + 1))) (a_ix_eq (xs (i + 1))) (fun F2 g2 s2 k2 f2 => ?_) (fun F2 g2 l2 s2 k2 f2 => ?_) (fun F2 g2 l2 s2 k2 f2 => ?_)
    · refine mp_aload_n (pc := 214) d_La_law_214 rfl ?_
      refine mrp_callV0 (pc := 215) d_La_law_215 (d2 := (0, 0)) ok_Mo_thrown li_La_77 sv_Mo_thrown hM.1 ⟨by decide, rfl⟩ ⟨by decide, Nat.le_of_ble_eq_true rfl, rfl, by decide, by decide⟩ ?_
      refine c_thrown (h := mm_wi (mm_exc h) F2) hM ?_
      rw [show mm_gi (mm_wi (mm_exc h) F2) 52 0 = 1 from k2]
      refine mp_iload (pc := 218) d_La_law_218 rfl ?_
      refine mp_ic_eq 225 (pc := 220) d_La_law_220 (by decide) (fun _ => ?_) (fun z => absurd z (by decide))
      refine mp_goto 1032 (pc := 225) d_La_law_225 (by decide) ?_
      refine mm_VP_drop 5 ?_
      refine mm_VP_ls (ls' := [some (.ref 0), some (.ref 1), some (.ref 52), some (.ref 71), some (.int (nI i)), none, none]) rfl (hk _ ?_)
      exact LI.of (h1 := (mm_exc h)) hT hM hO hC f2 s2 hW hE hbs hbl (by show mm_c h + 1 ≤ _; omega) (by show mm_s h + 6 ≤ _; omega)
    · exact absurd g2 g1
    · exact absurd g2 g1
  · refine mp_istore (pc := 202) d_La_law_202 (by decide) ?_
    refine mp_aload_n (pc := 204) d_La_law_204 rfl ?_
    refine mp_aload_n (pc := 205) d_La_law_205 rfl ?_
    refine mp_iload (pc := 206) d_La_law_206 rfl ?_
    refine mp_iconst (v := 1) (pc := 208) d_La_law_208 (by decide) ?_
    refine mp_iadd (pc := 209) d_La_law_209 ?_
    rw [show nI i + 1 = nI (i + 1) from nI_add i 1]
    refine mp_sld hP (pc := 210) d_La_law_210 (mm_inN (n := i + 1) (by omega) (by omega)) ?_
    rw [mm_cl (n := i + 1) (by omega)]
    refine mrp_callV1 (pc := 211) d_La_law_211 (d2 := (5, 122)) ok_Mo_destroy li_La_83 sv_Mo_destroy hM.1 ⟨by decide, rfl⟩ ⟨by decide, rfl, Nat.le_of_ble_eq_true rfl, rfl, by decide, by decide⟩ ?_
    refine c_mdestroy (h := (mm_exc h)) hM hS hW (a_ix_lt (xs (i + 1))) (a_ix_eq (xs (i + 1))) (fun F2 g2 s2 k2 f2 => ?_) (fun F2 g2 l2 s2 k2 f2 => ?_) (fun F2 g2 l2 s2 k2 f2 => ?_)
    · exact absurd g1 g2
    · refine mp_aload_n (pc := 214) d_La_law_214 rfl ?_
      refine mrp_callV0 (pc := 215) d_La_law_215 (d2 := (0, 0)) ok_Mo_thrown li_La_77 sv_Mo_thrown hM.1 ⟨by decide, rfl⟩ ⟨by decide, Nat.le_of_ble_eq_true rfl, rfl, by decide, by decide⟩ ?_
      refine c_thrown (h := mm_wi (mm_exc h) F2) hM ?_
      rw [show mm_gi (mm_wi (mm_exc h) F2) 52 0 = 2 from k2]
      refine mp_iload (pc := 218) d_La_law_218 rfl ?_
      refine mp_ic_eq 225 (pc := 220) d_La_law_220 (by decide) (fun _ => ?_) (fun z => absurd z (by decide))
      refine mp_goto 1032 (pc := 225) d_La_law_225 (by decide) ?_
      refine mm_VP_drop 5 ?_
      refine mm_VP_ls (ls' := [some (.ref 0), some (.ref 1), some (.ref 52), some (.ref 71), some (.int (nI i)), none, none]) rfl (hk _ ?_)
      exact LI.of (h1 := (mm_exc h)) hT hM hO hC f2 s2 hW hE hbs hbl (by show mm_c h + 1 ≤ _; omega) (by show mm_s h + 6 ≤ _; omega)
    · exact absurd l2 l1
  · refine mp_istore (pc := 202) d_La_law_202 (by decide) ?_
    refine mp_aload_n (pc := 204) d_La_law_204 rfl ?_
    refine mp_aload_n (pc := 205) d_La_law_205 rfl ?_
    refine mp_iload (pc := 206) d_La_law_206 rfl ?_
    refine mp_iconst (v := 1) (pc := 208) d_La_law_208 (by decide) ?_
    refine mp_iadd (pc := 209) d_La_law_209 ?_
    rw [show nI i + 1 = nI (i + 1) from nI_add i 1]
    refine mp_sld hP (pc := 210) d_La_law_210 (mm_inN (n := i + 1) (by omega) (by omega)) ?_
    rw [mm_cl (n := i + 1) (by omega)]
    refine mrp_callV1 (pc := 211) d_La_law_211 (d2 := (5, 122)) ok_Mo_destroy li_La_83 sv_Mo_destroy hM.1 ⟨by decide, rfl⟩ ⟨by decide, rfl, Nat.le_of_ble_eq_true rfl, rfl, by decide, by decide⟩ ?_
    refine c_mdestroy (h := (mm_wi h F1)) hM (hS.cfr f1) hW (a_ix_lt (xs (i + 1))) (a_ix_eq (xs (i + 1))) (fun F2 g2 s2 k2 f2 => ?_) (fun F2 g2 l2 s2 k2 f2 => ?_) (fun F2 g2 l2 s2 k2 f2 => ?_)
    · exact absurd g1 g2
    · exact absurd l1 l2
    · refine mp_aload_n (pc := 214) d_La_law_214 rfl ?_
      refine mrp_callV0 (pc := 215) d_La_law_215 (d2 := (0, 0)) ok_Mo_thrown li_La_77 sv_Mo_thrown hM.1 ⟨by decide, rfl⟩ ⟨by decide, Nat.le_of_ble_eq_true rfl, rfl, by decide, by decide⟩ ?_
      refine c_thrown (h := mm_wi (mm_wi h F1) F2) hM ?_
      rw [show mm_gi (mm_wi (mm_wi h F1) F2) 52 0 = 0 from k2]
      refine mp_iload (pc := 218) d_La_law_218 rfl ?_
      refine mp_ic_eq 225 (pc := 220) d_La_law_220 (by decide) (fun _ => ?_) (fun z => absurd z (by decide))
      refine mp_goto 1032 (pc := 225) d_La_law_225 (by decide) ?_
      refine mm_VP_drop 5 ?_
      refine mm_VP_ls (ls' := [some (.ref 0), some (.ref 1), some (.ref 52), some (.ref 71), some (.int (nI i)), none, none]) rfl (hk _ ?_)
      exact LI.of (h1 := (mm_wi h F1)) hT hM hO c1 f2 s2 (hW.rem (a_ix_lt _)) hE hbs (hbl.app ((mm_enc_byt _ _).app (mm_enc_byt _ _))) (by show mm_c h ≤ _; omega) (by show mm_s h ≤ _; omega)
set_option maxRecDepth 20000 in
theorem k_speed {P : State → Prop} {G : mm_G} {Q : mm_O → mm_H → Prop} {h : mm_H} {L : Nat} {xs : Nat → Int32} {w w2 t i : Nat} {A : mm_W} {E : mm_E} {sv lg : List Int32} (hP : ∀ s, P s → va_X (mm_sc G) L xs s s.heap) (hG : G.1.stackTraces = false) (hL : L ≤ 2048) (hi : i + 4 ≤ L) (ht : t ≤ 512) (hBC : 600 ≤ mm_BC G) (hBS : 9000 ≤ mm_BS G) (hT : mm_Ta h w w2) (hM : mm_Mo h) (hO : mm_at h 71 103 1) (hC : CS (mm_gi h) w A E sv lg) (hS : MS (mm_gi h) A E sv lg) (hW : WF A) (hE : a_okE E) (hbs : a_byt sv) (hbl : a_byt lg) (hcc : mm_c h ≤ 71 + t) (hss : mm_s h ≤ 5300 + 6 * t) (hk : ∀ h', LI (t + 1) h' → mm_VP P G (9, 178) M_La_law Q 1032 [some (.ref 0), some (.ref 1), some (.ref 52), some (.ref 71), some (.int (nI i)), none, none] [] h') : mm_VP P G (9, 178) M_La_law Q 228 [some (.ref 0), some (.ref 1), some (.ref 52), some (.ref 71), some (.int (nI i)), none, none] [] h := by
  have hr : mm_rm G h := ⟨by omega, by omega⟩
  refine mp_aload_n (pc := 228) d_La_law_228 rfl ?_
  refine mp_aload_n (pc := 229) d_La_law_229 rfl ?_
  refine mp_iload (pc := 230) d_La_law_230 rfl ?_
  refine mp_iconst (v := 1) (pc := 232) d_La_law_232 (by decide) ?_
  refine mp_iadd (pc := 233) d_La_law_233 ?_
  rw [show nI i + 1 = nI (i + 1) from nI_add i 1]
  refine mp_sld hP (pc := 234) d_La_law_234 (mm_inN (n := i + 1) (by omega) (by omega)) ?_
  rw [mm_cl (n := i + 1) (by omega)]
  refine mp_aload_n (pc := 235) d_La_law_235 rfl ?_
  refine mp_iload (pc := 236) d_La_law_236 rfl ?_
  refine mp_iconst (v := 2) (pc := 238) d_La_law_238 (by decide) ?_
  refine mp_iadd (pc := 239) d_La_law_239 ?_
  rw [show nI i + 2 = nI (i + 2) from nI_add i 2]
  refine mp_sld hP (pc := 240) d_La_law_240 (mm_inN (n := i + 2) (by omega) (by omega)) ?_
  rw [mm_cl (n := i + 2) (by omega)]
  refine mp_aload_n (pc := 241) d_La_law_241 rfl ?_
  refine mp_iload (pc := 242) d_La_law_242 rfl ?_
  refine mp_iconst (v := 3) (pc := 244) d_La_law_244 (by decide) ?_
  refine mp_iadd (pc := 245) d_La_law_245 ?_
  rw [show nI i + 3 = nI (i + 3) from nI_add i 3]
  refine mp_sld hP (pc := 246) d_La_law_246 (mm_inN (n := i + 3) (by omega) (by omega)) ?_
  rw [mm_cl (n := i + 3) (by omega)]
  refine mrp_callS4 (pc := 247) d_La_law_247 (d2 := (8, 134)) ok_La_speed li_La_84 sv_La_speed ⟨by decide, rfl, rfl, rfl, rfl, Nat.le_of_ble_eq_true rfl, rfl, by decide, by decide⟩ ?_
  refine c_La_speed hT.1 (c_speed hG hr hT hC (a_ix_lt (xs (i + 1))) (a_ix_eq (xs (i + 1))) (fun g1 => ⟨by decide, ?_⟩) (fun g1 q1 l1 => ⟨by decide, ?_⟩) (fun F1 g1 q1 l1 c1 f1 => ?_))
  · refine mp_istore (pc := 250) d_La_law_250 (by decide) ?_
    refine mp_aload_n (pc := 252) d_La_law_252 rfl ?_
    refine mp_aload_n (pc := 253) d_La_law_253 rfl ?_
    refine mp_iload (pc := 254) d_La_law_254 rfl ?_
    refine mp_iconst (v := 1) (pc := 256) d_La_law_256 (by decide) ?_
    refine mp_iadd (pc := 257) d_La_law_257 ?_
    rw [show nI i + 1 = nI (i + 1) from nI_add i 1]
    refine mp_sld hP (pc := 258) d_La_law_258 (mm_inN (n := i + 1) (by omega) (by omega)) ?_
    rw [mm_cl (n := i + 1) (by omega)]
    refine mp_aload_n (pc := 259) d_La_law_259 rfl ?_
    refine mp_iload (pc := 260) d_La_law_260 rfl ?_
    refine mp_iconst (v := 2) (pc := 262) d_La_law_262 (by decide) ?_
    refine mp_iadd (pc := 263) d_La_law_263 ?_
    rw [show nI i + 2 = nI (i + 2) from nI_add i 2]
    refine mp_sld hP (pc := 264) d_La_law_264 (mm_inN (n := i + 2) (by omega) (by omega)) ?_
    rw [mm_cl (n := i + 2) (by omega)]
    refine mp_aload_n (pc := 265) d_La_law_265 rfl ?_
    refine mp_iload (pc := 266) d_La_law_266 rfl ?_
    refine mp_iconst (v := 3) (pc := 268) d_La_law_268 (by decide) ?_
    refine mp_iadd (pc := 269) d_La_law_269 ?_
    rw [show nI i + 3 = nI (i + 3) from nI_add i 3]
    refine mp_sld hP (pc := 270) d_La_law_270 (mm_inN (n := i + 3) (by omega) (by omega)) ?_
    rw [mm_cl (n := i + 3) (by omega)]
    refine mrp_callV3 (pc := 271) d_La_law_271 (d2 := (5, 122)) ok_Mo_speed li_La_87 sv_Mo_speed hM.1 ⟨by decide, rfl⟩ ⟨by decide, rfl, rfl, rfl, Nat.le_of_ble_eq_true rfl, rfl, by decide, by decide⟩ ?_
    refine c_mspeed (h := (mm_exc h)) hM hS hW (a_ix_lt (xs (i + 1))) (a_ix_eq (xs (i + 1))) (fun F2 g2 s2 k2 f2 => ?_) (fun F2 g2 q2 l2 s2 k2 f2 => ?_) (fun F2 g2 q2 l2 s2 k2 f2 => ?_)
    · refine mp_aload_n (pc := 274) d_La_law_274 rfl ?_
      refine mrp_callV0 (pc := 275) d_La_law_275 (d2 := (0, 0)) ok_Mo_thrown li_La_77 sv_Mo_thrown hM.1 ⟨by decide, rfl⟩ ⟨by decide, Nat.le_of_ble_eq_true rfl, rfl, by decide, by decide⟩ ?_
      refine c_thrown (h := mm_wi (mm_exc h) F2) hM ?_
      rw [show mm_gi (mm_wi (mm_exc h) F2) 52 0 = 1 from k2]
      refine mp_iload (pc := 278) d_La_law_278 rfl ?_
      refine mp_ic_eq 285 (pc := 280) d_La_law_280 (by decide) (fun _ => ?_) (fun z => absurd z (by decide))
      refine mp_goto 1032 (pc := 285) d_La_law_285 (by decide) ?_
      refine mm_VP_drop 5 ?_
      refine mm_VP_ls (ls' := [some (.ref 0), some (.ref 1), some (.ref 52), some (.ref 71), some (.int (nI i)), none, none]) rfl (hk _ ?_)
      exact LI.of (h1 := (mm_exc h)) hT hM hO hC f2 s2 hW hE hbs hbl (by show mm_c h + 1 ≤ _; omega) (by show mm_s h + 6 ≤ _; omega)
    · exact absurd ⟨g2, q2⟩ g1
    · exact absurd ⟨g2, q2⟩ g1
  · refine mp_istore (pc := 250) d_La_law_250 (by decide) ?_
    refine mp_aload_n (pc := 252) d_La_law_252 rfl ?_
    refine mp_aload_n (pc := 253) d_La_law_253 rfl ?_
    refine mp_iload (pc := 254) d_La_law_254 rfl ?_
    refine mp_iconst (v := 1) (pc := 256) d_La_law_256 (by decide) ?_
    refine mp_iadd (pc := 257) d_La_law_257 ?_
    rw [show nI i + 1 = nI (i + 1) from nI_add i 1]
    refine mp_sld hP (pc := 258) d_La_law_258 (mm_inN (n := i + 1) (by omega) (by omega)) ?_
    rw [mm_cl (n := i + 1) (by omega)]
    refine mp_aload_n (pc := 259) d_La_law_259 rfl ?_
    refine mp_iload (pc := 260) d_La_law_260 rfl ?_
    refine mp_iconst (v := 2) (pc := 262) d_La_law_262 (by decide) ?_
    refine mp_iadd (pc := 263) d_La_law_263 ?_
    rw [show nI i + 2 = nI (i + 2) from nI_add i 2]
    refine mp_sld hP (pc := 264) d_La_law_264 (mm_inN (n := i + 2) (by omega) (by omega)) ?_
    rw [mm_cl (n := i + 2) (by omega)]
    refine mp_aload_n (pc := 265) d_La_law_265 rfl ?_
    refine mp_iload (pc := 266) d_La_law_266 rfl ?_
    refine mp_iconst (v := 3) (pc := 268) d_La_law_268 (by decide) ?_
    refine mp_iadd (pc := 269) d_La_law_269 ?_
    rw [show nI i + 3 = nI (i + 3) from nI_add i 3]
    refine mp_sld hP (pc := 270) d_La_law_270 (mm_inN (n := i + 3) (by omega) (by omega)) ?_
    rw [mm_cl (n := i + 3) (by omega)]
    refine mrp_callV3 (pc := 271) d_La_law_271 (d2 := (5, 122)) ok_Mo_speed li_La_87 sv_Mo_speed hM.1 ⟨by decide, rfl⟩ ⟨by decide, rfl, rfl, rfl, Nat.le_of_ble_eq_true rfl, rfl, by decide, by decide⟩ ?_
    refine c_mspeed (h := (mm_exc h)) hM hS hW (a_ix_lt (xs (i + 1))) (a_ix_eq (xs (i + 1))) (fun F2 g2 s2 k2 f2 => ?_) (fun F2 g2 q2 l2 s2 k2 f2 => ?_) (fun F2 g2 q2 l2 s2 k2 f2 => ?_)
    · exact absurd ⟨g1, q1⟩ g2
    · refine mp_aload_n (pc := 274) d_La_law_274 rfl ?_
      refine mrp_callV0 (pc := 275) d_La_law_275 (d2 := (0, 0)) ok_Mo_thrown li_La_77 sv_Mo_thrown hM.1 ⟨by decide, rfl⟩ ⟨by decide, Nat.le_of_ble_eq_true rfl, rfl, by decide, by decide⟩ ?_
      refine c_thrown (h := mm_wi (mm_exc h) F2) hM ?_
      rw [show mm_gi (mm_wi (mm_exc h) F2) 52 0 = 2 from k2]
      refine mp_iload (pc := 278) d_La_law_278 rfl ?_
      refine mp_ic_eq 285 (pc := 280) d_La_law_280 (by decide) (fun _ => ?_) (fun z => absurd z (by decide))
      refine mp_goto 1032 (pc := 285) d_La_law_285 (by decide) ?_
      refine mm_VP_drop 5 ?_
      refine mm_VP_ls (ls' := [some (.ref 0), some (.ref 1), some (.ref 52), some (.ref 71), some (.int (nI i)), none, none]) rfl (hk _ ?_)
      exact LI.of (h1 := (mm_exc h)) hT hM hO hC f2 s2 hW hE hbs hbl (by show mm_c h + 1 ≤ _; omega) (by show mm_s h + 6 ≤ _; omega)
    · exact absurd l2 l1
  · refine mp_istore (pc := 250) d_La_law_250 (by decide) ?_
    refine mp_aload_n (pc := 252) d_La_law_252 rfl ?_
    refine mp_aload_n (pc := 253) d_La_law_253 rfl ?_
    refine mp_iload (pc := 254) d_La_law_254 rfl ?_
    refine mp_iconst (v := 1) (pc := 256) d_La_law_256 (by decide) ?_
    refine mp_iadd (pc := 257) d_La_law_257 ?_
    rw [show nI i + 1 = nI (i + 1) from nI_add i 1]
    refine mp_sld hP (pc := 258) d_La_law_258 (mm_inN (n := i + 1) (by omega) (by omega)) ?_
    rw [mm_cl (n := i + 1) (by omega)]
    refine mp_aload_n (pc := 259) d_La_law_259 rfl ?_
    refine mp_iload (pc := 260) d_La_law_260 rfl ?_
    refine mp_iconst (v := 2) (pc := 262) d_La_law_262 (by decide) ?_
    refine mp_iadd (pc := 263) d_La_law_263 ?_
    rw [show nI i + 2 = nI (i + 2) from nI_add i 2]
    refine mp_sld hP (pc := 264) d_La_law_264 (mm_inN (n := i + 2) (by omega) (by omega)) ?_
    rw [mm_cl (n := i + 2) (by omega)]
    refine mp_aload_n (pc := 265) d_La_law_265 rfl ?_
    refine mp_iload (pc := 266) d_La_law_266 rfl ?_
    refine mp_iconst (v := 3) (pc := 268) d_La_law_268 (by decide) ?_
    refine mp_iadd (pc := 269) d_La_law_269 ?_
    rw [show nI i + 3 = nI (i + 3) from nI_add i 3]
    refine mp_sld hP (pc := 270) d_La_law_270 (mm_inN (n := i + 3) (by omega) (by omega)) ?_
    rw [mm_cl (n := i + 3) (by omega)]
    refine mrp_callV3 (pc := 271) d_La_law_271 (d2 := (5, 122)) ok_Mo_speed li_La_87 sv_Mo_speed hM.1 ⟨by decide, rfl⟩ ⟨by decide, rfl, rfl, rfl, Nat.le_of_ble_eq_true rfl, rfl, by decide, by decide⟩ ?_
    refine c_mspeed (h := (mm_wi h F1)) hM (hS.cfr f1) hW (a_ix_lt (xs (i + 1))) (a_ix_eq (xs (i + 1))) (fun F2 g2 s2 k2 f2 => ?_) (fun F2 g2 q2 l2 s2 k2 f2 => ?_) (fun F2 g2 q2 l2 s2 k2 f2 => ?_)
    · exact absurd ⟨g1, q1⟩ g2
    · exact absurd l1 l2
    · refine mp_aload_n (pc := 274) d_La_law_274 rfl ?_
      refine mrp_callV0 (pc := 275) d_La_law_275 (d2 := (0, 0)) ok_Mo_thrown li_La_77 sv_Mo_thrown hM.1 ⟨by decide, rfl⟩ ⟨by decide, Nat.le_of_ble_eq_true rfl, rfl, by decide, by decide⟩ ?_
      refine c_thrown (h := mm_wi (mm_wi h F1) F2) hM ?_
      rw [show mm_gi (mm_wi (mm_wi h F1) F2) 52 0 = 0 from k2]
      refine mp_iload (pc := 278) d_La_law_278 rfl ?_
      refine mp_ic_eq 285 (pc := 280) d_La_law_280 (by decide) (fun _ => ?_) (fun z => absurd z (by decide))
      refine mp_goto 1032 (pc := 285) d_La_law_285 (by decide) ?_
      refine mm_VP_drop 5 ?_
      refine mm_VP_ls (ls' := [some (.ref 0), some (.ref 1), some (.ref 52), some (.ref 71), some (.int (nI i)), none, none]) rfl (hk _ ?_)
      exact LI.of (h1 := (mm_wi h F1)) hT hM hO c1 f2 s2 (hW.ord (what := 3) (a_ix_lt _) (by omega) (a_fit3.mpr q1)) hE hbs (hbl.app ((((mm_enc_byt _ _).app (mm_enc_byt _ _)).app (mm_enc_byt _ _)).app (mm_enc_byt _ _))) (by show mm_c h ≤ _; omega) (by show mm_s h ≤ _; omega)
set_option maxRecDepth 20000 in
theorem k_shape {P : State → Prop} {G : mm_G} {Q : mm_O → mm_H → Prop} {h : mm_H} {L : Nat} {xs : Nat → Int32} {w w2 t i : Nat} {A : mm_W} {E : mm_E} {sv lg : List Int32} (hP : ∀ s, P s → va_X (mm_sc G) L xs s s.heap) (hG : G.1.stackTraces = false) (hL : L ≤ 2048) (hi : i + 4 ≤ L) (ht : t ≤ 512) (hBC : 600 ≤ mm_BC G) (hBS : 9000 ≤ mm_BS G) (hT : mm_Ta h w w2) (hM : mm_Mo h) (hO : mm_at h 71 103 1) (hC : CS (mm_gi h) w A E sv lg) (hS : MS (mm_gi h) A E sv lg) (hW : WF A) (hE : a_okE E) (hbs : a_byt sv) (hbl : a_byt lg) (hcc : mm_c h ≤ 71 + t) (hss : mm_s h ≤ 5300 + 6 * t) (hk : ∀ h', LI (t + 1) h' → mm_VP P G (9, 178) M_La_law Q 1032 [some (.ref 0), some (.ref 1), some (.ref 52), some (.ref 71), some (.int (nI i)), none, none] [] h') : mm_VP P G (9, 178) M_La_law Q 288 [some (.ref 0), some (.ref 1), some (.ref 52), some (.ref 71), some (.int (nI i)), none, none] [] h := by
  have hr : mm_rm G h := ⟨by omega, by omega⟩
  refine mp_aload_n (pc := 288) d_La_law_288 rfl ?_
  refine mp_aload_n (pc := 289) d_La_law_289 rfl ?_
  refine mp_iload (pc := 290) d_La_law_290 rfl ?_
  refine mp_iconst (v := 1) (pc := 292) d_La_law_292 (by decide) ?_
  refine mp_iadd (pc := 293) d_La_law_293 ?_
  rw [show nI i + 1 = nI (i + 1) from nI_add i 1]
  refine mp_sld hP (pc := 294) d_La_law_294 (mm_inN (n := i + 1) (by omega) (by omega)) ?_
  rw [mm_cl (n := i + 1) (by omega)]
  refine mp_aload_n (pc := 295) d_La_law_295 rfl ?_
  refine mp_iload (pc := 296) d_La_law_296 rfl ?_
  refine mp_iconst (v := 2) (pc := 298) d_La_law_298 (by decide) ?_
  refine mp_iadd (pc := 299) d_La_law_299 ?_
  rw [show nI i + 2 = nI (i + 2) from nI_add i 2]
  refine mp_sld hP (pc := 300) d_La_law_300 (mm_inN (n := i + 2) (by omega) (by omega)) ?_
  rw [mm_cl (n := i + 2) (by omega)]
  refine mp_aload_n (pc := 301) d_La_law_301 rfl ?_
  refine mp_iload (pc := 302) d_La_law_302 rfl ?_
  refine mp_iconst (v := 3) (pc := 304) d_La_law_304 (by decide) ?_
  refine mp_iadd (pc := 305) d_La_law_305 ?_
  rw [show nI i + 3 = nI (i + 3) from nI_add i 3]
  refine mp_sld hP (pc := 306) d_La_law_306 (mm_inN (n := i + 3) (by omega) (by omega)) ?_
  rw [mm_cl (n := i + 3) (by omega)]
  refine mrp_callS4 (pc := 307) d_La_law_307 (d2 := (8, 134)) ok_La_shape li_La_88 sv_La_shape ⟨by decide, rfl, rfl, rfl, rfl, Nat.le_of_ble_eq_true rfl, rfl, by decide, by decide⟩ ?_
  refine c_La_shape hT.1 (c_shape hG hr hT hC (a_ix_lt (xs (i + 1))) (a_ix_eq (xs (i + 1))) (fun g1 => ⟨by decide, ?_⟩) (fun g1 q1 l1 => ⟨by decide, ?_⟩) (fun F1 g1 q1 l1 c1 f1 => ?_))
  · refine mp_istore (pc := 310) d_La_law_310 (by decide) ?_
    refine mp_aload_n (pc := 312) d_La_law_312 rfl ?_
    refine mp_aload_n (pc := 313) d_La_law_313 rfl ?_
    refine mp_iload (pc := 314) d_La_law_314 rfl ?_
    refine mp_iconst (v := 1) (pc := 316) d_La_law_316 (by decide) ?_
    refine mp_iadd (pc := 317) d_La_law_317 ?_
    rw [show nI i + 1 = nI (i + 1) from nI_add i 1]
    refine mp_sld hP (pc := 318) d_La_law_318 (mm_inN (n := i + 1) (by omega) (by omega)) ?_
    rw [mm_cl (n := i + 1) (by omega)]
    refine mp_aload_n (pc := 319) d_La_law_319 rfl ?_
    refine mp_iload (pc := 320) d_La_law_320 rfl ?_
    refine mp_iconst (v := 2) (pc := 322) d_La_law_322 (by decide) ?_
    refine mp_iadd (pc := 323) d_La_law_323 ?_
    rw [show nI i + 2 = nI (i + 2) from nI_add i 2]
    refine mp_sld hP (pc := 324) d_La_law_324 (mm_inN (n := i + 2) (by omega) (by omega)) ?_
    rw [mm_cl (n := i + 2) (by omega)]
    refine mp_aload_n (pc := 325) d_La_law_325 rfl ?_
    refine mp_iload (pc := 326) d_La_law_326 rfl ?_
    refine mp_iconst (v := 3) (pc := 328) d_La_law_328 (by decide) ?_
    refine mp_iadd (pc := 329) d_La_law_329 ?_
    rw [show nI i + 3 = nI (i + 3) from nI_add i 3]
    refine mp_sld hP (pc := 330) d_La_law_330 (mm_inN (n := i + 3) (by omega) (by omega)) ?_
    rw [mm_cl (n := i + 3) (by omega)]
    refine mrp_callV3 (pc := 331) d_La_law_331 (d2 := (5, 122)) ok_Mo_shape li_La_90 sv_Mo_shape hM.1 ⟨by decide, rfl⟩ ⟨by decide, rfl, rfl, rfl, Nat.le_of_ble_eq_true rfl, rfl, by decide, by decide⟩ ?_
    refine c_mshape (h := (mm_exc h)) hM hS hW (a_ix_lt (xs (i + 1))) (a_ix_eq (xs (i + 1))) (fun F2 g2 s2 k2 f2 => ?_) (fun F2 g2 q2 l2 s2 k2 f2 => ?_) (fun F2 g2 q2 l2 s2 k2 f2 => ?_)
    · refine mp_aload_n (pc := 334) d_La_law_334 rfl ?_
      refine mrp_callV0 (pc := 335) d_La_law_335 (d2 := (0, 0)) ok_Mo_thrown li_La_77 sv_Mo_thrown hM.1 ⟨by decide, rfl⟩ ⟨by decide, Nat.le_of_ble_eq_true rfl, rfl, by decide, by decide⟩ ?_
      refine c_thrown (h := mm_wi (mm_exc h) F2) hM ?_
      rw [show mm_gi (mm_wi (mm_exc h) F2) 52 0 = 1 from k2]
      refine mp_iload (pc := 338) d_La_law_338 rfl ?_
      refine mp_ic_eq 345 (pc := 340) d_La_law_340 (by decide) (fun _ => ?_) (fun z => absurd z (by decide))
      refine mp_goto 1032 (pc := 345) d_La_law_345 (by decide) ?_
      refine mm_VP_drop 5 ?_
      refine mm_VP_ls (ls' := [some (.ref 0), some (.ref 1), some (.ref 52), some (.ref 71), some (.int (nI i)), none, none]) rfl (hk _ ?_)
      exact LI.of (h1 := (mm_exc h)) hT hM hO hC f2 s2 hW hE hbs hbl (by show mm_c h + 1 ≤ _; omega) (by show mm_s h + 6 ≤ _; omega)
    · exact absurd ⟨g2, q2⟩ g1
    · exact absurd ⟨g2, q2⟩ g1
  · refine mp_istore (pc := 310) d_La_law_310 (by decide) ?_
    refine mp_aload_n (pc := 312) d_La_law_312 rfl ?_
    refine mp_aload_n (pc := 313) d_La_law_313 rfl ?_
    refine mp_iload (pc := 314) d_La_law_314 rfl ?_
    refine mp_iconst (v := 1) (pc := 316) d_La_law_316 (by decide) ?_
    refine mp_iadd (pc := 317) d_La_law_317 ?_
    rw [show nI i + 1 = nI (i + 1) from nI_add i 1]
    refine mp_sld hP (pc := 318) d_La_law_318 (mm_inN (n := i + 1) (by omega) (by omega)) ?_
    rw [mm_cl (n := i + 1) (by omega)]
    refine mp_aload_n (pc := 319) d_La_law_319 rfl ?_
    refine mp_iload (pc := 320) d_La_law_320 rfl ?_
    refine mp_iconst (v := 2) (pc := 322) d_La_law_322 (by decide) ?_
    refine mp_iadd (pc := 323) d_La_law_323 ?_
    rw [show nI i + 2 = nI (i + 2) from nI_add i 2]
    refine mp_sld hP (pc := 324) d_La_law_324 (mm_inN (n := i + 2) (by omega) (by omega)) ?_
    rw [mm_cl (n := i + 2) (by omega)]
    refine mp_aload_n (pc := 325) d_La_law_325 rfl ?_
    refine mp_iload (pc := 326) d_La_law_326 rfl ?_
    refine mp_iconst (v := 3) (pc := 328) d_La_law_328 (by decide) ?_
    refine mp_iadd (pc := 329) d_La_law_329 ?_
    rw [show nI i + 3 = nI (i + 3) from nI_add i 3]
    refine mp_sld hP (pc := 330) d_La_law_330 (mm_inN (n := i + 3) (by omega) (by omega)) ?_
    rw [mm_cl (n := i + 3) (by omega)]
    refine mrp_callV3 (pc := 331) d_La_law_331 (d2 := (5, 122)) ok_Mo_shape li_La_90 sv_Mo_shape hM.1 ⟨by decide, rfl⟩ ⟨by decide, rfl, rfl, rfl, Nat.le_of_ble_eq_true rfl, rfl, by decide, by decide⟩ ?_
    refine c_mshape (h := (mm_exc h)) hM hS hW (a_ix_lt (xs (i + 1))) (a_ix_eq (xs (i + 1))) (fun F2 g2 s2 k2 f2 => ?_) (fun F2 g2 q2 l2 s2 k2 f2 => ?_) (fun F2 g2 q2 l2 s2 k2 f2 => ?_)
    · exact absurd ⟨g1, q1⟩ g2
    · refine mp_aload_n (pc := 334) d_La_law_334 rfl ?_
      refine mrp_callV0 (pc := 335) d_La_law_335 (d2 := (0, 0)) ok_Mo_thrown li_La_77 sv_Mo_thrown hM.1 ⟨by decide, rfl⟩ ⟨by decide, Nat.le_of_ble_eq_true rfl, rfl, by decide, by decide⟩ ?_
      refine c_thrown (h := mm_wi (mm_exc h) F2) hM ?_
      rw [show mm_gi (mm_wi (mm_exc h) F2) 52 0 = 2 from k2]
      refine mp_iload (pc := 338) d_La_law_338 rfl ?_
      refine mp_ic_eq 345 (pc := 340) d_La_law_340 (by decide) (fun _ => ?_) (fun z => absurd z (by decide))
      refine mp_goto 1032 (pc := 345) d_La_law_345 (by decide) ?_
      refine mm_VP_drop 5 ?_
      refine mm_VP_ls (ls' := [some (.ref 0), some (.ref 1), some (.ref 52), some (.ref 71), some (.int (nI i)), none, none]) rfl (hk _ ?_)
      exact LI.of (h1 := (mm_exc h)) hT hM hO hC f2 s2 hW hE hbs hbl (by show mm_c h + 1 ≤ _; omega) (by show mm_s h + 6 ≤ _; omega)
    · exact absurd l2 l1
  · refine mp_istore (pc := 310) d_La_law_310 (by decide) ?_
    refine mp_aload_n (pc := 312) d_La_law_312 rfl ?_
    refine mp_aload_n (pc := 313) d_La_law_313 rfl ?_
    refine mp_iload (pc := 314) d_La_law_314 rfl ?_
    refine mp_iconst (v := 1) (pc := 316) d_La_law_316 (by decide) ?_
    refine mp_iadd (pc := 317) d_La_law_317 ?_
    rw [show nI i + 1 = nI (i + 1) from nI_add i 1]
    refine mp_sld hP (pc := 318) d_La_law_318 (mm_inN (n := i + 1) (by omega) (by omega)) ?_
    rw [mm_cl (n := i + 1) (by omega)]
    refine mp_aload_n (pc := 319) d_La_law_319 rfl ?_
    refine mp_iload (pc := 320) d_La_law_320 rfl ?_
    refine mp_iconst (v := 2) (pc := 322) d_La_law_322 (by decide) ?_
    refine mp_iadd (pc := 323) d_La_law_323 ?_
    rw [show nI i + 2 = nI (i + 2) from nI_add i 2]
    refine mp_sld hP (pc := 324) d_La_law_324 (mm_inN (n := i + 2) (by omega) (by omega)) ?_
    rw [mm_cl (n := i + 2) (by omega)]
    refine mp_aload_n (pc := 325) d_La_law_325 rfl ?_
    refine mp_iload (pc := 326) d_La_law_326 rfl ?_
    refine mp_iconst (v := 3) (pc := 328) d_La_law_328 (by decide) ?_
    refine mp_iadd (pc := 329) d_La_law_329 ?_
    rw [show nI i + 3 = nI (i + 3) from nI_add i 3]
    refine mp_sld hP (pc := 330) d_La_law_330 (mm_inN (n := i + 3) (by omega) (by omega)) ?_
    rw [mm_cl (n := i + 3) (by omega)]
    refine mrp_callV3 (pc := 331) d_La_law_331 (d2 := (5, 122)) ok_Mo_shape li_La_90 sv_Mo_shape hM.1 ⟨by decide, rfl⟩ ⟨by decide, rfl, rfl, rfl, Nat.le_of_ble_eq_true rfl, rfl, by decide, by decide⟩ ?_
    refine c_mshape (h := (mm_wi h F1)) hM (hS.cfr f1) hW (a_ix_lt (xs (i + 1))) (a_ix_eq (xs (i + 1))) (fun F2 g2 s2 k2 f2 => ?_) (fun F2 g2 q2 l2 s2 k2 f2 => ?_) (fun F2 g2 q2 l2 s2 k2 f2 => ?_)
    · exact absurd ⟨g1, q1⟩ g2
    · exact absurd l1 l2
    · refine mp_aload_n (pc := 334) d_La_law_334 rfl ?_
      refine mrp_callV0 (pc := 335) d_La_law_335 (d2 := (0, 0)) ok_Mo_thrown li_La_77 sv_Mo_thrown hM.1 ⟨by decide, rfl⟩ ⟨by decide, Nat.le_of_ble_eq_true rfl, rfl, by decide, by decide⟩ ?_
      refine c_thrown (h := mm_wi (mm_wi h F1) F2) hM ?_
      rw [show mm_gi (mm_wi (mm_wi h F1) F2) 52 0 = 0 from k2]
      refine mp_iload (pc := 338) d_La_law_338 rfl ?_
      refine mp_ic_eq 345 (pc := 340) d_La_law_340 (by decide) (fun _ => ?_) (fun z => absurd z (by decide))
      refine mp_goto 1032 (pc := 345) d_La_law_345 (by decide) ?_
      refine mm_VP_drop 5 ?_
      refine mm_VP_ls (ls' := [some (.ref 0), some (.ref 1), some (.ref 52), some (.ref 71), some (.int (nI i)), none, none]) rfl (hk _ ?_)
      exact LI.of (h1 := (mm_wi h F1)) hT hM hO c1 f2 s2 (hW.ord (what := 4) (a_ix_lt _) (by omega) (a_fit4.mpr q1)) hE hbs (hbl.app ((((mm_enc_byt _ _).app (mm_enc_byt _ _)).app (mm_enc_byt _ _)).app (mm_enc_byt _ _))) (by show mm_c h ≤ _; omega) (by show mm_s h ≤ _; omega)
set_option maxRecDepth 20000 in
theorem k_timer {P : State → Prop} {G : mm_G} {Q : mm_O → mm_H → Prop} {h : mm_H} {L : Nat} {xs : Nat → Int32} {w w2 t i : Nat} {A : mm_W} {E : mm_E} {sv lg : List Int32} (hP : ∀ s, P s → va_X (mm_sc G) L xs s s.heap) (hG : G.1.stackTraces = false) (hL : L ≤ 2048) (hi : i + 4 ≤ L) (ht : t ≤ 512) (hBC : 600 ≤ mm_BC G) (hBS : 9000 ≤ mm_BS G) (hT : mm_Ta h w w2) (hM : mm_Mo h) (hO : mm_at h 71 103 1) (hC : CS (mm_gi h) w A E sv lg) (hS : MS (mm_gi h) A E sv lg) (hW : WF A) (hE : a_okE E) (hbs : a_byt sv) (hbl : a_byt lg) (hcc : mm_c h ≤ 71 + t) (hss : mm_s h ≤ 5300 + 6 * t) (hk : ∀ h', LI (t + 1) h' → mm_VP P G (9, 178) M_La_law Q 1032 [some (.ref 0), some (.ref 1), some (.ref 52), some (.ref 71), some (.int (nI i)), none, none] [] h') : mm_VP P G (9, 178) M_La_law Q 348 [some (.ref 0), some (.ref 1), some (.ref 52), some (.ref 71), some (.int (nI i)), none, none] [] h := by
  have hr : mm_rm G h := ⟨by omega, by omega⟩
  refine mp_aload_n (pc := 348) d_La_law_348 rfl ?_
  refine mp_aload_n (pc := 349) d_La_law_349 rfl ?_
  refine mp_iload (pc := 350) d_La_law_350 rfl ?_
  refine mp_iconst (v := 1) (pc := 352) d_La_law_352 (by decide) ?_
  refine mp_iadd (pc := 353) d_La_law_353 ?_
  rw [show nI i + 1 = nI (i + 1) from nI_add i 1]
  refine mp_sld hP (pc := 354) d_La_law_354 (mm_inN (n := i + 1) (by omega) (by omega)) ?_
  rw [mm_cl (n := i + 1) (by omega)]
  refine mp_aload_n (pc := 355) d_La_law_355 rfl ?_
  refine mp_iload (pc := 356) d_La_law_356 rfl ?_
  refine mp_iconst (v := 2) (pc := 358) d_La_law_358 (by decide) ?_
  refine mp_iadd (pc := 359) d_La_law_359 ?_
  rw [show nI i + 2 = nI (i + 2) from nI_add i 2]
  refine mp_sld hP (pc := 360) d_La_law_360 (mm_inN (n := i + 2) (by omega) (by omega)) ?_
  rw [mm_cl (n := i + 2) (by omega)]
  refine mrp_callS3 (pc := 361) d_La_law_361 (d2 := (8, 133)) ok_La_timer li_La_91 sv_La_timer ⟨by decide, rfl, rfl, rfl, Nat.le_of_ble_eq_true rfl, rfl, by decide, by decide⟩ ?_
  refine c_La_timer hT.1 (c_timer hG hr hT hC (a_ix_lt (xs (i + 1))) (a_ix_eq (xs (i + 1))) (fun g1 => ⟨by decide, ?_⟩) (fun g1 q1 l1 => ⟨by decide, ?_⟩) (fun F1 g1 q1 l1 c1 f1 => ?_))
  · refine mp_istore (pc := 364) d_La_law_364 (by decide) ?_
    refine mp_aload_n (pc := 366) d_La_law_366 rfl ?_
    refine mp_aload_n (pc := 367) d_La_law_367 rfl ?_
    refine mp_iload (pc := 368) d_La_law_368 rfl ?_
    refine mp_iconst (v := 1) (pc := 370) d_La_law_370 (by decide) ?_
    refine mp_iadd (pc := 371) d_La_law_371 ?_
    rw [show nI i + 1 = nI (i + 1) from nI_add i 1]
    refine mp_sld hP (pc := 372) d_La_law_372 (mm_inN (n := i + 1) (by omega) (by omega)) ?_
    rw [mm_cl (n := i + 1) (by omega)]
    refine mp_aload_n (pc := 373) d_La_law_373 rfl ?_
    refine mp_iload (pc := 374) d_La_law_374 rfl ?_
    refine mp_iconst (v := 2) (pc := 376) d_La_law_376 (by decide) ?_
    refine mp_iadd (pc := 377) d_La_law_377 ?_
    rw [show nI i + 2 = nI (i + 2) from nI_add i 2]
    refine mp_sld hP (pc := 378) d_La_law_378 (mm_inN (n := i + 2) (by omega) (by omega)) ?_
    rw [mm_cl (n := i + 2) (by omega)]
    refine mrp_callV2 (pc := 379) d_La_law_379 (d2 := (5, 122)) ok_Mo_timer li_La_94 sv_Mo_timer hM.1 ⟨by decide, rfl⟩ ⟨by decide, rfl, rfl, Nat.le_of_ble_eq_true rfl, rfl, by decide, by decide⟩ ?_
    refine c_mtimer (h := (mm_exc h)) (b := 0) hM hS hW (a_ix_lt (xs (i + 1))) (a_ix_eq (xs (i + 1))) (fun F2 g2 s2 k2 f2 => ?_) (fun F2 g2 q2 l2 s2 k2 f2 => ?_) (fun F2 g2 q2 l2 s2 k2 f2 => ?_)
    · refine mp_aload_n (pc := 382) d_La_law_382 rfl ?_
      refine mrp_callV0 (pc := 383) d_La_law_383 (d2 := (0, 0)) ok_Mo_thrown li_La_77 sv_Mo_thrown hM.1 ⟨by decide, rfl⟩ ⟨by decide, Nat.le_of_ble_eq_true rfl, rfl, by decide, by decide⟩ ?_
      refine c_thrown (h := mm_wi (mm_exc h) F2) hM ?_
      rw [show mm_gi (mm_wi (mm_exc h) F2) 52 0 = 1 from k2]
      refine mp_iload (pc := 386) d_La_law_386 rfl ?_
      refine mp_ic_eq 393 (pc := 388) d_La_law_388 (by decide) (fun _ => ?_) (fun z => absurd z (by decide))
      refine mp_goto 1032 (pc := 393) d_La_law_393 (by decide) ?_
      refine mm_VP_drop 5 ?_
      refine mm_VP_ls (ls' := [some (.ref 0), some (.ref 1), some (.ref 52), some (.ref 71), some (.int (nI i)), none, none]) rfl (hk _ ?_)
      exact LI.of (h1 := (mm_exc h)) hT hM hO hC f2 s2 hW hE hbs hbl (by show mm_c h + 1 ≤ _; omega) (by show mm_s h + 6 ≤ _; omega)
    · exact absurd ⟨g2, q2⟩ g1
    · exact absurd ⟨g2, q2⟩ g1
  · refine mp_istore (pc := 364) d_La_law_364 (by decide) ?_
    refine mp_aload_n (pc := 366) d_La_law_366 rfl ?_
    refine mp_aload_n (pc := 367) d_La_law_367 rfl ?_
    refine mp_iload (pc := 368) d_La_law_368 rfl ?_
    refine mp_iconst (v := 1) (pc := 370) d_La_law_370 (by decide) ?_
    refine mp_iadd (pc := 371) d_La_law_371 ?_
    rw [show nI i + 1 = nI (i + 1) from nI_add i 1]
    refine mp_sld hP (pc := 372) d_La_law_372 (mm_inN (n := i + 1) (by omega) (by omega)) ?_
    rw [mm_cl (n := i + 1) (by omega)]
    refine mp_aload_n (pc := 373) d_La_law_373 rfl ?_
    refine mp_iload (pc := 374) d_La_law_374 rfl ?_
    refine mp_iconst (v := 2) (pc := 376) d_La_law_376 (by decide) ?_
    refine mp_iadd (pc := 377) d_La_law_377 ?_
    rw [show nI i + 2 = nI (i + 2) from nI_add i 2]
    refine mp_sld hP (pc := 378) d_La_law_378 (mm_inN (n := i + 2) (by omega) (by omega)) ?_
    rw [mm_cl (n := i + 2) (by omega)]
    refine mrp_callV2 (pc := 379) d_La_law_379 (d2 := (5, 122)) ok_Mo_timer li_La_94 sv_Mo_timer hM.1 ⟨by decide, rfl⟩ ⟨by decide, rfl, rfl, Nat.le_of_ble_eq_true rfl, rfl, by decide, by decide⟩ ?_
    refine c_mtimer (h := (mm_exc h)) (b := 0) hM hS hW (a_ix_lt (xs (i + 1))) (a_ix_eq (xs (i + 1))) (fun F2 g2 s2 k2 f2 => ?_) (fun F2 g2 q2 l2 s2 k2 f2 => ?_) (fun F2 g2 q2 l2 s2 k2 f2 => ?_)
    · exact absurd ⟨g1, q1⟩ g2
    · refine mp_aload_n (pc := 382) d_La_law_382 rfl ?_
      refine mrp_callV0 (pc := 383) d_La_law_383 (d2 := (0, 0)) ok_Mo_thrown li_La_77 sv_Mo_thrown hM.1 ⟨by decide, rfl⟩ ⟨by decide, Nat.le_of_ble_eq_true rfl, rfl, by decide, by decide⟩ ?_
      refine c_thrown (h := mm_wi (mm_exc h) F2) hM ?_
      rw [show mm_gi (mm_wi (mm_exc h) F2) 52 0 = 2 from k2]
      refine mp_iload (pc := 386) d_La_law_386 rfl ?_
      refine mp_ic_eq 393 (pc := 388) d_La_law_388 (by decide) (fun _ => ?_) (fun z => absurd z (by decide))
      refine mp_goto 1032 (pc := 393) d_La_law_393 (by decide) ?_
      refine mm_VP_drop 5 ?_
      refine mm_VP_ls (ls' := [some (.ref 0), some (.ref 1), some (.ref 52), some (.ref 71), some (.int (nI i)), none, none]) rfl (hk _ ?_)
      exact LI.of (h1 := (mm_exc h)) hT hM hO hC f2 s2 hW hE hbs hbl (by show mm_c h + 1 ≤ _; omega) (by show mm_s h + 6 ≤ _; omega)
    · exact absurd l2 l1
  · refine mp_istore (pc := 364) d_La_law_364 (by decide) ?_
    refine mp_aload_n (pc := 366) d_La_law_366 rfl ?_
    refine mp_aload_n (pc := 367) d_La_law_367 rfl ?_
    refine mp_iload (pc := 368) d_La_law_368 rfl ?_
    refine mp_iconst (v := 1) (pc := 370) d_La_law_370 (by decide) ?_
    refine mp_iadd (pc := 371) d_La_law_371 ?_
    rw [show nI i + 1 = nI (i + 1) from nI_add i 1]
    refine mp_sld hP (pc := 372) d_La_law_372 (mm_inN (n := i + 1) (by omega) (by omega)) ?_
    rw [mm_cl (n := i + 1) (by omega)]
    refine mp_aload_n (pc := 373) d_La_law_373 rfl ?_
    refine mp_iload (pc := 374) d_La_law_374 rfl ?_
    refine mp_iconst (v := 2) (pc := 376) d_La_law_376 (by decide) ?_
    refine mp_iadd (pc := 377) d_La_law_377 ?_
    rw [show nI i + 2 = nI (i + 2) from nI_add i 2]
    refine mp_sld hP (pc := 378) d_La_law_378 (mm_inN (n := i + 2) (by omega) (by omega)) ?_
    rw [mm_cl (n := i + 2) (by omega)]
    refine mrp_callV2 (pc := 379) d_La_law_379 (d2 := (5, 122)) ok_Mo_timer li_La_94 sv_Mo_timer hM.1 ⟨by decide, rfl⟩ ⟨by decide, rfl, rfl, Nat.le_of_ble_eq_true rfl, rfl, by decide, by decide⟩ ?_
    refine c_mtimer (h := (mm_wi h F1)) (b := 0) hM (hS.cfr f1) hW (a_ix_lt (xs (i + 1))) (a_ix_eq (xs (i + 1))) (fun F2 g2 s2 k2 f2 => ?_) (fun F2 g2 q2 l2 s2 k2 f2 => ?_) (fun F2 g2 q2 l2 s2 k2 f2 => ?_)
    · exact absurd ⟨g1, q1⟩ g2
    · exact absurd l1 l2
    · refine mp_aload_n (pc := 382) d_La_law_382 rfl ?_
      refine mrp_callV0 (pc := 383) d_La_law_383 (d2 := (0, 0)) ok_Mo_thrown li_La_77 sv_Mo_thrown hM.1 ⟨by decide, rfl⟩ ⟨by decide, Nat.le_of_ble_eq_true rfl, rfl, by decide, by decide⟩ ?_
      refine c_thrown (h := mm_wi (mm_wi h F1) F2) hM ?_
      rw [show mm_gi (mm_wi (mm_wi h F1) F2) 52 0 = 0 from k2]
      refine mp_iload (pc := 386) d_La_law_386 rfl ?_
      refine mp_ic_eq 393 (pc := 388) d_La_law_388 (by decide) (fun _ => ?_) (fun z => absurd z (by decide))
      refine mp_goto 1032 (pc := 393) d_La_law_393 (by decide) ?_
      refine mm_VP_drop 5 ?_
      refine mm_VP_ls (ls' := [some (.ref 0), some (.ref 1), some (.ref 52), some (.ref 71), some (.int (nI i)), none, none]) rfl (hk _ ?_)
      exact LI.of (h1 := (mm_wi h F1)) hT hM hO c1 f2 s2 (hW.ord (what := 5) (a_ix_lt _) (by omega) (a_fit5 (c := 0).mpr q1)) hE hbs (hbl.app (((mm_enc_byt _ _).app (mm_enc_byt _ _)).app (mm_enc_byt _ _))) (by show mm_c h ≤ _; omega) (by show mm_s h ≤ _; omega)
set_option maxRecDepth 20000 in
theorem k_tick {P : State → Prop} {G : mm_G} {Q : mm_O → mm_H → Prop} {h : mm_H} {L : Nat} {xs : Nat → Int32} {w w2 t i : Nat} {A : mm_W} {E : mm_E} {sv lg : List Int32} (hP : ∀ s, P s → va_X (mm_sc G) L xs s s.heap) (hG : G.1.stackTraces = false) (hL : L ≤ 2048) (hi : i + 4 ≤ L) (ht : t ≤ 512) (hBC : 600 ≤ mm_BC G) (hBS : 9000 ≤ mm_BS G) (hT : mm_Ta h w w2) (hM : mm_Mo h) (hO : mm_at h 71 103 1) (hC : CS (mm_gi h) w A E sv lg) (hS : MS (mm_gi h) A E sv lg) (hW : WF A) (hE : a_okE E) (hbs : a_byt sv) (hbl : a_byt lg) (hcc : mm_c h ≤ 71 + t) (hss : mm_s h ≤ 5300 + 6 * t) (hk : ∀ h', LI (t + 1) h' → mm_VP P G (9, 178) M_La_law Q 1032 [some (.ref 0), some (.ref 1), some (.ref 52), some (.ref 71), some (.int (nI i)), none, none] [] h') : mm_VP P G (9, 178) M_La_law Q 396 [some (.ref 0), some (.ref 1), some (.ref 52), some (.ref 71), some (.int (nI i)), none, none] [] h := by
  have hr : mm_rm G h := ⟨by omega, by omega⟩
  refine mp_aload_n (pc := 396) d_La_law_396 rfl ?_
  refine mp_aload_n (pc := 397) d_La_law_397 rfl ?_
  refine mp_iload (pc := 398) d_La_law_398 rfl ?_
  refine mp_iconst (v := 1) (pc := 400) d_La_law_400 (by decide) ?_
  refine mp_iadd (pc := 401) d_La_law_401 ?_
  rw [show nI i + 1 = nI (i + 1) from nI_add i 1]
  refine mp_sld hP (pc := 402) d_La_law_402 (mm_inN (n := i + 1) (by omega) (by omega)) ?_
  rw [mm_cl (n := i + 1) (by omega)]
  refine mp_aload_n (pc := 403) d_La_law_403 rfl ?_
  refine mrp_callS3 (pc := 404) d_La_law_404 (d2 := (8, 133)) ok_La_tick li_La_95 sv_La_tick ⟨by decide, rfl, rfl, rfl, Nat.le_of_ble_eq_true rfl, rfl, by decide, by decide⟩ ?_
  refine c_La_tick (o := 71) hT.1 (c_tick hG hr hT hC (fun p1 => ⟨by decide, ?_⟩) (fun n1 x1 a1 b1 l1 => ⟨by decide, ?_⟩) (fun n1 F1 x1 a1 b1 l1 c1 f1 => ⟨hO, ?_⟩))
  · refine mp_istore (pc := 407) d_La_law_407 (by decide) ?_
    refine mp_aload_n (pc := 409) d_La_law_409 rfl ?_
    refine mp_aload_n (pc := 410) d_La_law_410 rfl ?_
    refine mp_iload (pc := 411) d_La_law_411 rfl ?_
    refine mp_iconst (v := 1) (pc := 413) d_La_law_413 (by decide) ?_
    refine mp_iadd (pc := 414) d_La_law_414 ?_
    rw [show nI i + 1 = nI (i + 1) from nI_add i 1]
    refine mp_sld hP (pc := 415) d_La_law_415 (mm_inN (n := i + 1) (by omega) (by omega)) ?_
    rw [mm_cl (n := i + 1) (by omega)]
    refine mrp_callV1 (pc := 416) d_La_law_416 (d2 := (3, 70)) ok_Mo_tick li_La_98 sv_Mo_tick hM.1 ⟨by decide, rfl⟩ ⟨by decide, rfl, Nat.le_of_ble_eq_true rfl, rfl, by decide, by decide⟩ ?_
    refine c_mtick (h := (mm_exc h)) hM hS hW (fun F2 p2 s2 k2 f2 => ?_) (fun n2 F2 x2 a2 b2 l2 s2 k2 f2 => ?_) (fun n2 F2 x2 a2 b2 l2 s2 k2 f2 => ?_)
    · refine mp_istore (pc := 419) d_La_law_419 (by decide) ?_
      refine mp_aload_n (pc := 421) d_La_law_421 rfl ?_
      refine mrp_callV0 (pc := 422) d_La_law_422 (d2 := (0, 0)) ok_Mo_thrown li_La_77 sv_Mo_thrown hM.1 ⟨by decide, rfl⟩ ⟨by decide, Nat.le_of_ble_eq_true rfl, rfl, by decide, by decide⟩ ?_
      refine c_thrown (h := mm_wi (mm_exc h) F2) hM ?_
      rw [show mm_gi (mm_wi (mm_exc h) F2) 52 0 = 1 from k2]
      refine mp_iload (pc := 425) d_La_law_425 rfl ?_
      refine mp_ic_eq 432 (pc := 427) d_La_law_427 (by decide) (fun _ => ?_) (fun z => absurd z (by decide))
      refine mp_iload (pc := 432) d_La_law_432 rfl ?_
      refine mp_if_ne 449 (pc := 434) d_La_law_434 (by decide) (fun _ => ?_) (fun z => absurd z (by decide))
      refine mp_goto 1032 (pc := 449) d_La_law_449 (by decide) ?_
      refine mm_VP_drop 5 ?_
      refine mm_VP_drop 6 ?_
      refine mm_VP_ls (ls' := [some (.ref 0), some (.ref 1), some (.ref 52), some (.ref 71), some (.int (nI i)), none, none]) rfl (hk _ ?_)
      exact LI.of (h1 := (mm_exc h)) hT hM hO hC f2 s2 hW hE hbs hbl (by show mm_c h + 1 ≤ _; omega) (by show mm_s h + 6 ≤ _; omega)
    · exact absurd (mm_t50 x2 a2 b2) p1
    · exact absurd (mm_t50 x2 a2 b2) p1
  · refine mp_istore (pc := 407) d_La_law_407 (by decide) ?_
    refine mp_aload_n (pc := 409) d_La_law_409 rfl ?_
    refine mp_aload_n (pc := 410) d_La_law_410 rfl ?_
    refine mp_iload (pc := 411) d_La_law_411 rfl ?_
    refine mp_iconst (v := 1) (pc := 413) d_La_law_413 (by decide) ?_
    refine mp_iadd (pc := 414) d_La_law_414 ?_
    rw [show nI i + 1 = nI (i + 1) from nI_add i 1]
    refine mp_sld hP (pc := 415) d_La_law_415 (mm_inN (n := i + 1) (by omega) (by omega)) ?_
    rw [mm_cl (n := i + 1) (by omega)]
    refine mrp_callV1 (pc := 416) d_La_law_416 (d2 := (3, 70)) ok_Mo_tick li_La_98 sv_Mo_tick hM.1 ⟨by decide, rfl⟩ ⟨by decide, rfl, Nat.le_of_ble_eq_true rfl, rfl, by decide, by decide⟩ ?_
    refine c_mtick (h := (mm_exc h)) hM hS hW (fun F2 p2 s2 k2 f2 => ?_) (fun n2 F2 x2 a2 b2 l2 s2 k2 f2 => ?_) (fun n2 F2 x2 a2 b2 l2 s2 k2 f2 => ?_)
    · exact absurd (mm_t50 x1 a1 b1) p2
    · refine mp_istore (pc := 419) d_La_law_419 (by decide) ?_
      refine mp_aload_n (pc := 421) d_La_law_421 rfl ?_
      refine mrp_callV0 (pc := 422) d_La_law_422 (d2 := (0, 0)) ok_Mo_thrown li_La_77 sv_Mo_thrown hM.1 ⟨by decide, rfl⟩ ⟨by decide, Nat.le_of_ble_eq_true rfl, rfl, by decide, by decide⟩ ?_
      refine c_thrown (h := mm_wi (mm_exc h) F2) hM ?_
      rw [show mm_gi (mm_wi (mm_exc h) F2) 52 0 = 2 from k2]
      refine mp_iload (pc := 425) d_La_law_425 rfl ?_
      refine mp_ic_eq 432 (pc := 427) d_La_law_427 (by decide) (fun _ => ?_) (fun z => absurd z (by decide))
      refine mp_iload (pc := 432) d_La_law_432 rfl ?_
      refine mp_if_ne 449 (pc := 434) d_La_law_434 (by decide) (fun _ => ?_) (fun z => absurd z (by decide))
      refine mp_goto 1032 (pc := 449) d_La_law_449 (by decide) ?_
      refine mm_VP_drop 5 ?_
      refine mm_VP_drop 6 ?_
      refine mm_VP_ls (ls' := [some (.ref 0), some (.ref 1), some (.ref 52), some (.ref 71), some (.int (nI i)), none, none]) rfl (hk _ ?_)
      exact LI.of (h1 := (mm_exc h)) hT hM hO hC f2 s2 hW hE hbs hbl (by show mm_c h + 1 ≤ _; omega) (by show mm_s h + 6 ≤ _; omega)
    · have nn : n1 = n2 := (nI_eq (by omega) (by omega)).mp (x1.symm.trans x2)
      subst nn
      exact absurd l2 l1
  · refine mp_istore (pc := 407) d_La_law_407 (by decide) ?_
    refine mp_aload_n (pc := 409) d_La_law_409 rfl ?_
    refine mp_aload_n (pc := 410) d_La_law_410 rfl ?_
    refine mp_iload (pc := 411) d_La_law_411 rfl ?_
    refine mp_iconst (v := 1) (pc := 413) d_La_law_413 (by decide) ?_
    refine mp_iadd (pc := 414) d_La_law_414 ?_
    rw [show nI i + 1 = nI (i + 1) from nI_add i 1]
    refine mp_sld hP (pc := 415) d_La_law_415 (mm_inN (n := i + 1) (by omega) (by omega)) ?_
    rw [mm_cl (n := i + 1) (by omega)]
    refine mrp_callV1 (pc := 416) d_La_law_416 (d2 := (3, 70)) ok_Mo_tick li_La_98 sv_Mo_tick hM.1 ⟨by decide, rfl⟩ ⟨by decide, rfl, Nat.le_of_ble_eq_true rfl, rfl, by decide, by decide⟩ ?_
    refine c_mtick (h := (mm_sl (mm_wi h F1) 71 0 (nI (a_tks (E, A) n1).1.length).toInt64)) hM (hS.cfr f1) hW (fun F2 p2 s2 k2 f2 => ?_) (fun n2 F2 x2 a2 b2 l2 s2 k2 f2 => ?_) (fun n2 F2 x2 a2 b2 l2 s2 k2 f2 => ?_)
    · exact absurd (mm_t50 x1 a1 b1) p2
    · have nn : n1 = n2 := (nI_eq (by omega) (by omega)).mp (x1.symm.trans x2)
      subst nn
      exact absurd l1 l2
    · have nn : n1 = n2 := (nI_eq (by omega) (by omega)).mp (x1.symm.trans x2)
      subst nn
      refine mp_istore (pc := 419) d_La_law_419 (by decide) ?_
      refine mp_aload_n (pc := 421) d_La_law_421 rfl ?_
      refine mrp_callV0 (pc := 422) d_La_law_422 (d2 := (0, 0)) ok_Mo_thrown li_La_77 sv_Mo_thrown hM.1 ⟨by decide, rfl⟩ ⟨by decide, Nat.le_of_ble_eq_true rfl, rfl, by decide, by decide⟩ ?_
      refine c_thrown (h := mm_wi (mm_sl (mm_wi h F1) 71 0 (nI (a_tks (E, A) n1).1.length).toInt64) F2) hM ?_
      rw [show mm_gi (mm_wi (mm_sl (mm_wi h F1) 71 0 (nI (a_tks (E, A) n1).1.length).toInt64) F2) 52 0 = 0 from k2]
      refine mp_iload (pc := 425) d_La_law_425 rfl ?_
      refine mp_ic_eq 432 (pc := 427) d_La_law_427 (by decide) (fun _ => ?_) (fun z => absurd z (by decide))
      refine mp_iload (pc := 432) d_La_law_432 rfl ?_
      refine mp_if_ne 449 (pc := 434) d_La_law_434 (by decide) (fun z => absurd z (by decide)) (fun _ => ?_)
      refine mp_aload_n (pc := 437) d_La_law_437 rfl ?_
      refine mp_iconst (v := 0) (pc := 438) d_La_law_438 (by decide) ?_
      refine mrp_lald (pc := 439) d_La_law_439 hO mm_in01 ?_
      rw [show mm_gl (mm_wi (mm_sl (mm_wi h F1) 71 0 (nI (a_tks (E, A) n1).1.length).toInt64) F2) 71 (0 : Int32).toNatClampNeg = (nI (a_tks (E, A) n1).1.length).toInt64 from rfl]
      refine mp_iload (pc := 440) d_La_law_440 rfl ?_
      refine mp_i2l (pc := 442) d_La_law_442 ?_
      refine mp_lcmp (pc := 443) d_La_law_443 ?_
      rw [mm_cmp0]
      refine mp_if_eq 449 (pc := 444) d_La_law_444 (by decide) (fun _ => ?_) (fun z => absurd z (by decide))
      refine mp_goto 1032 (pc := 449) d_La_law_449 (by decide) ?_
      refine mm_VP_drop 5 ?_
      refine mm_VP_drop 6 ?_
      refine mm_VP_ls (ls' := [some (.ref 0), some (.ref 1), some (.ref 52), some (.ref 71), some (.int (nI i)), none, none]) rfl (hk _ ?_)
      exact LI.of (h1 := (mm_sl (mm_wi h F1) 71 0 (nI (a_tks (E, A) n1).1.length).toInt64)) hT hM hO c1 f2 s2 (hW.tks n1) (a_okE_tks hE n1) hbs (hbl.app (a_tl_byt n1)) (by show mm_c h ≤ _; omega) (by show mm_s h ≤ _; omega)
set_option maxRecDepth 20000 in
theorem k_event {P : State → Prop} {G : mm_G} {Q : mm_O → mm_H → Prop} {h : mm_H} {L : Nat} {xs : Nat → Int32} {w w2 t i : Nat} {A : mm_W} {E : mm_E} {sv lg : List Int32} (hP : ∀ s, P s → va_X (mm_sc G) L xs s s.heap) (hG : G.1.stackTraces = false) (hL : L ≤ 2048) (hi : i + 4 ≤ L) (ht : t ≤ 512) (hBC : 600 ≤ mm_BC G) (hBS : 9000 ≤ mm_BS G) (hT : mm_Ta h w w2) (hM : mm_Mo h) (hO : mm_at h 71 103 1) (hC : CS (mm_gi h) w A E sv lg) (hS : MS (mm_gi h) A E sv lg) (hW : WF A) (hE : a_okE E) (hbs : a_byt sv) (hbl : a_byt lg) (hcc : mm_c h ≤ 71 + t) (hss : mm_s h ≤ 5300 + 6 * t) (hk : ∀ h', LI (t + 1) h' → mm_VP P G (9, 178) M_La_law Q 1032 [some (.ref 0), some (.ref 1), some (.ref 52), some (.ref 71), some (.int (nI i)), none, none] [] h') : mm_VP P G (9, 178) M_La_law Q 452 [some (.ref 0), some (.ref 1), some (.ref 52), some (.ref 71), some (.int (nI i)), none, none] [] h := by
  have hr : mm_rm G h := ⟨by omega, by omega⟩
  refine mp_aload_n (pc := 452) d_La_law_452 rfl ?_
  refine mp_aload_n (pc := 453) d_La_law_453 rfl ?_
  refine mp_iload (pc := 454) d_La_law_454 rfl ?_
  refine mp_iconst (v := 1) (pc := 456) d_La_law_456 (by decide) ?_
  refine mp_iadd (pc := 457) d_La_law_457 ?_
  rw [show nI i + 1 = nI (i + 1) from nI_add i 1]
  refine mp_sld hP (pc := 458) d_La_law_458 (mm_inN (n := i + 1) (by omega) (by omega)) ?_
  rw [mm_cl (n := i + 1) (by omega)]
  refine mp_aload_n (pc := 459) d_La_law_459 rfl ?_
  refine mp_iload (pc := 460) d_La_law_460 rfl ?_
  refine mp_iconst (v := 2) (pc := 462) d_La_law_462 (by decide) ?_
  refine mp_iadd (pc := 463) d_La_law_463 ?_
  rw [show nI i + 2 = nI (i + 2) from nI_add i 2]
  refine mp_sld hP (pc := 464) d_La_law_464 (mm_inN (n := i + 2) (by omega) (by omega)) ?_
  rw [mm_cl (n := i + 2) (by omega)]
  refine mp_aload_n (pc := 465) d_La_law_465 rfl ?_
  refine mrp_callS4 (pc := 466) d_La_law_466 (d2 := (7, 113)) ok_La_event li_La_99 sv_La_event ⟨by decide, rfl, rfl, rfl, rfl, Nat.le_of_ble_eq_true rfl, rfl, by decide, by decide⟩ ?_
  refine c_La_event (o := 71) hT.1 (c_event hG hr hT hC hE (fun z1 => ⟨by decide, ?_⟩) (fun j1 h1 e1 u1 u2 u3 => ⟨by decide, ?_⟩) (fun j1 h1 e1 u1 => ⟨hO, ?_⟩) (fun j1 h1 e1 u1 => ⟨hO, ?_⟩) (fun j1 h1 e1 u1 => ⟨hO, ?_⟩))
  · refine mp_istore (pc := 469) d_La_law_469 (by decide) ?_
    refine mp_aload_n (pc := 471) d_La_law_471 rfl ?_
    refine mp_aload_n (pc := 472) d_La_law_472 rfl ?_
    refine mp_iload (pc := 473) d_La_law_473 rfl ?_
    refine mp_iconst (v := 1) (pc := 475) d_La_law_475 (by decide) ?_
    refine mp_iadd (pc := 476) d_La_law_476 ?_
    rw [show nI i + 1 = nI (i + 1) from nI_add i 1]
    refine mp_sld hP (pc := 477) d_La_law_477 (mm_inN (n := i + 1) (by omega) (by omega)) ?_
    rw [mm_cl (n := i + 1) (by omega)]
    refine mp_aload_n (pc := 478) d_La_law_478 rfl ?_
    refine mp_iload (pc := 479) d_La_law_479 rfl ?_
    refine mp_iconst (v := 2) (pc := 481) d_La_law_481 (by decide) ?_
    refine mp_iadd (pc := 482) d_La_law_482 ?_
    rw [show nI i + 2 = nI (i + 2) from nI_add i 2]
    refine mp_sld hP (pc := 483) d_La_law_483 (mm_inN (n := i + 2) (by omega) (by omega)) ?_
    rw [mm_cl (n := i + 2) (by omega)]
    refine mrp_callV2 (pc := 484) d_La_law_484 (d2 := (0, 0)) ok_Mo_event li_La_101 sv_Mo_event hM.1 ⟨by decide, rfl⟩ ⟨by decide, rfl, rfl, Nat.le_of_ble_eq_true rfl, rfl, by decide, by decide⟩ ?_
    refine c_mevent (h := (mm_exc h)) hM hS hE (fun F2 z2 s2 k2 f2 => ?_) (fun F2 j2 h2 e2 v1 v2 v3 s2 k2 f2 => ?_) (fun F2 j2 h2 e2 v1 s2 k2 f2 => ?_) (fun F2 j2 h2 e2 v1 s2 k2 f2 => ?_) (fun F2 j2 h2 e2 v1 s2 k2 f2 => ?_)
    · refine mp_istore (pc := 487) d_La_law_487 (by decide) ?_
      refine mp_aload_n (pc := 489) d_La_law_489 rfl ?_
      refine mrp_callV0 (pc := 490) d_La_law_490 (d2 := (0, 0)) ok_Mo_thrown li_La_77 sv_Mo_thrown hM.1 ⟨by decide, rfl⟩ ⟨by decide, Nat.le_of_ble_eq_true rfl, rfl, by decide, by decide⟩ ?_
      refine c_thrown (h := mm_wi (mm_exc h) F2) hM ?_
      rw [show mm_gi (mm_wi (mm_exc h) F2) 52 0 = 1 from k2]
      refine mp_iload (pc := 493) d_La_law_493 rfl ?_
      refine mp_ic_eq 500 (pc := 495) d_La_law_495 (by decide) (fun _ => ?_) (fun z => absurd z (by decide))
      refine mp_iload (pc := 500) d_La_law_500 rfl ?_
      refine mp_if_ne 517 (pc := 502) d_La_law_502 (by decide) (fun _ => ?_) (fun z => absurd z (by decide))
      refine mp_goto 1032 (pc := 517) d_La_law_517 (by decide) ?_
      refine mm_VP_drop 5 ?_
      refine mm_VP_drop 6 ?_
      refine mm_VP_ls (ls' := [some (.ref 0), some (.ref 1), some (.ref 52), some (.ref 71), some (.int (nI i)), none, none]) rfl (hk _ ?_)
      exact LI.of (h1 := (mm_exc h)) hT hM hO hC f2 s2 hW hE hbs hbl (by show mm_c h + 1 ≤ _; omega) (by show mm_s h + 6 ≤ _; omega)
    · exact absurd e2 (z1 j2 h2)
    · exact absurd e2 (z1 j2 h2)
    · exact absurd e2 (z1 j2 h2)
    · exact absurd e2 (z1 j2 h2)
  · refine mp_istore (pc := 469) d_La_law_469 (by decide) ?_
    refine mp_aload_n (pc := 471) d_La_law_471 rfl ?_
    refine mp_aload_n (pc := 472) d_La_law_472 rfl ?_
    refine mp_iload (pc := 473) d_La_law_473 rfl ?_
    refine mp_iconst (v := 1) (pc := 475) d_La_law_475 (by decide) ?_
    refine mp_iadd (pc := 476) d_La_law_476 ?_
    rw [show nI i + 1 = nI (i + 1) from nI_add i 1]
    refine mp_sld hP (pc := 477) d_La_law_477 (mm_inN (n := i + 1) (by omega) (by omega)) ?_
    rw [mm_cl (n := i + 1) (by omega)]
    refine mp_aload_n (pc := 478) d_La_law_478 rfl ?_
    refine mp_iload (pc := 479) d_La_law_479 rfl ?_
    refine mp_iconst (v := 2) (pc := 481) d_La_law_481 (by decide) ?_
    refine mp_iadd (pc := 482) d_La_law_482 ?_
    rw [show nI i + 2 = nI (i + 2) from nI_add i 2]
    refine mp_sld hP (pc := 483) d_La_law_483 (mm_inN (n := i + 2) (by omega) (by omega)) ?_
    rw [mm_cl (n := i + 2) (by omega)]
    refine mrp_callV2 (pc := 484) d_La_law_484 (d2 := (0, 0)) ok_Mo_event li_La_101 sv_Mo_event hM.1 ⟨by decide, rfl⟩ ⟨by decide, rfl, rfl, Nat.le_of_ble_eq_true rfl, rfl, by decide, by decide⟩ ?_
    refine c_mevent (h := (mm_exc h)) hM hS hE (fun F2 z2 s2 k2 f2 => ?_) (fun F2 j2 h2 e2 v1 v2 v3 s2 k2 f2 => ?_) (fun F2 j2 h2 e2 v1 s2 k2 f2 => ?_) (fun F2 j2 h2 e2 v1 s2 k2 f2 => ?_) (fun F2 j2 h2 e2 v1 s2 k2 f2 => ?_)
    · exact absurd e1 (z2 j1 h1)
    · refine mp_istore (pc := 487) d_La_law_487 (by decide) ?_
      refine mp_aload_n (pc := 489) d_La_law_489 rfl ?_
      refine mrp_callV0 (pc := 490) d_La_law_490 (d2 := (0, 0)) ok_Mo_thrown li_La_77 sv_Mo_thrown hM.1 ⟨by decide, rfl⟩ ⟨by decide, Nat.le_of_ble_eq_true rfl, rfl, by decide, by decide⟩ ?_
      refine c_thrown (h := mm_wi (mm_exc h) F2) hM ?_
      rw [show mm_gi (mm_wi (mm_exc h) F2) 52 0 = 2 from k2]
      refine mp_iload (pc := 493) d_La_law_493 rfl ?_
      refine mp_ic_eq 500 (pc := 495) d_La_law_495 (by decide) (fun _ => ?_) (fun z => absurd z (by decide))
      refine mp_iload (pc := 500) d_La_law_500 rfl ?_
      refine mp_if_ne 517 (pc := 502) d_La_law_502 (by decide) (fun _ => ?_) (fun z => absurd z (by decide))
      refine mp_goto 1032 (pc := 517) d_La_law_517 (by decide) ?_
      refine mm_VP_drop 5 ?_
      refine mm_VP_drop 6 ?_
      refine mm_VP_ls (ls' := [some (.ref 0), some (.ref 1), some (.ref 52), some (.ref 71), some (.int (nI i)), none, none]) rfl (hk _ ?_)
      exact LI.of (h1 := (mm_exc h)) hT hM hO hC f2 s2 hW hE hbs hbl (by show mm_c h + 1 ≤ _; omega) (by show mm_s h + 6 ≤ _; omega)
    · exact absurd v1 u1
    · exact absurd v1 u2
    · exact absurd v1 u3
  · refine mp_istore (pc := 469) d_La_law_469 (by decide) ?_
    refine mp_aload_n (pc := 471) d_La_law_471 rfl ?_
    refine mp_aload_n (pc := 472) d_La_law_472 rfl ?_
    refine mp_iload (pc := 473) d_La_law_473 rfl ?_
    refine mp_iconst (v := 1) (pc := 475) d_La_law_475 (by decide) ?_
    refine mp_iadd (pc := 476) d_La_law_476 ?_
    rw [show nI i + 1 = nI (i + 1) from nI_add i 1]
    refine mp_sld hP (pc := 477) d_La_law_477 (mm_inN (n := i + 1) (by omega) (by omega)) ?_
    rw [mm_cl (n := i + 1) (by omega)]
    refine mp_aload_n (pc := 478) d_La_law_478 rfl ?_
    refine mp_iload (pc := 479) d_La_law_479 rfl ?_
    refine mp_iconst (v := 2) (pc := 481) d_La_law_481 (by decide) ?_
    refine mp_iadd (pc := 482) d_La_law_482 ?_
    rw [show nI i + 2 = nI (i + 2) from nI_add i 2]
    refine mp_sld hP (pc := 483) d_La_law_483 (mm_inN (n := i + 2) (by omega) (by omega)) ?_
    rw [mm_cl (n := i + 2) (by omega)]
    refine mrp_callV2 (pc := 484) d_La_law_484 (d2 := (0, 0)) ok_Mo_event li_La_101 sv_Mo_event hM.1 ⟨by decide, rfl⟩ ⟨by decide, rfl, rfl, Nat.le_of_ble_eq_true rfl, rfl, by decide, by decide⟩ ?_
    refine c_mevent (h := (mm_sl h 71 0 ((E.getD j1 (0, 0)).1).toInt64)) hM hS hE (fun F2 z2 s2 k2 f2 => ?_) (fun F2 j2 h2 e2 v1 v2 v3 s2 k2 f2 => ?_) (fun F2 j2 h2 e2 v1 s2 k2 f2 => ?_) (fun F2 j2 h2 e2 v1 s2 k2 f2 => ?_) (fun F2 j2 h2 e2 v1 s2 k2 f2 => ?_)
    · exact absurd e1 (z2 j1 h1)
    · exact absurd u1 v1
    · have jj : j1 = j2 := (nI_eq (by have := hE.1; omega) (by have := hE.1; omega)).mp (e1.symm.trans e2)
      subst jj
      refine mp_istore (pc := 487) d_La_law_487 (by decide) ?_
      refine mp_aload_n (pc := 489) d_La_law_489 rfl ?_
      refine mrp_callV0 (pc := 490) d_La_law_490 (d2 := (0, 0)) ok_Mo_thrown li_La_77 sv_Mo_thrown hM.1 ⟨by decide, rfl⟩ ⟨by decide, Nat.le_of_ble_eq_true rfl, rfl, by decide, by decide⟩ ?_
      refine c_thrown (h := mm_wi (mm_sl h 71 0 ((E.getD j1 (0, 0)).1).toInt64) F2) hM ?_
      rw [show mm_gi (mm_wi (mm_sl h 71 0 ((E.getD j1 (0, 0)).1).toInt64) F2) 52 0 = 0 from k2]
      refine mp_iload (pc := 493) d_La_law_493 rfl ?_
      refine mp_ic_eq 500 (pc := 495) d_La_law_495 (by decide) (fun _ => ?_) (fun z => absurd z (by decide))
      refine mp_iload (pc := 500) d_La_law_500 rfl ?_
      refine mp_if_ne 517 (pc := 502) d_La_law_502 (by decide) (fun z => absurd z (by decide)) (fun _ => ?_)
      refine mp_aload_n (pc := 505) d_La_law_505 rfl ?_
      refine mp_iconst (v := 0) (pc := 506) d_La_law_506 (by decide) ?_
      refine mrp_lald (pc := 507) d_La_law_507 hO mm_in01 ?_
      rw [show mm_gl (mm_wi (mm_sl h 71 0 ((E.getD j1 (0, 0)).1).toInt64) F2) 71 (0 : Int32).toNatClampNeg = ((E.getD j1 (0, 0)).1).toInt64 from rfl]
      refine mp_iload (pc := 508) d_La_law_508 rfl ?_
      refine mp_i2l (pc := 510) d_La_law_510 ?_
      refine mp_lcmp (pc := 511) d_La_law_511 ?_
      rw [mm_cmp0]
      refine mp_if_eq 517 (pc := 512) d_La_law_512 (by decide) (fun _ => ?_) (fun z => absurd z (by decide))
      refine mp_goto 1032 (pc := 517) d_La_law_517 (by decide) ?_
      refine mm_VP_drop 5 ?_
      refine mm_VP_drop 6 ?_
      refine mm_VP_ls (ls' := [some (.ref 0), some (.ref 1), some (.ref 52), some (.ref 71), some (.int (nI i)), none, none]) rfl (hk _ ?_)
      exact LI.of (h1 := (mm_sl h 71 0 ((E.getD j1 (0, 0)).1).toInt64)) hT hM hO hC f2 s2 hW hE hbs hbl (by show mm_c h ≤ _; omega) (by show mm_s h ≤ _; omega)
    · exact absurd (u1.symm.trans v1) (by decide)
    · exact absurd (u1.symm.trans v1) (by decide)
  · refine mp_istore (pc := 469) d_La_law_469 (by decide) ?_
    refine mp_aload_n (pc := 471) d_La_law_471 rfl ?_
    refine mp_aload_n (pc := 472) d_La_law_472 rfl ?_
    refine mp_iload (pc := 473) d_La_law_473 rfl ?_
    refine mp_iconst (v := 1) (pc := 475) d_La_law_475 (by decide) ?_
    refine mp_iadd (pc := 476) d_La_law_476 ?_
    rw [show nI i + 1 = nI (i + 1) from nI_add i 1]
    refine mp_sld hP (pc := 477) d_La_law_477 (mm_inN (n := i + 1) (by omega) (by omega)) ?_
    rw [mm_cl (n := i + 1) (by omega)]
    refine mp_aload_n (pc := 478) d_La_law_478 rfl ?_
    refine mp_iload (pc := 479) d_La_law_479 rfl ?_
    refine mp_iconst (v := 2) (pc := 481) d_La_law_481 (by decide) ?_
    refine mp_iadd (pc := 482) d_La_law_482 ?_
    rw [show nI i + 2 = nI (i + 2) from nI_add i 2]
    refine mp_sld hP (pc := 483) d_La_law_483 (mm_inN (n := i + 2) (by omega) (by omega)) ?_
    rw [mm_cl (n := i + 2) (by omega)]
    refine mrp_callV2 (pc := 484) d_La_law_484 (d2 := (0, 0)) ok_Mo_event li_La_101 sv_Mo_event hM.1 ⟨by decide, rfl⟩ ⟨by decide, rfl, rfl, Nat.le_of_ble_eq_true rfl, rfl, by decide, by decide⟩ ?_
    refine c_mevent (h := (mm_sl h 71 0 (nI ((E.getD j1 (0, 0)).2 / 16)).toInt64)) hM hS hE (fun F2 z2 s2 k2 f2 => ?_) (fun F2 j2 h2 e2 v1 v2 v3 s2 k2 f2 => ?_) (fun F2 j2 h2 e2 v1 s2 k2 f2 => ?_) (fun F2 j2 h2 e2 v1 s2 k2 f2 => ?_) (fun F2 j2 h2 e2 v1 s2 k2 f2 => ?_)
    · exact absurd e1 (z2 j1 h1)
    · exact absurd u1 v2
    · exact absurd (u1.symm.trans v1) (by decide)
    · have jj : j1 = j2 := (nI_eq (by have := hE.1; omega) (by have := hE.1; omega)).mp (e1.symm.trans e2)
      subst jj
      refine mp_istore (pc := 487) d_La_law_487 (by decide) ?_
      refine mp_aload_n (pc := 489) d_La_law_489 rfl ?_
      refine mrp_callV0 (pc := 490) d_La_law_490 (d2 := (0, 0)) ok_Mo_thrown li_La_77 sv_Mo_thrown hM.1 ⟨by decide, rfl⟩ ⟨by decide, Nat.le_of_ble_eq_true rfl, rfl, by decide, by decide⟩ ?_
      refine c_thrown (h := mm_wi (mm_sl h 71 0 (nI ((E.getD j1 (0, 0)).2 / 16)).toInt64) F2) hM ?_
      rw [show mm_gi (mm_wi (mm_sl h 71 0 (nI ((E.getD j1 (0, 0)).2 / 16)).toInt64) F2) 52 0 = 0 from k2]
      refine mp_iload (pc := 493) d_La_law_493 rfl ?_
      refine mp_ic_eq 500 (pc := 495) d_La_law_495 (by decide) (fun _ => ?_) (fun z => absurd z (by decide))
      refine mp_iload (pc := 500) d_La_law_500 rfl ?_
      refine mp_if_ne 517 (pc := 502) d_La_law_502 (by decide) (fun z => absurd z (by decide)) (fun _ => ?_)
      refine mp_aload_n (pc := 505) d_La_law_505 rfl ?_
      refine mp_iconst (v := 0) (pc := 506) d_La_law_506 (by decide) ?_
      refine mrp_lald (pc := 507) d_La_law_507 hO mm_in01 ?_
      rw [show mm_gl (mm_wi (mm_sl h 71 0 (nI ((E.getD j1 (0, 0)).2 / 16)).toInt64) F2) 71 (0 : Int32).toNatClampNeg = (nI ((E.getD j1 (0, 0)).2 / 16)).toInt64 from rfl]
      refine mp_iload (pc := 508) d_La_law_508 rfl ?_
      refine mp_i2l (pc := 510) d_La_law_510 ?_
      refine mp_lcmp (pc := 511) d_La_law_511 ?_
      rw [mm_cmp0]
      refine mp_if_eq 517 (pc := 512) d_La_law_512 (by decide) (fun _ => ?_) (fun z => absurd z (by decide))
      refine mp_goto 1032 (pc := 517) d_La_law_517 (by decide) ?_
      refine mm_VP_drop 5 ?_
      refine mm_VP_drop 6 ?_
      refine mm_VP_ls (ls' := [some (.ref 0), some (.ref 1), some (.ref 52), some (.ref 71), some (.int (nI i)), none, none]) rfl (hk _ ?_)
      exact LI.of (h1 := (mm_sl h 71 0 (nI ((E.getD j1 (0, 0)).2 / 16)).toInt64)) hT hM hO hC f2 s2 hW hE hbs hbl (by show mm_c h ≤ _; omega) (by show mm_s h ≤ _; omega)
    · exact absurd (u1.symm.trans v1) (by decide)
  · refine mp_istore (pc := 469) d_La_law_469 (by decide) ?_
    refine mp_aload_n (pc := 471) d_La_law_471 rfl ?_
    refine mp_aload_n (pc := 472) d_La_law_472 rfl ?_
    refine mp_iload (pc := 473) d_La_law_473 rfl ?_
    refine mp_iconst (v := 1) (pc := 475) d_La_law_475 (by decide) ?_
    refine mp_iadd (pc := 476) d_La_law_476 ?_
    rw [show nI i + 1 = nI (i + 1) from nI_add i 1]
    refine mp_sld hP (pc := 477) d_La_law_477 (mm_inN (n := i + 1) (by omega) (by omega)) ?_
    rw [mm_cl (n := i + 1) (by omega)]
    refine mp_aload_n (pc := 478) d_La_law_478 rfl ?_
    refine mp_iload (pc := 479) d_La_law_479 rfl ?_
    refine mp_iconst (v := 2) (pc := 481) d_La_law_481 (by decide) ?_
    refine mp_iadd (pc := 482) d_La_law_482 ?_
    rw [show nI i + 2 = nI (i + 2) from nI_add i 2]
    refine mp_sld hP (pc := 483) d_La_law_483 (mm_inN (n := i + 2) (by omega) (by omega)) ?_
    rw [mm_cl (n := i + 2) (by omega)]
    refine mrp_callV2 (pc := 484) d_La_law_484 (d2 := (0, 0)) ok_Mo_event li_La_101 sv_Mo_event hM.1 ⟨by decide, rfl⟩ ⟨by decide, rfl, rfl, Nat.le_of_ble_eq_true rfl, rfl, by decide, by decide⟩ ?_
    refine c_mevent (h := (mm_sl h 71 0 (nI ((E.getD j1 (0, 0)).2 % 16)).toInt64)) hM hS hE (fun F2 z2 s2 k2 f2 => ?_) (fun F2 j2 h2 e2 v1 v2 v3 s2 k2 f2 => ?_) (fun F2 j2 h2 e2 v1 s2 k2 f2 => ?_) (fun F2 j2 h2 e2 v1 s2 k2 f2 => ?_) (fun F2 j2 h2 e2 v1 s2 k2 f2 => ?_)
    · exact absurd e1 (z2 j1 h1)
    · exact absurd u1 v3
    · exact absurd (u1.symm.trans v1) (by decide)
    · exact absurd (u1.symm.trans v1) (by decide)
    · have jj : j1 = j2 := (nI_eq (by have := hE.1; omega) (by have := hE.1; omega)).mp (e1.symm.trans e2)
      subst jj
      refine mp_istore (pc := 487) d_La_law_487 (by decide) ?_
      refine mp_aload_n (pc := 489) d_La_law_489 rfl ?_
      refine mrp_callV0 (pc := 490) d_La_law_490 (d2 := (0, 0)) ok_Mo_thrown li_La_77 sv_Mo_thrown hM.1 ⟨by decide, rfl⟩ ⟨by decide, Nat.le_of_ble_eq_true rfl, rfl, by decide, by decide⟩ ?_
      refine c_thrown (h := mm_wi (mm_sl h 71 0 (nI ((E.getD j1 (0, 0)).2 % 16)).toInt64) F2) hM ?_
      rw [show mm_gi (mm_wi (mm_sl h 71 0 (nI ((E.getD j1 (0, 0)).2 % 16)).toInt64) F2) 52 0 = 0 from k2]
      refine mp_iload (pc := 493) d_La_law_493 rfl ?_
      refine mp_ic_eq 500 (pc := 495) d_La_law_495 (by decide) (fun _ => ?_) (fun z => absurd z (by decide))
      refine mp_iload (pc := 500) d_La_law_500 rfl ?_
      refine mp_if_ne 517 (pc := 502) d_La_law_502 (by decide) (fun z => absurd z (by decide)) (fun _ => ?_)
      refine mp_aload_n (pc := 505) d_La_law_505 rfl ?_
      refine mp_iconst (v := 0) (pc := 506) d_La_law_506 (by decide) ?_
      refine mrp_lald (pc := 507) d_La_law_507 hO mm_in01 ?_
      rw [show mm_gl (mm_wi (mm_sl h 71 0 (nI ((E.getD j1 (0, 0)).2 % 16)).toInt64) F2) 71 (0 : Int32).toNatClampNeg = (nI ((E.getD j1 (0, 0)).2 % 16)).toInt64 from rfl]
      refine mp_iload (pc := 508) d_La_law_508 rfl ?_
      refine mp_i2l (pc := 510) d_La_law_510 ?_
      refine mp_lcmp (pc := 511) d_La_law_511 ?_
      rw [mm_cmp0]
      refine mp_if_eq 517 (pc := 512) d_La_law_512 (by decide) (fun _ => ?_) (fun z => absurd z (by decide))
      refine mp_goto 1032 (pc := 517) d_La_law_517 (by decide) ?_
      refine mm_VP_drop 5 ?_
      refine mm_VP_drop 6 ?_
      refine mm_VP_ls (ls' := [some (.ref 0), some (.ref 1), some (.ref 52), some (.ref 71), some (.int (nI i)), none, none]) rfl (hk _ ?_)
      exact LI.of (h1 := (mm_sl h 71 0 (nI ((E.getD j1 (0, 0)).2 % 16)).toInt64)) hT hM hO hC f2 s2 hW hE hbs hbl (by show mm_c h ≤ _; omega) (by show mm_s h ≤ _; omega)
set_option maxRecDepth 20000 in
theorem k_good {P : State → Prop} {G : mm_G} {Q : mm_O → mm_H → Prop} {h : mm_H} {L : Nat} {xs : Nat → Int32} {w w2 t i : Nat} {A : mm_W} {E : mm_E} {sv lg : List Int32} (hP : ∀ s, P s → va_X (mm_sc G) L xs s s.heap) (hG : G.1.stackTraces = false) (hL : L ≤ 2048) (hi : i + 4 ≤ L) (ht : t ≤ 512) (hBC : 600 ≤ mm_BC G) (hBS : 9000 ≤ mm_BS G) (hT : mm_Ta h w w2) (hM : mm_Mo h) (hO : mm_at h 71 103 1) (hC : CS (mm_gi h) w A E sv lg) (hS : MS (mm_gi h) A E sv lg) (hW : WF A) (hE : a_okE E) (hbs : a_byt sv) (hbl : a_byt lg) (hcc : mm_c h ≤ 71 + t) (hss : mm_s h ≤ 5300 + 6 * t) (hk : ∀ h', LI (t + 1) h' → mm_VP P G (9, 178) M_La_law Q 1032 [some (.ref 0), some (.ref 1), some (.ref 52), some (.ref 71), some (.int (nI i)), none, none] [] h') : mm_VP P G (9, 178) M_La_law Q 520 [some (.ref 0), some (.ref 1), some (.ref 52), some (.ref 71), some (.int (nI i)), none, none] [] h := by
  have hr : mm_rm G h := ⟨by omega, by omega⟩
  refine mp_aload_n (pc := 520) d_La_law_520 rfl ?_
  refine mp_aload_n (pc := 521) d_La_law_521 rfl ?_
  refine mp_iload (pc := 522) d_La_law_522 rfl ?_
  refine mp_iconst (v := 1) (pc := 524) d_La_law_524 (by decide) ?_
  refine mp_iadd (pc := 525) d_La_law_525 ?_
  rw [show nI i + 1 = nI (i + 1) from nI_add i 1]
  refine mp_sld hP (pc := 526) d_La_law_526 (mm_inN (n := i + 1) (by omega) (by omega)) ?_
  rw [mm_cl (n := i + 1) (by omega)]
  refine mrp_callV1 (pc := 527) d_La_law_527 (d2 := (3, 63)) ok_Ta_good li_La_102 sv_Ta_good hT.1 ⟨by decide, rfl⟩ ⟨by decide, rfl, Nat.le_of_ble_eq_true rfl, rfl, by decide, by decide⟩ ?_
  refine c_good hT hC (a_ix_lt (xs (i + 1))) (a_ix_eq (xs (i + 1))) (fun g1 => ?_) (fun g1 => ?_)
  · refine mp_aload_n (pc := 530) d_La_law_530 rfl ?_
    refine mp_aload_n (pc := 531) d_La_law_531 rfl ?_
    refine mp_iload (pc := 532) d_La_law_532 rfl ?_
    refine mp_iconst (v := 1) (pc := 534) d_La_law_534 (by decide) ?_
    refine mp_iadd (pc := 535) d_La_law_535 ?_
    rw [show nI i + 1 = nI (i + 1) from nI_add i 1]
    refine mp_sld hP (pc := 536) d_La_law_536 (mm_inN (n := i + 1) (by omega) (by omega)) ?_
    rw [mm_cl (n := i + 1) (by omega)]
    refine mrp_callV1 (pc := 537) d_La_law_537 (d2 := (1, 23)) ok_Mo_good li_La_106 sv_Mo_good hM.1 ⟨by decide, rfl⟩ ⟨by decide, rfl, Nat.le_of_ble_eq_true rfl, rfl, by decide, by decide⟩ ?_
    refine c_mgood (h := h) hM hS hW (a_ix_lt (xs (i + 1))) (a_ix_eq (xs (i + 1))) (fun F2 g2 s2 k2 f2 => ?_) (fun F2 g2 s2 k2 f2 => ?_)
    · refine mp_ic_eq 1032 (pc := 540) d_La_law_540 (by decide) (fun h540 => ?_) (fun z => absurd z (fun z => z rfl))
      refine mm_VP_ls (ls' := [some (.ref 0), some (.ref 1), some (.ref 52), some (.ref 71), some (.int (nI i)), none, none]) rfl (hk _ ?_)
      exact LI.of (h1 := h) hT hM hO hC f2 s2 hW hE hbs hbl (by show mm_c h ≤ _; omega) (by show mm_s h ≤ _; omega)
    · exact absurd g1 g2
  · refine mp_aload_n (pc := 530) d_La_law_530 rfl ?_
    refine mp_aload_n (pc := 531) d_La_law_531 rfl ?_
    refine mp_iload (pc := 532) d_La_law_532 rfl ?_
    refine mp_iconst (v := 1) (pc := 534) d_La_law_534 (by decide) ?_
    refine mp_iadd (pc := 535) d_La_law_535 ?_
    rw [show nI i + 1 = nI (i + 1) from nI_add i 1]
    refine mp_sld hP (pc := 536) d_La_law_536 (mm_inN (n := i + 1) (by omega) (by omega)) ?_
    rw [mm_cl (n := i + 1) (by omega)]
    refine mrp_callV1 (pc := 537) d_La_law_537 (d2 := (1, 23)) ok_Mo_good li_La_106 sv_Mo_good hM.1 ⟨by decide, rfl⟩ ⟨by decide, rfl, Nat.le_of_ble_eq_true rfl, rfl, by decide, by decide⟩ ?_
    refine c_mgood (h := h) hM hS hW (a_ix_lt (xs (i + 1))) (a_ix_eq (xs (i + 1))) (fun F2 g2 s2 k2 f2 => ?_) (fun F2 g2 s2 k2 f2 => ?_)
    · exact absurd g2 g1
    · refine mp_ic_eq 1032 (pc := 540) d_La_law_540 (by decide) (fun h540 => ?_) (fun z => absurd z (fun z => z rfl))
      refine mm_VP_ls (ls' := [some (.ref 0), some (.ref 1), some (.ref 52), some (.ref 71), some (.int (nI i)), none, none]) rfl (hk _ ?_)
      exact LI.of (h1 := h) hT hM hO hC f2 s2 hW hE hbs hbl (by show mm_c h ≤ _; omega) (by show mm_s h ≤ _; omega)
set_option maxRecDepth 20000 in
theorem k_about {P : State → Prop} {G : mm_G} {Q : mm_O → mm_H → Prop} {h : mm_H} {L : Nat} {xs : Nat → Int32} {w w2 t i : Nat} {A : mm_W} {E : mm_E} {sv lg : List Int32} (hP : ∀ s, P s → va_X (mm_sc G) L xs s s.heap) (hG : G.1.stackTraces = false) (hL : L ≤ 2048) (hi : i + 4 ≤ L) (ht : t ≤ 512) (hBC : 600 ≤ mm_BC G) (hBS : 9000 ≤ mm_BS G) (hT : mm_Ta h w w2) (hM : mm_Mo h) (hO : mm_at h 71 103 1) (hC : CS (mm_gi h) w A E sv lg) (hS : MS (mm_gi h) A E sv lg) (hW : WF A) (hE : a_okE E) (hbs : a_byt sv) (hbl : a_byt lg) (hcc : mm_c h ≤ 71 + t) (hss : mm_s h ≤ 5300 + 6 * t) (hk : ∀ h', LI (t + 1) h' → mm_VP P G (9, 178) M_La_law Q 1032 [some (.ref 0), some (.ref 1), some (.ref 52), some (.ref 71), some (.int (nI i)), none, none] [] h') : mm_VP P G (9, 178) M_La_law Q 545 [some (.ref 0), some (.ref 1), some (.ref 52), some (.ref 71), some (.int (nI i)), none, none] [] h := by
  have hr : mm_rm G h := ⟨by omega, by omega⟩
  refine mp_aload_n (pc := 545) d_La_law_545 rfl ?_
  refine mp_aload_n (pc := 546) d_La_law_546 rfl ?_
  refine mp_iload (pc := 547) d_La_law_547 rfl ?_
  refine mp_iconst (v := 1) (pc := 549) d_La_law_549 (by decide) ?_
  refine mp_iadd (pc := 550) d_La_law_550 ?_
  rw [show nI i + 1 = nI (i + 1) from nI_add i 1]
  refine mp_sld hP (pc := 551) d_La_law_551 (mm_inN (n := i + 1) (by omega) (by omega)) ?_
  rw [mm_cl (n := i + 1) (by omega)]
  refine mp_aload_n (pc := 552) d_La_law_552 rfl ?_
  refine mp_iload (pc := 553) d_La_law_553 rfl ?_
  refine mp_iconst (v := 2) (pc := 555) d_La_law_555 (by decide) ?_
  refine mp_iadd (pc := 556) d_La_law_556 ?_
  rw [show nI i + 2 = nI (i + 2) from nI_add i 2]
  refine mp_sld hP (pc := 557) d_La_law_557 (mm_inN (n := i + 2) (by omega) (by omega)) ?_
  rw [mm_cl (n := i + 2) (by omega)]
  refine mp_aload_n (pc := 558) d_La_law_558 rfl ?_
  refine mrp_callS4 (pc := 559) d_La_law_559 (d2 := (8, 134)) ok_La_about li_La_107 sv_La_about ⟨by decide, rfl, rfl, rfl, rfl, Nat.le_of_ble_eq_true rfl, rfl, by decide, by decide⟩ ?_
  refine c_La_about (o := 71) hT.1 (c_about hG hr hT hC (a_ix_lt (xs (i + 1))) (a_ix_eq (xs (i + 1))) (fun g1 => ⟨by decide, ?_⟩) (fun g1 z1 => ⟨by decide, ?_⟩) (fun n1 h1 g1 e1 => ⟨hO, ?_⟩))
  · refine mp_istore (pc := 562) d_La_law_562 (by decide) ?_
    refine mp_aload_n (pc := 564) d_La_law_564 rfl ?_
    refine mp_aload_n (pc := 565) d_La_law_565 rfl ?_
    refine mp_iload (pc := 566) d_La_law_566 rfl ?_
    refine mp_iconst (v := 1) (pc := 568) d_La_law_568 (by decide) ?_
    refine mp_iadd (pc := 569) d_La_law_569 ?_
    rw [show nI i + 1 = nI (i + 1) from nI_add i 1]
    refine mp_sld hP (pc := 570) d_La_law_570 (mm_inN (n := i + 1) (by omega) (by omega)) ?_
    rw [mm_cl (n := i + 1) (by omega)]
    refine mp_aload_n (pc := 571) d_La_law_571 rfl ?_
    refine mp_iload (pc := 572) d_La_law_572 rfl ?_
    refine mp_iconst (v := 2) (pc := 574) d_La_law_574 (by decide) ?_
    refine mp_iadd (pc := 575) d_La_law_575 ?_
    rw [show nI i + 2 = nI (i + 2) from nI_add i 2]
    refine mp_sld hP (pc := 576) d_La_law_576 (mm_inN (n := i + 2) (by omega) (by omega)) ?_
    rw [mm_cl (n := i + 2) (by omega)]
    refine mrp_callV2 (pc := 577) d_La_law_577 (d2 := (1, 23)) ok_Mo_about li_La_109 sv_Mo_about hM.1 ⟨by decide, rfl⟩ ⟨by decide, rfl, rfl, Nat.le_of_ble_eq_true rfl, rfl, by decide, by decide⟩ ?_
    refine c_mabout (h := (mm_exc h)) hM hS hW (a_ix_lt (xs (i + 1))) (a_ix_eq (xs (i + 1))) (fun F2 g2 s2 k2 f2 => ?_) (fun F2 g2 z2 s2 k2 f2 => ?_) (fun F2 n2 h2 g2 e2 s2 k2 f2 => ?_)
    · refine mp_istore (pc := 580) d_La_law_580 (by decide) ?_
      refine mp_aload_n (pc := 582) d_La_law_582 rfl ?_
      refine mrp_callV0 (pc := 583) d_La_law_583 (d2 := (0, 0)) ok_Mo_thrown li_La_77 sv_Mo_thrown hM.1 ⟨by decide, rfl⟩ ⟨by decide, Nat.le_of_ble_eq_true rfl, rfl, by decide, by decide⟩ ?_
      refine c_thrown (h := mm_wi (mm_exc h) F2) hM ?_
      rw [show mm_gi (mm_wi (mm_exc h) F2) 52 0 = 1 from k2]
      refine mp_iload (pc := 586) d_La_law_586 rfl ?_
      refine mp_ic_eq 593 (pc := 588) d_La_law_588 (by decide) (fun _ => ?_) (fun z => absurd z (by decide))
      refine mp_iload (pc := 593) d_La_law_593 rfl ?_
      refine mp_if_ne 610 (pc := 595) d_La_law_595 (by decide) (fun _ => ?_) (fun z => absurd z (by decide))
      refine mp_goto 1032 (pc := 610) d_La_law_610 (by decide) ?_
      refine mm_VP_drop 5 ?_
      refine mm_VP_drop 6 ?_
      refine mm_VP_ls (ls' := [some (.ref 0), some (.ref 1), some (.ref 52), some (.ref 71), some (.int (nI i)), none, none]) rfl (hk _ ?_)
      exact LI.of (h1 := (mm_exc h)) hT hM hO hC f2 s2 hW hE hbs hbl (by show mm_c h + 1 ≤ _; omega) (by show mm_s h + 6 ≤ _; omega)
    · exact absurd g2 g1
    · exact absurd g2 g1
  · refine mp_istore (pc := 562) d_La_law_562 (by decide) ?_
    refine mp_aload_n (pc := 564) d_La_law_564 rfl ?_
    refine mp_aload_n (pc := 565) d_La_law_565 rfl ?_
    refine mp_iload (pc := 566) d_La_law_566 rfl ?_
    refine mp_iconst (v := 1) (pc := 568) d_La_law_568 (by decide) ?_
    refine mp_iadd (pc := 569) d_La_law_569 ?_
    rw [show nI i + 1 = nI (i + 1) from nI_add i 1]
    refine mp_sld hP (pc := 570) d_La_law_570 (mm_inN (n := i + 1) (by omega) (by omega)) ?_
    rw [mm_cl (n := i + 1) (by omega)]
    refine mp_aload_n (pc := 571) d_La_law_571 rfl ?_
    refine mp_iload (pc := 572) d_La_law_572 rfl ?_
    refine mp_iconst (v := 2) (pc := 574) d_La_law_574 (by decide) ?_
    refine mp_iadd (pc := 575) d_La_law_575 ?_
    rw [show nI i + 2 = nI (i + 2) from nI_add i 2]
    refine mp_sld hP (pc := 576) d_La_law_576 (mm_inN (n := i + 2) (by omega) (by omega)) ?_
    rw [mm_cl (n := i + 2) (by omega)]
    refine mrp_callV2 (pc := 577) d_La_law_577 (d2 := (1, 23)) ok_Mo_about li_La_109 sv_Mo_about hM.1 ⟨by decide, rfl⟩ ⟨by decide, rfl, rfl, Nat.le_of_ble_eq_true rfl, rfl, by decide, by decide⟩ ?_
    refine c_mabout (h := (mm_exc h)) hM hS hW (a_ix_lt (xs (i + 1))) (a_ix_eq (xs (i + 1))) (fun F2 g2 s2 k2 f2 => ?_) (fun F2 g2 z2 s2 k2 f2 => ?_) (fun F2 n2 h2 g2 e2 s2 k2 f2 => ?_)
    · exact absurd g1 g2
    · refine mp_istore (pc := 580) d_La_law_580 (by decide) ?_
      refine mp_aload_n (pc := 582) d_La_law_582 rfl ?_
      refine mrp_callV0 (pc := 583) d_La_law_583 (d2 := (0, 0)) ok_Mo_thrown li_La_77 sv_Mo_thrown hM.1 ⟨by decide, rfl⟩ ⟨by decide, Nat.le_of_ble_eq_true rfl, rfl, by decide, by decide⟩ ?_
      refine c_thrown (h := mm_wi (mm_exc h) F2) hM ?_
      rw [show mm_gi (mm_wi (mm_exc h) F2) 52 0 = 2 from k2]
      refine mp_iload (pc := 586) d_La_law_586 rfl ?_
      refine mp_ic_eq 593 (pc := 588) d_La_law_588 (by decide) (fun _ => ?_) (fun z => absurd z (by decide))
      refine mp_iload (pc := 593) d_La_law_593 rfl ?_
      refine mp_if_ne 610 (pc := 595) d_La_law_595 (by decide) (fun _ => ?_) (fun z => absurd z (by decide))
      refine mp_goto 1032 (pc := 610) d_La_law_610 (by decide) ?_
      refine mm_VP_drop 5 ?_
      refine mm_VP_drop 6 ?_
      refine mm_VP_ls (ls' := [some (.ref 0), some (.ref 1), some (.ref 52), some (.ref 71), some (.int (nI i)), none, none]) rfl (hk _ ?_)
      exact LI.of (h1 := (mm_exc h)) hT hM hO hC f2 s2 hW hE hbs hbl (by show mm_c h + 1 ≤ _; omega) (by show mm_s h + 6 ≤ _; omega)
    · exact absurd e2 (z1 n2 h2)
  · refine mp_istore (pc := 562) d_La_law_562 (by decide) ?_
    refine mp_aload_n (pc := 564) d_La_law_564 rfl ?_
    refine mp_aload_n (pc := 565) d_La_law_565 rfl ?_
    refine mp_iload (pc := 566) d_La_law_566 rfl ?_
    refine mp_iconst (v := 1) (pc := 568) d_La_law_568 (by decide) ?_
    refine mp_iadd (pc := 569) d_La_law_569 ?_
    rw [show nI i + 1 = nI (i + 1) from nI_add i 1]
    refine mp_sld hP (pc := 570) d_La_law_570 (mm_inN (n := i + 1) (by omega) (by omega)) ?_
    rw [mm_cl (n := i + 1) (by omega)]
    refine mp_aload_n (pc := 571) d_La_law_571 rfl ?_
    refine mp_iload (pc := 572) d_La_law_572 rfl ?_
    refine mp_iconst (v := 2) (pc := 574) d_La_law_574 (by decide) ?_
    refine mp_iadd (pc := 575) d_La_law_575 ?_
    rw [show nI i + 2 = nI (i + 2) from nI_add i 2]
    refine mp_sld hP (pc := 576) d_La_law_576 (mm_inN (n := i + 2) (by omega) (by omega)) ?_
    rw [mm_cl (n := i + 2) (by omega)]
    refine mrp_callV2 (pc := 577) d_La_law_577 (d2 := (1, 23)) ok_Mo_about li_La_109 sv_Mo_about hM.1 ⟨by decide, rfl⟩ ⟨by decide, rfl, rfl, Nat.le_of_ble_eq_true rfl, rfl, by decide, by decide⟩ ?_
    refine c_mabout (h := (mm_sl h 71 0 (A (2 + n1) (a_ix (xs (i + 1)))).toInt64)) hM hS hW (a_ix_lt (xs (i + 1))) (a_ix_eq (xs (i + 1))) (fun F2 g2 s2 k2 f2 => ?_) (fun F2 g2 z2 s2 k2 f2 => ?_) (fun F2 n2 h2 g2 e2 s2 k2 f2 => ?_)
    · exact absurd g1 g2
    · exact absurd e1 (z2 n1 h1)
    · have nn : n1 = n2 := (nI_eq (by omega) (by omega)).mp (e1.symm.trans e2)
      subst nn
      refine mp_istore (pc := 580) d_La_law_580 (by decide) ?_
      refine mp_aload_n (pc := 582) d_La_law_582 rfl ?_
      refine mrp_callV0 (pc := 583) d_La_law_583 (d2 := (0, 0)) ok_Mo_thrown li_La_77 sv_Mo_thrown hM.1 ⟨by decide, rfl⟩ ⟨by decide, Nat.le_of_ble_eq_true rfl, rfl, by decide, by decide⟩ ?_
      refine c_thrown (h := mm_wi (mm_sl h 71 0 (A (2 + n1) (a_ix (xs (i + 1)))).toInt64) F2) hM ?_
      rw [show mm_gi (mm_wi (mm_sl h 71 0 (A (2 + n1) (a_ix (xs (i + 1)))).toInt64) F2) 52 0 = 0 from k2]
      refine mp_iload (pc := 586) d_La_law_586 rfl ?_
      refine mp_ic_eq 593 (pc := 588) d_La_law_588 (by decide) (fun _ => ?_) (fun z => absurd z (by decide))
      refine mp_iload (pc := 593) d_La_law_593 rfl ?_
      refine mp_if_ne 610 (pc := 595) d_La_law_595 (by decide) (fun z => absurd z (by decide)) (fun _ => ?_)
      refine mp_aload_n (pc := 598) d_La_law_598 rfl ?_
      refine mp_iconst (v := 0) (pc := 599) d_La_law_599 (by decide) ?_
      refine mrp_lald (pc := 600) d_La_law_600 hO mm_in01 ?_
      rw [show mm_gl (mm_wi (mm_sl h 71 0 (A (2 + n1) (a_ix (xs (i + 1)))).toInt64) F2) 71 (0 : Int32).toNatClampNeg = (A (2 + n1) (a_ix (xs (i + 1)))).toInt64 from rfl]
      refine mp_iload (pc := 601) d_La_law_601 rfl ?_
      refine mp_i2l (pc := 603) d_La_law_603 ?_
      refine mp_lcmp (pc := 604) d_La_law_604 ?_
      rw [mm_cmp0]
      refine mp_if_eq 610 (pc := 605) d_La_law_605 (by decide) (fun _ => ?_) (fun z => absurd z (by decide))
      refine mp_goto 1032 (pc := 610) d_La_law_610 (by decide) ?_
      refine mm_VP_drop 5 ?_
      refine mm_VP_drop 6 ?_
      refine mm_VP_ls (ls' := [some (.ref 0), some (.ref 1), some (.ref 52), some (.ref 71), some (.int (nI i)), none, none]) rfl (hk _ ?_)
      exact LI.of (h1 := (mm_sl h 71 0 (A (2 + n1) (a_ix (xs (i + 1)))).toInt64)) hT hM hO hC f2 s2 hW hE hbs hbl (by show mm_c h ≤ _; omega) (by show mm_s h ≤ _; omega)
set_option maxRecDepth 20000 in
theorem k_handleOf {P : State → Prop} {G : mm_G} {Q : mm_O → mm_H → Prop} {h : mm_H} {L : Nat} {xs : Nat → Int32} {w w2 t i : Nat} {A : mm_W} {E : mm_E} {sv lg : List Int32} (hP : ∀ s, P s → va_X (mm_sc G) L xs s s.heap) (hG : G.1.stackTraces = false) (hL : L ≤ 2048) (hi : i + 4 ≤ L) (ht : t ≤ 512) (hBC : 600 ≤ mm_BC G) (hBS : 9000 ≤ mm_BS G) (hT : mm_Ta h w w2) (hM : mm_Mo h) (hO : mm_at h 71 103 1) (hC : CS (mm_gi h) w A E sv lg) (hS : MS (mm_gi h) A E sv lg) (hW : WF A) (hE : a_okE E) (hbs : a_byt sv) (hbl : a_byt lg) (hcc : mm_c h ≤ 71 + t) (hss : mm_s h ≤ 5300 + 6 * t) (hk : ∀ h', LI (t + 1) h' → mm_VP P G (9, 178) M_La_law Q 1032 [some (.ref 0), some (.ref 1), some (.ref 52), some (.ref 71), some (.int (nI i)), none, none] [] h') : mm_VP P G (9, 178) M_La_law Q 613 [some (.ref 0), some (.ref 1), some (.ref 52), some (.ref 71), some (.int (nI i)), none, none] [] h := by
  have hr : mm_rm G h := ⟨by omega, by omega⟩
  refine mp_aload_n (pc := 613) d_La_law_613 rfl ?_
  refine mp_aload_n (pc := 614) d_La_law_614 rfl ?_
  refine mp_iload (pc := 615) d_La_law_615 rfl ?_
  refine mp_iconst (v := 1) (pc := 617) d_La_law_617 (by decide) ?_
  refine mp_iadd (pc := 618) d_La_law_618 ?_
  rw [show nI i + 1 = nI (i + 1) from nI_add i 1]
  refine mp_sld hP (pc := 619) d_La_law_619 (mm_inN (n := i + 1) (by omega) (by omega)) ?_
  rw [mm_cl (n := i + 1) (by omega)]
  refine mp_aload_n (pc := 620) d_La_law_620 rfl ?_
  refine mrp_callS3 (pc := 621) d_La_law_621 (d2 := (7, 111)) ok_La_handleOf li_La_110 sv_La_handleOf ⟨by decide, rfl, rfl, rfl, Nat.le_of_ble_eq_true rfl, rfl, by decide, by decide⟩ ?_
  refine c_La_handleOf (o := 71) hT.1 (c_handleOf hG hr hT hC (fun z1 => ⟨by decide, ?_⟩) (fun j1 h1 e1 u1 => ⟨hO, ?_⟩) (fun j1 h1 e1 u1 => ⟨hO, ?_⟩))
  · refine mp_istore (pc := 624) d_La_law_624 (by decide) ?_
    refine mp_aload_n (pc := 626) d_La_law_626 rfl ?_
    refine mp_aload_n (pc := 627) d_La_law_627 rfl ?_
    refine mp_iload (pc := 628) d_La_law_628 rfl ?_
    refine mp_iconst (v := 1) (pc := 630) d_La_law_630 (by decide) ?_
    refine mp_iadd (pc := 631) d_La_law_631 ?_
    rw [show nI i + 1 = nI (i + 1) from nI_add i 1]
    refine mp_sld hP (pc := 632) d_La_law_632 (mm_inN (n := i + 1) (by omega) (by omega)) ?_
    rw [mm_cl (n := i + 1) (by omega)]
    refine mrp_callV1 (pc := 633) d_La_law_633 (d2 := (0, 0)) ok_Mo_handleOf li_La_112 sv_Mo_handleOf hM.1 ⟨by decide, rfl⟩ ⟨by decide, rfl, Nat.le_of_ble_eq_true rfl, rfl, by decide, by decide⟩ ?_
    refine c_mhandleOf (h := (mm_exc h)) hM hS (fun F2 z2 s2 k2 f2 => ?_) (fun F2 j2 h2 e2 u2 s2 k2 f2 => ?_) (fun F2 j2 h2 e2 u2 s2 k2 f2 => ?_)
    · refine mp_istore (pc := 636) d_La_law_636 (by decide) ?_
      refine mp_aload_n (pc := 638) d_La_law_638 rfl ?_
      refine mrp_callV0 (pc := 639) d_La_law_639 (d2 := (0, 0)) ok_Mo_thrown li_La_77 sv_Mo_thrown hM.1 ⟨by decide, rfl⟩ ⟨by decide, Nat.le_of_ble_eq_true rfl, rfl, by decide, by decide⟩ ?_
      refine c_thrown (h := mm_wi (mm_exc h) F2) hM ?_
      rw [show mm_gi (mm_wi (mm_exc h) F2) 52 0 = 1 from k2]
      refine mp_iload (pc := 642) d_La_law_642 rfl ?_
      refine mp_ic_eq 649 (pc := 644) d_La_law_644 (by decide) (fun _ => ?_) (fun z => absurd z (by decide))
      refine mp_iload (pc := 649) d_La_law_649 rfl ?_
      refine mp_if_ne 666 (pc := 651) d_La_law_651 (by decide) (fun _ => ?_) (fun z => absurd z (by decide))
      refine mp_goto 1032 (pc := 666) d_La_law_666 (by decide) ?_
      refine mm_VP_drop 5 ?_
      refine mm_VP_drop 6 ?_
      refine mm_VP_ls (ls' := [some (.ref 0), some (.ref 1), some (.ref 52), some (.ref 71), some (.int (nI i)), none, none]) rfl (hk _ ?_)
      exact LI.of (h1 := (mm_exc h)) hT hM hO hC f2 s2 hW hE hbs hbl (by show mm_c h + 1 ≤ _; omega) (by show mm_s h + 6 ≤ _; omega)
    · exact absurd e2 (z1 j2 h2)
    · exact absurd e2 (z1 j2 h2)
  · refine mp_istore (pc := 624) d_La_law_624 (by decide) ?_
    refine mp_aload_n (pc := 626) d_La_law_626 rfl ?_
    refine mp_aload_n (pc := 627) d_La_law_627 rfl ?_
    refine mp_iload (pc := 628) d_La_law_628 rfl ?_
    refine mp_iconst (v := 1) (pc := 630) d_La_law_630 (by decide) ?_
    refine mp_iadd (pc := 631) d_La_law_631 ?_
    rw [show nI i + 1 = nI (i + 1) from nI_add i 1]
    refine mp_sld hP (pc := 632) d_La_law_632 (mm_inN (n := i + 1) (by omega) (by omega)) ?_
    rw [mm_cl (n := i + 1) (by omega)]
    refine mrp_callV1 (pc := 633) d_La_law_633 (d2 := (0, 0)) ok_Mo_handleOf li_La_112 sv_Mo_handleOf hM.1 ⟨by decide, rfl⟩ ⟨by decide, rfl, Nat.le_of_ble_eq_true rfl, rfl, by decide, by decide⟩ ?_
    refine c_mhandleOf (h := (mm_sl h 71 0 (nI j1 + 16 * A 0 j1).toInt64)) hM hS (fun F2 z2 s2 k2 f2 => ?_) (fun F2 j2 h2 e2 u2 s2 k2 f2 => ?_) (fun F2 j2 h2 e2 u2 s2 k2 f2 => ?_)
    · exact absurd e1 (z2 j1 h1)
    · have jj : j1 = j2 := (nI_eq (by omega) (by omega)).mp (e1.symm.trans e2)
      subst jj
      refine mp_istore (pc := 636) d_La_law_636 (by decide) ?_
      refine mp_aload_n (pc := 638) d_La_law_638 rfl ?_
      refine mrp_callV0 (pc := 639) d_La_law_639 (d2 := (0, 0)) ok_Mo_thrown li_La_77 sv_Mo_thrown hM.1 ⟨by decide, rfl⟩ ⟨by decide, Nat.le_of_ble_eq_true rfl, rfl, by decide, by decide⟩ ?_
      refine c_thrown (h := mm_wi (mm_sl h 71 0 (nI j1 + 16 * A 0 j1).toInt64) F2) hM ?_
      rw [show mm_gi (mm_wi (mm_sl h 71 0 (nI j1 + 16 * A 0 j1).toInt64) F2) 52 0 = 0 from k2]
      refine mp_iload (pc := 642) d_La_law_642 rfl ?_
      refine mp_ic_eq 649 (pc := 644) d_La_law_644 (by decide) (fun _ => ?_) (fun z => absurd z (by decide))
      refine mp_iload (pc := 649) d_La_law_649 rfl ?_
      refine mp_if_ne 666 (pc := 651) d_La_law_651 (by decide) (fun z => absurd z (by decide)) (fun _ => ?_)
      refine mp_aload_n (pc := 654) d_La_law_654 rfl ?_
      refine mp_iconst (v := 0) (pc := 655) d_La_law_655 (by decide) ?_
      refine mrp_lald (pc := 656) d_La_law_656 hO mm_in01 ?_
      rw [show mm_gl (mm_wi (mm_sl h 71 0 (nI j1 + 16 * A 0 j1).toInt64) F2) 71 (0 : Int32).toNatClampNeg = (nI j1 + 16 * A 0 j1).toInt64 from rfl]
      refine mp_iload (pc := 657) d_La_law_657 rfl ?_
      refine mp_i2l (pc := 659) d_La_law_659 ?_
      refine mp_lcmp (pc := 660) d_La_law_660 ?_
      rw [mm_cmp0]
      refine mp_if_eq 666 (pc := 661) d_La_law_661 (by decide) (fun _ => ?_) (fun z => absurd z (by decide))
      refine mp_goto 1032 (pc := 666) d_La_law_666 (by decide) ?_
      refine mm_VP_drop 5 ?_
      refine mm_VP_drop 6 ?_
      refine mm_VP_ls (ls' := [some (.ref 0), some (.ref 1), some (.ref 52), some (.ref 71), some (.int (nI i)), none, none]) rfl (hk _ ?_)
      exact LI.of (h1 := (mm_sl h 71 0 (nI j1 + 16 * A 0 j1).toInt64)) hT hM hO hC f2 s2 hW hE hbs hbl (by show mm_c h ≤ _; omega) (by show mm_s h ≤ _; omega)
    · have jj : j1 = j2 := (nI_eq (by omega) (by omega)).mp (e1.symm.trans e2)
      subst jj
      exact absurd u2 u1
  · refine mp_istore (pc := 624) d_La_law_624 (by decide) ?_
    refine mp_aload_n (pc := 626) d_La_law_626 rfl ?_
    refine mp_aload_n (pc := 627) d_La_law_627 rfl ?_
    refine mp_iload (pc := 628) d_La_law_628 rfl ?_
    refine mp_iconst (v := 1) (pc := 630) d_La_law_630 (by decide) ?_
    refine mp_iadd (pc := 631) d_La_law_631 ?_
    rw [show nI i + 1 = nI (i + 1) from nI_add i 1]
    refine mp_sld hP (pc := 632) d_La_law_632 (mm_inN (n := i + 1) (by omega) (by omega)) ?_
    rw [mm_cl (n := i + 1) (by omega)]
    refine mrp_callV1 (pc := 633) d_La_law_633 (d2 := (0, 0)) ok_Mo_handleOf li_La_112 sv_Mo_handleOf hM.1 ⟨by decide, rfl⟩ ⟨by decide, rfl, Nat.le_of_ble_eq_true rfl, rfl, by decide, by decide⟩ ?_
    refine c_mhandleOf (h := (mm_sl h 71 0 (-1 : Int32).toInt64)) hM hS (fun F2 z2 s2 k2 f2 => ?_) (fun F2 j2 h2 e2 u2 s2 k2 f2 => ?_) (fun F2 j2 h2 e2 u2 s2 k2 f2 => ?_)
    · exact absurd e1 (z2 j1 h1)
    · have jj : j1 = j2 := (nI_eq (by omega) (by omega)).mp (e1.symm.trans e2)
      subst jj
      exact absurd u1 u2
    · have jj : j1 = j2 := (nI_eq (by omega) (by omega)).mp (e1.symm.trans e2)
      subst jj
      refine mp_istore (pc := 636) d_La_law_636 (by decide) ?_
      refine mp_aload_n (pc := 638) d_La_law_638 rfl ?_
      refine mrp_callV0 (pc := 639) d_La_law_639 (d2 := (0, 0)) ok_Mo_thrown li_La_77 sv_Mo_thrown hM.1 ⟨by decide, rfl⟩ ⟨by decide, Nat.le_of_ble_eq_true rfl, rfl, by decide, by decide⟩ ?_
      refine c_thrown (h := mm_wi (mm_sl h 71 0 (-1 : Int32).toInt64) F2) hM ?_
      rw [show mm_gi (mm_wi (mm_sl h 71 0 (-1 : Int32).toInt64) F2) 52 0 = 0 from k2]
      refine mp_iload (pc := 642) d_La_law_642 rfl ?_
      refine mp_ic_eq 649 (pc := 644) d_La_law_644 (by decide) (fun _ => ?_) (fun z => absurd z (by decide))
      refine mp_iload (pc := 649) d_La_law_649 rfl ?_
      refine mp_if_ne 666 (pc := 651) d_La_law_651 (by decide) (fun z => absurd z (by decide)) (fun _ => ?_)
      refine mp_aload_n (pc := 654) d_La_law_654 rfl ?_
      refine mp_iconst (v := 0) (pc := 655) d_La_law_655 (by decide) ?_
      refine mrp_lald (pc := 656) d_La_law_656 hO mm_in01 ?_
      rw [show mm_gl (mm_wi (mm_sl h 71 0 (-1 : Int32).toInt64) F2) 71 (0 : Int32).toNatClampNeg = (-1 : Int32).toInt64 from rfl]
      refine mp_iload (pc := 657) d_La_law_657 rfl ?_
      refine mp_i2l (pc := 659) d_La_law_659 ?_
      refine mp_lcmp (pc := 660) d_La_law_660 ?_
      rw [mm_cmp0]
      refine mp_if_eq 666 (pc := 661) d_La_law_661 (by decide) (fun _ => ?_) (fun z => absurd z (by decide))
      refine mp_goto 1032 (pc := 666) d_La_law_666 (by decide) ?_
      refine mm_VP_drop 5 ?_
      refine mm_VP_drop 6 ?_
      refine mm_VP_ls (ls' := [some (.ref 0), some (.ref 1), some (.ref 52), some (.ref 71), some (.int (nI i)), none, none]) rfl (hk _ ?_)
      exact LI.of (h1 := (mm_sl h 71 0 (-1 : Int32).toInt64)) hT hM hO hC f2 s2 hW hE hbs hbl (by show mm_c h ≤ _; omega) (by show mm_s h ≤ _; omega)
set_option maxRecDepth 20000 in
theorem k_under {P : State → Prop} {G : mm_G} {Q : mm_O → mm_H → Prop} {h : mm_H} {L : Nat} {xs : Nat → Int32} {w w2 t i : Nat} {A : mm_W} {E : mm_E} {sv lg : List Int32} (hP : ∀ s, P s → va_X (mm_sc G) L xs s s.heap) (hG : G.1.stackTraces = false) (hL : L ≤ 2048) (hi : i + 4 ≤ L) (ht : t ≤ 512) (hBC : 600 ≤ mm_BC G) (hBS : 9000 ≤ mm_BS G) (hT : mm_Ta h w w2) (hM : mm_Mo h) (hO : mm_at h 71 103 1) (hC : CS (mm_gi h) w A E sv lg) (hS : MS (mm_gi h) A E sv lg) (hW : WF A) (hE : a_okE E) (hbs : a_byt sv) (hbl : a_byt lg) (hcc : mm_c h ≤ 71 + t) (hss : mm_s h ≤ 5300 + 6 * t) (hk : ∀ h', LI (t + 1) h' → mm_VP P G (9, 178) M_La_law Q 1032 [some (.ref 0), some (.ref 1), some (.ref 52), some (.ref 71), some (.int (nI i)), none, none] [] h') : mm_VP P G (9, 178) M_La_law Q 669 [some (.ref 0), some (.ref 1), some (.ref 52), some (.ref 71), some (.int (nI i)), none, none] [] h := by
  have hr : mm_rm G h := ⟨by omega, by omega⟩
  refine mp_aload_n (pc := 669) d_La_law_669 rfl ?_
  refine mp_aload_n (pc := 670) d_La_law_670 rfl ?_
  refine mp_iload (pc := 671) d_La_law_671 rfl ?_
  refine mp_iconst (v := 1) (pc := 673) d_La_law_673 (by decide) ?_
  refine mp_iadd (pc := 674) d_La_law_674 ?_
  rw [show nI i + 1 = nI (i + 1) from nI_add i 1]
  refine mp_sld hP (pc := 675) d_La_law_675 (mm_inN (n := i + 1) (by omega) (by omega)) ?_
  rw [mm_cl (n := i + 1) (by omega)]
  refine mp_aload_n (pc := 676) d_La_law_676 rfl ?_
  refine mp_iload (pc := 677) d_La_law_677 rfl ?_
  refine mp_iconst (v := 2) (pc := 679) d_La_law_679 (by decide) ?_
  refine mp_iadd (pc := 680) d_La_law_680 ?_
  rw [show nI i + 2 = nI (i + 2) from nI_add i 2]
  refine mp_sld hP (pc := 681) d_La_law_681 (mm_inN (n := i + 2) (by omega) (by omega)) ?_
  rw [mm_cl (n := i + 2) (by omega)]
  refine mp_aload_n (pc := 682) d_La_law_682 rfl ?_
  refine mrp_callS4 (pc := 683) d_La_law_683 (d2 := (7, 112)) ok_La_under li_La_113 sv_La_under ⟨by decide, rfl, rfl, rfl, rfl, Nat.le_of_ble_eq_true rfl, rfl, by decide, by decide⟩ ?_
  refine c_La_under (o := 71) hT.1 (c_under hG hr hT hC (fun p1 => ⟨by decide, ?_⟩) (fun p1 => ⟨hO, ?_⟩))
  · refine mp_istore (pc := 686) d_La_law_686 (by decide) ?_
    refine mp_aload_n (pc := 688) d_La_law_688 rfl ?_
    refine mp_aload_n (pc := 689) d_La_law_689 rfl ?_
    refine mp_iload (pc := 690) d_La_law_690 rfl ?_
    refine mp_iconst (v := 1) (pc := 692) d_La_law_692 (by decide) ?_
    refine mp_iadd (pc := 693) d_La_law_693 ?_
    rw [show nI i + 1 = nI (i + 1) from nI_add i 1]
    refine mp_sld hP (pc := 694) d_La_law_694 (mm_inN (n := i + 1) (by omega) (by omega)) ?_
    rw [mm_cl (n := i + 1) (by omega)]
    refine mp_aload_n (pc := 695) d_La_law_695 rfl ?_
    refine mp_iload (pc := 696) d_La_law_696 rfl ?_
    refine mp_iconst (v := 2) (pc := 698) d_La_law_698 (by decide) ?_
    refine mp_iadd (pc := 699) d_La_law_699 ?_
    rw [show nI i + 2 = nI (i + 2) from nI_add i 2]
    refine mp_sld hP (pc := 700) d_La_law_700 (mm_inN (n := i + 2) (by omega) (by omega)) ?_
    rw [mm_cl (n := i + 2) (by omega)]
    refine mrp_callV2 (pc := 701) d_La_law_701 (d2 := (1, 23)) ok_Mo_under li_La_115 sv_Mo_under hM.1 ⟨by decide, rfl⟩ ⟨by decide, rfl, rfl, Nat.le_of_ble_eq_true rfl, rfl, by decide, by decide⟩ ?_
    refine c_munder (h := (mm_exc h)) hM hS hW (fun F2 p2 s2 k2 f2 => ?_) (fun F2 p2 s2 k2 f2 => ?_)
    · refine mp_istore (pc := 704) d_La_law_704 (by decide) ?_
      refine mp_aload_n (pc := 706) d_La_law_706 rfl ?_
      refine mrp_callV0 (pc := 707) d_La_law_707 (d2 := (0, 0)) ok_Mo_thrown li_La_77 sv_Mo_thrown hM.1 ⟨by decide, rfl⟩ ⟨by decide, Nat.le_of_ble_eq_true rfl, rfl, by decide, by decide⟩ ?_
      refine c_thrown (h := mm_wi (mm_exc h) F2) hM ?_
      rw [show mm_gi (mm_wi (mm_exc h) F2) 52 0 = 1 from k2]
      refine mp_iload (pc := 710) d_La_law_710 rfl ?_
      refine mp_ic_eq 717 (pc := 712) d_La_law_712 (by decide) (fun _ => ?_) (fun z => absurd z (by decide))
      refine mp_iload (pc := 717) d_La_law_717 rfl ?_
      refine mp_if_ne 734 (pc := 719) d_La_law_719 (by decide) (fun _ => ?_) (fun z => absurd z (by decide))
      refine mp_goto 1032 (pc := 734) d_La_law_734 (by decide) ?_
      refine mm_VP_drop 5 ?_
      refine mm_VP_drop 6 ?_
      refine mm_VP_ls (ls' := [some (.ref 0), some (.ref 1), some (.ref 52), some (.ref 71), some (.int (nI i)), none, none]) rfl (hk _ ?_)
      exact LI.of (h1 := (mm_exc h)) hT hM hO hC f2 s2 hW hE hbs hbl (by show mm_c h + 1 ≤ _; omega) (by show mm_s h + 6 ≤ _; omega)
    · exact absurd p2 p1
  · refine mp_istore (pc := 686) d_La_law_686 (by decide) ?_
    refine mp_aload_n (pc := 688) d_La_law_688 rfl ?_
    refine mp_aload_n (pc := 689) d_La_law_689 rfl ?_
    refine mp_iload (pc := 690) d_La_law_690 rfl ?_
    refine mp_iconst (v := 1) (pc := 692) d_La_law_692 (by decide) ?_
    refine mp_iadd (pc := 693) d_La_law_693 ?_
    rw [show nI i + 1 = nI (i + 1) from nI_add i 1]
    refine mp_sld hP (pc := 694) d_La_law_694 (mm_inN (n := i + 1) (by omega) (by omega)) ?_
    rw [mm_cl (n := i + 1) (by omega)]
    refine mp_aload_n (pc := 695) d_La_law_695 rfl ?_
    refine mp_iload (pc := 696) d_La_law_696 rfl ?_
    refine mp_iconst (v := 2) (pc := 698) d_La_law_698 (by decide) ?_
    refine mp_iadd (pc := 699) d_La_law_699 ?_
    rw [show nI i + 2 = nI (i + 2) from nI_add i 2]
    refine mp_sld hP (pc := 700) d_La_law_700 (mm_inN (n := i + 2) (by omega) (by omega)) ?_
    rw [mm_cl (n := i + 2) (by omega)]
    refine mrp_callV2 (pc := 701) d_La_law_701 (d2 := (1, 23)) ok_Mo_under li_La_115 sv_Mo_under hM.1 ⟨by decide, rfl⟩ ⟨by decide, rfl, rfl, Nat.le_of_ble_eq_true rfl, rfl, by decide, by decide⟩ ?_
    refine c_munder (h := (mm_sl h 71 0 (a_cov (fun q => mm_cvr (fun k => A k q) (xs (i + 1)) (xs (i + 2))) 16).toInt64)) hM hS hW (fun F2 p2 s2 k2 f2 => ?_) (fun F2 p2 s2 k2 f2 => ?_)
    · exact absurd p1 p2
    · refine mp_istore (pc := 704) d_La_law_704 (by decide) ?_
      refine mp_aload_n (pc := 706) d_La_law_706 rfl ?_
      refine mrp_callV0 (pc := 707) d_La_law_707 (d2 := (0, 0)) ok_Mo_thrown li_La_77 sv_Mo_thrown hM.1 ⟨by decide, rfl⟩ ⟨by decide, Nat.le_of_ble_eq_true rfl, rfl, by decide, by decide⟩ ?_
      refine c_thrown (h := mm_wi (mm_sl h 71 0 (a_cov (fun q => mm_cvr (fun k => A k q) (xs (i + 1)) (xs (i + 2))) 16).toInt64) F2) hM ?_
      rw [show mm_gi (mm_wi (mm_sl h 71 0 (a_cov (fun q => mm_cvr (fun k => A k q) (xs (i + 1)) (xs (i + 2))) 16).toInt64) F2) 52 0 = 0 from k2]
      refine mp_iload (pc := 710) d_La_law_710 rfl ?_
      refine mp_ic_eq 717 (pc := 712) d_La_law_712 (by decide) (fun _ => ?_) (fun z => absurd z (by decide))
      refine mp_iload (pc := 717) d_La_law_717 rfl ?_
      refine mp_if_ne 734 (pc := 719) d_La_law_719 (by decide) (fun z => absurd z (by decide)) (fun _ => ?_)
      refine mp_aload_n (pc := 722) d_La_law_722 rfl ?_
      refine mp_iconst (v := 0) (pc := 723) d_La_law_723 (by decide) ?_
      refine mrp_lald (pc := 724) d_La_law_724 hO mm_in01 ?_
      rw [show mm_gl (mm_wi (mm_sl h 71 0 (a_cov (fun q => mm_cvr (fun k => A k q) (xs (i + 1)) (xs (i + 2))) 16).toInt64) F2) 71 (0 : Int32).toNatClampNeg = (a_cov (fun q => mm_cvr (fun k => A k q) (xs (i + 1)) (xs (i + 2))) 16).toInt64 from rfl]
      refine mp_iload (pc := 725) d_La_law_725 rfl ?_
      refine mp_i2l (pc := 727) d_La_law_727 ?_
      refine mp_lcmp (pc := 728) d_La_law_728 ?_
      rw [mm_cmp0]
      refine mp_if_eq 734 (pc := 729) d_La_law_729 (by decide) (fun _ => ?_) (fun z => absurd z (by decide))
      refine mp_goto 1032 (pc := 734) d_La_law_734 (by decide) ?_
      refine mm_VP_drop 5 ?_
      refine mm_VP_drop 6 ?_
      refine mm_VP_ls (ls' := [some (.ref 0), some (.ref 1), some (.ref 52), some (.ref 71), some (.int (nI i)), none, none]) rfl (hk _ ?_)
      exact LI.of (h1 := (mm_sl h 71 0 (a_cov (fun q => mm_cvr (fun k => A k q) (xs (i + 1)) (xs (i + 2))) 16).toInt64)) hT hM hO hC f2 s2 hW hE hbs hbl (by show mm_c h ≤ _; omega) (by show mm_s h ≤ _; omega)
set_option maxRecDepth 20000 in
theorem k_clock {P : State → Prop} {G : mm_G} {Q : mm_O → mm_H → Prop} {h : mm_H} {L : Nat} {xs : Nat → Int32} {w w2 t i : Nat} {A : mm_W} {E : mm_E} {sv lg : List Int32} (hP : ∀ s, P s → va_X (mm_sc G) L xs s s.heap) (hG : G.1.stackTraces = false) (hL : L ≤ 2048) (hi : i + 4 ≤ L) (ht : t ≤ 512) (hBC : 600 ≤ mm_BC G) (hBS : 9000 ≤ mm_BS G) (hT : mm_Ta h w w2) (hM : mm_Mo h) (hO : mm_at h 71 103 1) (hC : CS (mm_gi h) w A E sv lg) (hS : MS (mm_gi h) A E sv lg) (hW : WF A) (hE : a_okE E) (hbs : a_byt sv) (hbl : a_byt lg) (hcc : mm_c h ≤ 71 + t) (hss : mm_s h ≤ 5300 + 6 * t) (hk : ∀ h', LI (t + 1) h' → mm_VP P G (9, 178) M_La_law Q 1032 [some (.ref 0), some (.ref 1), some (.ref 52), some (.ref 71), some (.int (nI i)), none, none] [] h') : mm_VP P G (9, 178) M_La_law Q 737 [some (.ref 0), some (.ref 1), some (.ref 52), some (.ref 71), some (.int (nI i)), none, none] [] h := by
  have hr : mm_rm G h := ⟨by omega, by omega⟩
  refine mp_aload_n (pc := 737) d_La_law_737 rfl ?_
  refine mrp_callV0 (pc := 738) d_La_law_738 (d2 := (0, 0)) ok_Ta_clock li_La_116 sv_Ta_clock hT.1 ⟨by decide, rfl⟩ ⟨by decide, Nat.le_of_ble_eq_true rfl, rfl, by decide, by decide⟩ ?_
  refine c_clock hT hC ?_
  refine mp_aload_n (pc := 741) d_La_law_741 rfl ?_
  refine mrp_callV0 (pc := 742) d_La_law_742 (d2 := (0, 0)) ok_Mo_clock li_La_119 sv_Mo_clock hM.1 ⟨by decide, rfl⟩ ⟨by decide, Nat.le_of_ble_eq_true rfl, rfl, by decide, by decide⟩ ?_
  refine c_mclock (h := h) hM hS (fun F2 s2 k2 f2 => ?_)
  refine mp_ic_eq 1032 (pc := 745) d_La_law_745 (by decide) (fun h745 => ?_) (fun z => absurd z (fun z => z rfl))
  refine mm_VP_ls (ls' := [some (.ref 0), some (.ref 1), some (.ref 52), some (.ref 71), some (.int (nI i)), none, none]) rfl (hk _ ?_)
  exact LI.of (h1 := h) hT hM hO hC f2 s2 hW hE hbs hbl (by show mm_c h ≤ _; omega) (by show mm_s h ≤ _; omega)
set_option maxRecDepth 20000 in
theorem k_save {P : State → Prop} {G : mm_G} {Q : mm_O → mm_H → Prop} {h : mm_H} {L : Nat} {xs : Nat → Int32} {w w2 t i : Nat} {A : mm_W} {E : mm_E} {sv lg : List Int32} (hP : ∀ s, P s → va_X (mm_sc G) L xs s s.heap) (hG : G.1.stackTraces = false) (hL : L ≤ 2048) (hi : i + 4 ≤ L) (ht : t ≤ 512) (hBC : 600 ≤ mm_BC G) (hBS : 9000 ≤ mm_BS G) (hT : mm_Ta h w w2) (hM : mm_Mo h) (hO : mm_at h 71 103 1) (hC : CS (mm_gi h) w A E sv lg) (hS : MS (mm_gi h) A E sv lg) (hW : WF A) (hE : a_okE E) (hbs : a_byt sv) (hbl : a_byt lg) (hcc : mm_c h ≤ 71 + t) (hss : mm_s h ≤ 5300 + 6 * t) (hk : ∀ h', LI (t + 1) h' → mm_VP P G (9, 178) M_La_law Q 1032 [some (.ref 0), some (.ref 1), some (.ref 52), some (.ref 71), some (.int (nI i)), none, none] [] h') : mm_VP P G (9, 178) M_La_law Q 750 [some (.ref 0), some (.ref 1), some (.ref 52), some (.ref 71), some (.int (nI i)), none, none] [] h := by
  have hr : mm_rm G h := ⟨by omega, by omega⟩
  refine mp_aload_n (pc := 750) d_La_law_750 rfl ?_
  refine mrp_callV0 (pc := 751) d_La_law_751 (d2 := (4, 88)) ok_Ta_save li_La_120 sv_Ta_save hT.1 ⟨by decide, rfl⟩ ⟨by decide, Nat.le_of_ble_eq_true rfl, rfl, by decide, by decide⟩ ?_
  refine c_save hT hC (by have := hW.cnt; omega) (fun F1 c1 f1 => ?_)
  refine mp_aload_n (pc := 754) d_La_law_754 rfl ?_
  refine mrp_callV0 (pc := 755) d_La_law_755 (d2 := (2, 48)) ok_Mo_save li_La_123 sv_Mo_save hM.1 ⟨by decide, rfl⟩ ⟨by decide, Nat.le_of_ble_eq_true rfl, rfl, by decide, by decide⟩ ?_
  refine c_msave (h := (mm_wi h F1)) hM (hS.cfr f1) (by have := hW.cnt; omega) (fun F2 s2 k2 f2 => ?_)
  refine mp_ic_eq 1032 (pc := 758) d_La_law_758 (by decide) (fun h758 => ?_) (fun z => absurd z (fun z => z rfl))
  refine mm_VP_ls (ls' := [some (.ref 0), some (.ref 1), some (.ref 52), some (.ref 71), some (.int (nI i)), none, none]) rfl (hk _ ?_)
  exact LI.of (h1 := (mm_wi h F1)) hT hM hO c1 f2 s2 hW a_okE_nil (a_encW_byt A) a_byt.nil (by show mm_c h ≤ _; omega) (by show mm_s h ≤ _; omega)
set_option maxRecDepth 20000 in
theorem k_load {P : State → Prop} {G : mm_G} {Q : mm_O → mm_H → Prop} {h : mm_H} {L : Nat} {xs : Nat → Int32} {w w2 t i : Nat} {A : mm_W} {E : mm_E} {sv lg : List Int32} (hP : ∀ s, P s → va_X (mm_sc G) L xs s s.heap) (hG : G.1.stackTraces = false) (hL : L ≤ 2048) (hi : i + 4 ≤ L) (ht : t ≤ 512) (hBC : 600 ≤ mm_BC G) (hBS : 9000 ≤ mm_BS G) (hT : mm_Ta h w w2) (hM : mm_Mo h) (hO : mm_at h 71 103 1) (hC : CS (mm_gi h) w A E sv lg) (hS : MS (mm_gi h) A E sv lg) (hW : WF A) (hE : a_okE E) (hbs : a_byt sv) (hbl : a_byt lg) (hcc : mm_c h ≤ 71 + t) (hss : mm_s h ≤ 5300 + 6 * t) (hk : ∀ h', LI (t + 1) h' → mm_VP P G (9, 178) M_La_law Q 1032 [some (.ref 0), some (.ref 1), some (.ref 52), some (.ref 71), some (.int (nI i)), none, none] [] h') : mm_VP P G (9, 178) M_La_law Q 763 [some (.ref 0), some (.ref 1), some (.ref 52), some (.ref 71), some (.int (nI i)), none, none] [] h := by
  have hr : mm_rm G h := ⟨by omega, by omega⟩
  refine mp_aload_n (pc := 763) d_La_law_763 rfl ?_
  refine mrp_callS1 (pc := 764) d_La_law_764 (d2 := (7, 155)) ok_La_load li_La_124 sv_La_load ⟨by decide, rfl, Nat.le_of_ble_eq_true rfl, rfl, by decide, by decide⟩ ?_
  refine c_La_load hT.1 (c_load hG hr hT hC hbs (fun F1 n1 c1 f1 => ⟨by decide, ?_⟩) (fun F1 B1 v1 e1 c1 f1 => ?_))
  · refine mp_istore (pc := 767) d_La_law_767 (by decide) ?_
    refine mp_aload_n (pc := 769) d_La_law_769 rfl ?_
    refine mrp_callV0 (pc := 770) d_La_law_770 (d2 := (4, 93)) ok_Mo_load li_La_127 sv_Mo_load hM.1 ⟨by decide, rfl⟩ ⟨by decide, Nat.le_of_ble_eq_true rfl, rfl, by decide, by decide⟩ ?_
    refine c_mload (h := (mm_exc (mm_wi h F1))) hM (hS.cfr f1) hbs (fun F2 n2 s2 k2 f2 => ?_) (fun F2 B2 v2 e2 s2 k2 f2 => ?_)
    · refine mp_aload_n (pc := 773) d_La_law_773 rfl ?_
      refine mrp_callV0 (pc := 774) d_La_law_774 (d2 := (0, 0)) ok_Mo_thrown li_La_77 sv_Mo_thrown hM.1 ⟨by decide, rfl⟩ ⟨by decide, Nat.le_of_ble_eq_true rfl, rfl, by decide, by decide⟩ ?_
      refine c_thrown (h := mm_wi (mm_exc (mm_wi h F1)) F2) hM ?_
      rw [show mm_gi (mm_wi (mm_exc (mm_wi h F1)) F2) 52 0 = 1 from k2]
      refine mp_iload (pc := 777) d_La_law_777 rfl ?_
      refine mp_ic_eq 784 (pc := 779) d_La_law_779 (by decide) (fun _ => ?_) (fun z => absurd z (by decide))
      refine mp_goto 1032 (pc := 784) d_La_law_784 (by decide) ?_
      refine mm_VP_drop 5 ?_
      refine mm_VP_ls (ls' := [some (.ref 0), some (.ref 1), some (.ref 52), some (.ref 71), some (.int (nI i)), none, none]) rfl (hk _ ?_)
      exact LI.of (h1 := (mm_exc (mm_wi h F1))) hT hM hO c1 f2 s2 hW hE hbs hbl (by show mm_c h + 1 ≤ _; omega) (by show mm_s h + 6 ≤ _; omega)
    · exact absurd ⟨B2, v2, e2⟩ n1
  · refine mp_istore (pc := 767) d_La_law_767 (by decide) ?_
    refine mp_aload_n (pc := 769) d_La_law_769 rfl ?_
    refine mrp_callV0 (pc := 770) d_La_law_770 (d2 := (4, 93)) ok_Mo_load li_La_127 sv_Mo_load hM.1 ⟨by decide, rfl⟩ ⟨by decide, Nat.le_of_ble_eq_true rfl, rfl, by decide, by decide⟩ ?_
    refine c_mload (h := (mm_swp (mm_wi h F1) w w2)) (mm_Mo.swp (h := mm_wi h F1) hM) (hS.cfr f1) hbs (fun F2 n2 s2 k2 f2 => ?_) (fun F2 B2 v2 e2 s2 k2 f2 => ?_)
    · exact absurd ⟨B1, v1, e1⟩ n2
    · refine mp_aload_n (pc := 773) d_La_law_773 rfl ?_
      refine mrp_callV0 (pc := 774) d_La_law_774 (d2 := (0, 0)) ok_Mo_thrown li_La_77 sv_Mo_thrown hM.1 ⟨by decide, rfl⟩ ⟨by decide, Nat.le_of_ble_eq_true rfl, rfl, by decide, by decide⟩ ?_
      refine c_thrown (h := mm_wi (mm_swp (mm_wi h F1) w w2) F2) (mm_Mo.swp (h := mm_wi h F1) hM) ?_
      rw [show mm_gi (mm_wi (mm_swp (mm_wi h F1) w w2) F2) 52 0 = 0 from k2]
      refine mp_iload (pc := 777) d_La_law_777 rfl ?_
      refine mp_ic_eq 784 (pc := 779) d_La_law_779 (by decide) (fun _ => ?_) (fun z => absurd z (by decide))
      refine mp_goto 1032 (pc := 784) d_La_law_784 (by decide) ?_
      refine mm_VP_drop 5 ?_
      refine mm_VP_ls (ls' := [some (.ref 0), some (.ref 1), some (.ref 52), some (.ref 71), some (.int (nI i)), none, none]) rfl (hk _ ?_)
      exact LI.of (h1 := (mm_swp (mm_wi h F1) w w2)) (mm_Ta.swp (h := mm_wi h F1) hT) (mm_Mo.swp (h := mm_wi h F1) hM) hO (c1.like (encW_inj v1 v2 (e1.symm.trans e2))) f2 s2 v2 a_okE_nil hbs a_byt.nil (by show mm_c h ≤ _; omega) (by show mm_s h ≤ _; omega)
set_option maxRecDepth 20000 in
theorem k_replay {P : State → Prop} {G : mm_G} {Q : mm_O → mm_H → Prop} {h : mm_H} {L : Nat} {xs : Nat → Int32} {w w2 t i : Nat} {A : mm_W} {E : mm_E} {sv lg : List Int32} (hP : ∀ s, P s → va_X (mm_sc G) L xs s s.heap) (hG : G.1.stackTraces = false) (hL : L ≤ 2048) (hi : i + 4 ≤ L) (ht : t ≤ 512) (hBC : 600 ≤ mm_BC G) (hBS : 9000 ≤ mm_BS G) (hT : mm_Ta h w w2) (hM : mm_Mo h) (hO : mm_at h 71 103 1) (hC : CS (mm_gi h) w A E sv lg) (hS : MS (mm_gi h) A E sv lg) (hW : WF A) (hE : a_okE E) (hbs : a_byt sv) (hbl : a_byt lg) (hcc : mm_c h ≤ 71 + t) (hss : mm_s h ≤ 5300 + 6 * t) (hk : ∀ h', LI (t + 1) h' → mm_VP P G (9, 178) M_La_law Q 1032 [some (.ref 0), some (.ref 1), some (.ref 52), some (.ref 71), some (.int (nI i)), none, none] [] h') : mm_VP P G (9, 178) M_La_law Q 787 [some (.ref 0), some (.ref 1), some (.ref 52), some (.ref 71), some (.int (nI i)), none, none] [] h := by
  have hr : mm_rm G h := ⟨by omega, by omega⟩
  obtain ⟨B, hB⟩ : ∃ B, (a_snd sv → WF B ∧ sv = a_encW B) := by
    by_cases q : a_snd sv
    · obtain ⟨B, b1, b2⟩ := q
      exact ⟨B, fun _ => ⟨b1, b2⟩⟩
    · exact ⟨A, fun z => absurd z q⟩
  refine mp_aload_n (pc := 787) d_La_law_787 rfl ?_
  refine mp_aload_n (pc := 788) d_La_law_788 rfl ?_
  refine mrp_callS2 (pc := 789) d_La_law_789 (d2 := (7, 156)) ok_La_replay li_La_128 sv_La_replay ⟨by decide, rfl, rfl, Nat.le_of_ble_eq_true rfl, rfl, by decide, by decide⟩ ?_
  refine c_La_replay (o := 71) hT.1 (c_replay hG hr hT hC hbs hB (fun F1 n1 c1 f1 => ⟨by decide, ?_⟩) (fun F1 C1 x1 v1 e1 r1 c1 f1 => ⟨hO, ?_⟩) (fun F1 C1 v1 e1 r1 y1 c1 f1 => ⟨hO, ?_⟩))
  · refine mp_istore (pc := 792) d_La_law_792 (by decide) ?_
    refine mp_aload_n (pc := 794) d_La_law_794 rfl ?_
    refine mrp_callV0 (pc := 795) d_La_law_795 (d2 := (5, 123)) ok_Mo_replay li_La_131 sv_Mo_replay hM.1 ⟨by decide, rfl⟩ ⟨by decide, Nat.le_of_ble_eq_true rfl, rfl, by decide, by decide⟩ ?_
    refine c_mreplay (h := (mm_exc (mm_wi h F1))) hM (hS.cfr f1) hbs hE.1 hB (fun F2 n2 s2 k2 f2 => ?_) (fun F2 C2 x2 v2 e2 r2 s2 k2 f2 => ?_) (fun F2 B2 C2 v2 e2 r2 y2 s2 k2 f2 => ?_)
    · refine mp_istore (pc := 798) d_La_law_798 (by decide) ?_
      refine mp_aload_n (pc := 800) d_La_law_800 rfl ?_
      refine mrp_callV0 (pc := 801) d_La_law_801 (d2 := (0, 0)) ok_Mo_thrown li_La_77 sv_Mo_thrown hM.1 ⟨by decide, rfl⟩ ⟨by decide, Nat.le_of_ble_eq_true rfl, rfl, by decide, by decide⟩ ?_
      refine c_thrown (h := mm_wi (mm_exc (mm_wi h F1)) F2) hM ?_
      rw [show mm_gi (mm_wi (mm_exc (mm_wi h F1)) F2) 52 0 = 1 from k2]
      refine mp_iload (pc := 804) d_La_law_804 rfl ?_
      refine mp_ic_eq 811 (pc := 806) d_La_law_806 (by decide) (fun _ => ?_) (fun z => absurd z (by decide))
      refine mp_iload (pc := 811) d_La_law_811 rfl ?_
      refine mp_if_ne 828 (pc := 813) d_La_law_813 (by decide) (fun _ => ?_) (fun z => absurd z (by decide))
      refine mp_goto 1032 (pc := 828) d_La_law_828 (by decide) ?_
      refine mm_VP_drop 5 ?_
      refine mm_VP_drop 6 ?_
      refine mm_VP_ls (ls' := [some (.ref 0), some (.ref 1), some (.ref 52), some (.ref 71), some (.int (nI i)), none, none]) rfl (hk _ ?_)
      exact LI.of (h1 := (mm_exc (mm_wi h F1))) hT hM hO c1 f2 s2 hW hE hbs hbl (by show mm_c h + 1 ≤ _; omega) (by show mm_s h + 6 ≤ _; omega)
    · exact absurd ⟨B, v2, e2⟩ n1
    · exact absurd ⟨B2, v2, e2⟩ n1
  · refine mp_istore (pc := 792) d_La_law_792 (by decide) ?_
    refine mp_aload_n (pc := 794) d_La_law_794 rfl ?_
    refine mrp_callV0 (pc := 795) d_La_law_795 (d2 := (5, 123)) ok_Mo_replay li_La_131 sv_Mo_replay hM.1 ⟨by decide, rfl⟩ ⟨by decide, Nat.le_of_ble_eq_true rfl, rfl, by decide, by decide⟩ ?_
    refine c_mreplay (h := (mm_sl (mm_wi h F1) 71 0 (nI x1).toInt64)) hM (hS.cfr f1) hbs hE.1 hB (fun F2 n2 s2 k2 f2 => ?_) (fun F2 C2 x2 v2 e2 r2 s2 k2 f2 => ?_) (fun F2 B2 C2 v2 e2 r2 y2 s2 k2 f2 => ?_)
    · exact absurd ⟨B, v1, e1⟩ n2
    · have qq := r1.symm.trans r2
      simp only [Prod.mk.injEq, Option.some.injEq] at qq
      obtain ⟨q1, q2⟩ := qq
      subst q2
      refine mp_istore (pc := 798) d_La_law_798 (by decide) ?_
      refine mp_aload_n (pc := 800) d_La_law_800 rfl ?_
      refine mrp_callV0 (pc := 801) d_La_law_801 (d2 := (0, 0)) ok_Mo_thrown li_La_77 sv_Mo_thrown hM.1 ⟨by decide, rfl⟩ ⟨by decide, Nat.le_of_ble_eq_true rfl, rfl, by decide, by decide⟩ ?_
      refine c_thrown (h := mm_wi (mm_sl (mm_wi h F1) 71 0 (nI x1).toInt64) F2) hM ?_
      rw [show mm_gi (mm_wi (mm_sl (mm_wi h F1) 71 0 (nI x1).toInt64) F2) 52 0 = 0 from k2]
      refine mp_iload (pc := 804) d_La_law_804 rfl ?_
      refine mp_ic_eq 811 (pc := 806) d_La_law_806 (by decide) (fun _ => ?_) (fun z => absurd z (by decide))
      refine mp_iload (pc := 811) d_La_law_811 rfl ?_
      refine mp_if_ne 828 (pc := 813) d_La_law_813 (by decide) (fun z => absurd z (by decide)) (fun _ => ?_)
      refine mp_aload_n (pc := 816) d_La_law_816 rfl ?_
      refine mp_iconst (v := 0) (pc := 817) d_La_law_817 (by decide) ?_
      refine mrp_lald (pc := 818) d_La_law_818 hO mm_in01 ?_
      rw [show mm_gl (mm_wi (mm_sl (mm_wi h F1) 71 0 (nI x1).toInt64) F2) 71 (0 : Int32).toNatClampNeg = (nI x1).toInt64 from rfl]
      refine mp_iload (pc := 819) d_La_law_819 rfl ?_
      refine mp_i2l (pc := 821) d_La_law_821 ?_
      refine mp_lcmp (pc := 822) d_La_law_822 ?_
      rw [mm_cmp0]
      refine mp_if_eq 828 (pc := 823) d_La_law_823 (by decide) (fun _ => ?_) (fun z => absurd z (by decide))
      refine mp_goto 1032 (pc := 828) d_La_law_828 (by decide) ?_
      refine mm_VP_drop 5 ?_
      refine mm_VP_drop 6 ?_
      refine mm_VP_ls (ls' := [some (.ref 0), some (.ref 1), some (.ref 52), some (.ref 71), some (.int (nI i)), none, none]) rfl (hk _ ?_)
      exact LI.of (h1 := (mm_sl (mm_wi h F1) 71 0 (nI x1).toInt64)) hT hM hO c1 f2 s2 hW hE hbs hbl (by show mm_c h ≤ _; omega) (by show mm_s h ≤ _; omega)
    · exact absurd (r1.symm.trans r2) (by simp)
  · refine mp_istore (pc := 792) d_La_law_792 (by decide) ?_
    refine mp_aload_n (pc := 794) d_La_law_794 rfl ?_
    refine mrp_callV0 (pc := 795) d_La_law_795 (d2 := (5, 123)) ok_Mo_replay li_La_131 sv_Mo_replay hM.1 ⟨by decide, rfl⟩ ⟨by decide, Nat.le_of_ble_eq_true rfl, rfl, by decide, by decide⟩ ?_
    refine c_mreplay (h := (mm_sl (mm_swp (mm_wi h F1) w w2) 71 0 (-1 : Int32).toInt64)) (mm_Mo.swp (h := mm_wi h F1) hM) (hS.cfr f1) hbs hE.1 hB (fun F2 n2 s2 k2 f2 => ?_) (fun F2 C2 x2 v2 e2 r2 s2 k2 f2 => ?_) (fun F2 B2 C2 v2 e2 r2 y2 s2 k2 f2 => ?_)
    · exact absurd ⟨B, v1, e1⟩ n2
    · exact absurd (r1.symm.trans r2) (by simp)
    · have qq := r1.symm.trans r2
      simp only [Prod.mk.injEq, and_true] at qq
      subst qq
      refine mp_istore (pc := 798) d_La_law_798 (by decide) ?_
      refine mp_aload_n (pc := 800) d_La_law_800 rfl ?_
      refine mrp_callV0 (pc := 801) d_La_law_801 (d2 := (0, 0)) ok_Mo_thrown li_La_77 sv_Mo_thrown hM.1 ⟨by decide, rfl⟩ ⟨by decide, Nat.le_of_ble_eq_true rfl, rfl, by decide, by decide⟩ ?_
      refine c_thrown (h := mm_wi (mm_sl (mm_swp (mm_wi h F1) w w2) 71 0 (-1 : Int32).toInt64) F2) (mm_Mo.swp (h := mm_wi h F1) hM) ?_
      rw [show mm_gi (mm_wi (mm_sl (mm_swp (mm_wi h F1) w w2) 71 0 (-1 : Int32).toInt64) F2) 52 0 = 0 from k2]
      refine mp_iload (pc := 804) d_La_law_804 rfl ?_
      refine mp_ic_eq 811 (pc := 806) d_La_law_806 (by decide) (fun _ => ?_) (fun z => absurd z (by decide))
      refine mp_iload (pc := 811) d_La_law_811 rfl ?_
      refine mp_if_ne 828 (pc := 813) d_La_law_813 (by decide) (fun z => absurd z (by decide)) (fun _ => ?_)
      refine mp_aload_n (pc := 816) d_La_law_816 rfl ?_
      refine mp_iconst (v := 0) (pc := 817) d_La_law_817 (by decide) ?_
      refine mrp_lald (pc := 818) d_La_law_818 hO mm_in01 ?_
      rw [show mm_gl (mm_wi (mm_sl (mm_swp (mm_wi h F1) w w2) 71 0 (-1 : Int32).toInt64) F2) 71 (0 : Int32).toNatClampNeg = (-1 : Int32).toInt64 from rfl]
      refine mp_iload (pc := 819) d_La_law_819 rfl ?_
      refine mp_i2l (pc := 821) d_La_law_821 ?_
      refine mp_lcmp (pc := 822) d_La_law_822 ?_
      rw [mm_cmp0]
      refine mp_if_eq 828 (pc := 823) d_La_law_823 (by decide) (fun _ => ?_) (fun z => absurd z (by decide))
      refine mp_goto 1032 (pc := 828) d_La_law_828 (by decide) ?_
      refine mm_VP_drop 5 ?_
      refine mm_VP_drop 6 ?_
      refine mm_VP_ls (ls' := [some (.ref 0), some (.ref 1), some (.ref 52), some (.ref 71), some (.int (nI i)), none, none]) rfl (hk _ ?_)
      exact LI.of (h1 := (mm_sl (mm_swp (mm_wi h F1) w w2) 71 0 (-1 : Int32).toInt64)) (mm_Ta.swp (h := mm_wi h F1) hT) (mm_Mo.swp (h := mm_wi h F1) hM) hO c1 f2 s2 y1 a_okE_nil hbs hbl (by show mm_c h ≤ _; omega) (by show mm_s h ≤ _; omega)
set_option maxRecDepth 20000 in
theorem k_size {P : State → Prop} {G : mm_G} {Q : mm_O → mm_H → Prop} {h : mm_H} {L : Nat} {xs : Nat → Int32} {w w2 t i : Nat} {A : mm_W} {E : mm_E} {sv lg : List Int32} (hP : ∀ s, P s → va_X (mm_sc G) L xs s s.heap) (hG : G.1.stackTraces = false) (hL : L ≤ 2048) (hi : i + 4 ≤ L) (ht : t ≤ 512) (hBC : 600 ≤ mm_BC G) (hBS : 9000 ≤ mm_BS G) (hT : mm_Ta h w w2) (hM : mm_Mo h) (hO : mm_at h 71 103 1) (hC : CS (mm_gi h) w A E sv lg) (hS : MS (mm_gi h) A E sv lg) (hW : WF A) (hE : a_okE E) (hbs : a_byt sv) (hbl : a_byt lg) (hcc : mm_c h ≤ 71 + t) (hss : mm_s h ≤ 5300 + 6 * t) (hk : ∀ h', LI (t + 1) h' → mm_VP P G (9, 178) M_La_law Q 1032 [some (.ref 0), some (.ref 1), some (.ref 52), some (.ref 71), some (.int (nI i)), none, none] [] h') : mm_VP P G (9, 178) M_La_law Q 831 [some (.ref 0), some (.ref 1), some (.ref 52), some (.ref 71), some (.int (nI i)), none, none] [] h := by
  have hr : mm_rm G h := ⟨by omega, by omega⟩
  refine mp_aload_n (pc := 831) d_La_law_831 rfl ?_
  refine mp_aload_n (pc := 832) d_La_law_832 rfl ?_
  refine mp_iload (pc := 833) d_La_law_833 rfl ?_
  refine mp_iconst (v := 1) (pc := 835) d_La_law_835 (by decide) ?_
  refine mp_iadd (pc := 836) d_La_law_836 ?_
  rw [show nI i + 1 = nI (i + 1) from nI_add i 1]
  refine mp_sld hP (pc := 837) d_La_law_837 (mm_inN (n := i + 1) (by omega) (by omega)) ?_
  rw [mm_cl (n := i + 1) (by omega)]
  refine mp_if_eq 845 (pc := 838) d_La_law_838 (by decide) (fun h838 => ?_) (fun h838 => ?_)
  · refine mp_iconst (v := 0) (pc := 845) d_La_law_845 (by decide) ?_
    refine mrp_callV1 (pc := 846) d_La_law_846 (d2 := (1, 21)) ok_Ta_size li_La_132 sv_Ta_size hT.1 ⟨by decide, rfl⟩ ⟨by decide, rfl, Nat.le_of_ble_eq_true rfl, rfl, by decide, by decide⟩ ?_
    refine c_size hT hC (fun b1 => ?_) (fun b1 => ?_)
    · exact absurd rfl b1
    · refine mp_aload_n (pc := 849) d_La_law_849 rfl ?_
      refine mp_aload_n (pc := 850) d_La_law_850 rfl ?_
      refine mp_iload (pc := 851) d_La_law_851 rfl ?_
      refine mp_iconst (v := 1) (pc := 853) d_La_law_853 (by decide) ?_
      refine mp_iadd (pc := 854) d_La_law_854 ?_
      rw [show nI i + 1 = nI (i + 1) from nI_add i 1]
      refine mp_sld hP (pc := 855) d_La_law_855 (mm_inN (n := i + 1) (by omega) (by omega)) ?_
      rw [mm_cl (n := i + 1) (by omega)]
      refine mp_if_eq 863 (pc := 856) d_La_law_856 (by decide) (fun h856 => ?_) (fun z => absurd z (fun q => q h838))
      refine mp_iconst (v := 0) (pc := 863) d_La_law_863 (by decide) ?_
      refine mrp_callV1 (pc := 864) d_La_law_864 (d2 := (0, 0)) ok_Mo_size li_La_136 sv_Mo_size hM.1 ⟨by decide, rfl⟩ ⟨by decide, rfl, Nat.le_of_ble_eq_true rfl, rfl, by decide, by decide⟩ ?_
      refine c_msize (h := h) hM hS (fun F2 b2 s2 k2 f2 => ?_) (fun F2 b2 s2 k2 f2 => ?_)
      · exact absurd rfl b2
      · refine mp_ic_eq 1032 (pc := 867) d_La_law_867 (by decide) (fun h867 => ?_) (fun z => absurd z (fun z => z rfl))
        refine mm_VP_ls (ls' := [some (.ref 0), some (.ref 1), some (.ref 52), some (.ref 71), some (.int (nI i)), none, none]) rfl (hk _ ?_)
        exact LI.of (h1 := h) hT hM hO hC f2 s2 hW hE hbs hbl (by show mm_c h ≤ _; omega) (by show mm_s h ≤ _; omega)
  · refine mp_iconst (v := 1) (pc := 841) d_La_law_841 (by decide) ?_
    refine mp_goto 846 (pc := 842) d_La_law_842 (by decide) ?_
    refine mrp_callV1 (pc := 846) d_La_law_846 (d2 := (1, 21)) ok_Ta_size li_La_132 sv_Ta_size hT.1 ⟨by decide, rfl⟩ ⟨by decide, rfl, Nat.le_of_ble_eq_true rfl, rfl, by decide, by decide⟩ ?_
    refine c_size hT hC (fun b1 => ?_) (fun b1 => ?_)
    · refine mp_aload_n (pc := 849) d_La_law_849 rfl ?_
      refine mp_aload_n (pc := 850) d_La_law_850 rfl ?_
      refine mp_iload (pc := 851) d_La_law_851 rfl ?_
      refine mp_iconst (v := 1) (pc := 853) d_La_law_853 (by decide) ?_
      refine mp_iadd (pc := 854) d_La_law_854 ?_
      rw [show nI i + 1 = nI (i + 1) from nI_add i 1]
      refine mp_sld hP (pc := 855) d_La_law_855 (mm_inN (n := i + 1) (by omega) (by omega)) ?_
      rw [mm_cl (n := i + 1) (by omega)]
      refine mp_if_eq 863 (pc := 856) d_La_law_856 (by decide) (fun z => absurd z (h838)) (fun h856 => ?_)
      refine mp_iconst (v := 1) (pc := 859) d_La_law_859 (by decide) ?_
      refine mp_goto 864 (pc := 860) d_La_law_860 (by decide) ?_
      refine mrp_callV1 (pc := 864) d_La_law_864 (d2 := (0, 0)) ok_Mo_size li_La_136 sv_Mo_size hM.1 ⟨by decide, rfl⟩ ⟨by decide, rfl, Nat.le_of_ble_eq_true rfl, rfl, by decide, by decide⟩ ?_
      refine c_msize (h := h) hM hS (fun F2 b2 s2 k2 f2 => ?_) (fun F2 b2 s2 k2 f2 => ?_)
      · refine mp_ic_eq 1032 (pc := 867) d_La_law_867 (by decide) (fun h867 => ?_) (fun z => absurd z (fun z => z rfl))
        refine mm_VP_ls (ls' := [some (.ref 0), some (.ref 1), some (.ref 52), some (.ref 71), some (.int (nI i)), none, none]) rfl (hk _ ?_)
        exact LI.of (h1 := h) hT hM hO hC f2 s2 hW hE hbs hbl (by show mm_c h ≤ _; omega) (by show mm_s h ≤ _; omega)
      · exact absurd b2 (by decide)
    · exact absurd b1 (by decide)
set_option maxRecDepth 20000 in
theorem k_at {P : State → Prop} {G : mm_G} {Q : mm_O → mm_H → Prop} {h : mm_H} {L : Nat} {xs : Nat → Int32} {w w2 t i : Nat} {A : mm_W} {E : mm_E} {sv lg : List Int32} (hP : ∀ s, P s → va_X (mm_sc G) L xs s s.heap) (hG : G.1.stackTraces = false) (hL : L ≤ 2048) (hi : i + 4 ≤ L) (ht : t ≤ 512) (hBC : 600 ≤ mm_BC G) (hBS : 9000 ≤ mm_BS G) (hT : mm_Ta h w w2) (hM : mm_Mo h) (hO : mm_at h 71 103 1) (hC : CS (mm_gi h) w A E sv lg) (hS : MS (mm_gi h) A E sv lg) (hW : WF A) (hE : a_okE E) (hbs : a_byt sv) (hbl : a_byt lg) (hcc : mm_c h ≤ 71 + t) (hss : mm_s h ≤ 5300 + 6 * t) (hk : ∀ h', LI (t + 1) h' → mm_VP P G (9, 178) M_La_law Q 1032 [some (.ref 0), some (.ref 1), some (.ref 52), some (.ref 71), some (.int (nI i)), none, none] [] h') : mm_VP P G (9, 178) M_La_law Q 872 [some (.ref 0), some (.ref 1), some (.ref 52), some (.ref 71), some (.int (nI i)), none, none] [] h := by
  have hr : mm_rm G h := ⟨by omega, by omega⟩
  refine mp_aload_n (pc := 872) d_La_law_872 rfl ?_
  refine mp_aload_n (pc := 873) d_La_law_873 rfl ?_
  refine mp_iload (pc := 874) d_La_law_874 rfl ?_
  refine mp_iconst (v := 1) (pc := 876) d_La_law_876 (by decide) ?_
  refine mp_iadd (pc := 877) d_La_law_877 ?_
  rw [show nI i + 1 = nI (i + 1) from nI_add i 1]
  refine mp_sld hP (pc := 878) d_La_law_878 (mm_inN (n := i + 1) (by omega) (by omega)) ?_
  rw [mm_cl (n := i + 1) (by omega)]
  refine mp_aload_n (pc := 879) d_La_law_879 rfl ?_
  refine mp_iload (pc := 880) d_La_law_880 rfl ?_
  refine mp_iconst (v := 2) (pc := 882) d_La_law_882 (by decide) ?_
  refine mp_iadd (pc := 883) d_La_law_883 ?_
  rw [show nI i + 2 = nI (i + 2) from nI_add i 2]
  refine mp_sld hP (pc := 884) d_La_law_884 (mm_inN (n := i + 2) (by omega) (by omega)) ?_
  rw [mm_cl (n := i + 2) (by omega)]
  refine mp_if_eq 892 (pc := 885) d_La_law_885 (by decide) (fun h885 => ?_) (fun h885 => ?_)
  · refine mp_iconst (v := 0) (pc := 892) d_La_law_892 (by decide) ?_
    refine mp_aload_n (pc := 893) d_La_law_893 rfl ?_
    refine mrp_callS4 (pc := 894) d_La_law_894 (d2 := (7, 113)) ok_La_at li_La_137 sv_La_at ⟨by decide, rfl, rfl, rfl, rfl, Nat.le_of_ble_eq_true rfl, rfl, by decide, by decide⟩ ?_
    refine c_La_at (o := 71) hT.1 (c_at hG hr hT hC (fun b1 z1 => ⟨by decide, ?_⟩) (fun b1 z1 => ⟨by decide, ?_⟩) (fun j1 b1 h1 e1 => ⟨hO, ?_⟩) (fun j1 b1 h1 e1 => ⟨hO, ?_⟩))
    · exact absurd rfl b1
    · refine mp_istore (pc := 897) d_La_law_897 (by decide) ?_
      refine mp_aload_n (pc := 899) d_La_law_899 rfl ?_
      refine mp_aload_n (pc := 900) d_La_law_900 rfl ?_
      refine mp_iload (pc := 901) d_La_law_901 rfl ?_
      refine mp_iconst (v := 1) (pc := 903) d_La_law_903 (by decide) ?_
      refine mp_iadd (pc := 904) d_La_law_904 ?_
      rw [show nI i + 1 = nI (i + 1) from nI_add i 1]
      refine mp_sld hP (pc := 905) d_La_law_905 (mm_inN (n := i + 1) (by omega) (by omega)) ?_
      rw [mm_cl (n := i + 1) (by omega)]
      refine mp_aload_n (pc := 906) d_La_law_906 rfl ?_
      refine mp_iload (pc := 907) d_La_law_907 rfl ?_
      refine mp_iconst (v := 2) (pc := 909) d_La_law_909 (by decide) ?_
      refine mp_iadd (pc := 910) d_La_law_910 ?_
      rw [show nI i + 2 = nI (i + 2) from nI_add i 2]
      refine mp_sld hP (pc := 911) d_La_law_911 (mm_inN (n := i + 2) (by omega) (by omega)) ?_
      rw [mm_cl (n := i + 2) (by omega)]
      refine mp_if_eq 919 (pc := 912) d_La_law_912 (by decide) (fun h912 => ?_) (fun z => absurd z (fun q => q h885))
      refine mp_iconst (v := 0) (pc := 919) d_La_law_919 (by decide) ?_
      refine mrp_callV2 (pc := 920) d_La_law_920 (d2 := (0, 0)) ok_Mo_at li_La_140 sv_Mo_at hM.1 ⟨by decide, rfl⟩ ⟨by decide, rfl, rfl, Nat.le_of_ble_eq_true rfl, rfl, by decide, by decide⟩ ?_
      refine c_mat (h := (mm_exc h)) hM hS (fun F2 b2 z2 s2 k2 f2 => ?_) (fun F2 b2 z2 s2 k2 f2 => ?_) (fun F2 j2 b2 h2 e2 s2 k2 f2 => ?_) (fun F2 j2 b2 h2 e2 s2 k2 f2 => ?_)
      · exact absurd rfl b2
      · refine mp_istore (pc := 923) d_La_law_923 (by decide) ?_
        refine mp_aload_n (pc := 925) d_La_law_925 rfl ?_
        refine mrp_callV0 (pc := 926) d_La_law_926 (d2 := (0, 0)) ok_Mo_thrown li_La_77 sv_Mo_thrown hM.1 ⟨by decide, rfl⟩ ⟨by decide, Nat.le_of_ble_eq_true rfl, rfl, by decide, by decide⟩ ?_
        refine c_thrown (h := mm_wi (mm_exc h) F2) hM ?_
        rw [show mm_gi (mm_wi (mm_exc h) F2) 52 0 = 1 from k2]
        refine mp_iload (pc := 929) d_La_law_929 rfl ?_
        refine mp_ic_eq 936 (pc := 931) d_La_law_931 (by decide) (fun _ => ?_) (fun z => absurd z (by decide))
        refine mp_iload (pc := 936) d_La_law_936 rfl ?_
        refine mp_if_ne 953 (pc := 938) d_La_law_938 (by decide) (fun _ => ?_) (fun z => absurd z (by decide))
        refine mp_goto 1032 (pc := 953) d_La_law_953 (by decide) ?_
        refine mm_VP_drop 5 ?_
        refine mm_VP_drop 6 ?_
        refine mm_VP_ls (ls' := [some (.ref 0), some (.ref 1), some (.ref 52), some (.ref 71), some (.int (nI i)), none, none]) rfl (hk _ ?_)
        exact LI.of (h1 := (mm_exc h)) hT hM hO hC f2 s2 hW hE hbs hbl (by show mm_c h + 1 ≤ _; omega) (by show mm_s h + 6 ≤ _; omega)
      · exact absurd rfl b2
      · exact absurd e2 (z1 j2 h2)
    · exact absurd rfl b1
    · refine mp_istore (pc := 897) d_La_law_897 (by decide) ?_
      refine mp_aload_n (pc := 899) d_La_law_899 rfl ?_
      refine mp_aload_n (pc := 900) d_La_law_900 rfl ?_
      refine mp_iload (pc := 901) d_La_law_901 rfl ?_
      refine mp_iconst (v := 1) (pc := 903) d_La_law_903 (by decide) ?_
      refine mp_iadd (pc := 904) d_La_law_904 ?_
      rw [show nI i + 1 = nI (i + 1) from nI_add i 1]
      refine mp_sld hP (pc := 905) d_La_law_905 (mm_inN (n := i + 1) (by omega) (by omega)) ?_
      rw [mm_cl (n := i + 1) (by omega)]
      refine mp_aload_n (pc := 906) d_La_law_906 rfl ?_
      refine mp_iload (pc := 907) d_La_law_907 rfl ?_
      refine mp_iconst (v := 2) (pc := 909) d_La_law_909 (by decide) ?_
      refine mp_iadd (pc := 910) d_La_law_910 ?_
      rw [show nI i + 2 = nI (i + 2) from nI_add i 2]
      refine mp_sld hP (pc := 911) d_La_law_911 (mm_inN (n := i + 2) (by omega) (by omega)) ?_
      rw [mm_cl (n := i + 2) (by omega)]
      refine mp_if_eq 919 (pc := 912) d_La_law_912 (by decide) (fun h912 => ?_) (fun z => absurd z (fun q => q h885))
      refine mp_iconst (v := 0) (pc := 919) d_La_law_919 (by decide) ?_
      refine mrp_callV2 (pc := 920) d_La_law_920 (d2 := (0, 0)) ok_Mo_at li_La_140 sv_Mo_at hM.1 ⟨by decide, rfl⟩ ⟨by decide, rfl, rfl, Nat.le_of_ble_eq_true rfl, rfl, by decide, by decide⟩ ?_
      refine c_mat (h := (mm_sl h 71 0 (sv.getD j1 0).toInt64)) hM hS (fun F2 b2 z2 s2 k2 f2 => ?_) (fun F2 b2 z2 s2 k2 f2 => ?_) (fun F2 j2 b2 h2 e2 s2 k2 f2 => ?_) (fun F2 j2 b2 h2 e2 s2 k2 f2 => ?_)
      · exact absurd rfl b2
      · exact absurd e1 (z2 j1 h1)
      · exact absurd rfl b2
      · have jj : j1 = j2 := (nI_eq (by have := hC.2.2.2.2.2; have := hC.2.2.2.2.1; omega) (by have := hC.2.2.2.2.2; have := hC.2.2.2.2.1; omega)).mp (e1.symm.trans e2)
        subst jj
        refine mp_istore (pc := 923) d_La_law_923 (by decide) ?_
        refine mp_aload_n (pc := 925) d_La_law_925 rfl ?_
        refine mrp_callV0 (pc := 926) d_La_law_926 (d2 := (0, 0)) ok_Mo_thrown li_La_77 sv_Mo_thrown hM.1 ⟨by decide, rfl⟩ ⟨by decide, Nat.le_of_ble_eq_true rfl, rfl, by decide, by decide⟩ ?_
        refine c_thrown (h := mm_wi (mm_sl h 71 0 (sv.getD j1 0).toInt64) F2) hM ?_
        rw [show mm_gi (mm_wi (mm_sl h 71 0 (sv.getD j1 0).toInt64) F2) 52 0 = 0 from k2]
        refine mp_iload (pc := 929) d_La_law_929 rfl ?_
        refine mp_ic_eq 936 (pc := 931) d_La_law_931 (by decide) (fun _ => ?_) (fun z => absurd z (by decide))
        refine mp_iload (pc := 936) d_La_law_936 rfl ?_
        refine mp_if_ne 953 (pc := 938) d_La_law_938 (by decide) (fun z => absurd z (by decide)) (fun _ => ?_)
        refine mp_aload_n (pc := 941) d_La_law_941 rfl ?_
        refine mp_iconst (v := 0) (pc := 942) d_La_law_942 (by decide) ?_
        refine mrp_lald (pc := 943) d_La_law_943 hO mm_in01 ?_
        rw [show mm_gl (mm_wi (mm_sl h 71 0 (sv.getD j1 0).toInt64) F2) 71 (0 : Int32).toNatClampNeg = (sv.getD j1 0).toInt64 from rfl]
        refine mp_iload (pc := 944) d_La_law_944 rfl ?_
        refine mp_i2l (pc := 946) d_La_law_946 ?_
        refine mp_lcmp (pc := 947) d_La_law_947 ?_
        rw [mm_cmp0]
        refine mp_if_eq 953 (pc := 948) d_La_law_948 (by decide) (fun _ => ?_) (fun z => absurd z (by decide))
        refine mp_goto 1032 (pc := 953) d_La_law_953 (by decide) ?_
        refine mm_VP_drop 5 ?_
        refine mm_VP_drop 6 ?_
        refine mm_VP_ls (ls' := [some (.ref 0), some (.ref 1), some (.ref 52), some (.ref 71), some (.int (nI i)), none, none]) rfl (hk _ ?_)
        exact LI.of (h1 := (mm_sl h 71 0 (sv.getD j1 0).toInt64)) hT hM hO hC f2 s2 hW hE hbs hbl (by show mm_c h ≤ _; omega) (by show mm_s h ≤ _; omega)
  · refine mp_iconst (v := 1) (pc := 888) d_La_law_888 (by decide) ?_
    refine mp_goto 893 (pc := 889) d_La_law_889 (by decide) ?_
    refine mp_aload_n (pc := 893) d_La_law_893 rfl ?_
    refine mrp_callS4 (pc := 894) d_La_law_894 (d2 := (7, 113)) ok_La_at li_La_137 sv_La_at ⟨by decide, rfl, rfl, rfl, rfl, Nat.le_of_ble_eq_true rfl, rfl, by decide, by decide⟩ ?_
    refine c_La_at (o := 71) hT.1 (c_at hG hr hT hC (fun b1 z1 => ⟨by decide, ?_⟩) (fun b1 z1 => ⟨by decide, ?_⟩) (fun j1 b1 h1 e1 => ⟨hO, ?_⟩) (fun j1 b1 h1 e1 => ⟨hO, ?_⟩))
    · refine mp_istore (pc := 897) d_La_law_897 (by decide) ?_
      refine mp_aload_n (pc := 899) d_La_law_899 rfl ?_
      refine mp_aload_n (pc := 900) d_La_law_900 rfl ?_
      refine mp_iload (pc := 901) d_La_law_901 rfl ?_
      refine mp_iconst (v := 1) (pc := 903) d_La_law_903 (by decide) ?_
      refine mp_iadd (pc := 904) d_La_law_904 ?_
      rw [show nI i + 1 = nI (i + 1) from nI_add i 1]
      refine mp_sld hP (pc := 905) d_La_law_905 (mm_inN (n := i + 1) (by omega) (by omega)) ?_
      rw [mm_cl (n := i + 1) (by omega)]
      refine mp_aload_n (pc := 906) d_La_law_906 rfl ?_
      refine mp_iload (pc := 907) d_La_law_907 rfl ?_
      refine mp_iconst (v := 2) (pc := 909) d_La_law_909 (by decide) ?_
      refine mp_iadd (pc := 910) d_La_law_910 ?_
      rw [show nI i + 2 = nI (i + 2) from nI_add i 2]
      refine mp_sld hP (pc := 911) d_La_law_911 (mm_inN (n := i + 2) (by omega) (by omega)) ?_
      rw [mm_cl (n := i + 2) (by omega)]
      refine mp_if_eq 919 (pc := 912) d_La_law_912 (by decide) (fun z => absurd z (h885)) (fun h912 => ?_)
      refine mp_iconst (v := 1) (pc := 915) d_La_law_915 (by decide) ?_
      refine mp_goto 920 (pc := 916) d_La_law_916 (by decide) ?_
      refine mrp_callV2 (pc := 920) d_La_law_920 (d2 := (0, 0)) ok_Mo_at li_La_140 sv_Mo_at hM.1 ⟨by decide, rfl⟩ ⟨by decide, rfl, rfl, Nat.le_of_ble_eq_true rfl, rfl, by decide, by decide⟩ ?_
      refine c_mat (h := (mm_exc h)) hM hS (fun F2 b2 z2 s2 k2 f2 => ?_) (fun F2 b2 z2 s2 k2 f2 => ?_) (fun F2 j2 b2 h2 e2 s2 k2 f2 => ?_) (fun F2 j2 b2 h2 e2 s2 k2 f2 => ?_)
      · refine mp_istore (pc := 923) d_La_law_923 (by decide) ?_
        refine mp_aload_n (pc := 925) d_La_law_925 rfl ?_
        refine mrp_callV0 (pc := 926) d_La_law_926 (d2 := (0, 0)) ok_Mo_thrown li_La_77 sv_Mo_thrown hM.1 ⟨by decide, rfl⟩ ⟨by decide, Nat.le_of_ble_eq_true rfl, rfl, by decide, by decide⟩ ?_
        refine c_thrown (h := mm_wi (mm_exc h) F2) hM ?_
        rw [show mm_gi (mm_wi (mm_exc h) F2) 52 0 = 1 from k2]
        refine mp_iload (pc := 929) d_La_law_929 rfl ?_
        refine mp_ic_eq 936 (pc := 931) d_La_law_931 (by decide) (fun _ => ?_) (fun z => absurd z (by decide))
        refine mp_iload (pc := 936) d_La_law_936 rfl ?_
        refine mp_if_ne 953 (pc := 938) d_La_law_938 (by decide) (fun _ => ?_) (fun z => absurd z (by decide))
        refine mp_goto 1032 (pc := 953) d_La_law_953 (by decide) ?_
        refine mm_VP_drop 5 ?_
        refine mm_VP_drop 6 ?_
        refine mm_VP_ls (ls' := [some (.ref 0), some (.ref 1), some (.ref 52), some (.ref 71), some (.int (nI i)), none, none]) rfl (hk _ ?_)
        exact LI.of (h1 := (mm_exc h)) hT hM hO hC f2 s2 hW hE hbs hbl (by show mm_c h + 1 ≤ _; omega) (by show mm_s h + 6 ≤ _; omega)
      · exact absurd b2 (by decide)
      · exact absurd e2 (z1 j2 h2)
      · exact absurd b2 (by decide)
    · exact absurd b1 (by decide)
    · refine mp_istore (pc := 897) d_La_law_897 (by decide) ?_
      refine mp_aload_n (pc := 899) d_La_law_899 rfl ?_
      refine mp_aload_n (pc := 900) d_La_law_900 rfl ?_
      refine mp_iload (pc := 901) d_La_law_901 rfl ?_
      refine mp_iconst (v := 1) (pc := 903) d_La_law_903 (by decide) ?_
      refine mp_iadd (pc := 904) d_La_law_904 ?_
      rw [show nI i + 1 = nI (i + 1) from nI_add i 1]
      refine mp_sld hP (pc := 905) d_La_law_905 (mm_inN (n := i + 1) (by omega) (by omega)) ?_
      rw [mm_cl (n := i + 1) (by omega)]
      refine mp_aload_n (pc := 906) d_La_law_906 rfl ?_
      refine mp_iload (pc := 907) d_La_law_907 rfl ?_
      refine mp_iconst (v := 2) (pc := 909) d_La_law_909 (by decide) ?_
      refine mp_iadd (pc := 910) d_La_law_910 ?_
      rw [show nI i + 2 = nI (i + 2) from nI_add i 2]
      refine mp_sld hP (pc := 911) d_La_law_911 (mm_inN (n := i + 2) (by omega) (by omega)) ?_
      rw [mm_cl (n := i + 2) (by omega)]
      refine mp_if_eq 919 (pc := 912) d_La_law_912 (by decide) (fun z => absurd z (h885)) (fun h912 => ?_)
      refine mp_iconst (v := 1) (pc := 915) d_La_law_915 (by decide) ?_
      refine mp_goto 920 (pc := 916) d_La_law_916 (by decide) ?_
      refine mrp_callV2 (pc := 920) d_La_law_920 (d2 := (0, 0)) ok_Mo_at li_La_140 sv_Mo_at hM.1 ⟨by decide, rfl⟩ ⟨by decide, rfl, rfl, Nat.le_of_ble_eq_true rfl, rfl, by decide, by decide⟩ ?_
      refine c_mat (h := (mm_sl h 71 0 (lg.getD j1 0).toInt64)) hM hS (fun F2 b2 z2 s2 k2 f2 => ?_) (fun F2 b2 z2 s2 k2 f2 => ?_) (fun F2 j2 b2 h2 e2 s2 k2 f2 => ?_) (fun F2 j2 b2 h2 e2 s2 k2 f2 => ?_)
      · exact absurd e1 (z2 j1 h1)
      · exact absurd b2 (by decide)
      · have jj : j1 = j2 := (nI_eq (by have := hC.2.2.2.2.2; have := hC.2.2.2.2.1; omega) (by have := hC.2.2.2.2.2; have := hC.2.2.2.2.1; omega)).mp (e1.symm.trans e2)
        subst jj
        refine mp_istore (pc := 923) d_La_law_923 (by decide) ?_
        refine mp_aload_n (pc := 925) d_La_law_925 rfl ?_
        refine mrp_callV0 (pc := 926) d_La_law_926 (d2 := (0, 0)) ok_Mo_thrown li_La_77 sv_Mo_thrown hM.1 ⟨by decide, rfl⟩ ⟨by decide, Nat.le_of_ble_eq_true rfl, rfl, by decide, by decide⟩ ?_
        refine c_thrown (h := mm_wi (mm_sl h 71 0 (lg.getD j1 0).toInt64) F2) hM ?_
        rw [show mm_gi (mm_wi (mm_sl h 71 0 (lg.getD j1 0).toInt64) F2) 52 0 = 0 from k2]
        refine mp_iload (pc := 929) d_La_law_929 rfl ?_
        refine mp_ic_eq 936 (pc := 931) d_La_law_931 (by decide) (fun _ => ?_) (fun z => absurd z (by decide))
        refine mp_iload (pc := 936) d_La_law_936 rfl ?_
        refine mp_if_ne 953 (pc := 938) d_La_law_938 (by decide) (fun z => absurd z (by decide)) (fun _ => ?_)
        refine mp_aload_n (pc := 941) d_La_law_941 rfl ?_
        refine mp_iconst (v := 0) (pc := 942) d_La_law_942 (by decide) ?_
        refine mrp_lald (pc := 943) d_La_law_943 hO mm_in01 ?_
        rw [show mm_gl (mm_wi (mm_sl h 71 0 (lg.getD j1 0).toInt64) F2) 71 (0 : Int32).toNatClampNeg = (lg.getD j1 0).toInt64 from rfl]
        refine mp_iload (pc := 944) d_La_law_944 rfl ?_
        refine mp_i2l (pc := 946) d_La_law_946 ?_
        refine mp_lcmp (pc := 947) d_La_law_947 ?_
        rw [mm_cmp0]
        refine mp_if_eq 953 (pc := 948) d_La_law_948 (by decide) (fun _ => ?_) (fun z => absurd z (by decide))
        refine mp_goto 1032 (pc := 953) d_La_law_953 (by decide) ?_
        refine mm_VP_drop 5 ?_
        refine mm_VP_drop 6 ?_
        refine mm_VP_ls (ls' := [some (.ref 0), some (.ref 1), some (.ref 52), some (.ref 71), some (.int (nI i)), none, none]) rfl (hk _ ?_)
        exact LI.of (h1 := (mm_sl h 71 0 (lg.getD j1 0).toInt64)) hT hM hO hC f2 s2 hW hE hbs hbl (by show mm_c h ≤ _; omega) (by show mm_s h ≤ _; omega)
      · exact absurd b2 (by decide)
    · exact absurd b1 (by decide)
set_option maxRecDepth 20000 in
theorem k_corrupt {P : State → Prop} {G : mm_G} {Q : mm_O → mm_H → Prop} {h : mm_H} {L : Nat} {xs : Nat → Int32} {w w2 t i : Nat} {A : mm_W} {E : mm_E} {sv lg : List Int32} (hP : ∀ s, P s → va_X (mm_sc G) L xs s s.heap) (hG : G.1.stackTraces = false) (hL : L ≤ 2048) (hi : i + 4 ≤ L) (ht : t ≤ 512) (hBC : 600 ≤ mm_BC G) (hBS : 9000 ≤ mm_BS G) (hT : mm_Ta h w w2) (hM : mm_Mo h) (hO : mm_at h 71 103 1) (hC : CS (mm_gi h) w A E sv lg) (hS : MS (mm_gi h) A E sv lg) (hW : WF A) (hE : a_okE E) (hbs : a_byt sv) (hbl : a_byt lg) (hcc : mm_c h ≤ 71 + t) (hss : mm_s h ≤ 5300 + 6 * t) (hk : ∀ h', LI (t + 1) h' → mm_VP P G (9, 178) M_La_law Q 1032 [some (.ref 0), some (.ref 1), some (.ref 52), some (.ref 71), some (.int (nI i)), none, none] [] h') : mm_VP P G (9, 178) M_La_law Q 956 [some (.ref 0), some (.ref 1), some (.ref 52), some (.ref 71), some (.int (nI i)), none, none] [] h := by
  have hr : mm_rm G h := ⟨by omega, by omega⟩
  refine mp_aload_n (pc := 956) d_La_law_956 rfl ?_
  refine mp_aload_n (pc := 957) d_La_law_957 rfl ?_
  refine mp_iload (pc := 958) d_La_law_958 rfl ?_
  refine mp_iconst (v := 1) (pc := 960) d_La_law_960 (by decide) ?_
  refine mp_iadd (pc := 961) d_La_law_961 ?_
  rw [show nI i + 1 = nI (i + 1) from nI_add i 1]
  refine mp_sld hP (pc := 962) d_La_law_962 (mm_inN (n := i + 1) (by omega) (by omega)) ?_
  rw [mm_cl (n := i + 1) (by omega)]
  refine mp_aload_n (pc := 963) d_La_law_963 rfl ?_
  refine mp_iload (pc := 964) d_La_law_964 rfl ?_
  refine mp_iconst (v := 2) (pc := 966) d_La_law_966 (by decide) ?_
  refine mp_iadd (pc := 967) d_La_law_967 ?_
  rw [show nI i + 2 = nI (i + 2) from nI_add i 2]
  refine mp_sld hP (pc := 968) d_La_law_968 (mm_inN (n := i + 2) (by omega) (by omega)) ?_
  rw [mm_cl (n := i + 2) (by omega)]
  refine mp_aload_n (pc := 969) d_La_law_969 rfl ?_
  refine mp_iload (pc := 970) d_La_law_970 rfl ?_
  refine mp_iconst (v := 3) (pc := 972) d_La_law_972 (by decide) ?_
  refine mp_iadd (pc := 973) d_La_law_973 ?_
  rw [show nI i + 3 = nI (i + 3) from nI_add i 3]
  refine mp_sld hP (pc := 974) d_La_law_974 (mm_inN (n := i + 3) (by omega) (by omega)) ?_
  rw [mm_cl (n := i + 3) (by omega)]
  refine mp_if_eq 982 (pc := 975) d_La_law_975 (by decide) (fun h975 => ?_) (fun h975 => ?_)
  · refine mp_iconst (v := 0) (pc := 982) d_La_law_982 (by decide) ?_
    refine mrp_callS4 (pc := 983) d_La_law_983 (d2 := (7, 114)) ok_La_corrupt li_La_141 sv_La_corrupt ⟨by decide, rfl, rfl, rfl, rfl, Nat.le_of_ble_eq_true rfl, rfl, by decide, by decide⟩ ?_
    refine c_La_corrupt hT.1 (c_corrupt hG hr hT hC (fun b1 z1 => ⟨by decide, ?_⟩) (fun b1 z1 => ⟨by decide, ?_⟩) (fun j1 b1 h1 e1 v1 => ⟨by decide, ?_⟩) (fun j1 b1 h1 e1 v1 => ⟨by decide, ?_⟩) (fun j1 F1 b1 h1 e1 v1 c1 f1 => ?_) (fun j1 F1 b1 h1 e1 v1 c1 f1 => ?_))
    · exact absurd rfl b1
    · refine mp_istore (pc := 986) d_La_law_986 (by decide) ?_
      refine mp_aload_n (pc := 988) d_La_law_988 rfl ?_
      refine mp_aload_n (pc := 989) d_La_law_989 rfl ?_
      refine mp_iload (pc := 990) d_La_law_990 rfl ?_
      refine mp_iconst (v := 1) (pc := 992) d_La_law_992 (by decide) ?_
      refine mp_iadd (pc := 993) d_La_law_993 ?_
      rw [show nI i + 1 = nI (i + 1) from nI_add i 1]
      refine mp_sld hP (pc := 994) d_La_law_994 (mm_inN (n := i + 1) (by omega) (by omega)) ?_
      rw [mm_cl (n := i + 1) (by omega)]
      refine mp_aload_n (pc := 995) d_La_law_995 rfl ?_
      refine mp_iload (pc := 996) d_La_law_996 rfl ?_
      refine mp_iconst (v := 2) (pc := 998) d_La_law_998 (by decide) ?_
      refine mp_iadd (pc := 999) d_La_law_999 ?_
      rw [show nI i + 2 = nI (i + 2) from nI_add i 2]
      refine mp_sld hP (pc := 1000) d_La_law_1000 (mm_inN (n := i + 2) (by omega) (by omega)) ?_
      rw [mm_cl (n := i + 2) (by omega)]
      refine mp_aload_n (pc := 1001) d_La_law_1001 rfl ?_
      refine mp_iload (pc := 1002) d_La_law_1002 rfl ?_
      refine mp_iconst (v := 3) (pc := 1004) d_La_law_1004 (by decide) ?_
      refine mp_iadd (pc := 1005) d_La_law_1005 ?_
      rw [show nI i + 3 = nI (i + 3) from nI_add i 3]
      refine mp_sld hP (pc := 1006) d_La_law_1006 (mm_inN (n := i + 3) (by omega) (by omega)) ?_
      rw [mm_cl (n := i + 3) (by omega)]
      refine mp_if_eq 1014 (pc := 1007) d_La_law_1007 (by decide) (fun h1007 => ?_) (fun z => absurd z (fun q => q h975))
      refine mp_iconst (v := 0) (pc := 1014) d_La_law_1014 (by decide) ?_
      refine mrp_callV3 (pc := 1015) d_La_law_1015 (d2 := (0, 0)) ok_Mo_corrupt li_La_144 sv_Mo_corrupt hM.1 ⟨by decide, rfl⟩ ⟨by decide, rfl, rfl, rfl, Nat.le_of_ble_eq_true rfl, rfl, by decide, by decide⟩ ?_
      refine c_mcorrupt (h := (mm_exc h)) hM hS (fun F2 b2 z2 s2 k2 f2 => ?_) (fun F2 b2 z2 s2 k2 f2 => ?_) (fun F2 j2 b2 h2 e2 v2 s2 k2 f2 => ?_) (fun F2 j2 b2 h2 e2 v2 s2 k2 f2 => ?_) (fun F2 j2 b2 h2 e2 v2 s2 k2 f2 => ?_) (fun F2 j2 b2 h2 e2 v2 s2 k2 f2 => ?_)
      · exact absurd rfl b2
      · refine mp_aload_n (pc := 1018) d_La_law_1018 rfl ?_
        refine mrp_callV0 (pc := 1019) d_La_law_1019 (d2 := (0, 0)) ok_Mo_thrown li_La_77 sv_Mo_thrown hM.1 ⟨by decide, rfl⟩ ⟨by decide, Nat.le_of_ble_eq_true rfl, rfl, by decide, by decide⟩ ?_
        refine c_thrown (h := mm_wi (mm_exc h) F2) hM ?_
        rw [show mm_gi (mm_wi (mm_exc h) F2) 52 0 = 1 from k2]
        refine mp_iload (pc := 1022) d_La_law_1022 rfl ?_
        refine mp_ic_eq 1029 (pc := 1024) d_La_law_1024 (by decide) (fun _ => ?_) (fun z => absurd z (by decide))
        refine mp_goto 1032 (pc := 1029) d_La_law_1029 (by decide) ?_
        refine mm_VP_drop 5 ?_
        refine mm_VP_ls (ls' := [some (.ref 0), some (.ref 1), some (.ref 52), some (.ref 71), some (.int (nI i)), none, none]) rfl (hk _ ?_)
        exact LI.of (h1 := (mm_exc h)) hT hM hO hC f2 s2 hW hE hbs hbl (by show mm_c h + 1 ≤ _; omega) (by show mm_s h + 6 ≤ _; omega)
      · exact absurd rfl b2
      · exact absurd e2 (z1 j2 h2)
      · exact absurd rfl b2
      · exact absurd e2 (z1 j2 h2)
    · exact absurd rfl b1
    · refine mp_istore (pc := 986) d_La_law_986 (by decide) ?_
      refine mp_aload_n (pc := 988) d_La_law_988 rfl ?_
      refine mp_aload_n (pc := 989) d_La_law_989 rfl ?_
      refine mp_iload (pc := 990) d_La_law_990 rfl ?_
      refine mp_iconst (v := 1) (pc := 992) d_La_law_992 (by decide) ?_
      refine mp_iadd (pc := 993) d_La_law_993 ?_
      rw [show nI i + 1 = nI (i + 1) from nI_add i 1]
      refine mp_sld hP (pc := 994) d_La_law_994 (mm_inN (n := i + 1) (by omega) (by omega)) ?_
      rw [mm_cl (n := i + 1) (by omega)]
      refine mp_aload_n (pc := 995) d_La_law_995 rfl ?_
      refine mp_iload (pc := 996) d_La_law_996 rfl ?_
      refine mp_iconst (v := 2) (pc := 998) d_La_law_998 (by decide) ?_
      refine mp_iadd (pc := 999) d_La_law_999 ?_
      rw [show nI i + 2 = nI (i + 2) from nI_add i 2]
      refine mp_sld hP (pc := 1000) d_La_law_1000 (mm_inN (n := i + 2) (by omega) (by omega)) ?_
      rw [mm_cl (n := i + 2) (by omega)]
      refine mp_aload_n (pc := 1001) d_La_law_1001 rfl ?_
      refine mp_iload (pc := 1002) d_La_law_1002 rfl ?_
      refine mp_iconst (v := 3) (pc := 1004) d_La_law_1004 (by decide) ?_
      refine mp_iadd (pc := 1005) d_La_law_1005 ?_
      rw [show nI i + 3 = nI (i + 3) from nI_add i 3]
      refine mp_sld hP (pc := 1006) d_La_law_1006 (mm_inN (n := i + 3) (by omega) (by omega)) ?_
      rw [mm_cl (n := i + 3) (by omega)]
      refine mp_if_eq 1014 (pc := 1007) d_La_law_1007 (by decide) (fun h1007 => ?_) (fun z => absurd z (fun q => q h975))
      refine mp_iconst (v := 0) (pc := 1014) d_La_law_1014 (by decide) ?_
      refine mrp_callV3 (pc := 1015) d_La_law_1015 (d2 := (0, 0)) ok_Mo_corrupt li_La_144 sv_Mo_corrupt hM.1 ⟨by decide, rfl⟩ ⟨by decide, rfl, rfl, rfl, Nat.le_of_ble_eq_true rfl, rfl, by decide, by decide⟩ ?_
      refine c_mcorrupt (h := (mm_exc h)) hM hS (fun F2 b2 z2 s2 k2 f2 => ?_) (fun F2 b2 z2 s2 k2 f2 => ?_) (fun F2 j2 b2 h2 e2 v2 s2 k2 f2 => ?_) (fun F2 j2 b2 h2 e2 v2 s2 k2 f2 => ?_) (fun F2 j2 b2 h2 e2 v2 s2 k2 f2 => ?_) (fun F2 j2 b2 h2 e2 v2 s2 k2 f2 => ?_)
      · exact absurd rfl b2
      · exact absurd e1 (z2 j1 h1)
      · exact absurd rfl b2
      · refine mp_aload_n (pc := 1018) d_La_law_1018 rfl ?_
        refine mrp_callV0 (pc := 1019) d_La_law_1019 (d2 := (0, 0)) ok_Mo_thrown li_La_77 sv_Mo_thrown hM.1 ⟨by decide, rfl⟩ ⟨by decide, Nat.le_of_ble_eq_true rfl, rfl, by decide, by decide⟩ ?_
        refine c_thrown (h := mm_wi (mm_exc h) F2) hM ?_
        rw [show mm_gi (mm_wi (mm_exc h) F2) 52 0 = 2 from k2]
        refine mp_iload (pc := 1022) d_La_law_1022 rfl ?_
        refine mp_ic_eq 1029 (pc := 1024) d_La_law_1024 (by decide) (fun _ => ?_) (fun z => absurd z (by decide))
        refine mp_goto 1032 (pc := 1029) d_La_law_1029 (by decide) ?_
        refine mm_VP_drop 5 ?_
        refine mm_VP_ls (ls' := [some (.ref 0), some (.ref 1), some (.ref 52), some (.ref 71), some (.int (nI i)), none, none]) rfl (hk _ ?_)
        exact LI.of (h1 := (mm_exc h)) hT hM hO hC f2 s2 hW hE hbs hbl (by show mm_c h + 1 ≤ _; omega) (by show mm_s h + 6 ≤ _; omega)
      · exact absurd rfl b2
      · exact absurd v2 v1
    · exact absurd rfl b1
    · refine mp_istore (pc := 986) d_La_law_986 (by decide) ?_
      refine mp_aload_n (pc := 988) d_La_law_988 rfl ?_
      refine mp_aload_n (pc := 989) d_La_law_989 rfl ?_
      refine mp_iload (pc := 990) d_La_law_990 rfl ?_
      refine mp_iconst (v := 1) (pc := 992) d_La_law_992 (by decide) ?_
      refine mp_iadd (pc := 993) d_La_law_993 ?_
      rw [show nI i + 1 = nI (i + 1) from nI_add i 1]
      refine mp_sld hP (pc := 994) d_La_law_994 (mm_inN (n := i + 1) (by omega) (by omega)) ?_
      rw [mm_cl (n := i + 1) (by omega)]
      refine mp_aload_n (pc := 995) d_La_law_995 rfl ?_
      refine mp_iload (pc := 996) d_La_law_996 rfl ?_
      refine mp_iconst (v := 2) (pc := 998) d_La_law_998 (by decide) ?_
      refine mp_iadd (pc := 999) d_La_law_999 ?_
      rw [show nI i + 2 = nI (i + 2) from nI_add i 2]
      refine mp_sld hP (pc := 1000) d_La_law_1000 (mm_inN (n := i + 2) (by omega) (by omega)) ?_
      rw [mm_cl (n := i + 2) (by omega)]
      refine mp_aload_n (pc := 1001) d_La_law_1001 rfl ?_
      refine mp_iload (pc := 1002) d_La_law_1002 rfl ?_
      refine mp_iconst (v := 3) (pc := 1004) d_La_law_1004 (by decide) ?_
      refine mp_iadd (pc := 1005) d_La_law_1005 ?_
      rw [show nI i + 3 = nI (i + 3) from nI_add i 3]
      refine mp_sld hP (pc := 1006) d_La_law_1006 (mm_inN (n := i + 3) (by omega) (by omega)) ?_
      rw [mm_cl (n := i + 3) (by omega)]
      refine mp_if_eq 1014 (pc := 1007) d_La_law_1007 (by decide) (fun h1007 => ?_) (fun z => absurd z (fun q => q h975))
      refine mp_iconst (v := 0) (pc := 1014) d_La_law_1014 (by decide) ?_
      refine mrp_callV3 (pc := 1015) d_La_law_1015 (d2 := (0, 0)) ok_Mo_corrupt li_La_144 sv_Mo_corrupt hM.1 ⟨by decide, rfl⟩ ⟨by decide, rfl, rfl, rfl, Nat.le_of_ble_eq_true rfl, rfl, by decide, by decide⟩ ?_
      refine c_mcorrupt (h := (mm_wi h F1)) hM (hS.cfr f1) (fun F2 b2 z2 s2 k2 f2 => ?_) (fun F2 b2 z2 s2 k2 f2 => ?_) (fun F2 j2 b2 h2 e2 v2 s2 k2 f2 => ?_) (fun F2 j2 b2 h2 e2 v2 s2 k2 f2 => ?_) (fun F2 j2 b2 h2 e2 v2 s2 k2 f2 => ?_) (fun F2 j2 b2 h2 e2 v2 s2 k2 f2 => ?_)
      · exact absurd rfl b2
      · exact absurd e1 (z2 j1 h1)
      · exact absurd rfl b2
      · exact absurd v1 v2
      · exact absurd rfl b2
      · have jj : j1 = j2 := (nI_eq (by have := hC.2.2.2.2.2; have := hC.2.2.2.2.1; omega) (by have := hC.2.2.2.2.2; have := hC.2.2.2.2.1; omega)).mp (e1.symm.trans e2)
        subst jj
        refine mp_aload_n (pc := 1018) d_La_law_1018 rfl ?_
        refine mrp_callV0 (pc := 1019) d_La_law_1019 (d2 := (0, 0)) ok_Mo_thrown li_La_77 sv_Mo_thrown hM.1 ⟨by decide, rfl⟩ ⟨by decide, Nat.le_of_ble_eq_true rfl, rfl, by decide, by decide⟩ ?_
        refine c_thrown (h := mm_wi (mm_wi h F1) F2) hM ?_
        rw [show mm_gi (mm_wi (mm_wi h F1) F2) 52 0 = 0 from k2]
        refine mp_iload (pc := 1022) d_La_law_1022 rfl ?_
        refine mp_ic_eq 1029 (pc := 1024) d_La_law_1024 (by decide) (fun _ => ?_) (fun z => absurd z (by decide))
        refine mp_goto 1032 (pc := 1029) d_La_law_1029 (by decide) ?_
        refine mm_VP_drop 5 ?_
        refine mm_VP_ls (ls' := [some (.ref 0), some (.ref 1), some (.ref 52), some (.ref 71), some (.int (nI i)), none, none]) rfl (hk _ ?_)
        exact LI.of (h1 := (mm_wi h F1)) hT hM hO c1 f2 s2 hW hE (hbs.set j1 v1) hbl (by show mm_c h ≤ _; omega) (by show mm_s h ≤ _; omega)
  · refine mp_iconst (v := 1) (pc := 978) d_La_law_978 (by decide) ?_
    refine mp_goto 983 (pc := 979) d_La_law_979 (by decide) ?_
    refine mrp_callS4 (pc := 983) d_La_law_983 (d2 := (7, 114)) ok_La_corrupt li_La_141 sv_La_corrupt ⟨by decide, rfl, rfl, rfl, rfl, Nat.le_of_ble_eq_true rfl, rfl, by decide, by decide⟩ ?_
    refine c_La_corrupt hT.1 (c_corrupt hG hr hT hC (fun b1 z1 => ⟨by decide, ?_⟩) (fun b1 z1 => ⟨by decide, ?_⟩) (fun j1 b1 h1 e1 v1 => ⟨by decide, ?_⟩) (fun j1 b1 h1 e1 v1 => ⟨by decide, ?_⟩) (fun j1 F1 b1 h1 e1 v1 c1 f1 => ?_) (fun j1 F1 b1 h1 e1 v1 c1 f1 => ?_))
    · refine mp_istore (pc := 986) d_La_law_986 (by decide) ?_
      refine mp_aload_n (pc := 988) d_La_law_988 rfl ?_
      refine mp_aload_n (pc := 989) d_La_law_989 rfl ?_
      refine mp_iload (pc := 990) d_La_law_990 rfl ?_
      refine mp_iconst (v := 1) (pc := 992) d_La_law_992 (by decide) ?_
      refine mp_iadd (pc := 993) d_La_law_993 ?_
      rw [show nI i + 1 = nI (i + 1) from nI_add i 1]
      refine mp_sld hP (pc := 994) d_La_law_994 (mm_inN (n := i + 1) (by omega) (by omega)) ?_
      rw [mm_cl (n := i + 1) (by omega)]
      refine mp_aload_n (pc := 995) d_La_law_995 rfl ?_
      refine mp_iload (pc := 996) d_La_law_996 rfl ?_
      refine mp_iconst (v := 2) (pc := 998) d_La_law_998 (by decide) ?_
      refine mp_iadd (pc := 999) d_La_law_999 ?_
      rw [show nI i + 2 = nI (i + 2) from nI_add i 2]
      refine mp_sld hP (pc := 1000) d_La_law_1000 (mm_inN (n := i + 2) (by omega) (by omega)) ?_
      rw [mm_cl (n := i + 2) (by omega)]
      refine mp_aload_n (pc := 1001) d_La_law_1001 rfl ?_
      refine mp_iload (pc := 1002) d_La_law_1002 rfl ?_
      refine mp_iconst (v := 3) (pc := 1004) d_La_law_1004 (by decide) ?_
      refine mp_iadd (pc := 1005) d_La_law_1005 ?_
      rw [show nI i + 3 = nI (i + 3) from nI_add i 3]
      refine mp_sld hP (pc := 1006) d_La_law_1006 (mm_inN (n := i + 3) (by omega) (by omega)) ?_
      rw [mm_cl (n := i + 3) (by omega)]
      refine mp_if_eq 1014 (pc := 1007) d_La_law_1007 (by decide) (fun z => absurd z (h975)) (fun h1007 => ?_)
      refine mp_iconst (v := 1) (pc := 1010) d_La_law_1010 (by decide) ?_
      refine mp_goto 1015 (pc := 1011) d_La_law_1011 (by decide) ?_
      refine mrp_callV3 (pc := 1015) d_La_law_1015 (d2 := (0, 0)) ok_Mo_corrupt li_La_144 sv_Mo_corrupt hM.1 ⟨by decide, rfl⟩ ⟨by decide, rfl, rfl, rfl, Nat.le_of_ble_eq_true rfl, rfl, by decide, by decide⟩ ?_
      refine c_mcorrupt (h := (mm_exc h)) hM hS (fun F2 b2 z2 s2 k2 f2 => ?_) (fun F2 b2 z2 s2 k2 f2 => ?_) (fun F2 j2 b2 h2 e2 v2 s2 k2 f2 => ?_) (fun F2 j2 b2 h2 e2 v2 s2 k2 f2 => ?_) (fun F2 j2 b2 h2 e2 v2 s2 k2 f2 => ?_) (fun F2 j2 b2 h2 e2 v2 s2 k2 f2 => ?_)
      · refine mp_aload_n (pc := 1018) d_La_law_1018 rfl ?_
        refine mrp_callV0 (pc := 1019) d_La_law_1019 (d2 := (0, 0)) ok_Mo_thrown li_La_77 sv_Mo_thrown hM.1 ⟨by decide, rfl⟩ ⟨by decide, Nat.le_of_ble_eq_true rfl, rfl, by decide, by decide⟩ ?_
        refine c_thrown (h := mm_wi (mm_exc h) F2) hM ?_
        rw [show mm_gi (mm_wi (mm_exc h) F2) 52 0 = 1 from k2]
        refine mp_iload (pc := 1022) d_La_law_1022 rfl ?_
        refine mp_ic_eq 1029 (pc := 1024) d_La_law_1024 (by decide) (fun _ => ?_) (fun z => absurd z (by decide))
        refine mp_goto 1032 (pc := 1029) d_La_law_1029 (by decide) ?_
        refine mm_VP_drop 5 ?_
        refine mm_VP_ls (ls' := [some (.ref 0), some (.ref 1), some (.ref 52), some (.ref 71), some (.int (nI i)), none, none]) rfl (hk _ ?_)
        exact LI.of (h1 := (mm_exc h)) hT hM hO hC f2 s2 hW hE hbs hbl (by show mm_c h + 1 ≤ _; omega) (by show mm_s h + 6 ≤ _; omega)
      · exact absurd b2 (by decide)
      · exact absurd e2 (z1 j2 h2)
      · exact absurd b2 (by decide)
      · exact absurd e2 (z1 j2 h2)
      · exact absurd b2 (by decide)
    · exact absurd b1 (by decide)
    · refine mp_istore (pc := 986) d_La_law_986 (by decide) ?_
      refine mp_aload_n (pc := 988) d_La_law_988 rfl ?_
      refine mp_aload_n (pc := 989) d_La_law_989 rfl ?_
      refine mp_iload (pc := 990) d_La_law_990 rfl ?_
      refine mp_iconst (v := 1) (pc := 992) d_La_law_992 (by decide) ?_
      refine mp_iadd (pc := 993) d_La_law_993 ?_
      rw [show nI i + 1 = nI (i + 1) from nI_add i 1]
      refine mp_sld hP (pc := 994) d_La_law_994 (mm_inN (n := i + 1) (by omega) (by omega)) ?_
      rw [mm_cl (n := i + 1) (by omega)]
      refine mp_aload_n (pc := 995) d_La_law_995 rfl ?_
      refine mp_iload (pc := 996) d_La_law_996 rfl ?_
      refine mp_iconst (v := 2) (pc := 998) d_La_law_998 (by decide) ?_
      refine mp_iadd (pc := 999) d_La_law_999 ?_
      rw [show nI i + 2 = nI (i + 2) from nI_add i 2]
      refine mp_sld hP (pc := 1000) d_La_law_1000 (mm_inN (n := i + 2) (by omega) (by omega)) ?_
      rw [mm_cl (n := i + 2) (by omega)]
      refine mp_aload_n (pc := 1001) d_La_law_1001 rfl ?_
      refine mp_iload (pc := 1002) d_La_law_1002 rfl ?_
      refine mp_iconst (v := 3) (pc := 1004) d_La_law_1004 (by decide) ?_
      refine mp_iadd (pc := 1005) d_La_law_1005 ?_
      rw [show nI i + 3 = nI (i + 3) from nI_add i 3]
      refine mp_sld hP (pc := 1006) d_La_law_1006 (mm_inN (n := i + 3) (by omega) (by omega)) ?_
      rw [mm_cl (n := i + 3) (by omega)]
      refine mp_if_eq 1014 (pc := 1007) d_La_law_1007 (by decide) (fun z => absurd z (h975)) (fun h1007 => ?_)
      refine mp_iconst (v := 1) (pc := 1010) d_La_law_1010 (by decide) ?_
      refine mp_goto 1015 (pc := 1011) d_La_law_1011 (by decide) ?_
      refine mrp_callV3 (pc := 1015) d_La_law_1015 (d2 := (0, 0)) ok_Mo_corrupt li_La_144 sv_Mo_corrupt hM.1 ⟨by decide, rfl⟩ ⟨by decide, rfl, rfl, rfl, Nat.le_of_ble_eq_true rfl, rfl, by decide, by decide⟩ ?_
      refine c_mcorrupt (h := (mm_exc h)) hM hS (fun F2 b2 z2 s2 k2 f2 => ?_) (fun F2 b2 z2 s2 k2 f2 => ?_) (fun F2 j2 b2 h2 e2 v2 s2 k2 f2 => ?_) (fun F2 j2 b2 h2 e2 v2 s2 k2 f2 => ?_) (fun F2 j2 b2 h2 e2 v2 s2 k2 f2 => ?_) (fun F2 j2 b2 h2 e2 v2 s2 k2 f2 => ?_)
      · exact absurd e1 (z2 j1 h1)
      · exact absurd b2 (by decide)
      · refine mp_aload_n (pc := 1018) d_La_law_1018 rfl ?_
        refine mrp_callV0 (pc := 1019) d_La_law_1019 (d2 := (0, 0)) ok_Mo_thrown li_La_77 sv_Mo_thrown hM.1 ⟨by decide, rfl⟩ ⟨by decide, Nat.le_of_ble_eq_true rfl, rfl, by decide, by decide⟩ ?_
        refine c_thrown (h := mm_wi (mm_exc h) F2) hM ?_
        rw [show mm_gi (mm_wi (mm_exc h) F2) 52 0 = 2 from k2]
        refine mp_iload (pc := 1022) d_La_law_1022 rfl ?_
        refine mp_ic_eq 1029 (pc := 1024) d_La_law_1024 (by decide) (fun _ => ?_) (fun z => absurd z (by decide))
        refine mp_goto 1032 (pc := 1029) d_La_law_1029 (by decide) ?_
        refine mm_VP_drop 5 ?_
        refine mm_VP_ls (ls' := [some (.ref 0), some (.ref 1), some (.ref 52), some (.ref 71), some (.int (nI i)), none, none]) rfl (hk _ ?_)
        exact LI.of (h1 := (mm_exc h)) hT hM hO hC f2 s2 hW hE hbs hbl (by show mm_c h + 1 ≤ _; omega) (by show mm_s h + 6 ≤ _; omega)
      · exact absurd b2 (by decide)
      · exact absurd v2 v1
      · exact absurd b2 (by decide)
    · exact absurd b1 (by decide)
    · refine mp_istore (pc := 986) d_La_law_986 (by decide) ?_
      refine mp_aload_n (pc := 988) d_La_law_988 rfl ?_
      refine mp_aload_n (pc := 989) d_La_law_989 rfl ?_
      refine mp_iload (pc := 990) d_La_law_990 rfl ?_
      refine mp_iconst (v := 1) (pc := 992) d_La_law_992 (by decide) ?_
      refine mp_iadd (pc := 993) d_La_law_993 ?_
      rw [show nI i + 1 = nI (i + 1) from nI_add i 1]
      refine mp_sld hP (pc := 994) d_La_law_994 (mm_inN (n := i + 1) (by omega) (by omega)) ?_
      rw [mm_cl (n := i + 1) (by omega)]
      refine mp_aload_n (pc := 995) d_La_law_995 rfl ?_
      refine mp_iload (pc := 996) d_La_law_996 rfl ?_
      refine mp_iconst (v := 2) (pc := 998) d_La_law_998 (by decide) ?_
      refine mp_iadd (pc := 999) d_La_law_999 ?_
      rw [show nI i + 2 = nI (i + 2) from nI_add i 2]
      refine mp_sld hP (pc := 1000) d_La_law_1000 (mm_inN (n := i + 2) (by omega) (by omega)) ?_
      rw [mm_cl (n := i + 2) (by omega)]
      refine mp_aload_n (pc := 1001) d_La_law_1001 rfl ?_
      refine mp_iload (pc := 1002) d_La_law_1002 rfl ?_
      refine mp_iconst (v := 3) (pc := 1004) d_La_law_1004 (by decide) ?_
      refine mp_iadd (pc := 1005) d_La_law_1005 ?_
      rw [show nI i + 3 = nI (i + 3) from nI_add i 3]
      refine mp_sld hP (pc := 1006) d_La_law_1006 (mm_inN (n := i + 3) (by omega) (by omega)) ?_
      rw [mm_cl (n := i + 3) (by omega)]
      refine mp_if_eq 1014 (pc := 1007) d_La_law_1007 (by decide) (fun z => absurd z (h975)) (fun h1007 => ?_)
      refine mp_iconst (v := 1) (pc := 1010) d_La_law_1010 (by decide) ?_
      refine mp_goto 1015 (pc := 1011) d_La_law_1011 (by decide) ?_
      refine mrp_callV3 (pc := 1015) d_La_law_1015 (d2 := (0, 0)) ok_Mo_corrupt li_La_144 sv_Mo_corrupt hM.1 ⟨by decide, rfl⟩ ⟨by decide, rfl, rfl, rfl, Nat.le_of_ble_eq_true rfl, rfl, by decide, by decide⟩ ?_
      refine c_mcorrupt (h := (mm_wi h F1)) hM (hS.cfr f1) (fun F2 b2 z2 s2 k2 f2 => ?_) (fun F2 b2 z2 s2 k2 f2 => ?_) (fun F2 j2 b2 h2 e2 v2 s2 k2 f2 => ?_) (fun F2 j2 b2 h2 e2 v2 s2 k2 f2 => ?_) (fun F2 j2 b2 h2 e2 v2 s2 k2 f2 => ?_) (fun F2 j2 b2 h2 e2 v2 s2 k2 f2 => ?_)
      · exact absurd e1 (z2 j1 h1)
      · exact absurd b2 (by decide)
      · exact absurd v1 v2
      · exact absurd b2 (by decide)
      · have jj : j1 = j2 := (nI_eq (by have := hC.2.2.2.2.2; have := hC.2.2.2.2.1; omega) (by have := hC.2.2.2.2.2; have := hC.2.2.2.2.1; omega)).mp (e1.symm.trans e2)
        subst jj
        refine mp_aload_n (pc := 1018) d_La_law_1018 rfl ?_
        refine mrp_callV0 (pc := 1019) d_La_law_1019 (d2 := (0, 0)) ok_Mo_thrown li_La_77 sv_Mo_thrown hM.1 ⟨by decide, rfl⟩ ⟨by decide, Nat.le_of_ble_eq_true rfl, rfl, by decide, by decide⟩ ?_
        refine c_thrown (h := mm_wi (mm_wi h F1) F2) hM ?_
        rw [show mm_gi (mm_wi (mm_wi h F1) F2) 52 0 = 0 from k2]
        refine mp_iload (pc := 1022) d_La_law_1022 rfl ?_
        refine mp_ic_eq 1029 (pc := 1024) d_La_law_1024 (by decide) (fun _ => ?_) (fun z => absurd z (by decide))
        refine mp_goto 1032 (pc := 1029) d_La_law_1029 (by decide) ?_
        refine mm_VP_drop 5 ?_
        refine mm_VP_ls (ls' := [some (.ref 0), some (.ref 1), some (.ref 52), some (.ref 71), some (.int (nI i)), none, none]) rfl (hk _ ?_)
        exact LI.of (h1 := (mm_wi h F1)) hT hM hO c1 f2 s2 hW hE hbs (hbl.set j1 v1) (by show mm_c h ≤ _; omega) (by show mm_s h ≤ _; omega)
      · exact absurd b2 (by decide)
    · exact absurd b1 (by decide)
