/-! CONTRACTS: the reference: restore: the pairs (rows by program: con_rf.py) -/
def okM (F : mm_W) (T : Nat → Int32) : Prop := (∀ q, q < 256 → ¬ T q = 0 → q / 16 < q % 16 ∧ ¬ F 55 (16 * 1 + q / 16) = 0 ∧ ¬ F 55 (16 * 1 + q % 16) = 0) ∧ a_cnt T 256 ≤ 120
def PJ (sv : List Int32) (p : Nat) (F0 : mm_W) (c n q : Nat) (F : mm_W) : Prop := ∀ T r, okM F0 T → sv.drop p = mm_enc (nI (a_cnt T 256)) 1 ++ (a_prs T 256 ++ r) → a_cnt T 256 = c ∧ ∃ b, b ≤ 256 ∧ a_cnt T b = n ∧ sv.drop q = a_prf T b (256 - b) ++ r ∧ ∀ j, j < 256 → (¬ F 63 (256 * 1 + j) = 0 ↔ (j < b ∧ ¬ T j = 0))
theorem PJ.next {sv : List Int32} (hb : a_byt sv) {p c n q : Nat} {F0 F : mm_W} (h : PJ sv p F0 c n q F) (hn : n < c) {T : Nat → Int32} {r : List Int32} (hT : okM F0 T) (hd : sv.drop p = mm_enc (nI (a_cnt T 256)) 1 ++ (a_prs T 256 ++ r)) :
    ∃ b j, b ≤ j ∧ j < 256 ∧ ¬ T j = 0 ∧ (∀ i, b ≤ i → i < j → T i = 0) ∧ a_cnt T b = n ∧ a_cnt T 256 = c ∧ q + 1 ≤ sv.length ∧ mm_dec sv q 1 = nI j ∧ sv.drop (q + 1) = a_prf T (j + 1) (256 - (j + 1)) ++ r ∧ ∀ j, j < 256 → (¬ F 63 (256 * 1 + j) = 0 ↔ (j < b ∧ ¬ T j = 0)) := by
  obtain ⟨k1, b, k0, k2, k3, k4⟩ := h T r hT hd
  obtain ⟨j, j1, j2, j3, j4⟩ := a_nxt (T := T) (256 - b) b (by rw [show b + (256 - b) = 256 by omega]; omega)
  have j5 : j < 256 := by omega
  have e := a_pfz (T := T) (j - b) b (256 - j) (fun i i1 i2 => j4 i i1 (by omega))
  rw [show j - b + (256 - j) = 256 - b by omega, show b + (j - b) = j by omega, show 256 - j = (256 - (j + 1)) + 1 by omega] at e
  simp only [a_prf, j3, if_false] at e
  rw [e, List.append_assoc] at k3
  obtain ⟨v0, v1, e1⟩ := b_use hb (by omega) (f_1 (mm_rng255 (j := j) (by omega))) k3 (by omega)
  exact ⟨b, j, j1, j5, j3, j4, k2, k1, v0, v1, e1, k4⟩
theorem PJ.step {sv : List Int32} (hb : a_byt sv) {p c n q j : Nat} {F0 F F' : mm_W} (h : PJ sv p F0 c n q F) (hn : n < c) (hj : mm_dec sv q 1 = nI j) (hj2 : j < 256) (hF : ∀ i, i < 256 → F' 63 (256 * 1 + i) = if i = j then 1 else F 63 (256 * 1 + i)) : PJ sv p F0 c (n + 1) (q + 1) F' := by
  intro T r hT hd
  obtain ⟨b, i, i1, i2, i3, i4, i5, i6, i7, i8, i9, i10⟩ := h.next hb hn hT hd
  have d : i = j := ((nI_eq (by omega) (by omega)).mp (hj.symm.trans i8)).symm
  subst d
  obtain ⟨-, z2⟩ := a_pz (T := T) (b := b) (i - b) (fun q q1 q2 => i4 q q1 (by omega))
  rw [show b + (i - b) = i by omega] at z2
  refine ⟨i6, i + 1, by omega, by simp only [a_cnt, i3, if_false]; rw [z2, i5], i9, fun k hk => ?_⟩
  rw [hF k hk]
  by_cases d : k = i
  · subst d; simp [i3]
  · rw [if_neg d, i10 k hk]
    constructor
    · rintro ⟨a, b'⟩; exact ⟨by omega, b'⟩
    · rintro ⟨a, b'⟩
      refine ⟨Nat.not_le.mp fun z => b' (i4 k z (by omega)), b'⟩
/-- of the second world's pairs, the place and the flag alone -/
def mm_tfr (F F' : mm_W) : Prop := ∀ a k, ¬ (a = 63 ∧ 256 ≤ k) → ¬ (a = 52 ∧ (k = 22 ∨ k = 23)) → F' a k = F a k
theorem mm_tfr.ffr {F0 F F' : mm_W} (h : mm_tfr F0 F) (f : mm_ffr F F') : mm_tfr F0 F' := fun a k h1 h2 => (f a k h2).trans (h a k h1 h2)
theorem mm_tfr.snd {F0 F : mm_W} (h : mm_tfr F0 F) (x : Int32) : mm_tfr F0 (mm_u2 F 52 23 x) := h.ffr (mm_ffr.rfl'.put (Or.inr rfl) x)
theorem mm_tfr.put {F0 F : mm_W} (h : mm_tfr F0 F) (j : Nat) (x : Int32) : mm_tfr F0 (mm_u2 F 63 (256 * 1 + j) x) := fun a k h1 h2 => by
  have n1 : ¬ (a = 63 ∧ k = 256 * 1 + j) := by omega
  simp only [mm_u2, n1, if_false]
  exact h a k h1 h2
theorem SVs.tfr {F F' : mm_W} {sv : List Int32} (h : SVs F sv) (f : mm_tfr F F') : SVs F' sv := ⟨by rw [f 52 16 (by omega) (by omega)]; exact h.1, fun j hj => by rw [f 68 j (by omega) (by omega)]; exact h.2 j hj⟩
set_option maxRecDepth 20000 in
theorem l_prx0 {G : mm_G} {Q : mm_O → mm_H → Prop} {h : mm_H} {q9 : Int32} {c n : Nat} {F : mm_W} (hM : mm_Mo h) (h0 : F 52 23 = 0) (hq : Q (.inl (some (.int 0))) (mm_wi h F)) : mm_V G (3, 69) M_Mo_restore Q 100 [some (.ref 52), some (.int q9), some (.int (nI c)), some (.int (nI n)), none] [] (mm_wi h F) := by
  refine mv_iload_n (pc := 100) d_Mo_restore_100 rfl ?_
  refine mv_iload_n (pc := 101) d_Mo_restore_101 rfl ?_
  refine mv_ic_ge 198 (pc := 102) d_Mo_restore_102 (by decide) (fun h102 => ?_) (fun h102 => ?_)
  · refine mv_aload_n (pc := 198) d_Mo_restore_198 rfl ?_
    refine mr_geti (pc := 199) d_Mo_restore_199 fl_Mo_139 hM.1 rfl (by decide) ?_
    rw [show mm_gi (mm_wi h F) 52 23 = 0 from h0]
    refine mv_if_ne 207 (pc := 202) d_Mo_restore_202 (by decide) (fun z => absurd z (fun z => z rfl)) (fun h202 => ?_)
    refine mv_iconst (v := 0) (pc := 205) d_Mo_restore_205 (by decide) ?_
    refine mv_iret (pc := 206) d_Mo_restore_206 rfl rfl ?_
    exact hq
  · refine mv_aload_n (pc := 105) d_Mo_restore_105 rfl ?_
    refine mr_geti (pc := 106) d_Mo_restore_106 fl_Mo_139 hM.1 rfl (by decide) ?_
    rw [show mm_gi (mm_wi h F) 52 23 = 0 from h0]
    refine mv_if_eq 198 (pc := 109) d_Mo_restore_109 (by decide) (fun h109 => ?_) (fun z => absurd z (fun z => z rfl))
    refine mv_aload_n (pc := 198) d_Mo_restore_198 rfl ?_
    refine mr_geti (pc := 199) d_Mo_restore_199 fl_Mo_139 hM.1 rfl (by decide) ?_
    rw [show mm_gi (mm_wi h F) 52 23 = 0 from h0]
    refine mv_if_ne 207 (pc := 202) d_Mo_restore_202 (by decide) (fun z => absurd z (fun z => z rfl)) (fun h202 => ?_)
    refine mv_iconst (v := 0) (pc := 205) d_Mo_restore_205 (by decide) ?_
    refine mv_iret (pc := 206) d_Mo_restore_206 rfl rfl ?_
    exact hq
set_option maxRecDepth 20000 in
theorem l_prs {G : mm_G} {Q : mm_O → mm_H → Prop} {h : mm_H} {q9 : Int32} {p c : Nat} {sv : List Int32} (hM : mm_Mo h) (hb : a_byt sv) (hl : sv.length ≤ 336) (hc : c ≤ 120) (F0 : mm_W) (hV : SVs F0 sv) (hq1 : ∀ F' q, mm_tfr F0 F' → (∀ j, j < 256 → F' 63 (256 * 1 + j) = 0 ∨ F' 63 (256 * 1 + j) = 1) → (∀ j, j < 256 → ¬ F' 63 (256 * 1 + j) = 0 → j / 16 < j % 16 ∧ ¬ F0 55 (16 * 1 + j / 16) = 0 ∧ ¬ F0 55 (16 * 1 + j % 16) = 0) → MR F' sv q → PJ sv p F0 c c q F' → mm_V G (3, 69) M_Mo_restore Q 207 [some (.ref 52), some (.int q9), some (.int (nI c)), some (.int (nI c)), none] [] (mm_wi h F')) (hq0 : ∀ F', (∀ T r, okM F0 T → ¬ sv.drop p = mm_enc (nI (a_cnt T 256)) 1 ++ (a_prs T 256 ++ r)) → mm_tfr F0 F' → Q (.inl (some (.int 0))) (mm_wi h F')) :
    ∀ (n : Nat) (F : mm_W), n ≤ c → (mm_tfr F0 F ∧ (∀ j, j < 256 → F 63 (256 * 1 + j) = 0 ∨ F 63 (256 * 1 + j) = 1) ∧ (∀ j, j < 256 → ¬ F 63 (256 * 1 + j) = 0 → j / 16 < j % 16 ∧ ¬ F0 55 (16 * 1 + j / 16) = 0 ∧ ¬ F0 55 (16 * 1 + j % 16) = 0) ∧ ∃ q, MR F sv q ∧ PJ sv p F0 c n q F) → mm_V G (3, 69) M_Mo_restore Q 100 [some (.ref 52), some (.int q9), some (.int (nI c)), some (.int (nI n)), none] [] (mm_wi h F) := by
  refine mr_loop _ _ c (fun F hI => ?_) (fun n F hn hI ih => ?_)
  · obtain ⟨i1, i2, i3, q, i4, i5⟩ := hI
    refine mv_iload_n (pc := 100) d_Mo_restore_100 rfl ?_
    refine mv_iload_n (pc := 101) d_Mo_restore_101 rfl ?_
    refine mv_ic_ge 198 (pc := 102) d_Mo_restore_102 (by decide) (fun h102 => ?_) (fun z => absurd z (fun z => z (nI_le (by omega) (by omega))))
    refine mv_aload_n (pc := 198) d_Mo_restore_198 rfl ?_
    refine mr_geti (pc := 199) d_Mo_restore_199 fl_Mo_139 hM.1 rfl (by decide) ?_
    rw [show mm_gi (mm_wi h F) 52 23 = 1 from i4.1]
    refine mv_if_ne 207 (pc := 202) d_Mo_restore_202 (by decide) (fun h202 => ?_) (fun z => absurd z (by decide))
    exact hq1 F q i1 i2 i3 i4 i5
  · obtain ⟨i1, i2, i3, q, i4, i5⟩ := hI
    refine mv_iload_n (pc := 100) d_Mo_restore_100 rfl ?_
    refine mv_iload_n (pc := 101) d_Mo_restore_101 rfl ?_
    refine mv_ic_ge 198 (pc := 102) d_Mo_restore_102 (by decide) (fun z => absurd z (nI_ge (by omega) (by omega))) (fun h102 => ?_)
    refine mv_aload_n (pc := 105) d_Mo_restore_105 rfl ?_
    refine mr_geti (pc := 106) d_Mo_restore_106 fl_Mo_139 hM.1 rfl (by decide) ?_
    rw [show mm_gi (mm_wi h F) 52 23 = 1 from i4.1]
    refine mv_if_eq 198 (pc := 109) d_Mo_restore_109 (by decide) (fun z => absurd z (by decide)) (fun h109 => ?_)
    refine mv_aload_n (pc := 112) d_Mo_restore_112 rfl ?_
    refine mv_iconst (v := 1) (pc := 113) d_Mo_restore_113 (by decide) ?_
    refine mr_callV1 (pc := 114) d_Mo_restore_114 (d2 := (0, 0)) ok_Mo_read li_Mo_146 sv_Mo_read hM.1 ⟨by decide, rfl⟩ ⟨by decide, rfl, Nat.le_of_ble_eq_true rfl, rfl, by decide, by decide⟩ ?_
    refine c_mread (h := mm_wi h F) (n := 1) (p := q) hM (by omega) hl (hV.tfr i1) i4 (fun c1 F1 r1 f1 => ?_) (fun c1 v F1 v1 r1 f1 => ?_)
    · obtain ⟨j, hj2, hj⟩ : ∃ j, j < 256 ∧ mm_dec sv q 1 = nI j := b_dec hb q 1 (by omega)
      rw [hj]
      refine mv_istore (pc := 117) d_Mo_restore_117 (by decide) ?_
      refine mv_aload_n (pc := 119) d_Mo_restore_119 rfl ?_
      refine mv_aload_n (pc := 120) d_Mo_restore_120 rfl ?_
      refine mr_geti (pc := 121) d_Mo_restore_121 fl_Mo_139 hM.1 rfl (by decide) ?_
      rw [show mm_gi (mm_wi (mm_wi h F) F1) 52 23 = 1 from r1.1]
      refine mv_if_eq 176 (pc := 124) d_Mo_restore_124 (by decide) (fun z => absurd z (by decide)) (fun h124 => ?_)
      refine mv_iload (pc := 127) d_Mo_restore_127 rfl ?_
      refine mv_bipush (v := 16) (pc := 129) d_Mo_restore_129 (by decide) ?_
      refine mv_idiv (pc := 131) d_Mo_restore_131 (by decide) ?_
      refine mv_iload (pc := 132) d_Mo_restore_132 rfl ?_
      refine mv_bipush (v := 16) (pc := 134) d_Mo_restore_134 (by decide) ?_
      refine mv_irem (pc := 136) d_Mo_restore_136 (by decide) ?_
      rw [mm_r16 (by omega), mm_d16 (by omega)]
      refine mv_ic_ge 176 (pc := 137) d_Mo_restore_137 (by decide) (fun h137 => ?_) (fun h137 => ?_)
      · refine mv_iconst (v := 0) (pc := 176) d_Mo_restore_176 (by decide) ?_
        refine mr_puti (pc := 177) d_Mo_restore_177 fl_Mo_139 hM.1 rfl (by decide) ⟨rfl, rfl⟩ ?_
        refine mv_aload_n (pc := 180) d_Mo_restore_180 rfl ?_
        refine mr_getr (pc := 181) d_Mo_restore_181 fl_Mo_41 hM.1 rfl (by decide) hM.g_touch ?_
        refine mv_sipush (v := 256) (pc := 184) d_Mo_restore_184 (by decide) ?_
        refine mv_iload (pc := 187) d_Mo_restore_187 rfl ?_
        refine mv_iadd (pc := 189) d_Mo_restore_189 ?_
        rw [mm_a256]
        refine mv_iconst (v := 1) (pc := 190) d_Mo_restore_190 (by decide) ?_
        refine mr_zast (pc := 191) d_Mo_restore_191 hM.a_touch (mm_inN (by omega) (by decide)) ?_
        rw [mm_cl (by omega), mm_nar1]
        refine mv_iinc (pc := 192) d_Mo_restore_192 rfl rfl (by decide) ?_
        refine mv_goto 100 (pc := 195) d_Mo_restore_195 (by decide) ?_
        refine mm_V_drop 4 ?_
        refine mm_V_ls (ls' := [some (.ref 52), some (.int q9), some (.int (nI c)), some (.int (nI (n + 1))), none]) (by simp only [List.set]; rw [nI_succ]; rfl) (l_prx0 hM (by simp [mm_u2, mm_uwi, mm_usi]) (hq0 _ (fun T r hT hd => ?_) (((i1.ffr f1).snd 0).put j 1)))
        obtain ⟨b, i, u1, u2, u3, u4, u5, u6, u7, u8, u9, u10⟩ := i5.next hb hn hT hd
        have dij : i = j := ((nI_eq (by omega) (by omega)).mp (hj.symm.trans u8)).symm
        subst dij
        obtain ⟨v1, v2, v3⟩ := hT.1 i u2 u3
        exact absurd (nI_lt v1 (by omega)) (Int32.not_lt.mpr h137)
      · refine mv_aload_n (pc := 140) d_Mo_restore_140 rfl ?_
        refine mr_getr (pc := 141) d_Mo_restore_141 fl_Mo_16 hM.1 rfl (by decide) hM.g_full ?_
        refine mv_bipush (v := 16) (pc := 144) d_Mo_restore_144 (by decide) ?_
        refine mv_iload (pc := 146) d_Mo_restore_146 rfl ?_
        refine mv_bipush (v := 16) (pc := 148) d_Mo_restore_148 (by decide) ?_
        refine mv_idiv (pc := 150) d_Mo_restore_150 (by decide) ?_
        refine mv_iadd (pc := 151) d_Mo_restore_151 ?_
        rw [mm_d16 (by omega), mm_a16]
        refine mr_zald (pc := 152) d_Mo_restore_152 hM.a_full (mm_inN (by omega) (by decide)) ?_
        rw [mm_cl (by omega), show mm_gi (mm_wi (mm_wi h F) F1) 55 (16 + j / 16) = F0 55 (16 * 1 + j / 16) from (i1.ffr f1) 55 (16 * 1 + j / 16) (by omega) (by omega)]
        refine mv_if_eq 176 (pc := 153) d_Mo_restore_153 (by decide) (fun h153 => ?_) (fun h153 => ?_)
        · refine mv_iconst (v := 0) (pc := 176) d_Mo_restore_176 (by decide) ?_
          refine mr_puti (pc := 177) d_Mo_restore_177 fl_Mo_139 hM.1 rfl (by decide) ⟨rfl, rfl⟩ ?_
          refine mv_aload_n (pc := 180) d_Mo_restore_180 rfl ?_
          refine mr_getr (pc := 181) d_Mo_restore_181 fl_Mo_41 hM.1 rfl (by decide) hM.g_touch ?_
          refine mv_sipush (v := 256) (pc := 184) d_Mo_restore_184 (by decide) ?_
          refine mv_iload (pc := 187) d_Mo_restore_187 rfl ?_
          refine mv_iadd (pc := 189) d_Mo_restore_189 ?_
          rw [mm_a256]
          refine mv_iconst (v := 1) (pc := 190) d_Mo_restore_190 (by decide) ?_
          refine mr_zast (pc := 191) d_Mo_restore_191 hM.a_touch (mm_inN (by omega) (by decide)) ?_
          rw [mm_cl (by omega), mm_nar1]
          refine mv_iinc (pc := 192) d_Mo_restore_192 rfl rfl (by decide) ?_
          refine mv_goto 100 (pc := 195) d_Mo_restore_195 (by decide) ?_
          refine mm_V_drop 4 ?_
          refine mm_V_ls (ls' := [some (.ref 52), some (.int q9), some (.int (nI c)), some (.int (nI (n + 1))), none]) (by simp only [List.set]; rw [nI_succ]; rfl) (l_prx0 hM (by simp [mm_u2, mm_uwi, mm_usi]) (hq0 _ (fun T r hT hd => ?_) (((i1.ffr f1).snd 0).put j 1)))
          obtain ⟨b, i, u1, u2, u3, u4, u5, u6, u7, u8, u9, u10⟩ := i5.next hb hn hT hd
          have dij : i = j := ((nI_eq (by omega) (by omega)).mp (hj.symm.trans u8)).symm
          subst dij
          obtain ⟨v1, v2, v3⟩ := hT.1 i u2 u3
          exact v2 h153
        · refine mv_aload_n (pc := 156) d_Mo_restore_156 rfl ?_
          refine mr_getr (pc := 157) d_Mo_restore_157 fl_Mo_16 hM.1 rfl (by decide) hM.g_full ?_
          refine mv_bipush (v := 16) (pc := 160) d_Mo_restore_160 (by decide) ?_
          refine mv_iload (pc := 162) d_Mo_restore_162 rfl ?_
          refine mv_bipush (v := 16) (pc := 164) d_Mo_restore_164 (by decide) ?_
          refine mv_irem (pc := 166) d_Mo_restore_166 (by decide) ?_
          refine mv_iadd (pc := 167) d_Mo_restore_167 ?_
          rw [mm_r16 (by omega), mm_a16]
          refine mr_zald (pc := 168) d_Mo_restore_168 hM.a_full (mm_inN (by omega) (by decide)) ?_
          rw [mm_cl (by omega), show mm_gi (mm_wi (mm_wi h F) F1) 55 (16 + j % 16) = F0 55 (16 * 1 + j % 16) from (i1.ffr f1) 55 (16 * 1 + j % 16) (by omega) (by omega)]
          refine mv_if_eq 176 (pc := 169) d_Mo_restore_169 (by decide) (fun h169 => ?_) (fun h169 => ?_)
          · refine mv_iconst (v := 0) (pc := 176) d_Mo_restore_176 (by decide) ?_
            refine mr_puti (pc := 177) d_Mo_restore_177 fl_Mo_139 hM.1 rfl (by decide) ⟨rfl, rfl⟩ ?_
            refine mv_aload_n (pc := 180) d_Mo_restore_180 rfl ?_
            refine mr_getr (pc := 181) d_Mo_restore_181 fl_Mo_41 hM.1 rfl (by decide) hM.g_touch ?_
            refine mv_sipush (v := 256) (pc := 184) d_Mo_restore_184 (by decide) ?_
            refine mv_iload (pc := 187) d_Mo_restore_187 rfl ?_
            refine mv_iadd (pc := 189) d_Mo_restore_189 ?_
            rw [mm_a256]
            refine mv_iconst (v := 1) (pc := 190) d_Mo_restore_190 (by decide) ?_
            refine mr_zast (pc := 191) d_Mo_restore_191 hM.a_touch (mm_inN (by omega) (by decide)) ?_
            rw [mm_cl (by omega), mm_nar1]
            refine mv_iinc (pc := 192) d_Mo_restore_192 rfl rfl (by decide) ?_
            refine mv_goto 100 (pc := 195) d_Mo_restore_195 (by decide) ?_
            refine mm_V_drop 4 ?_
            refine mm_V_ls (ls' := [some (.ref 52), some (.int q9), some (.int (nI c)), some (.int (nI (n + 1))), none]) (by simp only [List.set]; rw [nI_succ]; rfl) (l_prx0 hM (by simp [mm_u2, mm_uwi, mm_usi]) (hq0 _ (fun T r hT hd => ?_) (((i1.ffr f1).snd 0).put j 1)))
            obtain ⟨b, i, u1, u2, u3, u4, u5, u6, u7, u8, u9, u10⟩ := i5.next hb hn hT hd
            have dij : i = j := ((nI_eq (by omega) (by omega)).mp (hj.symm.trans u8)).symm
            subst dij
            obtain ⟨v1, v2, v3⟩ := hT.1 i u2 u3
            exact v3 h169
          · refine mv_iconst (v := 1) (pc := 172) d_Mo_restore_172 (by decide) ?_
            refine mv_goto 177 (pc := 173) d_Mo_restore_173 (by decide) ?_
            refine mr_puti (pc := 177) d_Mo_restore_177 fl_Mo_139 hM.1 rfl (by decide) ⟨rfl, rfl⟩ ?_
            refine mv_aload_n (pc := 180) d_Mo_restore_180 rfl ?_
            refine mr_getr (pc := 181) d_Mo_restore_181 fl_Mo_41 hM.1 rfl (by decide) hM.g_touch ?_
            refine mv_sipush (v := 256) (pc := 184) d_Mo_restore_184 (by decide) ?_
            refine mv_iload (pc := 187) d_Mo_restore_187 rfl ?_
            refine mv_iadd (pc := 189) d_Mo_restore_189 ?_
            rw [mm_a256]
            refine mv_iconst (v := 1) (pc := 190) d_Mo_restore_190 (by decide) ?_
            refine mr_zast (pc := 191) d_Mo_restore_191 hM.a_touch (mm_inN (by omega) (by decide)) ?_
            rw [mm_cl (by omega), mm_nar1]
            refine mv_iinc (pc := 192) d_Mo_restore_192 rfl rfl (by decide) ?_
            refine mv_goto 100 (pc := 195) d_Mo_restore_195 (by decide) ?_
            have hF : ∀ i, i < 256 → mm_u2 (mm_u2 F1 52 23 1) 63 (256 * 1 + j) 1 63 (256 * 1 + i) = if i = j then 1 else F 63 (256 * 1 + i) := fun i hi => by
              have e := f1 63 (256 * 1 + i) (by omega)
              by_cases d : i = j
              · subst d; simp [mm_u2]
              · have n1 : ¬ (256 * 1 + i = 256 * 1 + j) := by omega
                rw [if_neg d]; simp only [mm_u2, n1, and_false, if_false]; simp; simpa [mm_gwi] using e
            have hval : j / 16 < j % 16 ∧ ¬ F0 55 (16 * 1 + j / 16) = 0 ∧ ¬ F0 55 (16 * 1 + j % 16) = 0 := ⟨(nI_ltI (by omega) (by omega)).mp (Int32.not_le.mp h137), h153, h169⟩
            refine mm_V_drop 4 ?_
            refine mm_V_ls (ls' := [some (.ref 52), some (.int q9), some (.int (nI c)), some (.int (nI (n + 1))), none]) (by simp only [List.set]; rw [nI_succ]; rfl) (ih (mm_u2 (mm_u2 F1 52 23 1) 63 (256 * 1 + j) 1) ⟨((i1.ffr f1).snd 1).put j 1, fun k hk => ?_, fun k hk z => ?_, q + 1, (MR.snd r1).put (by decide) 1, i5.step hb hn hj hj2 hF⟩)
            · rw [hF k hk]; split
              · exact Or.inr rfl
              · exact i2 k hk
            · rw [hF k hk] at z
              by_cases d : k = j
              · subst d; exact hval
              · rw [if_neg d] at z; exact i3 k hk z
    · have v0 : v = 0 := v1.resolve_right (by omega)
      subst v0
      refine mv_istore (pc := 117) d_Mo_restore_117 (by decide) ?_
      refine mv_aload_n (pc := 119) d_Mo_restore_119 rfl ?_
      refine mv_aload_n (pc := 120) d_Mo_restore_120 rfl ?_
      refine mr_geti (pc := 121) d_Mo_restore_121 fl_Mo_139 hM.1 rfl (by decide) ?_
      rw [show mm_gi (mm_wi (mm_wi h F) F1) 52 23 = 0 from r1]
      refine mv_if_eq 176 (pc := 124) d_Mo_restore_124 (by decide) (fun h124 => ?_) (fun z => absurd z (fun z => z rfl))
      refine mv_iconst (v := 0) (pc := 176) d_Mo_restore_176 (by decide) ?_
      refine mr_puti (pc := 177) d_Mo_restore_177 fl_Mo_139 hM.1 rfl (by decide) ⟨rfl, rfl⟩ ?_
      refine mv_aload_n (pc := 180) d_Mo_restore_180 rfl ?_
      refine mr_getr (pc := 181) d_Mo_restore_181 fl_Mo_41 hM.1 rfl (by decide) hM.g_touch ?_
      refine mv_sipush (v := 256) (pc := 184) d_Mo_restore_184 (by decide) ?_
      refine mv_iload (pc := 187) d_Mo_restore_187 rfl ?_
      refine mv_iadd (pc := 189) d_Mo_restore_189 ?_
      rw [show (256 : Int32) + 0 = nI (256 * 1 + 0) from rfl]
      refine mv_iconst (v := 1) (pc := 190) d_Mo_restore_190 (by decide) ?_
      refine mr_zast (pc := 191) d_Mo_restore_191 hM.a_touch (mm_inN (by omega) (by decide)) ?_
      rw [mm_cl (by omega), mm_nar1]
      refine mv_iinc (pc := 192) d_Mo_restore_192 rfl rfl (by decide) ?_
      refine mv_goto 100 (pc := 195) d_Mo_restore_195 (by decide) ?_
      refine mm_V_drop 4 ?_
      refine mm_V_ls (ls' := [some (.ref 52), some (.int q9), some (.int (nI c)), some (.int (nI (n + 1))), none]) (by simp only [List.set]; rw [nI_succ]; rfl) (l_prx0 hM (by simp [mm_u2, mm_uwi, mm_usi]) (hq0 _ (fun T r hT hd => ?_) (((i1.ffr f1).snd 0).put 0 1)))
      obtain ⟨b, i, u1, u2, u3, u4, u5, u6, u7, u8, u9, u10⟩ := i5.next hb hn hT hd
      omega
