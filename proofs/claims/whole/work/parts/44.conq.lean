/-! CONTRACTS: the reference's publics but save, load, replay (rows by program: con_q.py) -/
theorem mm_b2 {b : Int32} (h0 : ¬ b < 0) (h1 : b ≤ 2) (h2 : ¬ b = 0) (h3 : ¬ b = 1) : b = 2 := by
  obtain ⟨j, hj, rfl⟩ := nI_of2 (x := b) (M := 2) (n := 2) (by decide) h0 h1
  have : j = 0 ∨ j = 1 ∨ j = 2 := by omega
  rcases this with rfl | rfl | rfl
  · exact absurd rfl h2
  · exact absurd rfl h3
  · rfl
theorem mm_n2 {b : Int32} (h : b < 0 ∨ ¬ b ≤ 2) : ¬ b = 0 ∧ ¬ b = 1 ∧ ¬ b = 2 := by
  refine ⟨?_, ?_, ?_⟩ <;> rintro rfl <;> exact absurd h (by decide)
theorem mm_nidx {k : Int32} {n : Nat} (hn : n < 65536) (h : k < 0 ∨ ¬ k < nI n) : ∀ j, j < n → ¬ k = nI j := by
  rintro j hj rfl
  rcases h with h | h
  · exact nI_pos (by omega) h
  · exact h (nI_lt hj (by omega))
theorem mm_idx2 {k : Int32} {n : Nat} (hn : n < 65536) (h0 : ¬ k < 0) (h : k < nI n) : ∃ j, j < n ∧ k = nI j := mm_idx hn ⟨Int32.not_lt.mp h0, h⟩
theorem nI_pos2 {n : Nat} (h : n < 65536) : 0 ≤ nI n := nI_pos' (by omega)
theorem mm_tm {a : Int32} : (0 ≤ a ∧ a ≤ 60000) ↔ (a = 0 ∨ (1 ≤ a ∧ a ≤ 60000)) := by
  have e : a = 0 ↔ a.toInt = 0 := ⟨fun z => by rw [z]; decide, fun z => Int32.toInt_inj.mp (z.trans (by decide))⟩
  rw [e]
  simp only [Int32.le_iff_toInt_le, i_0, i_1, i_60000]
  omega
theorem mm_sh1 : ∀ n, n < 16 → (1 : Int32) <<< (nI n &&& 31) = nI (2 ^ n) := by decide +kernel
theorem mm_or {m n : Nat} (hm : m < 2 ^ n) (hn : n < 16) : nI m ||| nI (2 ^ n) = nI (m + 2 ^ n) := by
  have e : m ||| 2 ^ n = m + 2 ^ n := by
    have := Nat.two_pow_add_eq_or_of_lt hm 1
    rw [Nat.mul_one] at this
    rw [Nat.or_comm, ← this, Nat.add_comm]
  apply Int32.toBitVec_inj.mp
  rw [Int32.toBitVec_or]
  show BitVec.ofNat 32 m ||| BitVec.ofNat 32 (2 ^ n) = BitVec.ofNat 32 (m + 2 ^ n)
  rw [← BitVec.ofNat_or, e]
theorem a_cov_nat (P : Nat → Prop) : ∀ n, n ≤ 16 → ∃ m, m < 2 ^ n ∧ a_cov P n = nI m
  | 0, _ => ⟨0, by decide, rfl⟩
  | n + 1, hn => by
    obtain ⟨m, hm, e⟩ := a_cov_nat P n (by omega)
    by_cases c : P n
    · refine ⟨m + 2 ^ n, by rw [Nat.pow_succ]; omega, ?_⟩
      rw [a_cov1 c, e, mm_sh1 n (by omega), nI_add]
    · exact ⟨m, by rw [Nat.pow_succ]; omega, by rw [a_cov0 c, e]⟩
theorem a_cov_or {P : Nat → Prop} {n : Nat} (hn : n < 16) (c : P n) : a_cov P n ||| ((1 : Int32) <<< (nI n &&& 31)) = a_cov P (n + 1) := by
  obtain ⟨m, hm, e⟩ := a_cov_nat P n (by omega)
  rw [a_cov1 c, e, mm_sh1 n hn, mm_or hm hn, nI_add]
set_option maxRecDepth 20000 in
theorem c_thrown {G : mm_G} {Q : mm_O → mm_H → Prop} {h : mm_H} (hM : mm_Mo h) (hq : Q (.inl (some (.int (mm_gi h 52 0)))) h) : mm_V G (0, 0) M_Mo_thrown Q 0 (mm_ent 1 [.ref 52]) [] h := by
  show mm_V G (0, 0) M_Mo_thrown Q 0 [some (.ref 52)] [] h
  refine mv_aload_n (pc := 0) d_Mo_thrown_0 rfl ?_
  refine mr_geti (pc := 1) d_Mo_thrown_1 fl_Mo_69 hM.1 rfl (by decide) ?_
  refine mv_iret (pc := 4) d_Mo_thrown_4 rfl rfl ?_
  exact hq
set_option maxRecDepth 20000 in
theorem c_mcreate {G : mm_G} {Q : mm_O → mm_H → Prop} {h : mm_H} {A : mm_W} {E : mm_E} {sv lg : List Int32} (hM : mm_Mo h) (hS : MS (mm_gi h) A E sv lg) {x y : Int32} (hq1 : ∀ F', ¬ ((0 ≤ x ∧ x ≤ 4095) ∧ (0 ≤ y ∧ y ≤ 4095)) → MS F' A E sv lg → F' 52 0 = 1 → mm_ofr (mm_gi h) F' → Q (.inl (some (.int (0)))) (mm_wi h F')) (hq2 : ∀ F', ((0 ≤ x ∧ x ≤ 4095) ∧ (0 ≤ y ∧ y ≤ 4095)) → (∀ j, j < 16 → ¬ A 1 j = 0) → MS F' A E sv lg → F' 52 0 = 2 → mm_ofr (mm_gi h) F' → Q (.inl (some (.int (0)))) (mm_wi h F')) (hq3 : ∀ i F', ((0 ≤ x ∧ x ≤ 4095) ∧ (0 ≤ y ∧ y ≤ 4095)) → i < 16 → A 1 i = 0 → ¬ lg.length + 5 ≤ 400 → MS F' A E sv lg → F' 52 0 = 3 → mm_ofr (mm_gi h) F' → Q (.inl (some (.int (0)))) (mm_wi h F')) (hq : ∀ i F', ((0 ≤ x ∧ x ≤ 4095) ∧ (0 ≤ y ∧ y ≤ 4095)) → i < 16 → (∀ j, j < i → ¬ A 1 j = 0) → A 1 i = 0 → lg.length + 5 ≤ 400 → MS F' (a_set A i x y) E sv (lg ++ (mm_enc 1 1 ++ mm_enc x 2 ++ mm_enc y 2)) → F' 52 0 = 0 → mm_ofr (mm_gi h) F' → Q (.inl (some (.int (nI i + 16 * A 0 i)))) (mm_wi h F')) : mm_V G (1, 23) M_Mo_create Q 0 (mm_ent 4 [.ref 52, .int x, .int y]) [] h := by
  show mm_V G (1, 23) M_Mo_create Q 0 [some (.ref 52), some (.int x), some (.int y), none] [] h
  refine mv_aload_n (pc := 0) d_Mo_create_0 rfl ?_
  refine mv_iconst (v := 0) (pc := 1) d_Mo_create_1 (by decide) ?_
  refine mr_callV1 (pc := 2) d_Mo_create_2 (d2 := (0, 0)) ok_Mo_emptySlot li_Mo_94 sv_Mo_emptySlot hM.1 ⟨by decide, rfl⟩ ⟨by decide, rfl, Nat.le_of_ble_eq_true rfl, rfl, by decide, by decide⟩ ?_
  refine c_emptySlot (k := 0) (by omega) hM (fun i hi hlow hz => ?_) (fun hall => ?_)
  · have hlow2 : ∀ j, j < i → ¬ A 1 j = 0 := fun j hj => by rw [← (hS.1.2.1 j (by omega)).2.1]; exact hlow j hj
    have hz2 : A 1 i = 0 := by rw [← (hS.1.2.1 i hi).2.1]; exact hz
    refine mv_istore_n (pc := 5) d_Mo_create_5 (by decide) ?_
    refine mv_aload_n (pc := 6) d_Mo_create_6 rfl ?_
    refine mv_iload_n (pc := 7) d_Mo_create_7 rfl ?_
    refine mv_if_lt 29 (pc := 8) d_Mo_create_8 (by decide) (fun h8 => ?_) (fun h8 => ?_)
    · refine mv_iconst (v := 1) (pc := 29) d_Mo_create_29 (by decide) ?_
      refine mv_goto 58 (pc := 30) d_Mo_create_30 (by decide) ?_
      refine mr_puti (pc := 58) d_Mo_create_58 fl_Mo_69 hM.1 rfl (by decide) ⟨rfl, rfl⟩ ?_
      refine mv_aload_n (pc := 61) d_Mo_create_61 rfl ?_
      refine mr_geti (pc := 62) d_Mo_create_62 fl_Mo_69 hM.1 rfl (by decide) ?_
      rw [mm_gss]
      refine mv_if_le 70 (pc := 65) d_Mo_create_65 (by decide) (fun z => absurd z (by decide)) (fun _ => ?_)
      refine mv_iconst (v := 0) (pc := 68) d_Mo_create_68 (by decide) ?_
      refine mv_iret (pc := 69) d_Mo_create_69 rfl rfl ?_
      exact hq1 _ (fun z => Int32.not_lt.mpr z.1.1 h8) (hS.code 1) (by simp [mm_u2]) (mm_ofr.rfl'.cd 0 1)
    · refine mv_iload_n (pc := 11) d_Mo_create_11 rfl ?_
      refine mv_sipush (v := 4095) (pc := 12) d_Mo_create_12 (by decide) ?_
      refine mv_ic_gt 29 (pc := 15) d_Mo_create_15 (by decide) (fun h15 => ?_) (fun h15 => ?_)
      · refine mv_iconst (v := 1) (pc := 29) d_Mo_create_29 (by decide) ?_
        refine mv_goto 58 (pc := 30) d_Mo_create_30 (by decide) ?_
        refine mr_puti (pc := 58) d_Mo_create_58 fl_Mo_69 hM.1 rfl (by decide) ⟨rfl, rfl⟩ ?_
        refine mv_aload_n (pc := 61) d_Mo_create_61 rfl ?_
        refine mr_geti (pc := 62) d_Mo_create_62 fl_Mo_69 hM.1 rfl (by decide) ?_
        rw [mm_gss]
        refine mv_if_le 70 (pc := 65) d_Mo_create_65 (by decide) (fun z => absurd z (by decide)) (fun _ => ?_)
        refine mv_iconst (v := 0) (pc := 68) d_Mo_create_68 (by decide) ?_
        refine mv_iret (pc := 69) d_Mo_create_69 rfl rfl ?_
        exact hq1 _ (fun z => Int32.not_lt.mpr z.1.2 h15) (hS.code 1) (by simp [mm_u2]) (mm_ofr.rfl'.cd 0 1)
      · refine mv_iload_n (pc := 18) d_Mo_create_18 rfl ?_
        refine mv_if_lt 29 (pc := 19) d_Mo_create_19 (by decide) (fun h19 => ?_) (fun h19 => ?_)
        · refine mv_iconst (v := 1) (pc := 29) d_Mo_create_29 (by decide) ?_
          refine mv_goto 58 (pc := 30) d_Mo_create_30 (by decide) ?_
          refine mr_puti (pc := 58) d_Mo_create_58 fl_Mo_69 hM.1 rfl (by decide) ⟨rfl, rfl⟩ ?_
          refine mv_aload_n (pc := 61) d_Mo_create_61 rfl ?_
          refine mr_geti (pc := 62) d_Mo_create_62 fl_Mo_69 hM.1 rfl (by decide) ?_
          rw [mm_gss]
          refine mv_if_le 70 (pc := 65) d_Mo_create_65 (by decide) (fun z => absurd z (by decide)) (fun _ => ?_)
          refine mv_iconst (v := 0) (pc := 68) d_Mo_create_68 (by decide) ?_
          refine mv_iret (pc := 69) d_Mo_create_69 rfl rfl ?_
          exact hq1 _ (fun z => Int32.not_lt.mpr z.2.1 h19) (hS.code 1) (by simp [mm_u2]) (mm_ofr.rfl'.cd 0 1)
        · refine mv_iload_n (pc := 22) d_Mo_create_22 rfl ?_
          refine mv_sipush (v := 4095) (pc := 23) d_Mo_create_23 (by decide) ?_
          refine mv_ic_le 33 (pc := 26) d_Mo_create_26 (by decide) (fun h26 => ?_) (fun h26 => ?_)
          · refine mv_iload_n (pc := 33) d_Mo_create_33 rfl ?_
            refine mv_if_ge 41 (pc := 34) d_Mo_create_34 (by decide) (fun h34 => ?_) (fun z => absurd z (fun z => z (nI_pos2 (by omega))))
            refine mv_aload_n (pc := 41) d_Mo_create_41 rfl ?_
            refine mr_geti (pc := 42) d_Mo_create_42 fl_Mo_110 hM.1 rfl (by decide) ?_
            rw [show mm_gi h 52 18 = nI lg.length from hS.2.2.2.1.1]
            refine mv_iconst (v := 5) (pc := 45) d_Mo_create_45 (by decide) ?_
            refine mv_iadd (pc := 46) d_Mo_create_46 ?_
            refine mv_sipush (v := 400) (pc := 47) d_Mo_create_47 (by decide) ?_
            refine mv_ic_le 57 (pc := 50) d_Mo_create_50 (by decide) (fun h50 => ?_) (fun h50 => ?_)
            · refine mv_iconst (v := 0) (pc := 57) d_Mo_create_57 (by decide) ?_
              refine mr_puti (pc := 58) d_Mo_create_58 fl_Mo_69 hM.1 rfl (by decide) ⟨rfl, rfl⟩ ?_
              refine mv_aload_n (pc := 61) d_Mo_create_61 rfl ?_
              refine mr_geti (pc := 62) d_Mo_create_62 fl_Mo_69 hM.1 rfl (by decide) ?_
              rw [mm_gss]
              refine mv_if_le 70 (pc := 65) d_Mo_create_65 (by decide) (fun _ => ?_) (fun z => absurd z (by decide))
              have hroom2 : lg.length + 5 ≤ 400 := (mm_roomI (n := 5) (by have := hS.2.2.2.2.2; omega) (by omega)).mp h50
              refine mv_aload_n (pc := 70) d_Mo_create_70 rfl ?_
              refine mv_iconst (v := 1) (pc := 71) d_Mo_create_71 (by decide) ?_
              refine mr_callV1 (pc := 72) d_Mo_create_72 (d2 := (0, 0)) ok_Mo_add li_Mo_113 sv_Mo_add hM.1 ⟨by decide, rfl⟩ ⟨by decide, rfl, Nat.le_of_ble_eq_true rfl, rfl, by decide, by decide⟩ ?_
              refine c_madd (h := mm_si h 52 0 0) hM (hS.code 0) (by omega) (fun F1 s1 c1 o1 => ?_)
              refine mv_aload_n (pc := 75) d_Mo_create_75 rfl ?_
              refine mv_iload_n (pc := 76) d_Mo_create_76 rfl ?_
              refine mv_bipush (v := 8) (pc := 77) d_Mo_create_77 (by decide) ?_
              refine mv_ishr (pc := 79) d_Mo_create_79 ?_
              refine mr_callV1 (pc := 80) d_Mo_create_80 (d2 := (0, 0)) ok_Mo_add li_Mo_113 sv_Mo_add hM.1 ⟨by decide, rfl⟩ ⟨by decide, rfl, Nat.le_of_ble_eq_true rfl, rfl, by decide, by decide⟩ ?_
              refine c_madd (h := mm_wi h F1) hM s1 (by simp; omega) (fun F2 s2 c2 o2 => ?_)
              refine mv_aload_n (pc := 83) d_Mo_create_83 rfl ?_
              refine mv_iload_n (pc := 84) d_Mo_create_84 rfl ?_
              refine mr_callV1 (pc := 85) d_Mo_create_85 (d2 := (0, 0)) ok_Mo_add li_Mo_113 sv_Mo_add hM.1 ⟨by decide, rfl⟩ ⟨by decide, rfl, Nat.le_of_ble_eq_true rfl, rfl, by decide, by decide⟩ ?_
              refine c_madd (h := mm_wi h F2) hM s2 (by simp; omega) (fun F3 s3 c3 o3 => ?_)
              refine mv_aload_n (pc := 88) d_Mo_create_88 rfl ?_
              refine mv_iload_n (pc := 89) d_Mo_create_89 rfl ?_
              refine mv_bipush (v := 8) (pc := 90) d_Mo_create_90 (by decide) ?_
              refine mv_ishr (pc := 92) d_Mo_create_92 ?_
              refine mr_callV1 (pc := 93) d_Mo_create_93 (d2 := (0, 0)) ok_Mo_add li_Mo_113 sv_Mo_add hM.1 ⟨by decide, rfl⟩ ⟨by decide, rfl, Nat.le_of_ble_eq_true rfl, rfl, by decide, by decide⟩ ?_
              refine c_madd (h := mm_wi h F3) hM s3 (by simp; omega) (fun F4 s4 c4 o4 => ?_)
              refine mv_aload_n (pc := 96) d_Mo_create_96 rfl ?_
              refine mv_iload_n (pc := 97) d_Mo_create_97 rfl ?_
              refine mr_callV1 (pc := 98) d_Mo_create_98 (d2 := (0, 0)) ok_Mo_add li_Mo_113 sv_Mo_add hM.1 ⟨by decide, rfl⟩ ⟨by decide, rfl, Nat.le_of_ble_eq_true rfl, rfl, by decide, by decide⟩ ?_
              refine c_madd (h := mm_wi h F4) hM s4 (by simp; omega) (fun F5 s5 c5 o5 => ?_)
              refine mv_aload_n (pc := 101) d_Mo_create_101 rfl ?_
              refine mv_iload_n (pc := 102) d_Mo_create_102 rfl ?_
              refine mv_iload_n (pc := 103) d_Mo_create_103 rfl ?_
              refine mv_iload_n (pc := 104) d_Mo_create_104 rfl ?_
              refine mr_callV3 (pc := 105) d_Mo_create_105 (d2 := (0, 0)) ok_Mo_make li_Mo_98 sv_Mo_make hM.1 ⟨by decide, rfl⟩ ⟨by decide, rfl, rfl, rfl, Nat.le_of_ble_eq_true rfl, rfl, by decide, by decide⟩ ?_
              refine c_make (k := 0) (h := mm_wi h F5) (by omega) hM hi s5.1 (fun F6 r6 f6 _ => ?_)
              have g6 : F6 54 (16 * 0 + i) = A 0 i := by rw [(r6.2.1 i hi).1]; simp [a_set]
              refine mv_iload_n (pc := 108) d_Mo_create_108 rfl ?_
              refine mv_bipush (v := 16) (pc := 109) d_Mo_create_109 (by decide) ?_
              refine mv_aload_n (pc := 111) d_Mo_create_111 rfl ?_
              refine mr_getr (pc := 112) d_Mo_create_112 fl_Mo_13 hM.1 rfl (by decide) hM.g_generation ?_
              refine mv_iload_n (pc := 115) d_Mo_create_115 rfl ?_
              refine mr_iald (pc := 116) d_Mo_create_116 hM.a_generation (mm_inN (by omega) (by decide)) ?_
              rw [mm_cl (by omega), show mm_gi (mm_wi (mm_wi h F5) F6) 54 (16 * 0 + i) = A 0 i from g6, Nat.mul_zero, Nat.zero_add]
              refine mv_imul (pc := 117) d_Mo_create_117 ?_
              refine mv_iadd (pc := 118) d_Mo_create_118 ?_
              refine mv_iret (pc := 119) d_Mo_create_119 rfl rfl ?_
              refine hq i F6 ⟨⟨Int32.not_lt.mp h8, Int32.not_lt.mp h15⟩, ⟨Int32.not_lt.mp h19, h26⟩⟩ hi hlow2 hz2 hroom2 (MS.world (A := A) (E := E) ?_ r6 (s5.2.1.off fun a j h1 h2 => f6 a j (by omega)) (fun j => f6 52 j (by omega)) (fun a j ha => f6 a j (by omega))) ?_ ?_
              · show MS F5 A E sv _
                rw [mm_e1, mm_e2, mm_e2]
                simpa only [List.append_assoc, List.cons_append, List.nil_append] using s5
              · rw [f6 52 0 (by omega)]; exact c5.trans (c4.trans (c3.trans (c2.trans (c1.trans (by simp [mm_gsi])))))
              · exact ((mm_ofr.rfl'.cd 0 0).trans (o1.trans (o2.trans (o3.trans (o4.trans o5))))).trans f6.s.o
            · refine mv_iconst (v := 3) (pc := 53) d_Mo_create_53 (by decide) ?_
              refine mv_goto 58 (pc := 54) d_Mo_create_54 (by decide) ?_
              refine mr_puti (pc := 58) d_Mo_create_58 fl_Mo_69 hM.1 rfl (by decide) ⟨rfl, rfl⟩ ?_
              refine mv_aload_n (pc := 61) d_Mo_create_61 rfl ?_
              refine mr_geti (pc := 62) d_Mo_create_62 fl_Mo_69 hM.1 rfl (by decide) ?_
              rw [mm_gss]
              refine mv_if_le 70 (pc := 65) d_Mo_create_65 (by decide) (fun z => absurd z (by decide)) (fun _ => ?_)
              refine mv_iconst (v := 0) (pc := 68) d_Mo_create_68 (by decide) ?_
              refine mv_iret (pc := 69) d_Mo_create_69 rfl rfl ?_
              exact hq3 i _ ⟨⟨Int32.not_lt.mp h8, Int32.not_lt.mp h15⟩, ⟨Int32.not_lt.mp h19, h26⟩⟩ hi hz2 (fun z => h50 ((mm_roomI (n := 5) (by have := hS.2.2.2.2.2; omega) (by omega)).mpr z)) (hS.code 3) (by simp [mm_u2]) (mm_ofr.rfl'.cd 0 3)
          · refine mv_iconst (v := 1) (pc := 29) d_Mo_create_29 (by decide) ?_
            refine mv_goto 58 (pc := 30) d_Mo_create_30 (by decide) ?_
            refine mr_puti (pc := 58) d_Mo_create_58 fl_Mo_69 hM.1 rfl (by decide) ⟨rfl, rfl⟩ ?_
            refine mv_aload_n (pc := 61) d_Mo_create_61 rfl ?_
            refine mr_geti (pc := 62) d_Mo_create_62 fl_Mo_69 hM.1 rfl (by decide) ?_
            rw [mm_gss]
            refine mv_if_le 70 (pc := 65) d_Mo_create_65 (by decide) (fun z => absurd z (by decide)) (fun _ => ?_)
            refine mv_iconst (v := 0) (pc := 68) d_Mo_create_68 (by decide) ?_
            refine mv_iret (pc := 69) d_Mo_create_69 rfl rfl ?_
            exact hq1 _ (fun z => h26 z.2.2) (hS.code 1) (by simp [mm_u2]) (mm_ofr.rfl'.cd 0 1)
  · have hall2 : ∀ j, j < 16 → ¬ A 1 j = 0 := fun j hj => by rw [← (hS.1.2.1 j hj).2.1]; exact hall j hj
    refine mv_istore_n (pc := 5) d_Mo_create_5 (by decide) ?_
    refine mv_aload_n (pc := 6) d_Mo_create_6 rfl ?_
    refine mv_iload_n (pc := 7) d_Mo_create_7 rfl ?_
    refine mv_if_lt 29 (pc := 8) d_Mo_create_8 (by decide) (fun h8 => ?_) (fun h8 => ?_)
    · refine mv_iconst (v := 1) (pc := 29) d_Mo_create_29 (by decide) ?_
      refine mv_goto 58 (pc := 30) d_Mo_create_30 (by decide) ?_
      refine mr_puti (pc := 58) d_Mo_create_58 fl_Mo_69 hM.1 rfl (by decide) ⟨rfl, rfl⟩ ?_
      refine mv_aload_n (pc := 61) d_Mo_create_61 rfl ?_
      refine mr_geti (pc := 62) d_Mo_create_62 fl_Mo_69 hM.1 rfl (by decide) ?_
      rw [mm_gss]
      refine mv_if_le 70 (pc := 65) d_Mo_create_65 (by decide) (fun z => absurd z (by decide)) (fun _ => ?_)
      refine mv_iconst (v := 0) (pc := 68) d_Mo_create_68 (by decide) ?_
      refine mv_iret (pc := 69) d_Mo_create_69 rfl rfl ?_
      exact hq1 _ (fun z => Int32.not_lt.mpr z.1.1 h8) (hS.code 1) (by simp [mm_u2]) (mm_ofr.rfl'.cd 0 1)
    · refine mv_iload_n (pc := 11) d_Mo_create_11 rfl ?_
      refine mv_sipush (v := 4095) (pc := 12) d_Mo_create_12 (by decide) ?_
      refine mv_ic_gt 29 (pc := 15) d_Mo_create_15 (by decide) (fun h15 => ?_) (fun h15 => ?_)
      · refine mv_iconst (v := 1) (pc := 29) d_Mo_create_29 (by decide) ?_
        refine mv_goto 58 (pc := 30) d_Mo_create_30 (by decide) ?_
        refine mr_puti (pc := 58) d_Mo_create_58 fl_Mo_69 hM.1 rfl (by decide) ⟨rfl, rfl⟩ ?_
        refine mv_aload_n (pc := 61) d_Mo_create_61 rfl ?_
        refine mr_geti (pc := 62) d_Mo_create_62 fl_Mo_69 hM.1 rfl (by decide) ?_
        rw [mm_gss]
        refine mv_if_le 70 (pc := 65) d_Mo_create_65 (by decide) (fun z => absurd z (by decide)) (fun _ => ?_)
        refine mv_iconst (v := 0) (pc := 68) d_Mo_create_68 (by decide) ?_
        refine mv_iret (pc := 69) d_Mo_create_69 rfl rfl ?_
        exact hq1 _ (fun z => Int32.not_lt.mpr z.1.2 h15) (hS.code 1) (by simp [mm_u2]) (mm_ofr.rfl'.cd 0 1)
      · refine mv_iload_n (pc := 18) d_Mo_create_18 rfl ?_
        refine mv_if_lt 29 (pc := 19) d_Mo_create_19 (by decide) (fun h19 => ?_) (fun h19 => ?_)
        · refine mv_iconst (v := 1) (pc := 29) d_Mo_create_29 (by decide) ?_
          refine mv_goto 58 (pc := 30) d_Mo_create_30 (by decide) ?_
          refine mr_puti (pc := 58) d_Mo_create_58 fl_Mo_69 hM.1 rfl (by decide) ⟨rfl, rfl⟩ ?_
          refine mv_aload_n (pc := 61) d_Mo_create_61 rfl ?_
          refine mr_geti (pc := 62) d_Mo_create_62 fl_Mo_69 hM.1 rfl (by decide) ?_
          rw [mm_gss]
          refine mv_if_le 70 (pc := 65) d_Mo_create_65 (by decide) (fun z => absurd z (by decide)) (fun _ => ?_)
          refine mv_iconst (v := 0) (pc := 68) d_Mo_create_68 (by decide) ?_
          refine mv_iret (pc := 69) d_Mo_create_69 rfl rfl ?_
          exact hq1 _ (fun z => Int32.not_lt.mpr z.2.1 h19) (hS.code 1) (by simp [mm_u2]) (mm_ofr.rfl'.cd 0 1)
        · refine mv_iload_n (pc := 22) d_Mo_create_22 rfl ?_
          refine mv_sipush (v := 4095) (pc := 23) d_Mo_create_23 (by decide) ?_
          refine mv_ic_le 33 (pc := 26) d_Mo_create_26 (by decide) (fun h26 => ?_) (fun h26 => ?_)
          · refine mv_iload_n (pc := 33) d_Mo_create_33 rfl ?_
            refine mv_if_ge 41 (pc := 34) d_Mo_create_34 (by decide) (fun z => absurd z (by decide)) (fun _ => ?_)
            refine mv_iconst (v := 2) (pc := 37) d_Mo_create_37 (by decide) ?_
            refine mv_goto 58 (pc := 38) d_Mo_create_38 (by decide) ?_
            refine mr_puti (pc := 58) d_Mo_create_58 fl_Mo_69 hM.1 rfl (by decide) ⟨rfl, rfl⟩ ?_
            refine mv_aload_n (pc := 61) d_Mo_create_61 rfl ?_
            refine mr_geti (pc := 62) d_Mo_create_62 fl_Mo_69 hM.1 rfl (by decide) ?_
            rw [mm_gss]
            refine mv_if_le 70 (pc := 65) d_Mo_create_65 (by decide) (fun z => absurd z (by decide)) (fun _ => ?_)
            refine mv_iconst (v := 0) (pc := 68) d_Mo_create_68 (by decide) ?_
            refine mv_iret (pc := 69) d_Mo_create_69 rfl rfl ?_
            exact hq2 _ ⟨⟨Int32.not_lt.mp h8, Int32.not_lt.mp h15⟩, ⟨Int32.not_lt.mp h19, h26⟩⟩ hall2 (hS.code 2) (by simp [mm_u2]) (mm_ofr.rfl'.cd 0 2)
          · refine mv_iconst (v := 1) (pc := 29) d_Mo_create_29 (by decide) ?_
            refine mv_goto 58 (pc := 30) d_Mo_create_30 (by decide) ?_
            refine mr_puti (pc := 58) d_Mo_create_58 fl_Mo_69 hM.1 rfl (by decide) ⟨rfl, rfl⟩ ?_
            refine mv_aload_n (pc := 61) d_Mo_create_61 rfl ?_
            refine mr_geti (pc := 62) d_Mo_create_62 fl_Mo_69 hM.1 rfl (by decide) ?_
            rw [mm_gss]
            refine mv_if_le 70 (pc := 65) d_Mo_create_65 (by decide) (fun z => absurd z (by decide)) (fun _ => ?_)
            refine mv_iconst (v := 0) (pc := 68) d_Mo_create_68 (by decide) ?_
            refine mv_iret (pc := 69) d_Mo_create_69 rfl rfl ?_
            exact hq1 _ (fun z => h26 z.2.2) (hS.code 1) (by simp [mm_u2]) (mm_ofr.rfl'.cd 0 1)
set_option maxRecDepth 20000 in
theorem c_mdestroy {G : mm_G} {Q : mm_O → mm_H → Prop} {h : mm_H} {i : Nat} {x : Int32} {A : mm_W} {E : mm_E} {sv lg : List Int32} (hM : mm_Mo h) (hS : MS (mm_gi h) A E sv lg) (hW : WF A) (hi : i < 16) (hx : x &&& 15 = nI i) (hq1 : ∀ F', ¬ a_good A x i → MS F' A E sv lg → F' 52 0 = 1 → mm_ofr (mm_gi h) F' → Q (.inl none) (mm_wi h F')) (hq2 : ∀ F', a_good A x i → ¬ lg.length + 4 ≤ 400 → MS F' A E sv lg → F' 52 0 = 2 → mm_ofr (mm_gi h) F' → Q (.inl none) (mm_wi h F')) (hq : ∀ F', a_good A x i → lg.length + 4 ≤ 400 → MS F' (a_rem A i) E sv (lg ++ (mm_enc 2 1 ++ mm_enc x 3)) → F' 52 0 = 0 → mm_ofr (mm_gi h) F' → Q (.inl none) (mm_wi h F')) : mm_V G (5, 122) M_Mo_destroy Q 0 (mm_ent 3 [.ref 52, .int x]) [] h := by
  show mm_V G (5, 122) M_Mo_destroy Q 0 [some (.ref 52), some (.int x), none] [] h
  refine mv_aload_n (pc := 0) d_Mo_destroy_0 rfl ?_
  refine mv_iload_n (pc := 1) d_Mo_destroy_1 rfl ?_
  refine mv_iconst (v := 2) (pc := 2) d_Mo_destroy_2 (by decide) ?_
  refine mv_iconst (v := 0) (pc := 3) d_Mo_destroy_3 (by decide) ?_
  refine mv_iconst (v := 0) (pc := 4) d_Mo_destroy_4 (by decide) ?_
  refine mv_iconst (v := 4) (pc := 5) d_Mo_destroy_5 (by decide) ?_
  refine mr_callV5 (pc := 6) d_Mo_destroy_6 (d2 := (4, 97)) ok_Mo_allowed li_Mo_123 sv_Mo_allowed hM.1 ⟨by decide, rfl⟩ ⟨by decide, rfl, rfl, rfl, rfl, rfl, Nat.le_of_ble_eq_true rfl, rfl, by decide, by decide⟩ ?_
  refine c_allowed2 hM hS hW hi hx (fun F1 n1 s1 c1 o1 => ?_) (fun F1 g1 t1 n1 s1 c1 o1 => ?_) (fun F1 g1 t1 n1 s1 c1 o1 => ?_)
  · refine mv_istore_n (pc := 9) d_Mo_destroy_9 (by decide) ?_
    refine mv_ret (pc := 10) d_Mo_destroy_10 rfl ?_
    exact hq1 F1 (fun z => n1 ⟨z, by unfold a_fit; simp⟩) s1 c1 o1
  · refine mv_istore_n (pc := 9) d_Mo_destroy_9 (by decide) ?_
    refine mv_ret (pc := 10) d_Mo_destroy_10 rfl ?_
    exact hq2 F1 g1 n1 s1 c1 o1
  · refine mv_istore_n (pc := 9) d_Mo_destroy_9 (by decide) ?_
    refine mv_ret (pc := 10) d_Mo_destroy_10 rfl ?_
    exact hq F1 g1 n1 (by show MS F1 (a_ord A 2 i 0 0) E sv _; simpa only [List.append_assoc] using s1) c1 o1
set_option maxRecDepth 20000 in
theorem c_mspeed {G : mm_G} {Q : mm_O → mm_H → Prop} {h : mm_H} {i : Nat} {x : Int32} {a b : Int32} {A : mm_W} {E : mm_E} {sv lg : List Int32} (hM : mm_Mo h) (hS : MS (mm_gi h) A E sv lg) (hW : WF A) (hi : i < 16) (hx : x &&& 15 = nI i) (hq1 : ∀ F', ¬ (a_good A x i ∧ ((-100 ≤ a ∧ a ≤ 100) ∧ (-100 ≤ b ∧ b ≤ 100))) → MS F' A E sv lg → F' 52 0 = 1 → mm_ofr (mm_gi h) F' → Q (.inl none) (mm_wi h F')) (hq2 : ∀ F', a_good A x i → ((-100 ≤ a ∧ a ≤ 100) ∧ (-100 ≤ b ∧ b ≤ 100)) → ¬ lg.length + 6 ≤ 400 → MS F' A E sv lg → F' 52 0 = 2 → mm_ofr (mm_gi h) F' → Q (.inl none) (mm_wi h F')) (hq : ∀ F', a_good A x i → ((-100 ≤ a ∧ a ≤ 100) ∧ (-100 ≤ b ∧ b ≤ 100)) → lg.length + 6 ≤ 400 → MS F' (a_put (a_put A 4 i a) 5 i b) E sv (lg ++ (mm_enc 3 1 ++ mm_enc x 3 ++ mm_enc (a + 128) 1 ++ mm_enc (b + 128) 1)) → F' 52 0 = 0 → mm_ofr (mm_gi h) F' → Q (.inl none) (mm_wi h F')) : mm_V G (5, 122) M_Mo_speed Q 0 (mm_ent 4 [.ref 52, .int x, .int a, .int b]) [] h := by
  show mm_V G (5, 122) M_Mo_speed Q 0 [some (.ref 52), some (.int x), some (.int a), some (.int b)] [] h
  refine mv_aload_n (pc := 0) d_Mo_speed_0 rfl ?_
  refine mv_iload_n (pc := 1) d_Mo_speed_1 rfl ?_
  refine mv_iconst (v := 3) (pc := 2) d_Mo_speed_2 (by decide) ?_
  refine mv_iload_n (pc := 3) d_Mo_speed_3 rfl ?_
  refine mv_iload_n (pc := 4) d_Mo_speed_4 rfl ?_
  refine mv_bipush (v := 6) (pc := 5) d_Mo_speed_5 (by decide) ?_
  refine mr_callV5 (pc := 7) d_Mo_speed_7 (d2 := (4, 97)) ok_Mo_allowed li_Mo_123 sv_Mo_allowed hM.1 ⟨by decide, rfl⟩ ⟨by decide, rfl, rfl, rfl, rfl, rfl, Nat.le_of_ble_eq_true rfl, rfl, by decide, by decide⟩ ?_
  refine c_allowed3 hM hS hW hi hx (fun F1 n1 s1 c1 o1 => ?_) (fun F1 g1 t1 n1 s1 c1 o1 => ?_) (fun F1 g1 t1 n1 s1 c1 o1 => ?_)
  · refine mv_if_eq 31 (pc := 10) d_Mo_speed_10 (by decide) (fun _ => ?_) (fun z => absurd z (by decide))
    refine mv_ret (pc := 31) d_Mo_speed_31 rfl ?_
    exact hq1 F1 (fun z => n1 ⟨z.1, by unfold a_fit; simp [z.2]⟩) s1 c1 o1
  · refine mv_if_eq 31 (pc := 10) d_Mo_speed_10 (by decide) (fun _ => ?_) (fun z => absurd z (by decide))
    refine mv_ret (pc := 31) d_Mo_speed_31 rfl ?_
    exact hq2 F1 g1 (t1.1 rfl) n1 s1 c1 o1
  · refine mv_if_eq 31 (pc := 10) d_Mo_speed_10 (by decide) (fun z => absurd z (by decide)) (fun _ => ?_)
    refine mv_aload_n (pc := 13) d_Mo_speed_13 rfl ?_
    refine mv_iload_n (pc := 14) d_Mo_speed_14 rfl ?_
    refine mv_sipush (v := 128) (pc := 15) d_Mo_speed_15 (by decide) ?_
    refine mv_iadd (pc := 18) d_Mo_speed_18 ?_
    refine mr_callV1 (pc := 19) d_Mo_speed_19 (d2 := (0, 0)) ok_Mo_add li_Mo_113 sv_Mo_add hM.1 ⟨by decide, rfl⟩ ⟨by decide, rfl, Nat.le_of_ble_eq_true rfl, rfl, by decide, by decide⟩ ?_
    refine c_madd (h := mm_wi h F1) hM s1 (by simp [mm_enc_len]; omega) (fun F2 s2 c2 o2 => ?_)
    refine mv_aload_n (pc := 22) d_Mo_speed_22 rfl ?_
    refine mv_iload_n (pc := 23) d_Mo_speed_23 rfl ?_
    refine mv_sipush (v := 128) (pc := 24) d_Mo_speed_24 (by decide) ?_
    refine mv_iadd (pc := 27) d_Mo_speed_27 ?_
    refine mr_callV1 (pc := 28) d_Mo_speed_28 (d2 := (0, 0)) ok_Mo_add li_Mo_113 sv_Mo_add hM.1 ⟨by decide, rfl⟩ ⟨by decide, rfl, Nat.le_of_ble_eq_true rfl, rfl, by decide, by decide⟩ ?_
    refine c_madd (h := mm_wi h F2) hM s2 (by simp [mm_enc_len]; omega) (fun F3 s3 c3 o3 => ?_)
    refine mv_ret (pc := 31) d_Mo_speed_31 rfl ?_
    exact hq F3 g1 (t1.1 rfl) n1 (by show MS F3 (a_ord A 3 i a b) E sv _; rw [mm_e1 (a + 128), mm_e1 (b + 128)]; simpa only [List.append_assoc, List.cons_append, List.nil_append] using s3) (c3.trans (c2.trans c1)) (o1.trans (o2.trans o3))
set_option maxRecDepth 20000 in
theorem c_mshape {G : mm_G} {Q : mm_O → mm_H → Prop} {h : mm_H} {i : Nat} {x : Int32} {a b : Int32} {A : mm_W} {E : mm_E} {sv lg : List Int32} (hM : mm_Mo h) (hS : MS (mm_gi h) A E sv lg) (hW : WF A) (hi : i < 16) (hx : x &&& 15 = nI i) (hq1 : ∀ F', ¬ (a_good A x i ∧ ((a = 0 ∧ b = 0) ∨ ((1 ≤ a ∧ a ≤ 200) ∧ (1 ≤ b ∧ b ≤ 200)))) → MS F' A E sv lg → F' 52 0 = 1 → mm_ofr (mm_gi h) F' → Q (.inl none) (mm_wi h F')) (hq2 : ∀ F', a_good A x i → ((a = 0 ∧ b = 0) ∨ ((1 ≤ a ∧ a ≤ 200) ∧ (1 ≤ b ∧ b ≤ 200))) → ¬ lg.length + 6 ≤ 400 → MS F' A E sv lg → F' 52 0 = 2 → mm_ofr (mm_gi h) F' → Q (.inl none) (mm_wi h F')) (hq : ∀ F', a_good A x i → ((a = 0 ∧ b = 0) ∨ ((1 ≤ a ∧ a ≤ 200) ∧ (1 ≤ b ∧ b ≤ 200))) → lg.length + 6 ≤ 400 → MS F' (a_put (a_put A 6 i a) 7 i b) E sv (lg ++ (mm_enc 4 1 ++ mm_enc x 3 ++ mm_enc a 1 ++ mm_enc b 1)) → F' 52 0 = 0 → mm_ofr (mm_gi h) F' → Q (.inl none) (mm_wi h F')) : mm_V G (5, 122) M_Mo_shape Q 0 (mm_ent 4 [.ref 52, .int x, .int a, .int b]) [] h := by
  show mm_V G (5, 122) M_Mo_shape Q 0 [some (.ref 52), some (.int x), some (.int a), some (.int b)] [] h
  refine mv_aload_n (pc := 0) d_Mo_shape_0 rfl ?_
  refine mv_iload_n (pc := 1) d_Mo_shape_1 rfl ?_
  refine mv_iconst (v := 4) (pc := 2) d_Mo_shape_2 (by decide) ?_
  refine mv_iload_n (pc := 3) d_Mo_shape_3 rfl ?_
  refine mv_iload_n (pc := 4) d_Mo_shape_4 rfl ?_
  refine mv_bipush (v := 6) (pc := 5) d_Mo_shape_5 (by decide) ?_
  refine mr_callV5 (pc := 7) d_Mo_shape_7 (d2 := (4, 97)) ok_Mo_allowed li_Mo_123 sv_Mo_allowed hM.1 ⟨by decide, rfl⟩ ⟨by decide, rfl, rfl, rfl, rfl, rfl, Nat.le_of_ble_eq_true rfl, rfl, by decide, by decide⟩ ?_
  refine c_allowed4 hM hS hW hi hx (fun F1 n1 s1 c1 o1 => ?_) (fun F1 g1 t1 n1 s1 c1 o1 => ?_) (fun F1 g1 t1 n1 s1 c1 o1 => ?_)
  · refine mv_if_eq 23 (pc := 10) d_Mo_shape_10 (by decide) (fun _ => ?_) (fun z => absurd z (by decide))
    refine mv_ret (pc := 23) d_Mo_shape_23 rfl ?_
    exact hq1 F1 (fun z => n1 ⟨z.1, by unfold a_fit; simp [z.2]⟩) s1 c1 o1
  · refine mv_if_eq 23 (pc := 10) d_Mo_shape_10 (by decide) (fun _ => ?_) (fun z => absurd z (by decide))
    refine mv_ret (pc := 23) d_Mo_shape_23 rfl ?_
    exact hq2 F1 g1 (t1.2.1 rfl) n1 s1 c1 o1
  · refine mv_if_eq 23 (pc := 10) d_Mo_shape_10 (by decide) (fun z => absurd z (by decide)) (fun _ => ?_)
    refine mv_aload_n (pc := 13) d_Mo_shape_13 rfl ?_
    refine mv_iload_n (pc := 14) d_Mo_shape_14 rfl ?_
    refine mr_callV1 (pc := 15) d_Mo_shape_15 (d2 := (0, 0)) ok_Mo_add li_Mo_113 sv_Mo_add hM.1 ⟨by decide, rfl⟩ ⟨by decide, rfl, Nat.le_of_ble_eq_true rfl, rfl, by decide, by decide⟩ ?_
    refine c_madd (h := mm_wi h F1) hM s1 (by simp [mm_enc_len]; omega) (fun F2 s2 c2 o2 => ?_)
    refine mv_aload_n (pc := 18) d_Mo_shape_18 rfl ?_
    refine mv_iload_n (pc := 19) d_Mo_shape_19 rfl ?_
    refine mr_callV1 (pc := 20) d_Mo_shape_20 (d2 := (0, 0)) ok_Mo_add li_Mo_113 sv_Mo_add hM.1 ⟨by decide, rfl⟩ ⟨by decide, rfl, Nat.le_of_ble_eq_true rfl, rfl, by decide, by decide⟩ ?_
    refine c_madd (h := mm_wi h F2) hM s2 (by simp [mm_enc_len]; omega) (fun F3 s3 c3 o3 => ?_)
    refine mv_ret (pc := 23) d_Mo_shape_23 rfl ?_
    exact hq F3 g1 (t1.2.1 rfl) n1 (by show MS F3 (a_ord A 4 i a b) E sv _; rw [mm_e1 a, mm_e1 b]; simpa only [List.append_assoc, List.cons_append, List.nil_append] using s3) (c3.trans (c2.trans c1)) (o1.trans (o2.trans o3))
set_option maxRecDepth 20000 in
theorem c_mtimer {G : mm_G} {Q : mm_O → mm_H → Prop} {h : mm_H} {i : Nat} {x : Int32} {a b : Int32} {A : mm_W} {E : mm_E} {sv lg : List Int32} (hM : mm_Mo h) (hS : MS (mm_gi h) A E sv lg) (hW : WF A) (hi : i < 16) (hx : x &&& 15 = nI i) (hq1 : ∀ F', ¬ (a_good A x i ∧ (a = 0 ∨ (1 ≤ a ∧ a ≤ 60000))) → MS F' A E sv lg → F' 52 0 = 1 → mm_ofr (mm_gi h) F' → Q (.inl none) (mm_wi h F')) (hq2 : ∀ F', a_good A x i → (a = 0 ∨ (1 ≤ a ∧ a ≤ 60000)) → ¬ lg.length + 6 ≤ 400 → MS F' A E sv lg → F' 52 0 = 2 → mm_ofr (mm_gi h) F' → Q (.inl none) (mm_wi h F')) (hq : ∀ F', a_good A x i → (a = 0 ∨ (1 ≤ a ∧ a ≤ 60000)) → lg.length + 6 ≤ 400 → MS F' (a_put A 8 i a) E sv (lg ++ (mm_enc 5 1 ++ mm_enc x 3 ++ mm_enc a 2)) → F' 52 0 = 0 → mm_ofr (mm_gi h) F' → Q (.inl none) (mm_wi h F')) : mm_V G (5, 122) M_Mo_timer Q 0 (mm_ent 3 [.ref 52, .int x, .int a]) [] h := by
  show mm_V G (5, 122) M_Mo_timer Q 0 [some (.ref 52), some (.int x), some (.int a)] [] h
  refine mv_aload_n (pc := 0) d_Mo_timer_0 rfl ?_
  refine mv_iload_n (pc := 1) d_Mo_timer_1 rfl ?_
  refine mv_iconst (v := 5) (pc := 2) d_Mo_timer_2 (by decide) ?_
  refine mv_iload_n (pc := 3) d_Mo_timer_3 rfl ?_
  refine mv_iconst (v := 0) (pc := 4) d_Mo_timer_4 (by decide) ?_
  refine mv_bipush (v := 6) (pc := 5) d_Mo_timer_5 (by decide) ?_
  refine mr_callV5 (pc := 7) d_Mo_timer_7 (d2 := (4, 97)) ok_Mo_allowed li_Mo_123 sv_Mo_allowed hM.1 ⟨by decide, rfl⟩ ⟨by decide, rfl, rfl, rfl, rfl, rfl, Nat.le_of_ble_eq_true rfl, rfl, by decide, by decide⟩ ?_
  refine c_allowed5 hM hS hW hi hx (fun F1 n1 s1 c1 o1 => ?_) (fun F1 g1 t1 n1 s1 c1 o1 => ?_) (fun F1 g1 t1 n1 s1 c1 o1 => ?_)
  · refine mv_if_eq 26 (pc := 10) d_Mo_timer_10 (by decide) (fun _ => ?_) (fun z => absurd z (by decide))
    refine mv_ret (pc := 26) d_Mo_timer_26 rfl ?_
    exact hq1 F1 (fun z => n1 ⟨z.1, by unfold a_fit; simp [mm_tm.mpr z.2]⟩) s1 c1 o1
  · refine mv_if_eq 26 (pc := 10) d_Mo_timer_10 (by decide) (fun _ => ?_) (fun z => absurd z (by decide))
    refine mv_ret (pc := 26) d_Mo_timer_26 rfl ?_
    exact hq2 F1 g1 (mm_tm.mp (t1.2.2 rfl)) n1 s1 c1 o1
  · refine mv_if_eq 26 (pc := 10) d_Mo_timer_10 (by decide) (fun z => absurd z (by decide)) (fun _ => ?_)
    refine mv_aload_n (pc := 13) d_Mo_timer_13 rfl ?_
    refine mv_iload_n (pc := 14) d_Mo_timer_14 rfl ?_
    refine mv_bipush (v := 8) (pc := 15) d_Mo_timer_15 (by decide) ?_
    refine mv_ishr (pc := 17) d_Mo_timer_17 ?_
    refine mr_callV1 (pc := 18) d_Mo_timer_18 (d2 := (0, 0)) ok_Mo_add li_Mo_113 sv_Mo_add hM.1 ⟨by decide, rfl⟩ ⟨by decide, rfl, Nat.le_of_ble_eq_true rfl, rfl, by decide, by decide⟩ ?_
    refine c_madd (h := mm_wi h F1) hM s1 (by simp [mm_enc_len]; omega) (fun F2 s2 c2 o2 => ?_)
    refine mv_aload_n (pc := 21) d_Mo_timer_21 rfl ?_
    refine mv_iload_n (pc := 22) d_Mo_timer_22 rfl ?_
    refine mr_callV1 (pc := 23) d_Mo_timer_23 (d2 := (0, 0)) ok_Mo_add li_Mo_113 sv_Mo_add hM.1 ⟨by decide, rfl⟩ ⟨by decide, rfl, Nat.le_of_ble_eq_true rfl, rfl, by decide, by decide⟩ ?_
    refine c_madd (h := mm_wi h F2) hM s2 (by simp [mm_enc_len]; omega) (fun F3 s3 c3 o3 => ?_)
    refine mv_ret (pc := 26) d_Mo_timer_26 rfl ?_
    exact hq F3 g1 (mm_tm.mp (t1.2.2 rfl)) n1 (by show MS F3 (a_ord A 5 i a 0) E sv _; rw [mm_e2 a]; simpa only [List.append_assoc, List.cons_append, List.nil_append] using s3) (c3.trans (c2.trans c1)) (o1.trans (o2.trans o3))
theorem WF.tks {A : mm_W} {E : mm_E} (h : WF A) : ∀ n, WF (a_tks (E, A) n).2
  | 0 => h
  | n + 1 => (WF.tks h n).step
set_option maxRecDepth 20000 in
theorem l_mtick {G : mm_G} {Q : mm_O → mm_H → Prop} {h : mm_H} {n : Nat} {A : mm_W} {E : mm_E} {sv lg : List Int32} (hM : mm_Mo h) (hW : WF A) (hn : n ≤ 50) (hl : lg.length + n ≤ 400) (F0 : mm_W)
    (hq : ∀ F', MS F' (a_tks (E, A) n).2 (a_tks (E, A) n).1 sv (lg ++ a_tl n) → F' 52 0 = 0 → mm_ofr F0 F' → Q (.inl (some (.int (nI (a_tks (E, A) n).1.length)))) (mm_wi h F')) :
    ∀ (j : Nat) (F : mm_W), j ≤ n → MS F (a_tks (E, A) j).2 (a_tks (E, A) j).1 sv (lg ++ a_tl j) ∧ F 52 0 = 0 ∧ mm_ofr F0 F → mm_V G (3, 70) M_Mo_tick Q 47 [some (.ref 52), some (.int (nI n)), some (.int (nI j))] [] (mm_wi h F) := by
  refine mr_loop _ _ n (fun F hI => ?_) (fun j F hj hI ih => ?_)
  · refine mv_iload_n (pc := 47) d_Mo_tick_47 rfl ?_
    refine mv_iload_n (pc := 48) d_Mo_tick_48 rfl ?_
    refine mv_ic_ge 69 (pc := 49) d_Mo_tick_49 (by decide) (fun h49 => ?_) (fun z => absurd z (fun z => z (nI_le (by omega) (by omega))))
    refine mv_aload_n (pc := 69) d_Mo_tick_69 rfl ?_
    refine mr_getr (pc := 70) d_Mo_tick_70 fl_Mo_44 hM.1 rfl (by decide) hM.g_events ?_
    refine mv_iconst (v := 0) (pc := 73) d_Mo_tick_73 (by decide) ?_
    refine mr_iald (pc := 74) d_Mo_tick_74 hM.a_events (mm_inN (n := 0) (by omega) (by decide)) ?_
    refine mv_iret (pc := 75) d_Mo_tick_75 rfl rfl ?_
    have e := hI.1.2.1.1
    rw [show mm_gi (mm_wi h F) 64 (0 : Int32).toNatClampNeg = nI (a_tks (E, A) n).1.length from e]
    exact hq F hI.1 hI.2.1 hI.2.2
  · refine mv_iload_n (pc := 47) d_Mo_tick_47 rfl ?_
    refine mv_iload_n (pc := 48) d_Mo_tick_48 rfl ?_
    refine mv_ic_ge 69 (pc := 49) d_Mo_tick_49 (by decide) (fun z => absurd z (nI_ge (by omega) (by omega))) (fun h49 => ?_)
    refine mv_aload_n (pc := 52) d_Mo_tick_52 rfl ?_
    refine mv_bipush (v := 6) (pc := 53) d_Mo_tick_53 (by decide) ?_
    refine mr_callV1 (pc := 55) d_Mo_tick_55 (d2 := (0, 0)) ok_Mo_add li_Mo_113 sv_Mo_add hM.1 ⟨by decide, rfl⟩ ⟨by decide, rfl, Nat.le_of_ble_eq_true rfl, rfl, by decide, by decide⟩ ?_
    refine c_madd (h := mm_wi h F) hM hI.1 (by rw [List.length_append, a_tl_len]; omega) (fun F1 s1 c1 o1 => ?_)
    refine mv_aload_n (pc := 58) d_Mo_tick_58 rfl ?_
    refine mv_iconst (v := 0) (pc := 59) d_Mo_tick_59 (by decide) ?_
    refine mr_callV1 (pc := 60) d_Mo_tick_60 (d2 := (2, 45)) ok_Mo_step li_Mo_91 sv_Mo_step hM.1 ⟨by decide, rfl⟩ ⟨by decide, rfl, Nat.le_of_ble_eq_true rfl, rfl, by decide, by decide⟩ ?_
    refine c_mstep (k := 0) (h := mm_wi h F1) (by omega) hM s1.1 (hW.tks j) (fun F2 r2 e2 f2 => ?_)
    refine mv_iinc (pc := 63) d_Mo_tick_63 rfl rfl (by decide) ?_
    refine mv_goto 47 (pc := 66) d_Mo_tick_66 (by decide) ?_
    refine mm_V_ls (ls' := [some (.ref 52), some (.int (nI n)), some (.int (nI (j + 1)))]) (by simp only [List.set]; rw [nI_succ]; rfl) (ih F2 ⟨?_, ?_, (hI.2.2.trans o1).trans f2.o⟩)
    · have s2 : MS F2 (a_step (a_tks (E, A) j).2).2 (a_step (a_tks (E, A) j).2).1 sv (lg ++ a_tl j ++ [6 &&& 255]) := MS.world (E := (a_tks (E, A) j).1) s1 r2 e2 (fun q => f2 52 q ⟨by omega, by omega⟩) (fun a q ha => f2 a q ⟨by omega, by omega⟩)
      rw [← mm_e1, List.append_assoc] at s2
      exact s2
    · exact (f2 52 0 ⟨by omega, by omega⟩).trans (c1.trans hI.2.1)
set_option maxRecDepth 20000 in
theorem c_mtick {G : mm_G} {Q : mm_O → mm_H → Prop} {h : mm_H} {A : mm_W} {E : mm_E} {sv lg : List Int32} (hM : mm_Mo h) (hS : MS (mm_gi h) A E sv lg) {x : Int32} (hW : WF A) (hq1 : ∀ F', ¬ (1 ≤ x ∧ x ≤ 50) → MS F' A E sv lg → F' 52 0 = 1 → mm_ofr (mm_gi h) F' → Q (.inl (some (.int (0)))) (mm_wi h F')) (hq2 : ∀ n F', x = nI n → 1 ≤ n → n ≤ 50 → ¬ lg.length + n ≤ 400 → MS F' A E sv lg → F' 52 0 = 2 → mm_ofr (mm_gi h) F' → Q (.inl (some (.int (0)))) (mm_wi h F')) (hq : ∀ n F', x = nI n → 1 ≤ n → n ≤ 50 → lg.length + n ≤ 400 → MS F' (a_tks (E, A) n).2 (a_tks (E, A) n).1 sv (lg ++ a_tl n) → F' 52 0 = 0 → mm_ofr (mm_gi h) F' → Q (.inl (some (.int (nI (a_tks (E, A) n).1.length)))) (mm_wi h F')) : mm_V G (3, 70) M_Mo_tick Q 0 (mm_ent 3 [.ref 52, .int x]) [] h := by
  show mm_V G (3, 70) M_Mo_tick Q 0 [some (.ref 52), some (.int x), none] [] h
  refine mv_aload_n (pc := 0) d_Mo_tick_0 rfl ?_
  refine mv_iload_n (pc := 1) d_Mo_tick_1 rfl ?_
  refine mv_iconst (v := 1) (pc := 2) d_Mo_tick_2 (by decide) ?_
  refine mv_ic_lt 12 (pc := 3) d_Mo_tick_3 (by decide) (fun h3 => ?_) (fun h3 => ?_)
  · refine mv_iconst (v := 1) (pc := 12) d_Mo_tick_12 (by decide) ?_
    refine mv_goto 33 (pc := 13) d_Mo_tick_13 (by decide) ?_
    refine mr_puti (pc := 33) d_Mo_tick_33 fl_Mo_69 hM.1 rfl (by decide) ⟨rfl, rfl⟩ ?_
    refine mv_aload_n (pc := 36) d_Mo_tick_36 rfl ?_
    refine mr_geti (pc := 37) d_Mo_tick_37 fl_Mo_69 hM.1 rfl (by decide) ?_
    rw [mm_gss]
    refine mv_if_le 45 (pc := 40) d_Mo_tick_40 (by decide) (fun z => absurd z (by decide)) (fun _ => ?_)
    refine mv_iconst (v := 0) (pc := 43) d_Mo_tick_43 (by decide) ?_
    refine mv_iret (pc := 44) d_Mo_tick_44 rfl rfl ?_
    exact hq1 _ (fun z => Int32.not_lt.mpr z.1 h3) (hS.code 1) (by simp [mm_u2]) (mm_ofr.rfl'.cd 0 1)
  · refine mv_iload_n (pc := 6) d_Mo_tick_6 rfl ?_
    refine mv_bipush (v := 50) (pc := 7) d_Mo_tick_7 (by decide) ?_
    refine mv_ic_le 16 (pc := 9) d_Mo_tick_9 (by decide) (fun h9 => ?_) (fun h9 => ?_)
    · have hr9 := hS.2.2.2.2.2
      obtain ⟨n, hn, hxn⟩ := nI_of2 (x := x) (M := 50) (n := 50) (by decide) (fun z => h3 (Int32.lt_trans z (by decide))) h9
      have hn1 : 1 ≤ n := by
        rw [hxn] at h3
        exact Nat.not_lt.mp fun z => h3 (nI_lt (b := 1) z (by decide))
      rw [hxn]
      refine mv_aload_n (pc := 16) d_Mo_tick_16 rfl ?_
      refine mr_geti (pc := 17) d_Mo_tick_17 fl_Mo_110 hM.1 rfl (by decide) ?_
      rw [show mm_gi h 52 18 = nI lg.length from hS.2.2.2.1.1]
      refine mv_iload_n (pc := 20) d_Mo_tick_20 rfl ?_
      refine mv_iadd (pc := 21) d_Mo_tick_21 ?_
      refine mv_sipush (v := 400) (pc := 22) d_Mo_tick_22 (by decide) ?_
      refine mv_ic_le 32 (pc := 25) d_Mo_tick_25 (by decide) (fun h25 => ?_) (fun h25 => ?_)
      · refine mv_iconst (v := 0) (pc := 32) d_Mo_tick_32 (by decide) ?_
        refine mr_puti (pc := 33) d_Mo_tick_33 fl_Mo_69 hM.1 rfl (by decide) ⟨rfl, rfl⟩ ?_
        refine mv_aload_n (pc := 36) d_Mo_tick_36 rfl ?_
        refine mr_geti (pc := 37) d_Mo_tick_37 fl_Mo_69 hM.1 rfl (by decide) ?_
        rw [mm_gss]
        refine mv_if_le 45 (pc := 40) d_Mo_tick_40 (by decide) (fun _ => ?_) (fun z => absurd z (by decide))
        refine mv_iconst (v := 0) (pc := 45) d_Mo_tick_45 (by decide) ?_
        refine mv_istore_n (pc := 46) d_Mo_tick_46 (by decide) ?_
        have hm : lg.length + n ≤ 400 := (mm_roomI (by omega) (by omega)).mp h25
        exact l_mtick hM hW hn hm (mm_gi h) (fun F' s c f => hq n F' hxn hn1 hn hm s c f) 0 _ (by omega) ⟨by rw [show lg ++ a_tl 0 = lg from List.append_nil lg]; exact hS.code 0, by simp [mm_u2], mm_ofr.rfl'.cd 0 0⟩
      · refine mv_iconst (v := 2) (pc := 28) d_Mo_tick_28 (by decide) ?_
        refine mv_goto 33 (pc := 29) d_Mo_tick_29 (by decide) ?_
        refine mr_puti (pc := 33) d_Mo_tick_33 fl_Mo_69 hM.1 rfl (by decide) ⟨rfl, rfl⟩ ?_
        refine mv_aload_n (pc := 36) d_Mo_tick_36 rfl ?_
        refine mr_geti (pc := 37) d_Mo_tick_37 fl_Mo_69 hM.1 rfl (by decide) ?_
        rw [mm_gss]
        refine mv_if_le 45 (pc := 40) d_Mo_tick_40 (by decide) (fun z => absurd z (by decide)) (fun _ => ?_)
        refine mv_iconst (v := 0) (pc := 43) d_Mo_tick_43 (by decide) ?_
        refine mv_iret (pc := 44) d_Mo_tick_44 rfl rfl ?_
        exact hq2 n _ hxn hn1 hn (fun z => h25 ((mm_roomI (by omega) (by omega)).mpr z)) (hS.code 2) (by simp [mm_u2]) (mm_ofr.rfl'.cd 0 2)
    · refine mv_iconst (v := 1) (pc := 12) d_Mo_tick_12 (by decide) ?_
      refine mv_goto 33 (pc := 13) d_Mo_tick_13 (by decide) ?_
      refine mr_puti (pc := 33) d_Mo_tick_33 fl_Mo_69 hM.1 rfl (by decide) ⟨rfl, rfl⟩ ?_
      refine mv_aload_n (pc := 36) d_Mo_tick_36 rfl ?_
      refine mr_geti (pc := 37) d_Mo_tick_37 fl_Mo_69 hM.1 rfl (by decide) ?_
      rw [mm_gss]
      refine mv_if_le 45 (pc := 40) d_Mo_tick_40 (by decide) (fun z => absurd z (by decide)) (fun _ => ?_)
      refine mv_iconst (v := 0) (pc := 43) d_Mo_tick_43 (by decide) ?_
      refine mv_iret (pc := 44) d_Mo_tick_44 rfl rfl ?_
      exact hq1 _ (fun z => h9 z.2) (hS.code 1) (by simp [mm_u2]) (mm_ofr.rfl'.cd 0 1)
set_option maxRecDepth 20000 in
theorem c_mevent {G : mm_G} {Q : mm_O → mm_H → Prop} {h : mm_H} {A : mm_W} {E : mm_E} {sv lg : List Int32} (hM : mm_Mo h) (hS : MS (mm_gi h) A E sv lg) {k b : Int32} (hE : a_okE E) (hq1 : ∀ F', (∀ j, j < E.length → ¬ k = nI j) → MS F' A E sv lg → F' 52 0 = 1 → mm_ofr (mm_gi h) F' → Q (.inl (some (.int (0)))) (mm_wi h F')) (hq2 : ∀ F' j, j < E.length → k = nI j → ¬ b = 0 → ¬ b = 1 → ¬ b = 2 → MS F' A E sv lg → F' 52 0 = 2 → mm_ofr (mm_gi h) F' → Q (.inl (some (.int (0)))) (mm_wi h F')) (hqa : ∀ F' j, j < E.length → k = nI j → b = 0 → MS F' A E sv lg → F' 52 0 = 0 → mm_ofr (mm_gi h) F' → Q (.inl (some (.int ((E.getD j (0, 0)).1)))) (mm_wi h F')) (hqb : ∀ F' j, j < E.length → k = nI j → b = 1 → MS F' A E sv lg → F' 52 0 = 0 → mm_ofr (mm_gi h) F' → Q (.inl (some (.int (nI ((E.getD j (0, 0)).2 / 16))))) (mm_wi h F')) (hqc : ∀ F' j, j < E.length → k = nI j → b = 2 → MS F' A E sv lg → F' 52 0 = 0 → mm_ofr (mm_gi h) F' → Q (.inl (some (.int (nI ((E.getD j (0, 0)).2 % 16))))) (mm_wi h F')) : mm_V G (0, 0) M_Mo_event Q 0 (mm_ent 3 [.ref 52, .int k, .int b]) [] h := by
  show mm_V G (0, 0) M_Mo_event Q 0 [some (.ref 52), some (.int k), some (.int b)] [] h
  refine mv_aload_n (pc := 0) d_Mo_event_0 rfl ?_
  refine mv_iload_n (pc := 1) d_Mo_event_1 rfl ?_
  refine mv_if_lt 15 (pc := 2) d_Mo_event_2 (by decide) (fun h2 => ?_) (fun h2 => ?_)
  · refine mv_iconst (v := 1) (pc := 15) d_Mo_event_15 (by decide) ?_
    refine mv_goto 33 (pc := 16) d_Mo_event_16 (by decide) ?_
    refine mr_puti (pc := 33) d_Mo_event_33 fl_Mo_69 hM.1 rfl (by decide) ⟨rfl, rfl⟩ ?_
    refine mv_aload_n (pc := 36) d_Mo_event_36 rfl ?_
    refine mr_geti (pc := 37) d_Mo_event_37 fl_Mo_69 hM.1 rfl (by decide) ?_
    rw [mm_gss]
    refine mv_if_le 45 (pc := 40) d_Mo_event_40 (by decide) (fun z => absurd z (by decide)) (fun _ => ?_)
    refine mv_iconst (v := 0) (pc := 43) d_Mo_event_43 (by decide) ?_
    refine mv_iret (pc := 44) d_Mo_event_44 rfl rfl ?_
    exact hq1 _ (mm_nidx (n := E.length) (by have := hE.1; omega) (Or.inl h2)) (hS.code 1) (by simp [mm_u2]) (mm_ofr.rfl'.cd 0 1)
  · refine mv_iload_n (pc := 5) d_Mo_event_5 rfl ?_
    refine mv_aload_n (pc := 6) d_Mo_event_6 rfl ?_
    refine mr_getr (pc := 7) d_Mo_event_7 fl_Mo_44 hM.1 rfl (by decide) hM.g_events ?_
    refine mv_iconst (v := 0) (pc := 10) d_Mo_event_10 (by decide) ?_
    refine mr_iald (pc := 11) d_Mo_event_11 hM.a_events (mm_inN (n := 0) (by omega) (by decide)) ?_
    rw [show mm_gi h 64 (0 : Int32).toNatClampNeg = nI E.length from hS.2.1.1]
    refine mv_ic_lt 19 (pc := 12) d_Mo_event_12 (by decide) (fun h12 => ?_) (fun h12 => ?_)
    · obtain ⟨j, hj, hkj⟩ := mm_idx2 (n := E.length) (by have := hE.1; omega) h2 h12
      have he := hS.2.1.at0 hj
      have hl0 := hE.1
      refine mv_iload_n (pc := 19) d_Mo_event_19 rfl ?_
      refine mv_if_lt 28 (pc := 20) d_Mo_event_20 (by decide) (fun h20 => ?_) (fun h20 => ?_)
      · refine mv_iconst (v := 2) (pc := 28) d_Mo_event_28 (by decide) ?_
        refine mv_goto 33 (pc := 29) d_Mo_event_29 (by decide) ?_
        refine mr_puti (pc := 33) d_Mo_event_33 fl_Mo_69 hM.1 rfl (by decide) ⟨rfl, rfl⟩ ?_
        refine mv_aload_n (pc := 36) d_Mo_event_36 rfl ?_
        refine mr_geti (pc := 37) d_Mo_event_37 fl_Mo_69 hM.1 rfl (by decide) ?_
        rw [mm_gss]
        refine mv_if_le 45 (pc := 40) d_Mo_event_40 (by decide) (fun z => absurd z (by decide)) (fun _ => ?_)
        refine mv_iconst (v := 0) (pc := 43) d_Mo_event_43 (by decide) ?_
        refine mv_iret (pc := 44) d_Mo_event_44 rfl rfl ?_
        obtain ⟨z0, z1, z2⟩ := mm_n2 (Or.inl h20)
        exact hq2 _ j hj hkj z0 z1 z2 (hS.code 2) (by simp [mm_u2]) (mm_ofr.rfl'.cd 0 2)
      · refine mv_iload_n (pc := 23) d_Mo_event_23 rfl ?_
        refine mv_iconst (v := 2) (pc := 24) d_Mo_event_24 (by decide) ?_
        refine mv_ic_le 32 (pc := 25) d_Mo_event_25 (by decide) (fun h25 => ?_) (fun h25 => ?_)
        · refine mv_iconst (v := 0) (pc := 32) d_Mo_event_32 (by decide) ?_
          refine mr_puti (pc := 33) d_Mo_event_33 fl_Mo_69 hM.1 rfl (by decide) ⟨rfl, rfl⟩ ?_
          refine mv_aload_n (pc := 36) d_Mo_event_36 rfl ?_
          refine mr_geti (pc := 37) d_Mo_event_37 fl_Mo_69 hM.1 rfl (by decide) ?_
          rw [mm_gss]
          refine mv_if_le 45 (pc := 40) d_Mo_event_40 (by decide) (fun _ => ?_) (fun z => absurd z (by decide))
          refine mv_iload_n (pc := 45) d_Mo_event_45 rfl ?_
          refine mv_if_ne 58 (pc := 46) d_Mo_event_46 (by decide) (fun h46 => ?_) (fun h46 => ?_)
          · refine mv_iload_n (pc := 58) d_Mo_event_58 rfl ?_
            refine mv_iconst (v := 1) (pc := 59) d_Mo_event_59 (by decide) ?_
            refine mv_ic_ne 72 (pc := 60) d_Mo_event_60 (by decide) (fun h60 => ?_) (fun h60 => ?_)
            · refine mv_aload_n (pc := 72) d_Mo_event_72 rfl ?_
              refine mr_getr (pc := 73) d_Mo_event_73 fl_Mo_53 hM.1 rfl (by decide) hM.g_second ?_
              refine mv_iload_n (pc := 76) d_Mo_event_76 rfl ?_
              refine mr_iald (pc := 77) d_Mo_event_77 hM.a_second (by rw [hkj]; exact mm_inN (by omega) (by decide)) ?_
              rw [hkj, mm_cl (by omega), show mm_gi (mm_si h 52 0 0) 67 j = nI ((E.getD j (0, 0)).2 % 16) from he.2.2]
              refine mv_iret (pc := 78) d_Mo_event_78 rfl rfl ?_
              exact hqc _ j hj hkj (mm_b2 h20 h25 h46 h60) (hS.code 0) (by simp [mm_u2]) (mm_ofr.rfl'.cd 0 0)
            · refine mv_aload_n (pc := 63) d_Mo_event_63 rfl ?_
              refine mr_getr (pc := 64) d_Mo_event_64 fl_Mo_50 hM.1 rfl (by decide) hM.g_first ?_
              refine mv_iload_n (pc := 67) d_Mo_event_67 rfl ?_
              refine mr_iald (pc := 68) d_Mo_event_68 hM.a_first (by rw [hkj]; exact mm_inN (by omega) (by decide)) ?_
              rw [hkj, mm_cl (by omega), show mm_gi (mm_si h 52 0 0) 66 j = nI ((E.getD j (0, 0)).2 / 16) from he.2.1]
              refine mv_goto 78 (pc := 69) d_Mo_event_69 (by decide) ?_
              refine mv_iret (pc := 78) d_Mo_event_78 rfl rfl ?_
              exact hqb _ j hj hkj h60 (hS.code 0) (by simp [mm_u2]) (mm_ofr.rfl'.cd 0 0)
          · refine mv_aload_n (pc := 49) d_Mo_event_49 rfl ?_
            refine mr_getr (pc := 50) d_Mo_event_50 fl_Mo_47 hM.1 rfl (by decide) hM.g_kind ?_
            refine mv_iload_n (pc := 53) d_Mo_event_53 rfl ?_
            refine mr_iald (pc := 54) d_Mo_event_54 hM.a_kind (by rw [hkj]; exact mm_inN (by omega) (by decide)) ?_
            rw [hkj, mm_cl (by omega), show mm_gi (mm_si h 52 0 0) 65 j = (E.getD j (0, 0)).1 from he.1]
            refine mv_goto 78 (pc := 55) d_Mo_event_55 (by decide) ?_
            refine mv_iret (pc := 78) d_Mo_event_78 rfl rfl ?_
            exact hqa _ j hj hkj h46 (hS.code 0) (by simp [mm_u2]) (mm_ofr.rfl'.cd 0 0)
        · refine mv_iconst (v := 2) (pc := 28) d_Mo_event_28 (by decide) ?_
          refine mv_goto 33 (pc := 29) d_Mo_event_29 (by decide) ?_
          refine mr_puti (pc := 33) d_Mo_event_33 fl_Mo_69 hM.1 rfl (by decide) ⟨rfl, rfl⟩ ?_
          refine mv_aload_n (pc := 36) d_Mo_event_36 rfl ?_
          refine mr_geti (pc := 37) d_Mo_event_37 fl_Mo_69 hM.1 rfl (by decide) ?_
          rw [mm_gss]
          refine mv_if_le 45 (pc := 40) d_Mo_event_40 (by decide) (fun z => absurd z (by decide)) (fun _ => ?_)
          refine mv_iconst (v := 0) (pc := 43) d_Mo_event_43 (by decide) ?_
          refine mv_iret (pc := 44) d_Mo_event_44 rfl rfl ?_
          obtain ⟨z0, z1, z2⟩ := mm_n2 (Or.inr h25)
          exact hq2 _ j hj hkj z0 z1 z2 (hS.code 2) (by simp [mm_u2]) (mm_ofr.rfl'.cd 0 2)
    · refine mv_iconst (v := 1) (pc := 15) d_Mo_event_15 (by decide) ?_
      refine mv_goto 33 (pc := 16) d_Mo_event_16 (by decide) ?_
      refine mr_puti (pc := 33) d_Mo_event_33 fl_Mo_69 hM.1 rfl (by decide) ⟨rfl, rfl⟩ ?_
      refine mv_aload_n (pc := 36) d_Mo_event_36 rfl ?_
      refine mr_geti (pc := 37) d_Mo_event_37 fl_Mo_69 hM.1 rfl (by decide) ?_
      rw [mm_gss]
      refine mv_if_le 45 (pc := 40) d_Mo_event_40 (by decide) (fun z => absurd z (by decide)) (fun _ => ?_)
      refine mv_iconst (v := 0) (pc := 43) d_Mo_event_43 (by decide) ?_
      refine mv_iret (pc := 44) d_Mo_event_44 rfl rfl ?_
      exact hq1 _ (mm_nidx (n := E.length) (by have := hE.1; omega) (Or.inr h12)) (hS.code 1) (by simp [mm_u2]) (mm_ofr.rfl'.cd 0 1)
set_option maxRecDepth 20000 in
theorem c_mgood {G : mm_G} {Q : mm_O → mm_H → Prop} {h : mm_H} {i : Nat} {x : Int32} {A : mm_W} {E : mm_E} {sv lg : List Int32} (hM : mm_Mo h) (hS : MS (mm_gi h) A E sv lg) (hW : WF A) (hi : i < 16) (hx : x &&& 15 = nI i) (hq1 : ∀ F', a_good A x i → MS F' A E sv lg → F' 52 0 = 0 → mm_ofr (mm_gi h) F' → Q (.inl (some (.int (1)))) (mm_wi h F')) (hq0 : ∀ F', ¬ a_good A x i → MS F' A E sv lg → F' 52 0 = 0 → mm_ofr (mm_gi h) F' → Q (.inl (some (.int (0)))) (mm_wi h F')) : mm_V G (1, 23) M_Mo_good Q 0 (mm_ent 2 [.ref 52, .int x]) [] h := by
  show mm_V G (1, 23) M_Mo_good Q 0 [some (.ref 52), some (.int x)] [] h
  refine mv_aload_n (pc := 0) d_Mo_good_0 rfl ?_
  refine mv_iconst (v := 0) (pc := 1) d_Mo_good_1 (by decide) ?_
  refine mr_puti (pc := 2) d_Mo_good_2 fl_Mo_69 hM.1 rfl (by decide) ⟨rfl, rfl⟩ ?_
  refine mv_aload_n (pc := 5) d_Mo_good_5 rfl ?_
  refine mv_iconst (v := 0) (pc := 6) d_Mo_good_6 (by decide) ?_
  refine mv_iload_n (pc := 7) d_Mo_good_7 rfl ?_
  refine mr_callV2 (pc := 8) d_Mo_good_8 (d2 := (0, 0)) ok_Mo_seek li_Mo_102 sv_Mo_seek hM.1 ⟨by decide, rfl⟩ ⟨by decide, rfl, rfl, Nat.le_of_ble_eq_true rfl, rfl, by decide, by decide⟩ ?_
  refine c_seek (h := mm_si h 52 0 0) (k := 0) (by omega) hM (hS.code 0).1 (hW.1 i hi).2.1.1 hi hx (fun hg => ?_) (fun hg => ?_)
  · refine mv_if_lt 18 (pc := 11) d_Mo_good_11 (by decide) (fun z => absurd z (nI_pos (by omega))) (fun h11 => ?_)
    refine mv_iconst (v := 1) (pc := 14) d_Mo_good_14 (by decide) ?_
    refine mv_goto 19 (pc := 15) d_Mo_good_15 (by decide) ?_
    refine mv_iret (pc := 19) d_Mo_good_19 rfl rfl ?_
    exact hq1 _ hg (hS.code 0) (by simp [mm_u2]) (mm_ofr.rfl'.cd 0 0)
  · refine mv_if_lt 18 (pc := 11) d_Mo_good_11 (by decide) (fun _ => ?_) (fun z => absurd z (by decide))
    refine mv_iconst (v := 0) (pc := 18) d_Mo_good_18 (by decide) ?_
    refine mv_iret (pc := 19) d_Mo_good_19 rfl rfl ?_
    exact hq0 _ hg (hS.code 0) (by simp [mm_u2]) (mm_ofr.rfl'.cd 0 0)
set_option maxRecDepth 20000 in
theorem c_mabout {G : mm_G} {Q : mm_O → mm_H → Prop} {h : mm_H} {i : Nat} {x : Int32} {b : Int32} {A : mm_W} {E : mm_E} {sv lg : List Int32} (hM : mm_Mo h) (hS : MS (mm_gi h) A E sv lg) (hW : WF A) (hi : i < 16) (hx : x &&& 15 = nI i) (hq1 : ∀ F', ¬ a_good A x i → MS F' A E sv lg → F' 52 0 = 1 → mm_ofr (mm_gi h) F' → Q (.inl (some (.int (0)))) (mm_wi h F')) (hq2 : ∀ F', a_good A x i → (∀ k, k < 7 → ¬ b = nI k) → MS F' A E sv lg → F' 52 0 = 2 → mm_ofr (mm_gi h) F' → Q (.inl (some (.int (0)))) (mm_wi h F')) (hq : ∀ F' k, k < 7 → a_good A x i → b = nI k → MS F' A E sv lg → F' 52 0 = 0 → mm_ofr (mm_gi h) F' → Q (.inl (some (.int (A (2 + k) i)))) (mm_wi h F')) : mm_V G (1, 23) M_Mo_about Q 0 (mm_ent 4 [.ref 52, .int x, .int b]) [] h := by
  show mm_V G (1, 23) M_Mo_about Q 0 [some (.ref 52), some (.int x), some (.int b), none] [] h
  refine mv_aload_n (pc := 0) d_Mo_about_0 rfl ?_
  refine mv_iconst (v := 0) (pc := 1) d_Mo_about_1 (by decide) ?_
  refine mv_iload_n (pc := 2) d_Mo_about_2 rfl ?_
  refine mr_callV2 (pc := 3) d_Mo_about_3 (d2 := (0, 0)) ok_Mo_seek li_Mo_102 sv_Mo_seek hM.1 ⟨by decide, rfl⟩ ⟨by decide, rfl, rfl, Nat.le_of_ble_eq_true rfl, rfl, by decide, by decide⟩ ?_
  refine c_seek (k := 0) (by omega) hM hS.1 (hW.1 i hi).2.1.1 hi hx (fun hg => ?_) (fun hg => ?_)
  · refine mv_istore_n (pc := 6) d_Mo_about_6 (by decide) ?_
    refine mv_aload_n (pc := 7) d_Mo_about_7 rfl ?_
    refine mv_iload_n (pc := 8) d_Mo_about_8 rfl ?_
    refine mv_if_ge 16 (pc := 9) d_Mo_about_9 (by decide) (fun h9 => ?_) (fun z => absurd z (fun z => z (nI_pos2 (by omega))))
    refine mv_iload_n (pc := 16) d_Mo_about_16 rfl ?_
    refine mv_if_lt 26 (pc := 17) d_Mo_about_17 (by decide) (fun h17 => ?_) (fun h17 => ?_)
    · refine mv_iconst (v := 2) (pc := 26) d_Mo_about_26 (by decide) ?_
      refine mv_goto 31 (pc := 27) d_Mo_about_27 (by decide) ?_
      refine mr_puti (pc := 31) d_Mo_about_31 fl_Mo_69 hM.1 rfl (by decide) ⟨rfl, rfl⟩ ?_
      refine mv_aload_n (pc := 34) d_Mo_about_34 rfl ?_
      refine mr_geti (pc := 35) d_Mo_about_35 fl_Mo_69 hM.1 rfl (by decide) ?_
      rw [mm_gss]
      refine mv_if_le 43 (pc := 38) d_Mo_about_38 (by decide) (fun z => absurd z (by decide)) (fun _ => ?_)
      refine mv_iconst (v := 0) (pc := 41) d_Mo_about_41 (by decide) ?_
      refine mv_iret (pc := 42) d_Mo_about_42 rfl rfl ?_
      exact hq2 _ hg (fun k hk e => by subst e; exact nI_pos (by omega) h17) (hS.code 2) (by simp [mm_u2]) (mm_ofr.rfl'.cd 0 2)
    · refine mv_iload_n (pc := 20) d_Mo_about_20 rfl ?_
      refine mv_bipush (v := 6) (pc := 21) d_Mo_about_21 (by decide) ?_
      refine mv_ic_le 30 (pc := 23) d_Mo_about_23 (by decide) (fun h23 => ?_) (fun h23 => ?_)
      · refine mv_iconst (v := 0) (pc := 30) d_Mo_about_30 (by decide) ?_
        refine mr_puti (pc := 31) d_Mo_about_31 fl_Mo_69 hM.1 rfl (by decide) ⟨rfl, rfl⟩ ?_
        refine mv_aload_n (pc := 34) d_Mo_about_34 rfl ?_
        refine mr_geti (pc := 35) d_Mo_about_35 fl_Mo_69 hM.1 rfl (by decide) ?_
        rw [mm_gss]
        refine mv_if_le 43 (pc := 38) d_Mo_about_38 (by decide) (fun _ => ?_) (fun z => absurd z (by decide))
        have r := (hS.1.2.1 i hi).2.2 hg.1
        refine mv_iload_n (pc := 43) d_Mo_about_43 rfl ?_
        by_cases hs0 : b = 0
        · refine mv_tabIn 84 (pc := 44) d_Mo_about_44 (by rw [hs0]; decide) (by rw [hs0]; decide) (by rw [hs0]; rfl) (by decide) ?_
          refine mv_aload_n (pc := 84) d_Mo_about_84 rfl ?_
          refine mr_getr (pc := 85) d_Mo_about_85 fl_Mo_20 hM.1 rfl (by decide) hM.g_px ?_
          refine mv_iload_n (pc := 88) d_Mo_about_88 rfl ?_
          refine mr_iald (pc := 89) d_Mo_about_89 hM.a_px (mm_inN (by omega) (by decide)) ?_
          rw [mm_cl (by omega), show mm_gi (mm_si h 52 0 0) 56 (16 * 0 + i) = A (2 + 0) i from r 2 (by omega) (by omega)]
          refine mv_iret (pc := 90) d_Mo_about_90 rfl rfl ?_
          exact hq _ 0 (by omega) hg hs0 (hS.code 0) (by simp [mm_u2]) (mm_ofr.rfl'.cd 0 0)
        by_cases hs1 : b = 1
        · refine mv_tabIn 91 (pc := 44) d_Mo_about_44 (by rw [hs1]; decide) (by rw [hs1]; decide) (by rw [hs1]; rfl) (by decide) ?_
          refine mv_aload_n (pc := 91) d_Mo_about_91 rfl ?_
          refine mr_getr (pc := 92) d_Mo_about_92 fl_Mo_23 hM.1 rfl (by decide) hM.g_py ?_
          refine mv_iload_n (pc := 95) d_Mo_about_95 rfl ?_
          refine mr_iald (pc := 96) d_Mo_about_96 hM.a_py (mm_inN (by omega) (by decide)) ?_
          rw [mm_cl (by omega), show mm_gi (mm_si h 52 0 0) 57 (16 * 0 + i) = A (2 + 1) i from r 3 (by omega) (by omega)]
          refine mv_iret (pc := 97) d_Mo_about_97 rfl rfl ?_
          exact hq _ 1 (by omega) hg hs1 (hS.code 0) (by simp [mm_u2]) (mm_ofr.rfl'.cd 0 0)
        by_cases hs2 : b = 2
        · refine mv_tabIn 98 (pc := 44) d_Mo_about_44 (by rw [hs2]; decide) (by rw [hs2]; decide) (by rw [hs2]; rfl) (by decide) ?_
          refine mv_aload_n (pc := 98) d_Mo_about_98 rfl ?_
          refine mr_getr (pc := 99) d_Mo_about_99 fl_Mo_26 hM.1 rfl (by decide) hM.g_sx ?_
          refine mv_iload_n (pc := 102) d_Mo_about_102 rfl ?_
          refine mr_iald (pc := 103) d_Mo_about_103 hM.a_sx (mm_inN (by omega) (by decide)) ?_
          rw [mm_cl (by omega), show mm_gi (mm_si h 52 0 0) 58 (16 * 0 + i) = A (2 + 2) i from r 4 (by omega) (by omega)]
          refine mv_iret (pc := 104) d_Mo_about_104 rfl rfl ?_
          exact hq _ 2 (by omega) hg hs2 (hS.code 0) (by simp [mm_u2]) (mm_ofr.rfl'.cd 0 0)
        by_cases hs3 : b = 3
        · refine mv_tabIn 105 (pc := 44) d_Mo_about_44 (by rw [hs3]; decide) (by rw [hs3]; decide) (by rw [hs3]; rfl) (by decide) ?_
          refine mv_aload_n (pc := 105) d_Mo_about_105 rfl ?_
          refine mr_getr (pc := 106) d_Mo_about_106 fl_Mo_29 hM.1 rfl (by decide) hM.g_sy ?_
          refine mv_iload_n (pc := 109) d_Mo_about_109 rfl ?_
          refine mr_iald (pc := 110) d_Mo_about_110 hM.a_sy (mm_inN (by omega) (by decide)) ?_
          rw [mm_cl (by omega), show mm_gi (mm_si h 52 0 0) 59 (16 * 0 + i) = A (2 + 3) i from r 5 (by omega) (by omega)]
          refine mv_iret (pc := 111) d_Mo_about_111 rfl rfl ?_
          exact hq _ 3 (by omega) hg hs3 (hS.code 0) (by simp [mm_u2]) (mm_ofr.rfl'.cd 0 0)
        by_cases hs4 : b = 4
        · refine mv_tabIn 112 (pc := 44) d_Mo_about_44 (by rw [hs4]; decide) (by rw [hs4]; decide) (by rw [hs4]; rfl) (by decide) ?_
          refine mv_aload_n (pc := 112) d_Mo_about_112 rfl ?_
          refine mr_getr (pc := 113) d_Mo_about_113 fl_Mo_32 hM.1 rfl (by decide) hM.g_wide ?_
          refine mv_iload_n (pc := 116) d_Mo_about_116 rfl ?_
          refine mr_iald (pc := 117) d_Mo_about_117 hM.a_wide (mm_inN (by omega) (by decide)) ?_
          rw [mm_cl (by omega), show mm_gi (mm_si h 52 0 0) 60 (16 * 0 + i) = A (2 + 4) i from r 6 (by omega) (by omega)]
          refine mv_iret (pc := 118) d_Mo_about_118 rfl rfl ?_
          exact hq _ 4 (by omega) hg hs4 (hS.code 0) (by simp [mm_u2]) (mm_ofr.rfl'.cd 0 0)
        by_cases hs5 : b = 5
        · refine mv_tabIn 119 (pc := 44) d_Mo_about_44 (by rw [hs5]; decide) (by rw [hs5]; decide) (by rw [hs5]; rfl) (by decide) ?_
          refine mv_aload_n (pc := 119) d_Mo_about_119 rfl ?_
          refine mr_getr (pc := 120) d_Mo_about_120 fl_Mo_35 hM.1 rfl (by decide) hM.g_high ?_
          refine mv_iload_n (pc := 123) d_Mo_about_123 rfl ?_
          refine mr_iald (pc := 124) d_Mo_about_124 hM.a_high (mm_inN (by omega) (by decide)) ?_
          rw [mm_cl (by omega), show mm_gi (mm_si h 52 0 0) 61 (16 * 0 + i) = A (2 + 5) i from r 7 (by omega) (by omega)]
          refine mv_iret (pc := 125) d_Mo_about_125 rfl rfl ?_
          exact hq _ 5 (by omega) hg hs5 (hS.code 0) (by simp [mm_u2]) (mm_ofr.rfl'.cd 0 0)
        refine mv_tabOut 126 (pc := 44) d_Mo_about_44 (by have t0 : ¬ b.toInt = 0 := fun z => hs0 (Int32.toInt_inj.mp (z.trans (by decide))); have t1 : ¬ b.toInt = 1 := fun z => hs1 (Int32.toInt_inj.mp (z.trans (by decide))); have t2 : ¬ b.toInt = 2 := fun z => hs2 (Int32.toInt_inj.mp (z.trans (by decide))); have t3 : ¬ b.toInt = 3 := fun z => hs3 (Int32.toInt_inj.mp (z.trans (by decide))); have t4 : ¬ b.toInt = 4 := fun z => hs4 (Int32.toInt_inj.mp (z.trans (by decide))); have t5 : ¬ b.toInt = 5 := fun z => hs5 (Int32.toInt_inj.mp (z.trans (by decide))); omega) (by decide) ?_
        refine mv_aload_n (pc := 126) d_Mo_about_126 rfl ?_
        refine mr_getr (pc := 127) d_Mo_about_127 fl_Mo_38 hM.1 rfl (by decide) hM.g_left ?_
        refine mv_iload_n (pc := 130) d_Mo_about_130 rfl ?_
        refine mr_iald (pc := 131) d_Mo_about_131 hM.a_left (mm_inN (by omega) (by decide)) ?_
        rw [mm_cl (by omega), show mm_gi (mm_si h 52 0 0) 62 (16 * 0 + i) = A (2 + 6) i from r 8 (by omega) (by omega)]
        refine mv_iret (pc := 132) d_Mo_about_132 rfl rfl ?_
        have e6 : b = nI 6 := by
          obtain ⟨j, hj, hb⟩ := nI_of2 (x := b) (M := 6) (n := 6) (by decide) h17 h23
          have hj2 : j = 0 ∨ j = 1 ∨ j = 2 ∨ j = 3 ∨ j = 4 ∨ j = 5 ∨ j = 6 := by omega
          subst hb
          rcases hj2 with rfl | rfl | rfl | rfl | rfl | rfl | rfl
          · exact absurd rfl hs0
          · exact absurd rfl hs1
          · exact absurd rfl hs2
          · exact absurd rfl hs3
          · exact absurd rfl hs4
          · exact absurd rfl hs5
          · rfl
        exact hq _ 6 (by omega) hg e6 (hS.code 0) (by simp [mm_u2]) (mm_ofr.rfl'.cd 0 0)
      · refine mv_iconst (v := 2) (pc := 26) d_Mo_about_26 (by decide) ?_
        refine mv_goto 31 (pc := 27) d_Mo_about_27 (by decide) ?_
        refine mr_puti (pc := 31) d_Mo_about_31 fl_Mo_69 hM.1 rfl (by decide) ⟨rfl, rfl⟩ ?_
        refine mv_aload_n (pc := 34) d_Mo_about_34 rfl ?_
        refine mr_geti (pc := 35) d_Mo_about_35 fl_Mo_69 hM.1 rfl (by decide) ?_
        rw [mm_gss]
        refine mv_if_le 43 (pc := 38) d_Mo_about_38 (by decide) (fun z => absurd z (by decide)) (fun _ => ?_)
        refine mv_iconst (v := 0) (pc := 41) d_Mo_about_41 (by decide) ?_
        refine mv_iret (pc := 42) d_Mo_about_42 rfl rfl ?_
        exact hq2 _ hg (fun k hk e => by subst e; exact h23 (nI_le (b := 6) (by omega) (by decide))) (hS.code 2) (by simp [mm_u2]) (mm_ofr.rfl'.cd 0 2)
  · refine mv_istore_n (pc := 6) d_Mo_about_6 (by decide) ?_
    refine mv_aload_n (pc := 7) d_Mo_about_7 rfl ?_
    refine mv_iload_n (pc := 8) d_Mo_about_8 rfl ?_
    refine mv_if_ge 16 (pc := 9) d_Mo_about_9 (by decide) (fun z => absurd z (by decide)) (fun _ => ?_)
    refine mv_iconst (v := 1) (pc := 12) d_Mo_about_12 (by decide) ?_
    refine mv_goto 31 (pc := 13) d_Mo_about_13 (by decide) ?_
    refine mr_puti (pc := 31) d_Mo_about_31 fl_Mo_69 hM.1 rfl (by decide) ⟨rfl, rfl⟩ ?_
    refine mv_aload_n (pc := 34) d_Mo_about_34 rfl ?_
    refine mr_geti (pc := 35) d_Mo_about_35 fl_Mo_69 hM.1 rfl (by decide) ?_
    rw [mm_gss]
    refine mv_if_le 43 (pc := 38) d_Mo_about_38 (by decide) (fun z => absurd z (by decide)) (fun _ => ?_)
    refine mv_iconst (v := 0) (pc := 41) d_Mo_about_41 (by decide) ?_
    refine mv_iret (pc := 42) d_Mo_about_42 rfl rfl ?_
    exact hq1 _ hg (hS.code 1) (by simp [mm_u2]) (mm_ofr.rfl'.cd 0 1)
set_option maxRecDepth 20000 in
theorem c_mhandleOf {G : mm_G} {Q : mm_O → mm_H → Prop} {h : mm_H} {A : mm_W} {E : mm_E} {sv lg : List Int32} (hM : mm_Mo h) (hS : MS (mm_gi h) A E sv lg) {x : Int32} (hq1 : ∀ F', (∀ i, i < 16 → ¬ x = nI i) → MS F' A E sv lg → F' 52 0 = 1 → mm_ofr (mm_gi h) F' → Q (.inl (some (.int (0)))) (mm_wi h F')) (hq : ∀ F' i, i < 16 → x = nI i → ¬ A 1 i = 0 → MS F' A E sv lg → F' 52 0 = 0 → mm_ofr (mm_gi h) F' → Q (.inl (some (.int (nI i + 16 * A 0 i)))) (mm_wi h F')) (hqn : ∀ F' i, i < 16 → x = nI i → A 1 i = 0 → MS F' A E sv lg → F' 52 0 = 0 → mm_ofr (mm_gi h) F' → Q (.inl (some (.int (-1)))) (mm_wi h F')) : mm_V G (0, 0) M_Mo_handleOf Q 0 (mm_ent 2 [.ref 52, .int x]) [] h := by
  show mm_V G (0, 0) M_Mo_handleOf Q 0 [some (.ref 52), some (.int x)] [] h
  refine mv_aload_n (pc := 0) d_Mo_handleOf_0 rfl ?_
  refine mv_iload_n (pc := 1) d_Mo_handleOf_1 rfl ?_
  refine mv_if_lt 11 (pc := 2) d_Mo_handleOf_2 (by decide) (fun h2 => ?_) (fun h2 => ?_)
  · refine mv_iconst (v := 1) (pc := 11) d_Mo_handleOf_11 (by decide) ?_
    refine mv_goto 16 (pc := 12) d_Mo_handleOf_12 (by decide) ?_
    refine mr_puti (pc := 16) d_Mo_handleOf_16 fl_Mo_69 hM.1 rfl (by decide) ⟨rfl, rfl⟩ ?_
    refine mv_aload_n (pc := 19) d_Mo_handleOf_19 rfl ?_
    refine mr_geti (pc := 20) d_Mo_handleOf_20 fl_Mo_69 hM.1 rfl (by decide) ?_
    rw [mm_gss]
    refine mv_if_le 30 (pc := 23) d_Mo_handleOf_23 (by decide) (fun z => absurd z (by decide)) (fun _ => ?_)
    refine mv_iconst (v := 0) (pc := 26) d_Mo_handleOf_26 (by decide) ?_
    refine mv_goto 54 (pc := 27) d_Mo_handleOf_27 (by decide) ?_
    refine mv_iret (pc := 54) d_Mo_handleOf_54 rfl rfl ?_
    exact hq1 _ (fun i hi e => by subst e; exact nI_pos (by omega) h2) (hS.code 1) (by simp [mm_u2]) (mm_ofr.rfl'.cd 0 1)
  · refine mv_iload_n (pc := 5) d_Mo_handleOf_5 rfl ?_
    refine mv_bipush (v := 15) (pc := 6) d_Mo_handleOf_6 (by decide) ?_
    refine mv_ic_le 15 (pc := 8) d_Mo_handleOf_8 (by decide) (fun h8 => ?_) (fun h8 => ?_)
    · refine mv_iconst (v := 0) (pc := 15) d_Mo_handleOf_15 (by decide) ?_
      refine mr_puti (pc := 16) d_Mo_handleOf_16 fl_Mo_69 hM.1 rfl (by decide) ⟨rfl, rfl⟩ ?_
      refine mv_aload_n (pc := 19) d_Mo_handleOf_19 rfl ?_
      refine mr_geti (pc := 20) d_Mo_handleOf_20 fl_Mo_69 hM.1 rfl (by decide) ?_
      rw [mm_gss]
      refine mv_if_le 30 (pc := 23) d_Mo_handleOf_23 (by decide) (fun _ => ?_) (fun z => absurd z (by decide))
      obtain ⟨i, hi, hxi⟩ := nI_of2 (x := x) (M := 15) (n := 15) (by decide) h2 h8
      have r := hS.1.at0 (i := i) (by omega)
      rw [hxi]
      refine mv_aload_n (pc := 30) d_Mo_handleOf_30 rfl ?_
      refine mr_getr (pc := 31) d_Mo_handleOf_31 fl_Mo_16 hM.1 rfl (by decide) hM.g_full ?_
      refine mv_iload_n (pc := 34) d_Mo_handleOf_34 rfl ?_
      refine mr_zald (pc := 35) d_Mo_handleOf_35 hM.a_full (mm_inN (by omega) (by decide)) ?_
      rw [mm_cl (by omega), show mm_gi (mm_si h 52 0 0) 55 i = A 1 i from r.2.1]
      refine mv_if_eq 53 (pc := 36) d_Mo_handleOf_36 (by decide) (fun h36 => ?_) (fun h36 => ?_)
      · refine mv_iconst (v := -1) (pc := 53) d_Mo_handleOf_53 (by decide) ?_
        refine mv_iret (pc := 54) d_Mo_handleOf_54 rfl rfl ?_
        exact hqn _ i (by omega) hxi h36 (hS.code 0) (by simp [mm_u2]) (mm_ofr.rfl'.cd 0 0)
      · refine mv_iload_n (pc := 39) d_Mo_handleOf_39 rfl ?_
        refine mv_bipush (v := 16) (pc := 40) d_Mo_handleOf_40 (by decide) ?_
        refine mv_aload_n (pc := 42) d_Mo_handleOf_42 rfl ?_
        refine mr_getr (pc := 43) d_Mo_handleOf_43 fl_Mo_13 hM.1 rfl (by decide) hM.g_generation ?_
        refine mv_iload_n (pc := 46) d_Mo_handleOf_46 rfl ?_
        refine mr_iald (pc := 47) d_Mo_handleOf_47 hM.a_generation (mm_inN (by omega) (by decide)) ?_
        rw [mm_cl (by omega), show mm_gi (mm_si h 52 0 0) 54 i = A 0 i from r.1]
        refine mv_imul (pc := 48) d_Mo_handleOf_48 ?_
        refine mv_iadd (pc := 49) d_Mo_handleOf_49 ?_
        refine mv_goto 54 (pc := 50) d_Mo_handleOf_50 (by decide) ?_
        refine mv_iret (pc := 54) d_Mo_handleOf_54 rfl rfl ?_
        exact hq _ i (by omega) hxi h36 (hS.code 0) (by simp [mm_u2]) (mm_ofr.rfl'.cd 0 0)
    · refine mv_iconst (v := 1) (pc := 11) d_Mo_handleOf_11 (by decide) ?_
      refine mv_goto 16 (pc := 12) d_Mo_handleOf_12 (by decide) ?_
      refine mr_puti (pc := 16) d_Mo_handleOf_16 fl_Mo_69 hM.1 rfl (by decide) ⟨rfl, rfl⟩ ?_
      refine mv_aload_n (pc := 19) d_Mo_handleOf_19 rfl ?_
      refine mr_geti (pc := 20) d_Mo_handleOf_20 fl_Mo_69 hM.1 rfl (by decide) ?_
      rw [mm_gss]
      refine mv_if_le 30 (pc := 23) d_Mo_handleOf_23 (by decide) (fun z => absurd z (by decide)) (fun _ => ?_)
      refine mv_iconst (v := 0) (pc := 26) d_Mo_handleOf_26 (by decide) ?_
      refine mv_goto 54 (pc := 27) d_Mo_handleOf_27 (by decide) ?_
      refine mv_iret (pc := 54) d_Mo_handleOf_54 rfl rfl ?_
      exact hq1 _ (fun i hi e => by subst e; exact h8 (nI_le (b := 15) (by omega) (by decide))) (hS.code 1) (by simp [mm_u2]) (mm_ofr.rfl'.cd 0 1)
set_option maxRecDepth 20000 in
theorem c_mclock {G : mm_G} {Q : mm_O → mm_H → Prop} {h : mm_H} {A : mm_W} {E : mm_E} {sv lg : List Int32} (hM : mm_Mo h) (hS : MS (mm_gi h) A E sv lg) (hq : ∀ F', MS F' A E sv lg → F' 52 0 = 0 → mm_ofr (mm_gi h) F' → Q (.inl (some (.int (A 10 0)))) (mm_wi h F')) : mm_V G (0, 0) M_Mo_clock Q 0 (mm_ent 1 [.ref 52]) [] h := by
  show mm_V G (0, 0) M_Mo_clock Q 0 [some (.ref 52)] [] h
  refine mv_aload_n (pc := 0) d_Mo_clock_0 rfl ?_
  refine mv_iconst (v := 0) (pc := 1) d_Mo_clock_1 (by decide) ?_
  refine mr_puti (pc := 2) d_Mo_clock_2 fl_Mo_69 hM.1 rfl (by decide) ⟨rfl, rfl⟩ ?_
  refine mv_aload_n (pc := 5) d_Mo_clock_5 rfl ?_
  refine mr_getr (pc := 6) d_Mo_clock_6 fl_Mo_7 hM.1 rfl (by decide) hM.g_clocks ?_
  refine mv_iconst (v := 0) (pc := 9) d_Mo_clock_9 (by decide) ?_
  refine mr_iald (pc := 10) d_Mo_clock_10 hM.a_clocks (mm_inN (n := 0) (by omega) (by decide)) ?_
  refine mv_iret (pc := 11) d_Mo_clock_11 rfl rfl ?_
  rw [show mm_gi (mm_si h 52 0 0) 53 (0 : Int32).toNatClampNeg = A 10 0 from hS.1.1]
  exact hq _ (hS.code 0) (by simp [mm_u2]) (mm_ofr.rfl'.cd 0 0)
set_option maxRecDepth 20000 in
theorem c_msize {G : mm_G} {Q : mm_O → mm_H → Prop} {h : mm_H} {A : mm_W} {E : mm_E} {sv lg : List Int32} (hM : mm_Mo h) (hS : MS (mm_gi h) A E sv lg) {b : Int32} (hq1 : ∀ F', ¬ b = 0 → MS F' A E sv lg → F' 52 0 = 0 → mm_ofr (mm_gi h) F' → Q (.inl (some (.int (nI lg.length)))) (mm_wi h F')) (hq0 : ∀ F', b = 0 → MS F' A E sv lg → F' 52 0 = 0 → mm_ofr (mm_gi h) F' → Q (.inl (some (.int (nI sv.length)))) (mm_wi h F')) : mm_V G (0, 0) M_Mo_size Q 0 (mm_ent 2 [.ref 52, .int b]) [] h := by
  show mm_V G (0, 0) M_Mo_size Q 0 [some (.ref 52), some (.int b)] [] h
  refine mv_aload_n (pc := 0) d_Mo_size_0 rfl ?_
  refine mv_iconst (v := 0) (pc := 1) d_Mo_size_1 (by decide) ?_
  refine mr_puti (pc := 2) d_Mo_size_2 fl_Mo_69 hM.1 rfl (by decide) ⟨rfl, rfl⟩ ?_
  refine mv_iload_n (pc := 5) d_Mo_size_5 rfl ?_
  refine mv_if_eq 16 (pc := 6) d_Mo_size_6 (by decide) (fun h6 => ?_) (fun h6 => ?_)
  · refine mv_aload_n (pc := 16) d_Mo_size_16 rfl ?_
    refine mr_geti (pc := 17) d_Mo_size_17 fl_Mo_136 hM.1 rfl (by decide) ?_
    refine mv_iret (pc := 20) d_Mo_size_20 rfl rfl ?_
    rw [show mm_gi (mm_si h 52 0 0) 52 16 = nI sv.length from hS.2.2.1.1]
    exact hq0 _ h6 (hS.code 0) (by simp [mm_u2]) (mm_ofr.rfl'.cd 0 0)
  · refine mv_aload_n (pc := 9) d_Mo_size_9 rfl ?_
    refine mr_geti (pc := 10) d_Mo_size_10 fl_Mo_110 hM.1 rfl (by decide) ?_
    refine mv_goto 20 (pc := 13) d_Mo_size_13 (by decide) ?_
    refine mv_iret (pc := 20) d_Mo_size_20 rfl rfl ?_
    rw [show mm_gi (mm_si h 52 0 0) 52 18 = nI lg.length from hS.2.2.2.1.1]
    exact hq1 _ h6 (hS.code 0) (by simp [mm_u2]) (mm_ofr.rfl'.cd 0 0)
set_option maxRecDepth 20000 in
theorem c_mat {G : mm_G} {Q : mm_O → mm_H → Prop} {h : mm_H} {A : mm_W} {E : mm_E} {sv lg : List Int32} (hM : mm_Mo h) (hS : MS (mm_gi h) A E sv lg) {k b : Int32} (hq1l : ∀ F', ¬ b = 0 → (∀ j, j < lg.length → ¬ k = nI j) → MS F' A E sv lg → F' 52 0 = 1 → mm_ofr (mm_gi h) F' → Q (.inl (some (.int (0)))) (mm_wi h F')) (hq1s : ∀ F', b = 0 → (∀ j, j < sv.length → ¬ k = nI j) → MS F' A E sv lg → F' 52 0 = 1 → mm_ofr (mm_gi h) F' → Q (.inl (some (.int (0)))) (mm_wi h F')) (hql : ∀ F' j, ¬ b = 0 → j < lg.length → k = nI j → MS F' A E sv lg → F' 52 0 = 0 → mm_ofr (mm_gi h) F' → Q (.inl (some (.int (lg.getD j 0)))) (mm_wi h F')) (hqs : ∀ F' j, b = 0 → j < sv.length → k = nI j → MS F' A E sv lg → F' 52 0 = 0 → mm_ofr (mm_gi h) F' → Q (.inl (some (.int (sv.getD j 0)))) (mm_wi h F')) : mm_V G (0, 0) M_Mo_at Q 0 (mm_ent 3 [.ref 52, .int k, .int b]) [] h := by
  show mm_V G (0, 0) M_Mo_at Q 0 [some (.ref 52), some (.int k), some (.int b)] [] h
  refine mv_aload_n (pc := 0) d_Mo_at_0 rfl ?_
  refine mv_iload_n (pc := 1) d_Mo_at_1 rfl ?_
  refine mv_if_lt 24 (pc := 2) d_Mo_at_2 (by decide) (fun h2 => ?_) (fun h2 => ?_)
  · refine mv_iconst (v := 1) (pc := 24) d_Mo_at_24 (by decide) ?_
    refine mv_goto 29 (pc := 25) d_Mo_at_25 (by decide) ?_
    refine mr_puti (pc := 29) d_Mo_at_29 fl_Mo_69 hM.1 rfl (by decide) ⟨rfl, rfl⟩ ?_
    refine mv_aload_n (pc := 32) d_Mo_at_32 rfl ?_
    refine mr_geti (pc := 33) d_Mo_at_33 fl_Mo_69 hM.1 rfl (by decide) ?_
    rw [mm_gss]
    refine mv_if_le 43 (pc := 36) d_Mo_at_36 (by decide) (fun z => absurd z (by decide)) (fun _ => ?_)
    refine mv_iconst (v := 0) (pc := 39) d_Mo_at_39 (by decide) ?_
    refine mv_goto 62 (pc := 40) d_Mo_at_40 (by decide) ?_
    refine mv_iret (pc := 62) d_Mo_at_62 rfl rfl ?_
    by_cases hb : b = 0
    · exact hq1s _ hb (mm_nidx (n := sv.length) (by have := hS.2.2.2.2.1; omega) (Or.inl h2)) (hS.code 1) (by simp [mm_u2]) (mm_ofr.rfl'.cd 0 1)
    · exact hq1l _ hb (mm_nidx (n := lg.length) (by have := hS.2.2.2.2.2; omega) (Or.inl h2)) (hS.code 1) (by simp [mm_u2]) (mm_ofr.rfl'.cd 0 1)
  · refine mv_iload_n (pc := 5) d_Mo_at_5 rfl ?_
    refine mv_iload_n (pc := 6) d_Mo_at_6 rfl ?_
    refine mv_if_eq 17 (pc := 7) d_Mo_at_7 (by decide) (fun h7 => ?_) (fun h7 => ?_)
    · refine mv_aload_n (pc := 17) d_Mo_at_17 rfl ?_
      refine mr_geti (pc := 18) d_Mo_at_18 fl_Mo_136 hM.1 rfl (by decide) ?_
      rw [show mm_gi h 52 16 = nI sv.length from hS.2.2.1.1]
      refine mv_ic_lt 28 (pc := 21) d_Mo_at_21 (by decide) (fun h21 => ?_) (fun h21 => ?_)
      · have hl9 : sv.length ≤ 400 := (by have := hS.2.2.2.2.1; omega)
        obtain ⟨j, hj, hkj⟩ := mm_idx2 (n := sv.length) (by omega) h2 h21
        refine mv_iconst (v := 0) (pc := 28) d_Mo_at_28 (by decide) ?_
        refine mr_puti (pc := 29) d_Mo_at_29 fl_Mo_69 hM.1 rfl (by decide) ⟨rfl, rfl⟩ ?_
        refine mv_aload_n (pc := 32) d_Mo_at_32 rfl ?_
        refine mr_geti (pc := 33) d_Mo_at_33 fl_Mo_69 hM.1 rfl (by decide) ?_
        rw [mm_gss]
        refine mv_if_le 43 (pc := 36) d_Mo_at_36 (by decide) (fun _ => ?_) (fun z => absurd z (by decide))
        refine mv_iload_n (pc := 43) d_Mo_at_43 rfl ?_
        refine mv_if_eq 56 (pc := 44) d_Mo_at_44 (by decide) (fun h44 => ?_) (fun z => absurd z (fun z => z h7))
        refine mv_aload_n (pc := 56) d_Mo_at_56 rfl ?_
        refine mr_getr (pc := 57) d_Mo_at_57 fl_Mo_56 hM.1 rfl (by decide) hM.g_saved ?_
        refine mv_iload_n (pc := 60) d_Mo_at_60 rfl ?_
        refine mr_iald (pc := 61) d_Mo_at_61 hM.a_saved (by rw [hkj]; exact mm_inN (by omega) (by decide)) ?_
        rw [hkj, mm_cl (by omega), show mm_gi (mm_si h 52 0 0) 68 j = sv.getD j 0 from hS.2.2.1.2 j hj]
        refine mv_iret (pc := 62) d_Mo_at_62 rfl rfl ?_
        exact hqs _ j h7 hj hkj (hS.code 0) (by simp [mm_u2]) (mm_ofr.rfl'.cd 0 0)
      · refine mv_iconst (v := 1) (pc := 24) d_Mo_at_24 (by decide) ?_
        refine mv_goto 29 (pc := 25) d_Mo_at_25 (by decide) ?_
        refine mr_puti (pc := 29) d_Mo_at_29 fl_Mo_69 hM.1 rfl (by decide) ⟨rfl, rfl⟩ ?_
        refine mv_aload_n (pc := 32) d_Mo_at_32 rfl ?_
        refine mr_geti (pc := 33) d_Mo_at_33 fl_Mo_69 hM.1 rfl (by decide) ?_
        rw [mm_gss]
        refine mv_if_le 43 (pc := 36) d_Mo_at_36 (by decide) (fun z => absurd z (by decide)) (fun _ => ?_)
        refine mv_iconst (v := 0) (pc := 39) d_Mo_at_39 (by decide) ?_
        refine mv_goto 62 (pc := 40) d_Mo_at_40 (by decide) ?_
        refine mv_iret (pc := 62) d_Mo_at_62 rfl rfl ?_
        exact hq1s _ h7 (mm_nidx (n := sv.length) (by have := hS.2.2.2.2.1; omega) (Or.inr h21)) (hS.code 1) (by simp [mm_u2]) (mm_ofr.rfl'.cd 0 1)
    · refine mv_aload_n (pc := 10) d_Mo_at_10 rfl ?_
      refine mr_geti (pc := 11) d_Mo_at_11 fl_Mo_110 hM.1 rfl (by decide) ?_
      rw [show mm_gi h 52 18 = nI lg.length from hS.2.2.2.1.1]
      refine mv_goto 21 (pc := 14) d_Mo_at_14 (by decide) ?_
      refine mv_ic_lt 28 (pc := 21) d_Mo_at_21 (by decide) (fun h21 => ?_) (fun h21 => ?_)
      · have hl9 : lg.length ≤ 400 := (by have := hS.2.2.2.2.2; omega)
        obtain ⟨j, hj, hkj⟩ := mm_idx2 (n := lg.length) (by omega) h2 h21
        refine mv_iconst (v := 0) (pc := 28) d_Mo_at_28 (by decide) ?_
        refine mr_puti (pc := 29) d_Mo_at_29 fl_Mo_69 hM.1 rfl (by decide) ⟨rfl, rfl⟩ ?_
        refine mv_aload_n (pc := 32) d_Mo_at_32 rfl ?_
        refine mr_geti (pc := 33) d_Mo_at_33 fl_Mo_69 hM.1 rfl (by decide) ?_
        rw [mm_gss]
        refine mv_if_le 43 (pc := 36) d_Mo_at_36 (by decide) (fun _ => ?_) (fun z => absurd z (by decide))
        refine mv_iload_n (pc := 43) d_Mo_at_43 rfl ?_
        refine mv_if_eq 56 (pc := 44) d_Mo_at_44 (by decide) (fun z => absurd z (h7)) (fun h44 => ?_)
        refine mv_aload_n (pc := 47) d_Mo_at_47 rfl ?_
        refine mr_getr (pc := 48) d_Mo_at_48 fl_Mo_59 hM.1 rfl (by decide) hM.g_log ?_
        refine mv_iload_n (pc := 51) d_Mo_at_51 rfl ?_
        refine mr_iald (pc := 52) d_Mo_at_52 hM.a_log (by rw [hkj]; exact mm_inN (by omega) (by decide)) ?_
        rw [hkj, mm_cl (by omega), show mm_gi (mm_si h 52 0 0) 69 j = lg.getD j 0 from hS.2.2.2.1.2 j hj]
        refine mv_goto 62 (pc := 53) d_Mo_at_53 (by decide) ?_
        refine mv_iret (pc := 62) d_Mo_at_62 rfl rfl ?_
        exact hql _ j h7 hj hkj (hS.code 0) (by simp [mm_u2]) (mm_ofr.rfl'.cd 0 0)
      · refine mv_iconst (v := 1) (pc := 24) d_Mo_at_24 (by decide) ?_
        refine mv_goto 29 (pc := 25) d_Mo_at_25 (by decide) ?_
        refine mr_puti (pc := 29) d_Mo_at_29 fl_Mo_69 hM.1 rfl (by decide) ⟨rfl, rfl⟩ ?_
        refine mv_aload_n (pc := 32) d_Mo_at_32 rfl ?_
        refine mr_geti (pc := 33) d_Mo_at_33 fl_Mo_69 hM.1 rfl (by decide) ?_
        rw [mm_gss]
        refine mv_if_le 43 (pc := 36) d_Mo_at_36 (by decide) (fun z => absurd z (by decide)) (fun _ => ?_)
        refine mv_iconst (v := 0) (pc := 39) d_Mo_at_39 (by decide) ?_
        refine mv_goto 62 (pc := 40) d_Mo_at_40 (by decide) ?_
        refine mv_iret (pc := 62) d_Mo_at_62 rfl rfl ?_
        exact hq1l _ h7 (mm_nidx (n := lg.length) (by have := hS.2.2.2.2.2; omega) (Or.inr h21)) (hS.code 1) (by simp [mm_u2]) (mm_ofr.rfl'.cd 0 1)
theorem MS.setl {F A : mm_W} {E : mm_E} {sv lg : List Int32} (h : MS F A E sv lg) {j : Nat} (hj : j < lg.length) (v : Int32) : MS (mm_u2 F 69 j v) A E sv (lg.set j v) := by
  refine ⟨h.1.same fun a j h1 h2 => by have n2 : ¬ a = 69 := (by omega); simp [mm_u2, n2], h.2.1.off fun a j h1 h2 => by have n2 : ¬ a = 69 := (by omega); simp [mm_u2, n2], ⟨by simpa [mm_u2] using h.2.2.1.1, fun j hj => by simpa [mm_u2] using h.2.2.1.2 j hj⟩, ⟨by simpa [mm_u2] using h.2.2.2.1.1, fun q hq => ?_⟩, h.2.2.2.2.1, by simpa using h.2.2.2.2.2⟩
  rw [List.length_set] at hq
  have := h.2.2.2.1.2 q hq
  simp only [List.getD_eq_getElem?_getD] at this ⊢
  by_cases e : j = q
  · subst e; simp [mm_u2, hj]
  · have e' : ¬ q = j := fun z => e z.symm
    simp [mm_u2, e, List.getElem?_set, e', this]
theorem MS.sets {F A : mm_W} {E : mm_E} {sv lg : List Int32} (h : MS F A E sv lg) {j : Nat} (hj : j < sv.length) (v : Int32) : MS (mm_u2 F 68 j v) A E (sv.set j v) lg := by
  refine ⟨h.1.same fun a j h1 h2 => by have n2 : ¬ a = 68 := (by omega); simp [mm_u2, n2], h.2.1.off fun a j h1 h2 => by have n2 : ¬ a = 68 := (by omega); simp [mm_u2, n2], ⟨by simpa [mm_u2] using h.2.2.1.1, fun q hq => ?_⟩, ⟨by simpa [mm_u2] using h.2.2.2.1.1, fun j hj => by simpa [mm_u2] using h.2.2.2.1.2 j hj⟩, by simpa using h.2.2.2.2.1, h.2.2.2.2.2⟩
  rw [List.length_set] at hq
  have := h.2.2.1.2 q hq
  simp only [List.getD_eq_getElem?_getD] at this ⊢
  by_cases e : j = q
  · subst e; simp [mm_u2, hj]
  · have e' : ¬ q = j := fun z => e z.symm
    simp [mm_u2, e, List.getElem?_set, e', this]
set_option maxRecDepth 20000 in
theorem c_mcorrupt {G : mm_G} {Q : mm_O → mm_H → Prop} {h : mm_H} {A : mm_W} {E : mm_E} {sv lg : List Int32} (hM : mm_Mo h) (hS : MS (mm_gi h) A E sv lg) {k v b : Int32} (hq1l : ∀ F', ¬ b = 0 → (∀ j, j < lg.length → ¬ k = nI j) → MS F' A E sv lg → F' 52 0 = 1 → mm_ofr (mm_gi h) F' → Q (.inl none) (mm_wi h F')) (hq1s : ∀ F', b = 0 → (∀ j, j < sv.length → ¬ k = nI j) → MS F' A E sv lg → F' 52 0 = 1 → mm_ofr (mm_gi h) F' → Q (.inl none) (mm_wi h F')) (hq2l : ∀ F' j, ¬ b = 0 → j < lg.length → k = nI j → ¬ (0 ≤ v ∧ v ≤ 255) → MS F' A E sv lg → F' 52 0 = 2 → mm_ofr (mm_gi h) F' → Q (.inl none) (mm_wi h F')) (hq2s : ∀ F' j, b = 0 → j < sv.length → k = nI j → ¬ (0 ≤ v ∧ v ≤ 255) → MS F' A E sv lg → F' 52 0 = 2 → mm_ofr (mm_gi h) F' → Q (.inl none) (mm_wi h F')) (hql : ∀ F' j, ¬ b = 0 → j < lg.length → k = nI j → (0 ≤ v ∧ v ≤ 255) → MS F' A E sv (lg.set j v) → F' 52 0 = 0 → mm_ofr (mm_gi h) F' → Q (.inl none) (mm_wi h F')) (hqs : ∀ F' j, b = 0 → j < sv.length → k = nI j → (0 ≤ v ∧ v ≤ 255) → MS F' A E (sv.set j v) lg → F' 52 0 = 0 → mm_ofr (mm_gi h) F' → Q (.inl none) (mm_wi h F')) : mm_V G (0, 0) M_Mo_corrupt Q 0 (mm_ent 4 [.ref 52, .int k, .int v, .int b]) [] h := by
  show mm_V G (0, 0) M_Mo_corrupt Q 0 [some (.ref 52), some (.int k), some (.int v), some (.int b)] [] h
  refine mv_aload_n (pc := 0) d_Mo_corrupt_0 rfl ?_
  refine mv_iload_n (pc := 1) d_Mo_corrupt_1 rfl ?_
  refine mv_if_lt 24 (pc := 2) d_Mo_corrupt_2 (by decide) (fun h2 => ?_) (fun h2 => ?_)
  · refine mv_iconst (v := 1) (pc := 24) d_Mo_corrupt_24 (by decide) ?_
    refine mv_goto 44 (pc := 25) d_Mo_corrupt_25 (by decide) ?_
    refine mr_puti (pc := 44) d_Mo_corrupt_44 fl_Mo_69 hM.1 rfl (by decide) ⟨rfl, rfl⟩ ?_
    refine mv_aload_n (pc := 47) d_Mo_corrupt_47 rfl ?_
    refine mr_geti (pc := 48) d_Mo_corrupt_48 fl_Mo_69 hM.1 rfl (by decide) ?_
    rw [mm_gss]
    refine mv_if_le 55 (pc := 51) d_Mo_corrupt_51 (by decide) (fun z => absurd z (by decide)) (fun _ => ?_)
    refine mv_ret (pc := 54) d_Mo_corrupt_54 rfl ?_
    by_cases hb : b = 0
    · exact hq1s _ hb (mm_nidx (n := sv.length) (by have := hS.2.2.2.2.1; omega) (Or.inl h2)) (hS.code 1) (by simp [mm_u2]) (mm_ofr.rfl'.cd 0 1)
    · exact hq1l _ hb (mm_nidx (n := lg.length) (by have := hS.2.2.2.2.2; omega) (Or.inl h2)) (hS.code 1) (by simp [mm_u2]) (mm_ofr.rfl'.cd 0 1)
  · refine mv_iload_n (pc := 5) d_Mo_corrupt_5 rfl ?_
    refine mv_iload_n (pc := 6) d_Mo_corrupt_6 rfl ?_
    refine mv_if_eq 17 (pc := 7) d_Mo_corrupt_7 (by decide) (fun h7 => ?_) (fun h7 => ?_)
    · refine mv_aload_n (pc := 17) d_Mo_corrupt_17 rfl ?_
      refine mr_geti (pc := 18) d_Mo_corrupt_18 fl_Mo_136 hM.1 rfl (by decide) ?_
      rw [show mm_gi h 52 16 = nI sv.length from hS.2.2.1.1]
      refine mv_ic_lt 28 (pc := 21) d_Mo_corrupt_21 (by decide) (fun h21 => ?_) (fun h21 => ?_)
      · have hl9 : sv.length ≤ 400 := (by have := hS.2.2.2.2.1; omega)
        obtain ⟨j, hj, hkj⟩ := mm_idx2 (n := sv.length) (by omega) h2 h21
        refine mv_iload_n (pc := 28) d_Mo_corrupt_28 rfl ?_
        refine mv_if_lt 39 (pc := 29) d_Mo_corrupt_29 (by decide) (fun h29 => ?_) (fun h29 => ?_)
        · refine mv_iconst (v := 2) (pc := 39) d_Mo_corrupt_39 (by decide) ?_
          refine mv_goto 44 (pc := 40) d_Mo_corrupt_40 (by decide) ?_
          refine mr_puti (pc := 44) d_Mo_corrupt_44 fl_Mo_69 hM.1 rfl (by decide) ⟨rfl, rfl⟩ ?_
          refine mv_aload_n (pc := 47) d_Mo_corrupt_47 rfl ?_
          refine mr_geti (pc := 48) d_Mo_corrupt_48 fl_Mo_69 hM.1 rfl (by decide) ?_
          rw [mm_gss]
          refine mv_if_le 55 (pc := 51) d_Mo_corrupt_51 (by decide) (fun z => absurd z (by decide)) (fun _ => ?_)
          refine mv_ret (pc := 54) d_Mo_corrupt_54 rfl ?_
          exact hq2s _ j h7 hj hkj (fun z => Int32.not_lt.mpr z.1 h29) (hS.code 2) (by simp [mm_u2]) (mm_ofr.rfl'.cd 0 2)
        · refine mv_iload_n (pc := 32) d_Mo_corrupt_32 rfl ?_
          refine mv_sipush (v := 255) (pc := 33) d_Mo_corrupt_33 (by decide) ?_
          refine mv_ic_le 43 (pc := 36) d_Mo_corrupt_36 (by decide) (fun h36 => ?_) (fun h36 => ?_)
          · refine mv_iconst (v := 0) (pc := 43) d_Mo_corrupt_43 (by decide) ?_
            refine mr_puti (pc := 44) d_Mo_corrupt_44 fl_Mo_69 hM.1 rfl (by decide) ⟨rfl, rfl⟩ ?_
            refine mv_aload_n (pc := 47) d_Mo_corrupt_47 rfl ?_
            refine mr_geti (pc := 48) d_Mo_corrupt_48 fl_Mo_69 hM.1 rfl (by decide) ?_
            rw [mm_gss]
            refine mv_if_le 55 (pc := 51) d_Mo_corrupt_51 (by decide) (fun _ => ?_) (fun z => absurd z (by decide))
            refine mv_iload_n (pc := 55) d_Mo_corrupt_55 rfl ?_
            refine mv_if_eq 69 (pc := 56) d_Mo_corrupt_56 (by decide) (fun h56 => ?_) (fun z => absurd z (fun z => z h7))
            refine mv_aload_n (pc := 69) d_Mo_corrupt_69 rfl ?_
            refine mr_getr (pc := 70) d_Mo_corrupt_70 fl_Mo_56 hM.1 rfl (by decide) hM.g_saved ?_
            refine mv_iload_n (pc := 73) d_Mo_corrupt_73 rfl ?_
            refine mv_iload_n (pc := 74) d_Mo_corrupt_74 rfl ?_
            refine mr_iast (pc := 75) d_Mo_corrupt_75 hM.a_saved (by rw [hkj]; exact mm_inN (by omega) (by decide)) ?_
            rw [hkj, mm_cl (by omega)]
            refine mv_ret (pc := 76) d_Mo_corrupt_76 rfl ?_
            refine hqs _ j h7 hj hkj ⟨Int32.not_lt.mp h29, h36⟩ ((hS.code 0).sets hj v) (by simp [mm_u2, mm_gsi, mm_g0]) (fun a j2 ha => ?_)
            have n1 : ¬ a = 52 := by omega
            have n2 : ¬ a = 68 := by omega
            simp [mm_u2, mm_g0, mm_gsi, n1, n2]
          · refine mv_iconst (v := 2) (pc := 39) d_Mo_corrupt_39 (by decide) ?_
            refine mv_goto 44 (pc := 40) d_Mo_corrupt_40 (by decide) ?_
            refine mr_puti (pc := 44) d_Mo_corrupt_44 fl_Mo_69 hM.1 rfl (by decide) ⟨rfl, rfl⟩ ?_
            refine mv_aload_n (pc := 47) d_Mo_corrupt_47 rfl ?_
            refine mr_geti (pc := 48) d_Mo_corrupt_48 fl_Mo_69 hM.1 rfl (by decide) ?_
            rw [mm_gss]
            refine mv_if_le 55 (pc := 51) d_Mo_corrupt_51 (by decide) (fun z => absurd z (by decide)) (fun _ => ?_)
            refine mv_ret (pc := 54) d_Mo_corrupt_54 rfl ?_
            exact hq2s _ j h7 hj hkj (fun z => h36 z.2) (hS.code 2) (by simp [mm_u2]) (mm_ofr.rfl'.cd 0 2)
      · refine mv_iconst (v := 1) (pc := 24) d_Mo_corrupt_24 (by decide) ?_
        refine mv_goto 44 (pc := 25) d_Mo_corrupt_25 (by decide) ?_
        refine mr_puti (pc := 44) d_Mo_corrupt_44 fl_Mo_69 hM.1 rfl (by decide) ⟨rfl, rfl⟩ ?_
        refine mv_aload_n (pc := 47) d_Mo_corrupt_47 rfl ?_
        refine mr_geti (pc := 48) d_Mo_corrupt_48 fl_Mo_69 hM.1 rfl (by decide) ?_
        rw [mm_gss]
        refine mv_if_le 55 (pc := 51) d_Mo_corrupt_51 (by decide) (fun z => absurd z (by decide)) (fun _ => ?_)
        refine mv_ret (pc := 54) d_Mo_corrupt_54 rfl ?_
        exact hq1s _ h7 (mm_nidx (n := sv.length) (by have := hS.2.2.2.2.1; omega) (Or.inr h21)) (hS.code 1) (by simp [mm_u2]) (mm_ofr.rfl'.cd 0 1)
    · refine mv_aload_n (pc := 10) d_Mo_corrupt_10 rfl ?_
      refine mr_geti (pc := 11) d_Mo_corrupt_11 fl_Mo_110 hM.1 rfl (by decide) ?_
      rw [show mm_gi h 52 18 = nI lg.length from hS.2.2.2.1.1]
      refine mv_goto 21 (pc := 14) d_Mo_corrupt_14 (by decide) ?_
      refine mv_ic_lt 28 (pc := 21) d_Mo_corrupt_21 (by decide) (fun h21 => ?_) (fun h21 => ?_)
      · have hl9 : lg.length ≤ 400 := (by have := hS.2.2.2.2.2; omega)
        obtain ⟨j, hj, hkj⟩ := mm_idx2 (n := lg.length) (by omega) h2 h21
        refine mv_iload_n (pc := 28) d_Mo_corrupt_28 rfl ?_
        refine mv_if_lt 39 (pc := 29) d_Mo_corrupt_29 (by decide) (fun h29 => ?_) (fun h29 => ?_)
        · refine mv_iconst (v := 2) (pc := 39) d_Mo_corrupt_39 (by decide) ?_
          refine mv_goto 44 (pc := 40) d_Mo_corrupt_40 (by decide) ?_
          refine mr_puti (pc := 44) d_Mo_corrupt_44 fl_Mo_69 hM.1 rfl (by decide) ⟨rfl, rfl⟩ ?_
          refine mv_aload_n (pc := 47) d_Mo_corrupt_47 rfl ?_
          refine mr_geti (pc := 48) d_Mo_corrupt_48 fl_Mo_69 hM.1 rfl (by decide) ?_
          rw [mm_gss]
          refine mv_if_le 55 (pc := 51) d_Mo_corrupt_51 (by decide) (fun z => absurd z (by decide)) (fun _ => ?_)
          refine mv_ret (pc := 54) d_Mo_corrupt_54 rfl ?_
          exact hq2l _ j h7 hj hkj (fun z => Int32.not_lt.mpr z.1 h29) (hS.code 2) (by simp [mm_u2]) (mm_ofr.rfl'.cd 0 2)
        · refine mv_iload_n (pc := 32) d_Mo_corrupt_32 rfl ?_
          refine mv_sipush (v := 255) (pc := 33) d_Mo_corrupt_33 (by decide) ?_
          refine mv_ic_le 43 (pc := 36) d_Mo_corrupt_36 (by decide) (fun h36 => ?_) (fun h36 => ?_)
          · refine mv_iconst (v := 0) (pc := 43) d_Mo_corrupt_43 (by decide) ?_
            refine mr_puti (pc := 44) d_Mo_corrupt_44 fl_Mo_69 hM.1 rfl (by decide) ⟨rfl, rfl⟩ ?_
            refine mv_aload_n (pc := 47) d_Mo_corrupt_47 rfl ?_
            refine mr_geti (pc := 48) d_Mo_corrupt_48 fl_Mo_69 hM.1 rfl (by decide) ?_
            rw [mm_gss]
            refine mv_if_le 55 (pc := 51) d_Mo_corrupt_51 (by decide) (fun _ => ?_) (fun z => absurd z (by decide))
            refine mv_iload_n (pc := 55) d_Mo_corrupt_55 rfl ?_
            refine mv_if_eq 69 (pc := 56) d_Mo_corrupt_56 (by decide) (fun z => absurd z (h7)) (fun h56 => ?_)
            refine mv_aload_n (pc := 59) d_Mo_corrupt_59 rfl ?_
            refine mr_getr (pc := 60) d_Mo_corrupt_60 fl_Mo_59 hM.1 rfl (by decide) hM.g_log ?_
            refine mv_iload_n (pc := 63) d_Mo_corrupt_63 rfl ?_
            refine mv_iload_n (pc := 64) d_Mo_corrupt_64 rfl ?_
            refine mr_iast (pc := 65) d_Mo_corrupt_65 hM.a_log (by rw [hkj]; exact mm_inN (by omega) (by decide)) ?_
            refine mv_goto 76 (pc := 66) d_Mo_corrupt_66 (by decide) ?_
            rw [hkj, mm_cl (by omega)]
            refine mv_ret (pc := 76) d_Mo_corrupt_76 rfl ?_
            refine hql _ j h7 hj hkj ⟨Int32.not_lt.mp h29, h36⟩ ((hS.code 0).setl hj v) (by simp [mm_u2, mm_gsi, mm_g0]) (fun a j2 ha => ?_)
            have n1 : ¬ a = 52 := by omega
            have n2 : ¬ a = 69 := by omega
            simp [mm_u2, mm_g0, mm_gsi, n1, n2]
          · refine mv_iconst (v := 2) (pc := 39) d_Mo_corrupt_39 (by decide) ?_
            refine mv_goto 44 (pc := 40) d_Mo_corrupt_40 (by decide) ?_
            refine mr_puti (pc := 44) d_Mo_corrupt_44 fl_Mo_69 hM.1 rfl (by decide) ⟨rfl, rfl⟩ ?_
            refine mv_aload_n (pc := 47) d_Mo_corrupt_47 rfl ?_
            refine mr_geti (pc := 48) d_Mo_corrupt_48 fl_Mo_69 hM.1 rfl (by decide) ?_
            rw [mm_gss]
            refine mv_if_le 55 (pc := 51) d_Mo_corrupt_51 (by decide) (fun z => absurd z (by decide)) (fun _ => ?_)
            refine mv_ret (pc := 54) d_Mo_corrupt_54 rfl ?_
            exact hq2l _ j h7 hj hkj (fun z => h36 z.2) (hS.code 2) (by simp [mm_u2]) (mm_ofr.rfl'.cd 0 2)
      · refine mv_iconst (v := 1) (pc := 24) d_Mo_corrupt_24 (by decide) ?_
        refine mv_goto 44 (pc := 25) d_Mo_corrupt_25 (by decide) ?_
        refine mr_puti (pc := 44) d_Mo_corrupt_44 fl_Mo_69 hM.1 rfl (by decide) ⟨rfl, rfl⟩ ?_
        refine mv_aload_n (pc := 47) d_Mo_corrupt_47 rfl ?_
        refine mr_geti (pc := 48) d_Mo_corrupt_48 fl_Mo_69 hM.1 rfl (by decide) ?_
        rw [mm_gss]
        refine mv_if_le 55 (pc := 51) d_Mo_corrupt_51 (by decide) (fun z => absurd z (by decide)) (fun _ => ?_)
        refine mv_ret (pc := 54) d_Mo_corrupt_54 rfl ?_
        exact hq1l _ h7 (mm_nidx (n := lg.length) (by have := hS.2.2.2.2.2; omega) (Or.inr h21)) (hS.code 1) (by simp [mm_u2]) (mm_ofr.rfl'.cd 0 1)
