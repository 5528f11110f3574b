/-! CONTRACTS: the reference: under, write, writeWorld, save (rows by program: con_r.py) -/
set_option maxRecDepth 20000 in
theorem l_munder {G : mm_G} {Q : mm_O → mm_H → Prop} {h : mm_H} {x y : Int32} {A : mm_W} (hM : mm_Mo h) (hR : RM (mm_gi h) 0 A) (hW : WF A) (hxy : ((0 ≤ x ∧ x ≤ 4095) ∧ (0 ≤ y ∧ y ≤ 4095))) (hc0 : mm_gi h 52 0 = 0) (hq : Q (.inl (some (.int (a_cov (fun i => mm_cvr (fun k => A k i) x y) 16)))) h) :
    ∀ (s : Nat) (_ : Unit), s ≤ 16 → True → mm_V G (1, 23) M_Mo_under Q 36 [some (.ref 52), some (.int x), some (.int y), some (.int (a_cov (fun i => mm_cvr (fun k => A k i) x y) s)), some (.int (nI s)), none] [] h := by
  refine mr_loop _ _ 16 (fun _ _ => ?_) (fun s _ hs _ ih => ?_)
  · refine mv_iload (pc := 36) d_Mo_under_36 rfl ?_
    refine mv_bipush (v := 16) (pc := 38) d_Mo_under_38 (by decide) ?_
    refine mv_ic_ge 141 (pc := 40) d_Mo_under_40 (by decide) (fun h40 => ?_) (fun z => absurd z (mm_ge16))
    refine mv_iload_n (pc := 141) d_Mo_under_141 rfl ?_
    refine mv_iret (pc := 142) d_Mo_under_142 rfl rfl ?_
    exact hq
  · refine mv_iload (pc := 36) d_Mo_under_36 rfl ?_
    refine mv_bipush (v := 16) (pc := 38) d_Mo_under_38 (by decide) ?_
    refine mv_ic_ge 141 (pc := 40) d_Mo_under_40 (by decide) (fun z => absurd z (mm_lt16 hs)) (fun h40 => ?_)
    refine mv_aload_n (pc := 43) d_Mo_under_43 rfl ?_
    refine mr_geti (pc := 44) d_Mo_under_44 fl_Mo_69 hM.1 rfl (by decide) ?_
    rw [hc0]
    refine mv_if_ne 141 (pc := 47) d_Mo_under_47 (by decide) (fun z => absurd z (fun z => z rfl)) (fun h47 => ?_)
    refine mv_aload_n (pc := 50) d_Mo_under_50 rfl ?_
    refine mr_getr (pc := 51) d_Mo_under_51 fl_Mo_16 hM.1 rfl (by decide) hM.g_full ?_
    refine mv_iload (pc := 54) d_Mo_under_54 rfl ?_
    refine mr_zald (pc := 56) d_Mo_under_56 hM.a_full (mm_inN (by omega) (by decide)) ?_
    rw [mm_cl (by omega), (hR.at0 hs).2.1]
    refine mv_if_eq 116 (pc := 57) d_Mo_under_57 (by decide) (fun h57 => ?_) (fun h57 => ?_)
    · refine mv_iconst (v := 0) (pc := 116) d_Mo_under_116 (by decide) ?_
      refine mv_istore (pc := 117) d_Mo_under_117 (by decide) ?_
      refine mv_iload (pc := 119) d_Mo_under_119 rfl ?_
      refine mv_if_eq 133 (pc := 121) d_Mo_under_121 (by decide) (fun _ => ?_) (fun z => absurd z (by decide))
      refine mv_iload_n (pc := 133) d_Mo_under_133 rfl ?_
      refine mv_istore_n (pc := 134) d_Mo_under_134 (by decide) ?_
      refine mv_iinc (pc := 135) d_Mo_under_135 rfl rfl (by decide) ?_
      refine mv_goto 36 (pc := 138) d_Mo_under_138 (by decide) ?_
      refine mm_V_drop 5 ?_
      have hc : ¬ mm_cvr (fun k => A k s) x y := fun z => z.1.1 h57
      refine mm_V_ls (ls' := [some (.ref 52), some (.int x), some (.int y), some (.int (a_cov (fun i => mm_cvr (fun k => A k i) x y) (s + 1))), some (.int (nI (s + 1))), none]) (by simp only [List.set]; rw [a_cov0 hc, nI_succ]; rfl) (ih () trivial)
    · have r := (hR.at0 hs).2.2 h57
      have wa := (hW.1 s hs).2.2 h57
      refine mv_aload_n (pc := 60) d_Mo_under_60 rfl ?_
      refine mr_getr (pc := 61) d_Mo_under_61 fl_Mo_32 hM.1 rfl (by decide) hM.g_wide ?_
      refine mv_iload (pc := 64) d_Mo_under_64 rfl ?_
      refine mr_iald (pc := 66) d_Mo_under_66 hM.a_wide (mm_inN (by omega) (by decide)) ?_
      rw [mm_cl (by omega), show mm_gi h 60 s = A 6 s from r 6 (by omega) (by omega)]
      refine mv_if_le 116 (pc := 67) d_Mo_under_67 (by decide) (fun h67 => ?_) (fun h67 => ?_)
      · refine mv_iconst (v := 0) (pc := 116) d_Mo_under_116 (by decide) ?_
        refine mv_istore (pc := 117) d_Mo_under_117 (by decide) ?_
        refine mv_iload (pc := 119) d_Mo_under_119 rfl ?_
        refine mv_if_eq 133 (pc := 121) d_Mo_under_121 (by decide) (fun _ => ?_) (fun z => absurd z (by decide))
        refine mv_iload_n (pc := 133) d_Mo_under_133 rfl ?_
        refine mv_istore_n (pc := 134) d_Mo_under_134 (by decide) ?_
        refine mv_iinc (pc := 135) d_Mo_under_135 rfl rfl (by decide) ?_
        refine mv_goto 36 (pc := 138) d_Mo_under_138 (by decide) ?_
        refine mm_V_drop 5 ?_
        have hc : ¬ mm_cvr (fun k => A k s) x y := fun z => Int32.not_le.mpr z.1.2 h67
        refine mm_V_ls (ls' := [some (.ref 52), some (.int x), some (.int y), some (.int (a_cov (fun i => mm_cvr (fun k => A k i) x y) (s + 1))), some (.int (nI (s + 1))), none]) (by simp only [List.set]; rw [a_cov0 hc, nI_succ]; rfl) (ih () trivial)
      · refine mv_aload_n (pc := 70) d_Mo_under_70 rfl ?_
        refine mr_getr (pc := 71) d_Mo_under_71 fl_Mo_20 hM.1 rfl (by decide) hM.g_px ?_
        refine mv_iload (pc := 74) d_Mo_under_74 rfl ?_
        refine mr_iald (pc := 76) d_Mo_under_76 hM.a_px (mm_inN (by omega) (by decide)) ?_
        rw [mm_cl (by omega), show mm_gi h 56 s = A 2 s from r 2 (by omega) (by omega)]
        refine mv_iload_n (pc := 77) d_Mo_under_77 rfl ?_
        refine mv_aload_n (pc := 78) d_Mo_under_78 rfl ?_
        refine mr_getr (pc := 79) d_Mo_under_79 fl_Mo_32 hM.1 rfl (by decide) hM.g_wide ?_
        refine mv_iload (pc := 82) d_Mo_under_82 rfl ?_
        refine mr_iald (pc := 84) d_Mo_under_84 hM.a_wide (mm_inN (by omega) (by decide)) ?_
        rw [mm_cl (by omega), show mm_gi h 60 s = A 6 s from r 6 (by omega) (by omega)]
        refine mr_callS3 (pc := 85) d_Mo_under_85 (d2 := (0, 0)) ok_Mo_near li_Mo_74 sv_Mo_near ⟨by decide, rfl, rfl, rfl, Nat.le_of_ble_eq_true rfl, rfl, by decide, by decide⟩ ?_
        refine c_near (fun n1 => ?_) (fun n1 => ?_)
        · replace n1 := (mm_near wa.1 hxy.1).mp n1
          refine mv_if_eq 116 (pc := 88) d_Mo_under_88 (by decide) (fun z => absurd z (by decide)) (fun _ => ?_)
          refine mv_aload_n (pc := 91) d_Mo_under_91 rfl ?_
          refine mr_getr (pc := 92) d_Mo_under_92 fl_Mo_23 hM.1 rfl (by decide) hM.g_py ?_
          refine mv_iload (pc := 95) d_Mo_under_95 rfl ?_
          refine mr_iald (pc := 97) d_Mo_under_97 hM.a_py (mm_inN (by omega) (by decide)) ?_
          rw [mm_cl (by omega), show mm_gi h 57 s = A 3 s from r 3 (by omega) (by omega)]
          refine mv_iload_n (pc := 98) d_Mo_under_98 rfl ?_
          refine mv_aload_n (pc := 99) d_Mo_under_99 rfl ?_
          refine mr_getr (pc := 100) d_Mo_under_100 fl_Mo_35 hM.1 rfl (by decide) hM.g_high ?_
          refine mv_iload (pc := 103) d_Mo_under_103 rfl ?_
          refine mr_iald (pc := 105) d_Mo_under_105 hM.a_high (mm_inN (by omega) (by decide)) ?_
          rw [mm_cl (by omega), show mm_gi h 61 s = A 7 s from r 7 (by omega) (by omega)]
          refine mr_callS3 (pc := 106) d_Mo_under_106 (d2 := (0, 0)) ok_Mo_near li_Mo_74 sv_Mo_near ⟨by decide, rfl, rfl, rfl, Nat.le_of_ble_eq_true rfl, rfl, by decide, by decide⟩ ?_
          refine c_near (fun n2 => ?_) (fun n2 => ?_)
          · replace n2 := (mm_near wa.2.1 hxy.2).mp n2
            refine mv_if_eq 116 (pc := 109) d_Mo_under_109 (by decide) (fun z => absurd z (by decide)) (fun _ => ?_)
            refine mv_iconst (v := 1) (pc := 112) d_Mo_under_112 (by decide) ?_
            refine mv_goto 117 (pc := 113) d_Mo_under_113 (by decide) ?_
            refine mv_istore (pc := 117) d_Mo_under_117 (by decide) ?_
            refine mv_iload (pc := 119) d_Mo_under_119 rfl ?_
            refine mv_if_eq 133 (pc := 121) d_Mo_under_121 (by decide) (fun z => absurd z (by decide)) (fun _ => ?_)
            refine mv_iload_n (pc := 124) d_Mo_under_124 rfl ?_
            refine mv_iconst (v := 1) (pc := 125) d_Mo_under_125 (by decide) ?_
            refine mv_iload (pc := 126) d_Mo_under_126 rfl ?_
            refine mv_ishl (pc := 128) d_Mo_under_128 ?_
            refine mv_ior (pc := 129) d_Mo_under_129 ?_
            refine mv_goto 134 (pc := 130) d_Mo_under_130 (by decide) ?_
            refine mv_istore_n (pc := 134) d_Mo_under_134 (by decide) ?_
            refine mv_iinc (pc := 135) d_Mo_under_135 rfl rfl (by decide) ?_
            refine mv_goto 36 (pc := 138) d_Mo_under_138 (by decide) ?_
            refine mm_V_drop 5 ?_
            have hc : mm_cvr (fun k => A k s) x y := ⟨⟨h57, Int32.not_le.mp h67⟩, n1, n2⟩
            refine mm_V_ls (ls' := [some (.ref 52), some (.int x), some (.int y), some (.int (a_cov (fun i => mm_cvr (fun k => A k i) x y) (s + 1))), some (.int (nI (s + 1))), none]) (by simp only [List.set]; rw [← a_cov_or hs hc, nI_succ]; rfl) (ih () trivial)
          · replace n2 := fun z => n2 ((mm_near wa.2.1 hxy.2).mpr z)
            refine mv_if_eq 116 (pc := 109) d_Mo_under_109 (by decide) (fun _ => ?_) (fun z => absurd z (by decide))
            refine mv_iconst (v := 0) (pc := 116) d_Mo_under_116 (by decide) ?_
            refine mv_istore (pc := 117) d_Mo_under_117 (by decide) ?_
            refine mv_iload (pc := 119) d_Mo_under_119 rfl ?_
            refine mv_if_eq 133 (pc := 121) d_Mo_under_121 (by decide) (fun _ => ?_) (fun z => absurd z (by decide))
            refine mv_iload_n (pc := 133) d_Mo_under_133 rfl ?_
            refine mv_istore_n (pc := 134) d_Mo_under_134 (by decide) ?_
            refine mv_iinc (pc := 135) d_Mo_under_135 rfl rfl (by decide) ?_
            refine mv_goto 36 (pc := 138) d_Mo_under_138 (by decide) ?_
            refine mm_V_drop 5 ?_
            have hc : ¬ mm_cvr (fun k => A k s) x y := fun z => n2 z.2.2
            refine mm_V_ls (ls' := [some (.ref 52), some (.int x), some (.int y), some (.int (a_cov (fun i => mm_cvr (fun k => A k i) x y) (s + 1))), some (.int (nI (s + 1))), none]) (by simp only [List.set]; rw [a_cov0 hc, nI_succ]; rfl) (ih () trivial)
        · replace n1 := fun z => n1 ((mm_near wa.1 hxy.1).mpr z)
          refine mv_if_eq 116 (pc := 88) d_Mo_under_88 (by decide) (fun _ => ?_) (fun z => absurd z (by decide))
          refine mv_iconst (v := 0) (pc := 116) d_Mo_under_116 (by decide) ?_
          refine mv_istore (pc := 117) d_Mo_under_117 (by decide) ?_
          refine mv_iload (pc := 119) d_Mo_under_119 rfl ?_
          refine mv_if_eq 133 (pc := 121) d_Mo_under_121 (by decide) (fun _ => ?_) (fun z => absurd z (by decide))
          refine mv_iload_n (pc := 133) d_Mo_under_133 rfl ?_
          refine mv_istore_n (pc := 134) d_Mo_under_134 (by decide) ?_
          refine mv_iinc (pc := 135) d_Mo_under_135 rfl rfl (by decide) ?_
          refine mv_goto 36 (pc := 138) d_Mo_under_138 (by decide) ?_
          refine mm_V_drop 5 ?_
          have hc : ¬ mm_cvr (fun k => A k s) x y := fun z => n1 z.2.1
          refine mm_V_ls (ls' := [some (.ref 52), some (.int x), some (.int y), some (.int (a_cov (fun i => mm_cvr (fun k => A k i) x y) (s + 1))), some (.int (nI (s + 1))), none]) (by simp only [List.set]; rw [a_cov0 hc, nI_succ]; rfl) (ih () trivial)
set_option maxRecDepth 20000 in
theorem c_munder {G : mm_G} {Q : mm_O → mm_H → Prop} {h : mm_H} {A : mm_W} {E : mm_E} {sv lg : List Int32} (hM : mm_Mo h) (hS : MS (mm_gi h) A E sv lg) {x y : Int32} (hW : WF A) (hq1 : ∀ F', ¬ ((0 ≤ x ∧ x ≤ 4095) ∧ (0 ≤ y ∧ y ≤ 4095)) → MS F' A E sv lg → F' 52 0 = 1 → mm_ofr (mm_gi h) F' → Q (.inl (some (.int (0)))) (mm_wi h F')) (hq : ∀ F', ((0 ≤ x ∧ x ≤ 4095) ∧ (0 ≤ y ∧ y ≤ 4095)) → MS F' A E sv lg → F' 52 0 = 0 → mm_ofr (mm_gi h) F' → Q (.inl (some (.int (a_cov (fun i => mm_cvr (fun k => A k i) x y) 16)))) (mm_wi h F')) : mm_V G (1, 23) M_Mo_under Q 0 (mm_ent 6 [.ref 52, .int x, .int y]) [] h := by
  show mm_V G (1, 23) M_Mo_under Q 0 [some (.ref 52), some (.int x), some (.int y), none, none, none] [] h
  refine mv_aload_n (pc := 0) d_Mo_under_0 rfl ?_
  refine mv_iload_n (pc := 1) d_Mo_under_1 rfl ?_
  refine mv_if_lt 23 (pc := 2) d_Mo_under_2 (by decide) (fun h2 => ?_) (fun h2 => ?_)
  · refine mv_iconst (v := 1) (pc := 23) d_Mo_under_23 (by decide) ?_
    refine mv_goto 28 (pc := 24) d_Mo_under_24 (by decide) ?_
    refine mr_puti (pc := 28) d_Mo_under_28 fl_Mo_69 hM.1 rfl (by decide) ⟨rfl, rfl⟩ ?_
    refine mv_iconst (v := 0) (pc := 31) d_Mo_under_31 (by decide) ?_
    refine mv_istore_n (pc := 32) d_Mo_under_32 (by decide) ?_
    refine mv_iconst (v := 0) (pc := 33) d_Mo_under_33 (by decide) ?_
    refine mv_istore (pc := 34) d_Mo_under_34 (by decide) ?_
    refine mv_iload (pc := 36) d_Mo_under_36 rfl ?_
    refine mv_bipush (v := 16) (pc := 38) d_Mo_under_38 (by decide) ?_
    refine mv_ic_ge 141 (pc := 40) d_Mo_under_40 (by decide) (fun z => absurd z (by decide)) (fun _ => ?_)
    refine mv_aload_n (pc := 43) d_Mo_under_43 rfl ?_
    refine mr_geti (pc := 44) d_Mo_under_44 fl_Mo_69 hM.1 rfl (by decide) ?_
    rw [mm_gss]
    refine mv_if_ne 141 (pc := 47) d_Mo_under_47 (by decide) (fun _ => ?_) (fun z => absurd z (by decide))
    refine mv_iload_n (pc := 141) d_Mo_under_141 rfl ?_
    refine mv_iret (pc := 142) d_Mo_under_142 rfl rfl ?_
    exact hq1 _ (fun z => Int32.not_lt.mpr z.1.1 h2) (hS.code 1) (by simp [mm_u2]) (mm_ofr.rfl'.cd 0 1)
  · refine mv_iload_n (pc := 5) d_Mo_under_5 rfl ?_
    refine mv_sipush (v := 4095) (pc := 6) d_Mo_under_6 (by decide) ?_
    refine mv_ic_gt 23 (pc := 9) d_Mo_under_9 (by decide) (fun h9 => ?_) (fun h9 => ?_)
    · refine mv_iconst (v := 1) (pc := 23) d_Mo_under_23 (by decide) ?_
      refine mv_goto 28 (pc := 24) d_Mo_under_24 (by decide) ?_
      refine mr_puti (pc := 28) d_Mo_under_28 fl_Mo_69 hM.1 rfl (by decide) ⟨rfl, rfl⟩ ?_
      refine mv_iconst (v := 0) (pc := 31) d_Mo_under_31 (by decide) ?_
      refine mv_istore_n (pc := 32) d_Mo_under_32 (by decide) ?_
      refine mv_iconst (v := 0) (pc := 33) d_Mo_under_33 (by decide) ?_
      refine mv_istore (pc := 34) d_Mo_under_34 (by decide) ?_
      refine mv_iload (pc := 36) d_Mo_under_36 rfl ?_
      refine mv_bipush (v := 16) (pc := 38) d_Mo_under_38 (by decide) ?_
      refine mv_ic_ge 141 (pc := 40) d_Mo_under_40 (by decide) (fun z => absurd z (by decide)) (fun _ => ?_)
      refine mv_aload_n (pc := 43) d_Mo_under_43 rfl ?_
      refine mr_geti (pc := 44) d_Mo_under_44 fl_Mo_69 hM.1 rfl (by decide) ?_
      rw [mm_gss]
      refine mv_if_ne 141 (pc := 47) d_Mo_under_47 (by decide) (fun _ => ?_) (fun z => absurd z (by decide))
      refine mv_iload_n (pc := 141) d_Mo_under_141 rfl ?_
      refine mv_iret (pc := 142) d_Mo_under_142 rfl rfl ?_
      exact hq1 _ (fun z => Int32.not_lt.mpr z.1.2 h9) (hS.code 1) (by simp [mm_u2]) (mm_ofr.rfl'.cd 0 1)
    · refine mv_iload_n (pc := 12) d_Mo_under_12 rfl ?_
      refine mv_if_lt 23 (pc := 13) d_Mo_under_13 (by decide) (fun h13 => ?_) (fun h13 => ?_)
      · refine mv_iconst (v := 1) (pc := 23) d_Mo_under_23 (by decide) ?_
        refine mv_goto 28 (pc := 24) d_Mo_under_24 (by decide) ?_
        refine mr_puti (pc := 28) d_Mo_under_28 fl_Mo_69 hM.1 rfl (by decide) ⟨rfl, rfl⟩ ?_
        refine mv_iconst (v := 0) (pc := 31) d_Mo_under_31 (by decide) ?_
        refine mv_istore_n (pc := 32) d_Mo_under_32 (by decide) ?_
        refine mv_iconst (v := 0) (pc := 33) d_Mo_under_33 (by decide) ?_
        refine mv_istore (pc := 34) d_Mo_under_34 (by decide) ?_
        refine mv_iload (pc := 36) d_Mo_under_36 rfl ?_
        refine mv_bipush (v := 16) (pc := 38) d_Mo_under_38 (by decide) ?_
        refine mv_ic_ge 141 (pc := 40) d_Mo_under_40 (by decide) (fun z => absurd z (by decide)) (fun _ => ?_)
        refine mv_aload_n (pc := 43) d_Mo_under_43 rfl ?_
        refine mr_geti (pc := 44) d_Mo_under_44 fl_Mo_69 hM.1 rfl (by decide) ?_
        rw [mm_gss]
        refine mv_if_ne 141 (pc := 47) d_Mo_under_47 (by decide) (fun _ => ?_) (fun z => absurd z (by decide))
        refine mv_iload_n (pc := 141) d_Mo_under_141 rfl ?_
        refine mv_iret (pc := 142) d_Mo_under_142 rfl rfl ?_
        exact hq1 _ (fun z => Int32.not_lt.mpr z.2.1 h13) (hS.code 1) (by simp [mm_u2]) (mm_ofr.rfl'.cd 0 1)
      · refine mv_iload_n (pc := 16) d_Mo_under_16 rfl ?_
        refine mv_sipush (v := 4095) (pc := 17) d_Mo_under_17 (by decide) ?_
        refine mv_ic_le 27 (pc := 20) d_Mo_under_20 (by decide) (fun h20 => ?_) (fun h20 => ?_)
        · refine mv_iconst (v := 0) (pc := 27) d_Mo_under_27 (by decide) ?_
          refine mr_puti (pc := 28) d_Mo_under_28 fl_Mo_69 hM.1 rfl (by decide) ⟨rfl, rfl⟩ ?_
          refine mv_iconst (v := 0) (pc := 31) d_Mo_under_31 (by decide) ?_
          refine mv_istore_n (pc := 32) d_Mo_under_32 (by decide) ?_
          refine mv_iconst (v := 0) (pc := 33) d_Mo_under_33 (by decide) ?_
          refine mv_istore (pc := 34) d_Mo_under_34 (by decide) ?_
          have hxy : ((0 ≤ x ∧ x ≤ 4095) ∧ (0 ≤ y ∧ y ≤ 4095)) := ⟨⟨Int32.not_lt.mp h2, Int32.not_lt.mp h9⟩, ⟨Int32.not_lt.mp h13, h20⟩⟩
          refine l_munder (h := mm_si h 52 0 0) hM (hS.code 0).1 hW hxy (mm_gss h 52 0 0) ?_ 0 () (by omega) trivial
          exact hq _ hxy (hS.code 0) (by simp [mm_u2]) (mm_ofr.rfl'.cd 0 0)
        · refine mv_iconst (v := 1) (pc := 23) d_Mo_under_23 (by decide) ?_
          refine mv_goto 28 (pc := 24) d_Mo_under_24 (by decide) ?_
          refine mr_puti (pc := 28) d_Mo_under_28 fl_Mo_69 hM.1 rfl (by decide) ⟨rfl, rfl⟩ ?_
          refine mv_iconst (v := 0) (pc := 31) d_Mo_under_31 (by decide) ?_
          refine mv_istore_n (pc := 32) d_Mo_under_32 (by decide) ?_
          refine mv_iconst (v := 0) (pc := 33) d_Mo_under_33 (by decide) ?_
          refine mv_istore (pc := 34) d_Mo_under_34 (by decide) ?_
          refine mv_iload (pc := 36) d_Mo_under_36 rfl ?_
          refine mv_bipush (v := 16) (pc := 38) d_Mo_under_38 (by decide) ?_
          refine mv_ic_ge 141 (pc := 40) d_Mo_under_40 (by decide) (fun z => absurd z (by decide)) (fun _ => ?_)
          refine mv_aload_n (pc := 43) d_Mo_under_43 rfl ?_
          refine mr_geti (pc := 44) d_Mo_under_44 fl_Mo_69 hM.1 rfl (by decide) ?_
          rw [mm_gss]
          refine mv_if_ne 141 (pc := 47) d_Mo_under_47 (by decide) (fun _ => ?_) (fun z => absurd z (by decide))
          refine mv_iload_n (pc := 141) d_Mo_under_141 rfl ?_
          refine mv_iret (pc := 142) d_Mo_under_142 rfl rfl ?_
          exact hq1 _ (fun z => h20 z.2.2) (hS.code 1) (by simp [mm_u2]) (mm_ofr.rfl'.cd 0 1)
/-- the reference's draft -/
def DR (F : mm_W) (ds : List Int32) : Prop := F 52 20 = nI ds.length ∧ ∀ j, j < ds.length → F 70 j = ds.getD j 0
def mm_dfr (F F' : mm_W) : Prop := ∀ a j, a ≠ 70 → ¬ (a = 52 ∧ j = 20) → F' a j = F a j
theorem mm_dfr.rfl' {F : mm_W} : mm_dfr F F := fun _ _ _ _ => rfl
theorem mm_dfr.trans {F F1 F2 : mm_W} (h1 : mm_dfr F F1) (h2 : mm_dfr F1 F2) : mm_dfr F F2 := fun a j ha hb => (h2 a j ha hb).trans (h1 a j ha hb)
theorem DR.app {F : mm_W} {ds : List Int32} (h : DR F ds) (x : Int32) : DR (mm_u2 (mm_u2 F 70 ds.length x) 52 20 (nI (ds.length + 1))) (ds ++ [x]) := by
  refine ⟨by simp [mm_u2], fun j hj => ?_⟩
  rw [List.length_append, List.length_singleton] at hj
  rw [mm_getD_app hj]
  by_cases e : j = ds.length
  · subst e; simp [mm_u2]
  · rw [if_neg e]
    have := h.2 j (by omega)
    simpa [mm_u2, e] using this
theorem mm_dfr.app {F F0 : mm_W} (h : mm_dfr F0 F) (n : Nat) (x y : Int32) : mm_dfr F0 (mm_u2 (mm_u2 F 70 n x) 52 20 y) := fun a j ha hb => by
  simp only [mm_u2, ha, hb, false_and, if_false]
  exact h a j ha hb
theorem RM.dfr {F F' A : mm_W} {k : Nat} (h : RM F k A) (hf : mm_dfr F F') : RM F' k A := h.same fun a j h1 h2 => hf a j (by omega) (by omega)
theorem mm_m1 (x : Int32) : x + Int32.ofInt (-1) = x - 1 := by
  rw [Int32.sub_eq_add_neg]; rfl
theorem mm_8 (k : Nat) : (8 : Int32) * nI k = nI (8 * k) := pk_mul 8 k
set_option maxRecDepth 20000 in
theorem l_mwr {G : mm_G} {Q : mm_O → mm_H → Prop} {h : mm_H} {v : Int32} {n : Nat} (hM : mm_Mo h) (F0 : mm_W) : ∀ (r : Nat) (F : mm_W) (ds : List Int32), r ≤ 4 → DR F ds → ds.length + r ≤ 600 → mm_dfr F0 F → (∀ F', DR F' (ds ++ mm_enc v r) → mm_dfr F0 F' → Q (.inl none) (mm_wi h F')) →
    mm_V G (0, 0) M_Mo_write Q 4 [some (.ref 52), some (.int v), some (.int (nI n)), some (.int (nI r - 1))] [] (mm_wi h F) := by
  intro r
  induction r with
  | zero =>
    intro F ds hr hD hl hf hq
    refine mv_iload_n (pc := 4) d_Mo_write_4 rfl ?_
    refine mv_if_lt 43 (pc := 5) d_Mo_write_5 (by decide) (fun h5 => ?_) (fun z => absurd z (fun z => z (by decide)))
    refine mv_ret (pc := 43) d_Mo_write_43 rfl ?_
    refine hq F ?_ hf
    rw [show ds ++ mm_enc v 0 = ds from List.append_nil ds]; exact hD
  | succ r ih =>
    intro F ds hr hD hl hf hq
    rw [nI_pred]
    refine mv_iload_n (pc := 4) d_Mo_write_4 rfl ?_
    refine mv_if_lt 43 (pc := 5) d_Mo_write_5 (by decide) (fun z => absurd z (nI_pos (by omega))) (fun h5 => ?_)
    refine mv_aload_n (pc := 8) d_Mo_write_8 rfl ?_
    refine mr_getr (pc := 9) d_Mo_write_9 fl_Mo_62 hM.1 rfl (by decide) hM.g_draft ?_
    refine mv_aload_n (pc := 12) d_Mo_write_12 rfl ?_
    refine mr_geti (pc := 13) d_Mo_write_13 fl_Mo_126 hM.1 rfl (by decide) ?_
    rw [show mm_gi (mm_wi h F) 52 20 = nI ds.length from hD.1]
    refine mv_iload_n (pc := 16) d_Mo_write_16 rfl ?_
    refine mv_bipush (v := 8) (pc := 17) d_Mo_write_17 (by decide) ?_
    refine mv_iload_n (pc := 19) d_Mo_write_19 rfl ?_
    refine mv_imul (pc := 20) d_Mo_write_20 ?_
    rw [mm_8]
    refine mv_ishr (pc := 21) d_Mo_write_21 ?_
    refine mv_sipush (v := 255) (pc := 22) d_Mo_write_22 (by decide) ?_
    refine mv_iand (pc := 25) d_Mo_write_25 ?_
    refine mr_iast (pc := 26) d_Mo_write_26 hM.a_draft (mm_inN (by omega) (by decide)) ?_
    rw [mm_cl (by omega)]
    refine mv_aload_n (pc := 27) d_Mo_write_27 rfl ?_
    refine mv_dup (pc := 28) d_Mo_write_28 rfl ?_
    refine mr_geti (pc := 29) d_Mo_write_29 fl_Mo_126 hM.1 rfl (by decide) ?_
    rw [show mm_gi (mm_si (mm_wi h F) 70 ds.length (v >>> (nI (8 * r) &&& 31) &&& 255)) 52 20 = nI ds.length from hD.1]
    refine mv_iconst (v := 1) (pc := 32) d_Mo_write_32 (by decide) ?_
    refine mv_iadd (pc := 33) d_Mo_write_33 ?_
    rw [← nI_succ]
    refine mr_puti (pc := 34) d_Mo_write_34 fl_Mo_126 hM.1 rfl (by decide) ⟨rfl, rfl⟩ ?_
    refine mv_iinc (pc := 37) d_Mo_write_37 rfl rfl (by decide) ?_
    refine mv_goto 4 (pc := 40) d_Mo_write_40 (by decide) ?_
    refine mm_V_ls (ls' := [some (.ref 52), some (.int v), some (.int (nI n)), some (.int (nI r - 1))]) (by simp only [List.set]; rw [mm_m1]) ?_
    refine ih _ _ (by omega) (hD.app _) (by simp; omega) (hf.app _ _ _) (fun F' d f => hq F' ?_ f)
    simpa only [mm_enc, List.append_assoc, List.cons_append, List.nil_append] using d
set_option maxRecDepth 20000 in
theorem c_mwrite {G : mm_G} {Q : mm_O → mm_H → Prop} {h : mm_H} {v : Int32} {n : Nat} {ds : List Int32} (hM : mm_Mo h) (hn : n ≤ 4) (hD : DR (mm_gi h) ds) (hl : ds.length + n ≤ 600) (hq : ∀ F', DR F' (ds ++ mm_enc v n) → mm_dfr (mm_gi h) F' → Q (.inl none) (mm_wi h F')) : mm_V G (0, 0) M_Mo_write Q 0 (mm_ent 4 [.ref 52, .int v, .int (nI n)]) [] h := by
  show mm_V G (0, 0) M_Mo_write Q 0 [some (.ref 52), some (.int v), some (.int (nI n)), none] [] h
  refine mv_iload_n (pc := 0) d_Mo_write_0 rfl ?_
  refine mv_iconst (v := 1) (pc := 1) d_Mo_write_1 (by decide) ?_
  refine mv_isub (pc := 2) d_Mo_write_2 ?_
  refine mv_istore_n (pc := 3) d_Mo_write_3 (by decide) ?_
  exact l_mwr hM (mm_gi h) n (mm_gi h) ds hn hD hl mm_dfr.rfl' hq
