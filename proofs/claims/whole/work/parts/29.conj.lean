/-! CONTRACTS: TickArena: event, good, about, handleOf, under, clock, save, size, at, corrupt (rows by program: con_j.py) -/
/-- an index below n, out of what the code asks -/
theorem mm_idx {k : Int32} {n : Nat} (hn : n < 65536) (h : 0 ≤ k ∧ k < nI n) : ∃ j, j < n ∧ k = nI j := by
  obtain ⟨j, hj, rfl⟩ := nI_of (x := k) (Int32.not_lt.mpr h.1)
  exact ⟨j, (nI_ltI hj (by omega)).mp h.2, rfl⟩
theorem mm_idx_of {k : Int32} {j n : Nat} (hn : n < 65536) (hj : j < n) (e : k = nI j) : 0 ≤ k ∧ k < nI n := by
  subst e; exact ⟨nI_pos' (by omega), nI_lt hj (by omega)⟩
/-- events as they come: not too many, pairs of slots -/
def a_okE (E : mm_E) : Prop := E.length ≤ 120 ∧ ∀ j, j < E.length → (E.getD j (0, 0)).2 < 256
set_option maxRecDepth 20000 in
theorem c_event {G : mm_G} {Q : mm_O → mm_H → Prop} {h : mm_H} {w w2 : Nat} {A : mm_W} {E : mm_E} {sv lg : List Int32} (hG : G.1.stackTraces = false) (hr : mm_rm G h) (hT : mm_Ta h w w2) (hC : CS (mm_gi h) w A E sv lg) {k b : Int32} (hE : a_okE E) (hq3 : (∀ j, j < E.length → ¬ k = nI j) → Q (.inr 3) (mm_exc h)) (hq0 : ∀ j, j < E.length → k = nI j → ¬ b = 0 → ¬ b = 1 → ¬ b = 2 → Q (.inr 0) (mm_exc h)) (hqa : ∀ j, j < E.length → k = nI j → b = 0 → Q (.inl (some (.int (E.getD j (0, 0)).1))) h) (hqb : ∀ j, j < E.length → k = nI j → b = 1 → Q (.inl (some (.int (nI ((E.getD j (0, 0)).2 / 16))))) h) (hqc : ∀ j, j < E.length → k = nI j → b = 2 → Q (.inl (some (.int (nI ((E.getD j (0, 0)).2 % 16))))) h) : mm_V G (6, 90) M_Ta_event Q 0 (mm_ent 4 [.ref 1, .int k, .int b]) [] h := by
  show mm_V G (6, 90) M_Ta_event Q 0 [some (.ref 1), some (.int k), some (.int b), none] [] h
  refine mv_aload_n (pc := 0) d_Ta_event_0 rfl ?_
  refine mr_getr (pc := 1) d_Ta_event_1 fl_Ta_10 hT.1 rfl (by decide) hT.2.1 ?_
  refine mr_getr (pc := 4) d_Ta_event_4 fl_Ta_122 hT.2.2.2.2.2.2.2.1.1 rfl (by decide) hT.2.2.2.2.2.2.2.1.2.2.2.2.2.2.2.1 ?_
  refine mv_astore_n (pc := 7) d_Ta_event_7 (by decide) ?_
  refine mv_aload_n (pc := 8) d_Ta_event_8 rfl ?_
  refine mv_iload_n (pc := 9) d_Ta_event_9 rfl ?_
  refine mr_callV1 (pc := 10) d_Ta_event_10 (d2 := (0, 0)) ok_Ev_has li_Ta_131 sv_Ev_has hT.2.2.2.2.2.2.2.1.2.2.2.1.1 ⟨by decide, rfl⟩ ⟨by decide, rfl, Nat.le_of_ble_eq_true rfl, rfl, by decide, by decide⟩ ?_
  refine c_evHas hT.2.2.2.2.2.2.2.1.2.2.2.1 (fun hc10 => ?_) (fun hc10 => ?_)
  · refine mv_if_ne 24 (pc := 13) d_Ta_event_13 (by decide) (fun _ => ?_) (fun z => absurd z (by decide))
    have hl0 := hE.1
    obtain ⟨j, hj, hkj⟩ := mm_idx (n := E.length) (by omega) (by rw [← hC.2.1.1]; exact hc10)
    have hp256 := hE.2 j hj
    have hk1 := (hC.2.1.2 j hj).1
    have hk2 := (hC.2.1.2 j hj).2
    refine mv_iload_n (pc := 24) d_Ta_event_24 rfl ?_
    by_cases hs0 : b = 0
    · refine mv_tabIn 52 (pc := 25) d_Ta_event_25 (by rw [hs0]; decide) (by rw [hs0]; decide) (by rw [hs0]; rfl) (by decide) ?_
      refine mv_aload_n (pc := 52) d_Ta_event_52 rfl ?_
      refine mr_getr (pc := 53) d_Ta_event_53 fl_Ta_137 hT.2.2.2.2.2.2.2.1.2.2.2.1.1 rfl (by decide) hT.2.2.2.2.2.2.2.1.2.2.2.1.2.2.2.1 ?_
      refine mv_iload_n (pc := 56) d_Ta_event_56 rfl ?_
      refine mr_iald (pc := 57) d_Ta_event_57 hT.2.2.2.2.2.2.2.1.2.2.2.1.2.1 (by rw [hkj]; exact vp_in_nI (by omega) (by decide)) ?_
      rw [hkj, nI_clamp (by omega)]
      rw [show mm_gi h (w + 3 + 1) j = (E.getD j (0, 0)).1 from hk1]
      refine mv_iret (pc := 58) d_Ta_event_58 rfl rfl ?_
      exact hqa j hj hkj hs0
    by_cases hs1 : b = 1
    · refine mv_tabIn 59 (pc := 25) d_Ta_event_25 (by rw [hs1]; decide) (by rw [hs1]; decide) (by rw [hs1]; rfl) (by decide) ?_
      refine mv_aload_n (pc := 59) d_Ta_event_59 rfl ?_
      refine mr_getr (pc := 60) d_Ta_event_60 fl_Ta_141 hT.2.2.2.2.2.2.2.1.2.2.2.1.1 rfl (by decide) hT.2.2.2.2.2.2.2.1.2.2.2.1.2.2.2.2 ?_
      refine mv_iload_n (pc := 63) d_Ta_event_63 rfl ?_
      refine mr_iald (pc := 64) d_Ta_event_64 hT.2.2.2.2.2.2.2.1.2.2.2.1.2.2.1 (by rw [hkj]; exact vp_in_nI (by omega) (by decide)) ?_
      rw [hkj, nI_clamp (by omega)]
      rw [show mm_gi h (w + 3 + 2) j = nI (E.getD j (0, 0)).2 from hk2]
      refine mr_callS1 (pc := 65) d_Ta_event_65 (d2 := (0, 0)) ok_Ta_firstOf li_Ta_144 sv_Ta_firstOf ⟨by decide, rfl, Nat.le_of_ble_eq_true rfl, rfl, by decide, by decide⟩ ?_
      refine c_firstOf ?_
      rw [show nI (E.getD j (0, 0)).2 / 16 = nI ((E.getD j (0, 0)).2 / 16) from pk_div (d := 16) (by omega) (by decide) (by decide)]
      refine mv_iret (pc := 68) d_Ta_event_68 rfl rfl ?_
      exact hqb j hj hkj hs1
    by_cases hs2 : b = 2
    · refine mv_tabIn 69 (pc := 25) d_Ta_event_25 (by rw [hs2]; decide) (by rw [hs2]; decide) (by rw [hs2]; rfl) (by decide) ?_
      refine mv_aload_n (pc := 69) d_Ta_event_69 rfl ?_
      refine mr_getr (pc := 70) d_Ta_event_70 fl_Ta_141 hT.2.2.2.2.2.2.2.1.2.2.2.1.1 rfl (by decide) hT.2.2.2.2.2.2.2.1.2.2.2.1.2.2.2.2 ?_
      refine mv_iload_n (pc := 73) d_Ta_event_73 rfl ?_
      refine mr_iald (pc := 74) d_Ta_event_74 hT.2.2.2.2.2.2.2.1.2.2.2.1.2.2.1 (by rw [hkj]; exact vp_in_nI (by omega) (by decide)) ?_
      rw [hkj, nI_clamp (by omega)]
      rw [show mm_gi h (w + 3 + 2) j = nI (E.getD j (0, 0)).2 from hk2]
      refine mr_callS1 (pc := 75) d_Ta_event_75 (d2 := (0, 0)) ok_Ta_secondOf li_Ta_147 sv_Ta_secondOf ⟨by decide, rfl, Nat.le_of_ble_eq_true rfl, rfl, by decide, by decide⟩ ?_
      refine c_secondOf ?_
      rw [show nI (E.getD j (0, 0)).2 - nI (E.getD j (0, 0)).2 / 16 * 16 = nI ((E.getD j (0, 0)).2 % 16) from pk_rem (d := 16) (by omega) (by decide) (by decide)]
      refine mv_iret (pc := 78) d_Ta_event_78 rfl rfl ?_
      exact hqc j hj hkj hs2
    refine mv_tabOut 79 (pc := 25) d_Ta_event_25 (by have t0 : ¬ b.toInt = 0 := fun z => hs0 (Int32.toInt_inj.mp (z.trans (by decide))); have t1 : ¬ b.toInt = 1 := fun z => hs1 (Int32.toInt_inj.mp (z.trans (by decide))); have t2 : ¬ b.toInt = 2 := fun z => hs2 (Int32.toInt_inj.mp (z.trans (by decide))); omega) (by decide) ?_
    refine mv_throw (pc := 79) hG d_Ta_event_79 d_Ta_event_82 d_Ta_event_83 d_Ta_event_86 xl_Ta_41 (by decide) rfl (Nat.le_of_ble_eq_true rfl) hr.1 hr.2 ?_
    exact hq0 j hj hkj hs0 hs1 hs2
  · refine mv_if_ne 24 (pc := 13) d_Ta_event_13 (by decide) (fun z => absurd z (by decide)) (fun _ => ?_)
    refine mv_throw (pc := 16) hG d_Ta_event_16 d_Ta_event_19 d_Ta_event_20 d_Ta_event_23 xl_Ta_134 (by decide) rfl (Nat.le_of_ble_eq_true rfl) hr.1 hr.2 ?_
    refine hq3 (fun j hj e => hc10 ?_)
    rw [hC.2.1.1]
    exact mm_idx_of (by have := hE.1; omega) hj e
set_option maxRecDepth 20000 in
theorem c_good {G : mm_G} {Q : mm_O → mm_H → Prop} {h : mm_H} {w w2 : Nat} {A : mm_W} {E : mm_E} {sv lg : List Int32} (hT : mm_Ta h w w2) (hC : CS (mm_gi h) w A E sv lg) {i : Nat} {x : Int32} (hi : i < 16) (hx : x &&& 15 = nI i) (hq1 : a_good A x i → Q (.inl (some (.int 1))) h) (hq0 : ¬ a_good A x i → Q (.inl (some (.int 0))) h) : mm_V G (3, 63) M_Ta_good Q 0 (mm_ent 2 [.ref 1, .int x]) [] h := by
  show mm_V G (3, 63) M_Ta_good Q 0 [some (.ref 1), some (.int x)] [] h
  refine mv_aload_n (pc := 0) d_Ta_good_0 rfl ?_
  refine mr_getr (pc := 1) d_Ta_good_1 fl_Ta_10 hT.1 rfl (by decide) hT.2.1 ?_
  refine mv_iload_n (pc := 4) d_Ta_good_4 rfl ?_
  refine mr_callV1 (pc := 5) d_Ta_good_5 (d2 := (2, 41)) ok_Wo_isGood li_Ta_150 sv_Wo_isGood hT.2.2.2.2.2.2.2.1.1 ⟨by decide, rfl⟩ ⟨by decide, rfl, Nat.le_of_ble_eq_true rfl, rfl, by decide, by decide⟩ ?_
  refine c_isGood hT.2.2.2.2.2.2.2.1 hi hx (fun hc5 => ?_) (fun hc5 => ?_)
  · refine mv_iret (pc := 8) d_Ta_good_8 rfl rfl ?_
    exact hq1 ((hC.1.good hi).mp hc5)
  · refine mv_iret (pc := 8) d_Ta_good_8 rfl rfl ?_
    exact hq0 (fun z => hc5 ((hC.1.good hi).mpr z))
set_option maxRecDepth 20000 in
theorem c_about {G : mm_G} {Q : mm_O → mm_H → Prop} {h : mm_H} {w w2 : Nat} {A : mm_W} {E : mm_E} {sv lg : List Int32} (hG : G.1.stackTraces = false) (hr : mm_rm G h) (hT : mm_Ta h w w2) (hC : CS (mm_gi h) w A E sv lg) {i : Nat} {x : Int32} (hi : i < 16) (hx : x &&& 15 = nI i) {b : Int32} (hq0 : ¬ a_good A x i → Q (.inr 0) (mm_exc h)) (hq3 : a_good A x i → (∀ k, k < 7 → ¬ b = nI k) → Q (.inr 3) (mm_exc h)) (hq : ∀ k, k < 7 → a_good A x i → b = nI k → Q (.inl (some (.int (A (2 + k) i)))) h) : mm_V G (7, 111) M_Ta_about Q 0 (mm_ent 4 [.ref 1, .int x, .int b]) [] h := by
  show mm_V G (7, 111) M_Ta_about Q 0 [some (.ref 1), some (.int x), some (.int b), none] [] h
  refine mv_aload_n (pc := 0) d_Ta_about_0 rfl ?_
  refine mv_iload_n (pc := 1) d_Ta_about_1 rfl ?_
  refine mr_callV1 (pc := 2) d_Ta_about_2 (d2 := (6, 90)) ok_Ta_needGood li_Ta_63 sv_Ta_needGood hT.1 ⟨by decide, rfl⟩ ⟨by decide, rfl, Nat.le_of_ble_eq_true rfl, rfl, by decide, by decide⟩ ?_
  refine c_needGood hG hr hT hC.1 hi hx (fun hg => ?_) (fun hg => ?_)
  · refine mv_aload_n (pc := 5) d_Ta_about_5 rfl ?_
    refine mr_getr (pc := 6) d_Ta_about_6 fl_Ta_10 hT.1 rfl (by decide) hT.2.1 ?_
    refine mv_iload_n (pc := 9) d_Ta_about_9 rfl ?_
    refine mr_callV1 (pc := 10) d_Ta_about_10 (d2 := (1, 20)) ok_Wo_slotOf li_Ta_83 sv_Wo_slotOf hT.2.2.2.2.2.2.2.1.1 ⟨by decide, rfl⟩ ⟨by decide, rfl, Nat.le_of_ble_eq_true rfl, rfl, by decide, by decide⟩ ?_
    refine c_slotOf hT.2.2.2.2.2.2.2.1 hi hx ?_
    refine mv_astore_n (pc := 13) d_Ta_about_13 (by decide) ?_
    refine mv_iload_n (pc := 14) d_Ta_about_14 rfl ?_
    by_cases hs0 : b = 0
    · refine mv_tabIn 56 (pc := 15) d_Ta_about_15 (by rw [hs0]; decide) (by rw [hs0]; decide) (by rw [hs0]; rfl) (by decide) ?_
      refine mv_aload_n (pc := 56) d_Ta_about_56 rfl ?_
      refine mr_geti (pc := 57) d_Ta_about_57 fl_Ta_153 (hT.2.2.2.2.2.2.2.1.at_ hi) rfl (by decide) ?_
      rw [(hC.1.2.1 i hi).2.2 hg.1 2 (by omega) (by omega)]
      refine mv_iret (pc := 60) d_Ta_about_60 rfl rfl ?_
      exact hq 0 (by omega) hg hs0
    by_cases hs1 : b = 1
    · refine mv_tabIn 61 (pc := 15) d_Ta_about_15 (by rw [hs1]; decide) (by rw [hs1]; decide) (by rw [hs1]; rfl) (by decide) ?_
      refine mv_aload_n (pc := 61) d_Ta_about_61 rfl ?_
      refine mr_geti (pc := 62) d_Ta_about_62 fl_Ta_156 (hT.2.2.2.2.2.2.2.1.at_ hi) rfl (by decide) ?_
      rw [(hC.1.2.1 i hi).2.2 hg.1 3 (by omega) (by omega)]
      refine mv_iret (pc := 65) d_Ta_about_65 rfl rfl ?_
      exact hq 1 (by omega) hg hs1
    by_cases hs2 : b = 2
    · refine mv_tabIn 66 (pc := 15) d_Ta_about_15 (by rw [hs2]; decide) (by rw [hs2]; decide) (by rw [hs2]; rfl) (by decide) ?_
      refine mv_aload_n (pc := 66) d_Ta_about_66 rfl ?_
      refine mr_geti (pc := 67) d_Ta_about_67 fl_Ta_159 (hT.2.2.2.2.2.2.2.1.at_ hi) rfl (by decide) ?_
      rw [(hC.1.2.1 i hi).2.2 hg.1 4 (by omega) (by omega)]
      refine mv_iret (pc := 70) d_Ta_about_70 rfl rfl ?_
      exact hq 2 (by omega) hg hs2
    by_cases hs3 : b = 3
    · refine mv_tabIn 71 (pc := 15) d_Ta_about_15 (by rw [hs3]; decide) (by rw [hs3]; decide) (by rw [hs3]; rfl) (by decide) ?_
      refine mv_aload_n (pc := 71) d_Ta_about_71 rfl ?_
      refine mr_geti (pc := 72) d_Ta_about_72 fl_Ta_162 (hT.2.2.2.2.2.2.2.1.at_ hi) rfl (by decide) ?_
      rw [(hC.1.2.1 i hi).2.2 hg.1 5 (by omega) (by omega)]
      refine mv_iret (pc := 75) d_Ta_about_75 rfl rfl ?_
      exact hq 3 (by omega) hg hs3
    by_cases hs4 : b = 4
    · refine mv_tabIn 76 (pc := 15) d_Ta_about_15 (by rw [hs4]; decide) (by rw [hs4]; decide) (by rw [hs4]; rfl) (by decide) ?_
      refine mv_aload_n (pc := 76) d_Ta_about_76 rfl ?_
      refine mr_geti (pc := 77) d_Ta_about_77 fl_Ta_165 (hT.2.2.2.2.2.2.2.1.at_ hi) rfl (by decide) ?_
      rw [(hC.1.2.1 i hi).2.2 hg.1 6 (by omega) (by omega)]
      refine mv_iret (pc := 80) d_Ta_about_80 rfl rfl ?_
      exact hq 4 (by omega) hg hs4
    by_cases hs5 : b = 5
    · refine mv_tabIn 81 (pc := 15) d_Ta_about_15 (by rw [hs5]; decide) (by rw [hs5]; decide) (by rw [hs5]; rfl) (by decide) ?_
      refine mv_aload_n (pc := 81) d_Ta_about_81 rfl ?_
      refine mr_geti (pc := 82) d_Ta_about_82 fl_Ta_168 (hT.2.2.2.2.2.2.2.1.at_ hi) rfl (by decide) ?_
      rw [(hC.1.2.1 i hi).2.2 hg.1 7 (by omega) (by omega)]
      refine mv_iret (pc := 85) d_Ta_about_85 rfl rfl ?_
      exact hq 5 (by omega) hg hs5
    by_cases hs6 : b = 6
    · refine mv_tabIn 86 (pc := 15) d_Ta_about_15 (by rw [hs6]; decide) (by rw [hs6]; decide) (by rw [hs6]; rfl) (by decide) ?_
      refine mv_aload_n (pc := 86) d_Ta_about_86 rfl ?_
      refine mr_geti (pc := 87) d_Ta_about_87 fl_Ta_108 (hT.2.2.2.2.2.2.2.1.at_ hi) rfl (by decide) ?_
      rw [(hC.1.2.1 i hi).2.2 hg.1 8 (by omega) (by omega)]
      refine mv_iret (pc := 90) d_Ta_about_90 rfl rfl ?_
      exact hq 6 (by omega) hg hs6
    refine mv_tabOut 91 (pc := 15) d_Ta_about_15 (by have t0 : ¬ b.toInt = 0 := fun z => hs0 (Int32.toInt_inj.mp (z.trans (by decide))); have t1 : ¬ b.toInt = 1 := fun z => hs1 (Int32.toInt_inj.mp (z.trans (by decide))); have t2 : ¬ b.toInt = 2 := fun z => hs2 (Int32.toInt_inj.mp (z.trans (by decide))); have t3 : ¬ b.toInt = 3 := fun z => hs3 (Int32.toInt_inj.mp (z.trans (by decide))); have t4 : ¬ b.toInt = 4 := fun z => hs4 (Int32.toInt_inj.mp (z.trans (by decide))); have t5 : ¬ b.toInt = 5 := fun z => hs5 (Int32.toInt_inj.mp (z.trans (by decide))); have t6 : ¬ b.toInt = 6 := fun z => hs6 (Int32.toInt_inj.mp (z.trans (by decide))); omega) (by decide) ?_
    refine mv_throw (pc := 91) hG d_Ta_about_91 d_Ta_about_94 d_Ta_about_95 d_Ta_about_98 xl_Ta_134 (by decide) rfl (Nat.le_of_ble_eq_true rfl) hr.1 hr.2 ?_
    refine hq3 hg (fun k hk e => ?_)
    have : k = 0 ∨ k = 1 ∨ k = 2 ∨ k = 3 ∨ k = 4 ∨ k = 5 ∨ k = 6 := by omega
    rcases this with rfl | rfl | rfl | rfl | rfl | rfl | rfl
    · exact hs0 e
    · exact hs1 e
    · exact hs2 e
    · exact hs3 e
    · exact hs4 e
    · exact hs5 e
    · exact hs6 e
  · exact hq0 hg
set_option maxRecDepth 20000 in
theorem c_handleOf {G : mm_G} {Q : mm_O → mm_H → Prop} {h : mm_H} {w w2 : Nat} {A : mm_W} {E : mm_E} {sv lg : List Int32} (hG : G.1.stackTraces = false) (hr : mm_rm G h) (hT : mm_Ta h w w2) (hC : CS (mm_gi h) w A E sv lg) {x : Int32} (hq3 : (∀ i, i < 16 → ¬ x = nI i) → Q (.inr 3) (mm_exc h)) (hq : ∀ i, i < 16 → x = nI i → ¬ A 1 i = 0 → Q (.inl (some (.int (nI i + 16 * A 0 i)))) h) (hqn : ∀ i, i < 16 → x = nI i → A 1 i = 0 → Q (.inl (some (.int (-1)))) h) : mm_V G (6, 90) M_Ta_handleOf Q 0 (mm_ent 2 [.ref 1, .int x]) [] h := by
  show mm_V G (6, 90) M_Ta_handleOf Q 0 [some (.ref 1), some (.int x)] [] h
  refine mv_iload_n (pc := 0) d_Ta_handleOf_0 rfl ?_
  refine mv_iconst (v := 0) (pc := 1) d_Ta_handleOf_1 (by decide) ?_
  refine mv_bipush (v := 15) (pc := 2) d_Ta_handleOf_2 (by decide) ?_
  refine mr_callS3 (pc := 4) d_Ta_handleOf_4 (d2 := (0, 0)) ok_Ta_isWithin li_Ta_112 sv_Ta_isWithin ⟨by decide, rfl, rfl, rfl, Nat.le_of_ble_eq_true rfl, rfl, by decide, by decide⟩ ?_
  refine c_isWithin (fun hp => ?_) (fun hp => ?_)
  · refine mv_if_ne 18 (pc := 7) d_Ta_handleOf_7 (by decide) (fun _ => ?_) (fun z => absurd z (by decide))
    obtain ⟨i, hi, hxi⟩ := mm_idx (n := 16) (by omega) ⟨hp.1, Int32.lt_of_le_of_lt hp.2 (by decide)⟩
    subst hxi
    have q0 := (hC.1.2.1 i hi).1
    have q1 := (hC.1.2.1 i hi).2.1
    refine mv_aload_n (pc := 18) d_Ta_handleOf_18 rfl ?_
    refine mr_getr (pc := 19) d_Ta_handleOf_19 fl_Ta_10 hT.1 rfl (by decide) hT.2.1 ?_
    refine mr_getr (pc := 22) d_Ta_handleOf_22 fl_Ta_171 hT.2.2.2.2.2.2.2.1.1 rfl (by decide) hT.2.2.2.2.2.2.2.1.2.2.2.2.2.1 ?_
    refine mv_iload_n (pc := 25) d_Ta_handleOf_25 rfl ?_
    refine mr_aald (pc := 26) d_Ta_handleOf_26 hT.2.2.2.2.2.2.2.1.2.1 (mm_in16 hi) (hT.2.2.2.2.2.2.2.1.sl hi) ?_
    refine mr_geti (pc := 27) d_Ta_handleOf_27 fl_Ta_175 (hT.2.2.2.2.2.2.2.1.at_ hi) rfl (by decide) ?_
    rw [q1]
    refine mv_if_eq 44 (pc := 30) d_Ta_handleOf_30 (by decide) (fun h30 => ?_) (fun h30 => ?_)
    · refine mv_iconst (v := -1) (pc := 44) d_Ta_handleOf_44 (by decide) ?_
      refine mv_iret (pc := 45) d_Ta_handleOf_45 rfl rfl ?_
      exact hqn i hi rfl h30
    · refine mv_aload_n (pc := 33) d_Ta_handleOf_33 rfl ?_
      refine mr_getr (pc := 34) d_Ta_handleOf_34 fl_Ta_10 hT.1 rfl (by decide) hT.2.1 ?_
      refine mv_iload_n (pc := 37) d_Ta_handleOf_37 rfl ?_
      refine mr_callV1 (pc := 38) d_Ta_handleOf_38 (d2 := (0, 0)) ok_Wo_handleIn li_Ta_179 sv_Wo_handleIn hT.2.2.2.2.2.2.2.1.1 ⟨by decide, rfl⟩ ⟨by decide, rfl, Nat.le_of_ble_eq_true rfl, rfl, by decide, by decide⟩ ?_
      refine c_handleIn hT.2.2.2.2.2.2.2.1 hi ?_
      refine mv_goto 45 (pc := 41) d_Ta_handleOf_41 (by decide) ?_
      refine mv_iret (pc := 45) d_Ta_handleOf_45 rfl rfl ?_
      rw [q0]
      exact hq i hi rfl h30
  · refine mv_if_ne 18 (pc := 7) d_Ta_handleOf_7 (by decide) (fun z => absurd z (by decide)) (fun _ => ?_)
    refine mv_throw (pc := 10) hG d_Ta_handleOf_10 d_Ta_handleOf_13 d_Ta_handleOf_14 d_Ta_handleOf_17 xl_Ta_134 (by decide) rfl (Nat.le_of_ble_eq_true rfl) hr.1 hr.2 ?_
    refine hq3 (fun i hi e => hp ?_)
    subst e
    exact ⟨nI_pos' (by omega), nI_le (b := 15) (by omega) (by decide)⟩
theorem a_cov_eq {P P' : Nat → Prop} : ∀ n, (∀ i, i < n → (P i ↔ P' i)) → a_cov P n = a_cov P' n
  | 0, _ => rfl
  | n + 1, h => by
    have e := a_cov_eq n (fun i hi => h i (by omega))
    by_cases p : P n
    · rw [a_cov1 p, a_cov1 ((h n (by omega)).mp p), e]
    · rw [a_cov0 p, a_cov0 (fun z => p ((h n (by omega)).mpr z)), e]
theorem RC.cvr {F A : mm_W} {w i : Nat} (h : RC F w A) (hi : i < 16) (x y : Int32) : mm_cvr (F (w + 6 + i)) x y ↔ mm_cvr (fun k => A k i) x y := by
  obtain ⟨-, q1, q2⟩ := h.2.1 i hi
  unfold mm_cvr
  rw [q1]
  by_cases t : A 1 i = 0
  · simp [t]
  · rw [q2 t 2 (by omega) (by omega), q2 t 3 (by omega) (by omega), q2 t 6 (by omega) (by omega), q2 t 7 (by omega) (by omega)]
set_option maxRecDepth 20000 in
theorem c_under {G : mm_G} {Q : mm_O → mm_H → Prop} {h : mm_H} {w w2 : Nat} {A : mm_W} {E : mm_E} {sv lg : List Int32} (hG : G.1.stackTraces = false) (hr : mm_rm G h) (hT : mm_Ta h w w2) (hC : CS (mm_gi h) w A E sv lg) {x y : Int32} (hq0 : ¬ ((0 ≤ x ∧ x ≤ 4095) ∧ (0 ≤ y ∧ y ≤ 4095)) → Q (.inr 0) (mm_exc h)) (hq : ((0 ≤ x ∧ x ≤ 4095) ∧ (0 ≤ y ∧ y ≤ 4095)) → Q (.inl (some (.int (a_cov (fun i => mm_cvr (fun k => A k i) x y) 16)))) h) : mm_V G (6, 90) M_Ta_under Q 0 (mm_ent 3 [.ref 1, .int x, .int y]) [] h := by
  show mm_V G (6, 90) M_Ta_under Q 0 [some (.ref 1), some (.int x), some (.int y)] [] h
  refine mv_iload_n (pc := 0) d_Ta_under_0 rfl ?_
  refine mv_iload_n (pc := 1) d_Ta_under_1 rfl ?_
  refine mr_callS2 (pc := 2) d_Ta_under_2 (d2 := (1, 22)) ok_Ta_isPlace li_Ta_37 sv_Ta_isPlace ⟨by decide, rfl, rfl, Nat.le_of_ble_eq_true rfl, rfl, by decide, by decide⟩ ?_
  refine c_isPlace (fun hp => ?_) (fun hp => ?_)
  · refine mv_if_ne 16 (pc := 5) d_Ta_under_5 (by decide) (fun _ => ?_) (fun z => absurd z (by decide))
    refine mv_aload_n (pc := 16) d_Ta_under_16 rfl ?_
    refine mr_getr (pc := 17) d_Ta_under_17 fl_Ta_10 hT.1 rfl (by decide) hT.2.1 ?_
    refine mv_iload_n (pc := 20) d_Ta_under_20 rfl ?_
    refine mv_iload_n (pc := 21) d_Ta_under_21 rfl ?_
    refine mr_callV2 (pc := 22) d_Ta_under_22 (d2 := (2, 44)) ok_Wo_covering li_Ta_182 sv_Wo_covering hT.2.2.2.2.2.2.2.1.1 ⟨by decide, rfl⟩ ⟨by decide, rfl, rfl, Nat.le_of_ble_eq_true rfl, rfl, by decide, by decide⟩ ?_
    refine c_covering hT.2.2.2.2.2.2.2.1 ?_
    rw [a_cov_eq 16 (fun i hi => hC.1.cvr hi x y)]
    refine mv_iret (pc := 25) d_Ta_under_25 rfl rfl ?_
    exact hq hp
  · refine mv_if_ne 16 (pc := 5) d_Ta_under_5 (by decide) (fun z => absurd z (by decide)) (fun _ => ?_)
    refine mv_throw (pc := 8) hG d_Ta_under_8 d_Ta_under_11 d_Ta_under_12 d_Ta_under_15 xl_Ta_41 (by decide) rfl (Nat.le_of_ble_eq_true rfl) hr.1 hr.2 ?_
    exact hq0 hp
set_option maxRecDepth 20000 in
theorem c_clock {G : mm_G} {Q : mm_O → mm_H → Prop} {h : mm_H} {w w2 : Nat} {A : mm_W} {E : mm_E} {sv lg : List Int32} (hT : mm_Ta h w w2) (hC : CS (mm_gi h) w A E sv lg) (hq : Q (.inl (some (.int (A 10 0)))) h) : mm_V G (0, 0) M_Ta_clock Q 0 (mm_ent 1 [.ref 1]) [] h := by
  show mm_V G (0, 0) M_Ta_clock Q 0 [some (.ref 1)] [] h
  refine mv_aload_n (pc := 0) d_Ta_clock_0 rfl ?_
  refine mr_getr (pc := 1) d_Ta_clock_1 fl_Ta_10 hT.1 rfl (by decide) hT.2.1 ?_
  refine mr_geti (pc := 4) d_Ta_clock_4 fl_Ta_185 hT.2.2.2.2.2.2.2.1.1 rfl (by decide) ?_
  rw [hC.1.1]
  refine mv_iret (pc := 7) d_Ta_clock_7 rfl rfl ?_
  exact hq
set_option maxRecDepth 20000 in
theorem c_save {G : mm_G} {Q : mm_O → mm_H → Prop} {h : mm_H} {w w2 : Nat} {A : mm_W} {E : mm_E} {sv lg : List Int32} (hT : mm_Ta h w w2) (hC : CS (mm_gi h) w A E sv lg) (hcap : 216 + a_cnt (A 9) 256 ≤ 336) (hq : ∀ F', CS F' w A [] (a_encW A) [] → mm_cfr (mm_gi h) F' → Q (.inl (some (.int (nI (a_encW A).length)))) (mm_wi h F')) : mm_V G (4, 88) M_Ta_save Q 0 (mm_ent 1 [.ref 1]) [] h := by
  show mm_V G (4, 88) M_Ta_save Q 0 [some (.ref 1)] [] h
  refine mv_aload_n (pc := 0) d_Ta_save_0 rfl ?_
  refine mr_getr (pc := 1) d_Ta_save_1 fl_Ta_22 hT.1 rfl (by decide) hT.2.2.2.1 ?_
  refine mv_aload_n (pc := 4) d_Ta_save_4 rfl ?_
  refine mr_getr (pc := 5) d_Ta_save_5 fl_Ta_10 hT.1 rfl (by decide) hT.2.1 ?_
  refine mr_callV1 (pc := 8) d_Ta_save_8 (d2 := (3, 66)) ok_Sb_write li_Ta_33 sv_Sb_write hT.2.2.2.2.2.1.1 ⟨by decide, rfl⟩ ⟨by decide, rfl, Nat.le_of_ble_eq_true rfl, rfl, by decide, by decide⟩ ?_
  refine c_write hT.2.2.2.2.2.1 hT.2.2.2.2.2.2.2.1 (Or.inr (by have := hT.le; omega)) hC.1 hcap (fun F1 f1 B1 => ?_)
  refine mv_aload_n (pc := 11) d_Ta_save_11 rfl ?_
  refine mr_getr (pc := 12) d_Ta_save_12 fl_Ta_29 hT.1 rfl (by decide) hT.2.2.2.2.1 ?_
  refine mr_getr (pc := 15) d_Ta_save_15 fl_Ta_188 hT.2.2.2.2.2.2.1.1 rfl (by decide) hT.2.2.2.2.2.2.1.2.1 ?_
  refine mr_callV0 (pc := 18) d_Ta_save_18 (d2 := (0, 0)) ok_By_clear li_Ta_192 sv_By_clear hT.2.2.2.2.2.2.1.2.2.1 ⟨by decide, rfl⟩ ⟨by decide, Nat.le_of_ble_eq_true rfl, rfl, by decide, by decide⟩ ?_
  refine c_byClear hT.2.2.2.2.2.2.1.2.2 ?_
  refine mv_aload_n (pc := 21) d_Ta_save_21 rfl ?_
  refine mr_getr (pc := 22) d_Ta_save_22 fl_Ta_10 hT.1 rfl (by decide) hT.2.1 ?_
  refine mr_getr (pc := 25) d_Ta_save_25 fl_Ta_122 hT.2.2.2.2.2.2.2.1.1 rfl (by decide) hT.2.2.2.2.2.2.2.1.2.2.2.2.2.2.2.1 ?_
  refine mr_callV0 (pc := 28) d_Ta_save_28 (d2 := (0, 0)) ok_Ev_clear li_Ta_197 sv_Ev_clear hT.2.2.2.2.2.2.2.1.2.2.2.1.1 ⟨by decide, rfl⟩ ⟨by decide, Nat.le_of_ble_eq_true rfl, rfl, by decide, by decide⟩ ?_
  refine c_evClear hT.2.2.2.2.2.2.2.1.2.2.2.1 ?_
  have hle := hT.le
  have hw4 := hle.1
  have hlen : (a_encW A).length ≤ 336 := by have := a_body_len A; simp only [a_encW, List.length_append, mm_enc_len]; omega
  have hC1 : CS (mm_u2 (mm_u2 F1 50 1 0) (w + 3) 2 0) w A [] (a_encW A) [] := by
    have hR1 : RC F1 w A := hC.1.yfr (Or.inr (by omega)) f1
    have hR2 : RC (mm_u2 F1 50 1 0) w A := by
      have hf : mm_yfr 50 F1 (mm_u2 F1 50 1 0) := ⟨fun a k a1 a2 => by simp [mm_u2, a1], by simp [mm_u2]⟩
      exact hR1.yfr (Or.inr (by omega)) hf
    refine ⟨hR2.off (fun a k a3 a4 a5 => by simp [mm_u2, a3]), RE.nil (by simp [mm_u2]), B1.off ?_ (fun k => ?_), ⟨?_, fun j hj => absurd hj (by simp)⟩, hlen, by simp⟩
    · have n2 : ¬ 47 = w + 3 := by omega
      simp [mm_u2, n2]
    · have n2 : ¬ 47 + 1 = w + 3 := by omega
      simp only [mm_u2, n2, false_and, if_false]; simp
    · have n2 : ¬ 50 = w + 3 := by omega
      simp [mm_u2, n2]; rfl
  refine mv_aload_n (pc := 31) d_Ta_save_31 rfl ?_
  refine mr_getr (pc := 32) d_Ta_save_32 fl_Ta_22 hT.1 rfl (by decide) hT.2.2.2.1 ?_
  refine mr_getr (pc := 35) d_Ta_save_35 fl_Ta_198 hT.2.2.2.2.2.1.1 rfl (by decide) hT.2.2.2.2.2.1.2.1 ?_
  refine mr_geti (pc := 38) d_Ta_save_38 fl_Ta_199 hT.2.2.2.2.2.1.2.2.1 rfl (by decide) ?_
  rw [show mm_gi (mm_si (mm_si (mm_wi h F1) 50 1 0) (w + 3) 2 0) 47 1 = nI (a_encW A).length from hC1.2.2.1.1]
  refine mv_iret (pc := 41) d_Ta_save_41 rfl rfl ?_
  exact hq _ hC1 (fun a k ha => by
    have n1 : ¬ a = 50 := by omega
    have n2 : ¬ a = w + 3 := by omega
    simp only [mm_usi, mm_uwi, mm_u2, n1, n2, false_and, if_false]
    exact f1.1 a k (by omega) (by omega))
set_option maxRecDepth 20000 in
theorem c_size {G : mm_G} {Q : mm_O → mm_H → Prop} {h : mm_H} {w w2 : Nat} {A : mm_W} {E : mm_E} {sv lg : List Int32} (hT : mm_Ta h w w2) (hC : CS (mm_gi h) w A E sv lg) {b : Int32} (hq1 : ¬ b = 0 → Q (.inl (some (.int (nI lg.length)))) h) (hq0 : b = 0 → Q (.inl (some (.int (nI sv.length)))) h) : mm_V G (1, 21) M_Ta_size Q 0 (mm_ent 2 [.ref 1, .int b]) [] h := by
  show mm_V G (1, 21) M_Ta_size Q 0 [some (.ref 1), some (.int b)] [] h
  refine mv_aload_n (pc := 0) d_Ta_size_0 rfl ?_
  refine mv_iload_n (pc := 1) d_Ta_size_1 rfl ?_
  refine mr_callV1 (pc := 2) d_Ta_size_2 (d2 := (0, 0)) ok_Ta_bytesOf li_Ta_211 sv_Ta_bytesOf hT.1 ⟨by decide, rfl⟩ ⟨by decide, rfl, Nat.le_of_ble_eq_true rfl, rfl, by decide, by decide⟩ ?_
  refine c_bytesOf hT (fun hb => ?_) (fun hb => ?_)
  · refine mr_geti (pc := 5) d_Ta_size_5 fl_Ta_199 hT.2.2.2.2.2.2.1.2.2.1 rfl (by decide) ?_
    rw [hC.2.2.2.1.1]
    refine mv_iret (pc := 8) d_Ta_size_8 rfl rfl ?_
    exact hq1 hb
  · refine mr_geti (pc := 5) d_Ta_size_5 fl_Ta_199 hT.2.2.2.2.2.1.2.2.1 rfl (by decide) ?_
    rw [hC.2.2.1.1]
    refine mv_iret (pc := 8) d_Ta_size_8 rfl rfl ?_
    exact hq0 hb
set_option maxRecDepth 20000 in
theorem c_at {G : mm_G} {Q : mm_O → mm_H → Prop} {h : mm_H} {w w2 : Nat} {A : mm_W} {E : mm_E} {sv lg : List Int32} (hG : G.1.stackTraces = false) (hr : mm_rm G h) (hT : mm_Ta h w w2) (hC : CS (mm_gi h) w A E sv lg) {k b : Int32} (hq3l : ¬ b = 0 → (∀ j, j < lg.length → ¬ k = nI j) → Q (.inr 3) (mm_exc h)) (hq3s : b = 0 → (∀ j, j < sv.length → ¬ k = nI j) → Q (.inr 3) (mm_exc h)) (hql : ∀ j, ¬ b = 0 → j < lg.length → k = nI j → Q (.inl (some (.int (lg.getD j 0)))) h) (hqs : ∀ j, b = 0 → j < sv.length → k = nI j → Q (.inl (some (.int (sv.getD j 0)))) h) : mm_V G (6, 90) M_Ta_at Q 0 (mm_ent 4 [.ref 1, .int k, .int b]) [] h := by
  show mm_V G (6, 90) M_Ta_at Q 0 [some (.ref 1), some (.int k), some (.int b), none] [] h
  refine mv_aload_n (pc := 0) d_Ta_at_0 rfl ?_
  refine mv_iload_n (pc := 1) d_Ta_at_1 rfl ?_
  refine mr_callV1 (pc := 2) d_Ta_at_2 (d2 := (0, 0)) ok_Ta_bytesOf li_Ta_211 sv_Ta_bytesOf hT.1 ⟨by decide, rfl⟩ ⟨by decide, rfl, Nat.le_of_ble_eq_true rfl, rfl, by decide, by decide⟩ ?_
  refine c_bytesOf hT (fun hb => ?_) (fun hb => ?_)
  · refine mv_astore_n (pc := 5) d_Ta_at_5 (by decide) ?_
    refine mv_aload_n (pc := 6) d_Ta_at_6 rfl ?_
    refine mv_iload_n (pc := 7) d_Ta_at_7 rfl ?_
    refine mr_callV1 (pc := 8) d_Ta_at_8 (d2 := (0, 0)) ok_By_has li_Ta_215 sv_By_has hT.2.2.2.2.2.2.1.2.2.1 ⟨by decide, rfl⟩ ⟨by decide, rfl, Nat.le_of_ble_eq_true rfl, rfl, by decide, by decide⟩ ?_
    refine c_byHas hT.2.2.2.2.2.2.1.2.2 (fun hc => ?_) (fun hc => ?_)
    · refine mv_if_ne 22 (pc := 11) d_Ta_at_11 (by decide) (fun _ => ?_) (fun z => absurd z (by decide))
      have hl0 := hC.2.2.2.2.2
      obtain ⟨j, hj, hkj⟩ := mm_idx (n := lg.length) (by omega) (by rw [← hC.2.2.2.1.1]; exact hc)
      refine mv_aload_n (pc := 22) d_Ta_at_22 rfl ?_
      refine mr_getr (pc := 23) d_Ta_at_23 fl_Ta_216 hT.2.2.2.2.2.2.1.2.2.1 rfl (by decide) hT.2.2.2.2.2.2.1.2.2.2.2.1 ?_
      refine mv_iload_n (pc := 26) d_Ta_at_26 rfl ?_
      refine mr_iald (pc := 27) d_Ta_at_27 hT.2.2.2.2.2.2.1.2.2.2.1 (by rw [hkj]; exact vp_in_nI (by omega) (by decide)) ?_
      rw [hkj, nI_clamp (by omega)]
      rw [show mm_gi h (50 + 1) j = lg.getD j 0 from hC.2.2.2.1.2 j hj]
      refine mv_iret (pc := 28) d_Ta_at_28 rfl rfl ?_
      exact hql j hb hj hkj
    · refine mv_if_ne 22 (pc := 11) d_Ta_at_11 (by decide) (fun z => absurd z (by decide)) (fun _ => ?_)
      refine mv_throw (pc := 14) hG d_Ta_at_14 d_Ta_at_17 d_Ta_at_18 d_Ta_at_21 xl_Ta_134 (by decide) rfl (Nat.le_of_ble_eq_true rfl) hr.1 hr.2 ?_
      refine hq3l hb (fun j hj e => hc ?_)
      rw [hC.2.2.2.1.1]
      exact mm_idx_of (by have := hC.2.2.2.2.2; omega) hj e
  · refine mv_astore_n (pc := 5) d_Ta_at_5 (by decide) ?_
    refine mv_aload_n (pc := 6) d_Ta_at_6 rfl ?_
    refine mv_iload_n (pc := 7) d_Ta_at_7 rfl ?_
    refine mr_callV1 (pc := 8) d_Ta_at_8 (d2 := (0, 0)) ok_By_has li_Ta_215 sv_By_has hT.2.2.2.2.2.1.2.2.1 ⟨by decide, rfl⟩ ⟨by decide, rfl, Nat.le_of_ble_eq_true rfl, rfl, by decide, by decide⟩ ?_
    refine c_byHas hT.2.2.2.2.2.1.2.2 (fun hc => ?_) (fun hc => ?_)
    · refine mv_if_ne 22 (pc := 11) d_Ta_at_11 (by decide) (fun _ => ?_) (fun z => absurd z (by decide))
      have hl0 := hC.2.2.2.2.1
      obtain ⟨j, hj, hkj⟩ := mm_idx (n := sv.length) (by omega) (by rw [← hC.2.2.1.1]; exact hc)
      refine mv_aload_n (pc := 22) d_Ta_at_22 rfl ?_
      refine mr_getr (pc := 23) d_Ta_at_23 fl_Ta_216 hT.2.2.2.2.2.1.2.2.1 rfl (by decide) hT.2.2.2.2.2.1.2.2.2.2.1 ?_
      refine mv_iload_n (pc := 26) d_Ta_at_26 rfl ?_
      refine mr_iald (pc := 27) d_Ta_at_27 hT.2.2.2.2.2.1.2.2.2.1 (by rw [hkj]; exact vp_in_nI (by omega) (by decide)) ?_
      rw [hkj, nI_clamp (by omega)]
      rw [show mm_gi h (47 + 1) j = sv.getD j 0 from hC.2.2.1.2 j hj]
      refine mv_iret (pc := 28) d_Ta_at_28 rfl rfl ?_
      exact hqs j hb hj hkj
    · refine mv_if_ne 22 (pc := 11) d_Ta_at_11 (by decide) (fun z => absurd z (by decide)) (fun _ => ?_)
      refine mv_throw (pc := 14) hG d_Ta_at_14 d_Ta_at_17 d_Ta_at_18 d_Ta_at_21 xl_Ta_134 (by decide) rfl (Nat.le_of_ble_eq_true rfl) hr.1 hr.2 ?_
      refine hq3s hb (fun j hj e => hc ?_)
      rw [hC.2.2.1.1]
      exact mm_idx_of (by have := hC.2.2.2.2.1; omega) hj e
theorem mm_By.setb {F : mm_W} {y j : Nat} {bs : List Int32} (h : mm_By F y bs) (hj : j < bs.length) (v : Int32) : mm_By (mm_u2 F (y + 1) j v) y (bs.set j v) := by
  refine ⟨by simp [mm_u2, h.1], fun i hi => ?_⟩
  rw [List.length_set] at hi
  have := h.2 i hi
  rw [List.getD_eq_getElem?_getD] at this ⊢
  by_cases e : i = j
  · subst e; simp [mm_u2, hi]
  · have e' : ¬ j = i := fun z => e z.symm
    simp [mm_u2, e, List.getElem?_set, e', this]
set_option maxRecDepth 20000 in
theorem c_corrupt {G : mm_G} {Q : mm_O → mm_H → Prop} {h : mm_H} {w w2 : Nat} {A : mm_W} {E : mm_E} {sv lg : List Int32} (hG : G.1.stackTraces = false) (hr : mm_rm G h) (hT : mm_Ta h w w2) (hC : CS (mm_gi h) w A E sv lg) {k v b : Int32} (hq3l : ¬ b = 0 → (∀ j, j < lg.length → ¬ k = nI j) → Q (.inr 3) (mm_exc h)) (hq3s : b = 0 → (∀ j, j < sv.length → ¬ k = nI j) → Q (.inr 3) (mm_exc h)) (hq0l : ∀ j, ¬ b = 0 → j < lg.length → k = nI j → ¬ (0 ≤ v ∧ v ≤ 255) → Q (.inr 0) (mm_exc h)) (hq0s : ∀ j, b = 0 → j < sv.length → k = nI j → ¬ (0 ≤ v ∧ v ≤ 255) → Q (.inr 0) (mm_exc h)) (hql : ∀ j F', ¬ b = 0 → j < lg.length → k = nI j → (0 ≤ v ∧ v ≤ 255) → CS F' w A E sv (lg.set j v) → mm_cfr (mm_gi h) F' → Q (.inl none) (mm_wi h F')) (hqs : ∀ j F', b = 0 → j < sv.length → k = nI j → (0 ≤ v ∧ v ≤ 255) → CS F' w A E (sv.set j v) lg → mm_cfr (mm_gi h) F' → Q (.inl none) (mm_wi h F')) : mm_V G (6, 90) M_Ta_corrupt Q 0 (mm_ent 5 [.ref 1, .int k, .int v, .int b]) [] h := by
  show mm_V G (6, 90) M_Ta_corrupt Q 0 [some (.ref 1), some (.int k), some (.int v), some (.int b), none] [] h
  refine mv_aload_n (pc := 0) d_Ta_corrupt_0 rfl ?_
  refine mv_iload_n (pc := 1) d_Ta_corrupt_1 rfl ?_
  refine mr_callV1 (pc := 2) d_Ta_corrupt_2 (d2 := (0, 0)) ok_Ta_bytesOf li_Ta_211 sv_Ta_bytesOf hT.1 ⟨by decide, rfl⟩ ⟨by decide, rfl, Nat.le_of_ble_eq_true rfl, rfl, by decide, by decide⟩ ?_
  refine c_bytesOf hT (fun hb => ?_) (fun hb => ?_)
  · refine mv_astore (pc := 5) d_Ta_corrupt_5 (by decide) ?_
    refine mv_aload (pc := 7) d_Ta_corrupt_7 rfl ?_
    refine mv_iload_n (pc := 9) d_Ta_corrupt_9 rfl ?_
    refine mr_callV1 (pc := 10) d_Ta_corrupt_10 (d2 := (0, 0)) ok_By_has li_Ta_215 sv_By_has hT.2.2.2.2.2.2.1.2.2.1 ⟨by decide, rfl⟩ ⟨by decide, rfl, Nat.le_of_ble_eq_true rfl, rfl, by decide, by decide⟩ ?_
    refine c_byHas hT.2.2.2.2.2.2.1.2.2 (fun hc => ?_) (fun hc => ?_)
    · refine mv_if_ne 24 (pc := 13) d_Ta_corrupt_13 (by decide) (fun _ => ?_) (fun z => absurd z (by decide))
      have hl0 := hC.2.2.2.2.2
      obtain ⟨j, hj, hkj⟩ := mm_idx (n := lg.length) (by omega) (by rw [← hC.2.2.2.1.1]; exact hc)
      refine mv_iload_n (pc := 24) d_Ta_corrupt_24 rfl ?_
      refine mv_iconst (v := 0) (pc := 25) d_Ta_corrupt_25 (by decide) ?_
      refine mv_sipush (v := 255) (pc := 26) d_Ta_corrupt_26 (by decide) ?_
      refine mr_callS3 (pc := 29) d_Ta_corrupt_29 (d2 := (0, 0)) ok_Ta_isWithin li_Ta_112 sv_Ta_isWithin ⟨by decide, rfl, rfl, rfl, Nat.le_of_ble_eq_true rfl, rfl, by decide, by decide⟩ ?_
      refine c_isWithin (fun hp => ?_) (fun hp => ?_)
      · refine mv_if_ne 43 (pc := 32) d_Ta_corrupt_32 (by decide) (fun _ => ?_) (fun z => absurd z (by decide))
        refine mv_aload (pc := 43) d_Ta_corrupt_43 rfl ?_
        refine mr_getr (pc := 45) d_Ta_corrupt_45 fl_Ta_216 hT.2.2.2.2.2.2.1.2.2.1 rfl (by decide) hT.2.2.2.2.2.2.1.2.2.2.2.1 ?_
        refine mv_iload_n (pc := 48) d_Ta_corrupt_48 rfl ?_
        refine mv_iload_n (pc := 49) d_Ta_corrupt_49 rfl ?_
        refine mr_iast (pc := 50) d_Ta_corrupt_50 hT.2.2.2.2.2.2.1.2.2.2.1 (by rw [hkj]; exact vp_in_nI (by omega) (by decide)) ?_
        rw [hkj, nI_clamp (by omega)]
        refine mv_ret (pc := 51) d_Ta_corrupt_51 rfl ?_
        have hle := hT.le
        refine hql j _ hb hj hkj hp ⟨hC.1.yfr (y := 50) (Or.inr (by omega)) ⟨fun a k2 a1 a2 => ?_, ?_⟩, hC.2.1.same (fun a k2 ha => ?_), hC.2.2.1.off ?_ (fun k2 => ?_), hC.2.2.2.1.setb hj v, hC.2.2.2.2.1, by rw [List.length_set]; exact hl0⟩ (fun a k2 ha => ?_)
        · simp [mm_u2, mm_g0, a2]
        · simp [mm_u2, mm_g0]
        · have n1 : ¬ a = 50 + 1 := by omega
          simp [mm_u2, mm_g0, n1]
        · simp [mm_u2, mm_g0]
        · simp [mm_u2, mm_g0]
        · have n1 : ¬ a = 50 + 1 := by omega
          simp [mm_u2, mm_g0, n1]
      · refine mv_if_ne 43 (pc := 32) d_Ta_corrupt_32 (by decide) (fun z => absurd z (by decide)) (fun _ => ?_)
        refine mv_throw (pc := 35) hG d_Ta_corrupt_35 d_Ta_corrupt_38 d_Ta_corrupt_39 d_Ta_corrupt_42 xl_Ta_41 (by decide) rfl (Nat.le_of_ble_eq_true rfl) hr.1 hr.2 ?_
        exact hq0l j hb hj hkj hp
    · refine mv_if_ne 24 (pc := 13) d_Ta_corrupt_13 (by decide) (fun z => absurd z (by decide)) (fun _ => ?_)
      refine mv_throw (pc := 16) hG d_Ta_corrupt_16 d_Ta_corrupt_19 d_Ta_corrupt_20 d_Ta_corrupt_23 xl_Ta_134 (by decide) rfl (Nat.le_of_ble_eq_true rfl) hr.1 hr.2 ?_
      refine hq3l hb (fun j hj e => hc ?_)
      rw [hC.2.2.2.1.1]
      exact mm_idx_of (by have := hC.2.2.2.2.2; omega) hj e
  · refine mv_astore (pc := 5) d_Ta_corrupt_5 (by decide) ?_
    refine mv_aload (pc := 7) d_Ta_corrupt_7 rfl ?_
    refine mv_iload_n (pc := 9) d_Ta_corrupt_9 rfl ?_
    refine mr_callV1 (pc := 10) d_Ta_corrupt_10 (d2 := (0, 0)) ok_By_has li_Ta_215 sv_By_has hT.2.2.2.2.2.1.2.2.1 ⟨by decide, rfl⟩ ⟨by decide, rfl, Nat.le_of_ble_eq_true rfl, rfl, by decide, by decide⟩ ?_
    refine c_byHas hT.2.2.2.2.2.1.2.2 (fun hc => ?_) (fun hc => ?_)
    · refine mv_if_ne 24 (pc := 13) d_Ta_corrupt_13 (by decide) (fun _ => ?_) (fun z => absurd z (by decide))
      have hl0 := hC.2.2.2.2.1
      obtain ⟨j, hj, hkj⟩ := mm_idx (n := sv.length) (by omega) (by rw [← hC.2.2.1.1]; exact hc)
      refine mv_iload_n (pc := 24) d_Ta_corrupt_24 rfl ?_
      refine mv_iconst (v := 0) (pc := 25) d_Ta_corrupt_25 (by decide) ?_
      refine mv_sipush (v := 255) (pc := 26) d_Ta_corrupt_26 (by decide) ?_
      refine mr_callS3 (pc := 29) d_Ta_corrupt_29 (d2 := (0, 0)) ok_Ta_isWithin li_Ta_112 sv_Ta_isWithin ⟨by decide, rfl, rfl, rfl, Nat.le_of_ble_eq_true rfl, rfl, by decide, by decide⟩ ?_
      refine c_isWithin (fun hp => ?_) (fun hp => ?_)
      · refine mv_if_ne 43 (pc := 32) d_Ta_corrupt_32 (by decide) (fun _ => ?_) (fun z => absurd z (by decide))
        refine mv_aload (pc := 43) d_Ta_corrupt_43 rfl ?_
        refine mr_getr (pc := 45) d_Ta_corrupt_45 fl_Ta_216 hT.2.2.2.2.2.1.2.2.1 rfl (by decide) hT.2.2.2.2.2.1.2.2.2.2.1 ?_
        refine mv_iload_n (pc := 48) d_Ta_corrupt_48 rfl ?_
        refine mv_iload_n (pc := 49) d_Ta_corrupt_49 rfl ?_
        refine mr_iast (pc := 50) d_Ta_corrupt_50 hT.2.2.2.2.2.1.2.2.2.1 (by rw [hkj]; exact vp_in_nI (by omega) (by decide)) ?_
        rw [hkj, nI_clamp (by omega)]
        refine mv_ret (pc := 51) d_Ta_corrupt_51 rfl ?_
        have hle := hT.le
        refine hqs j _ hb hj hkj hp ⟨hC.1.yfr (y := 47) (Or.inr (by omega)) ⟨fun a k2 a1 a2 => ?_, ?_⟩, hC.2.1.same (fun a k2 ha => ?_), hC.2.2.1.setb hj v, hC.2.2.2.1.off ?_ (fun k2 => ?_), by rw [List.length_set]; exact hl0, hC.2.2.2.2.2⟩ (fun a k2 ha => ?_)
        · simp [mm_u2, mm_g0, a2]
        · simp [mm_u2, mm_g0]
        · have n1 : ¬ a = 47 + 1 := by omega
          simp [mm_u2, mm_g0, n1]
        · simp [mm_u2, mm_g0]
        · simp [mm_u2, mm_g0]
        · have n1 : ¬ a = 47 + 1 := by omega
          simp [mm_u2, mm_g0, n1]
      · refine mv_if_ne 43 (pc := 32) d_Ta_corrupt_32 (by decide) (fun z => absurd z (by decide)) (fun _ => ?_)
        refine mv_throw (pc := 35) hG d_Ta_corrupt_35 d_Ta_corrupt_38 d_Ta_corrupt_39 d_Ta_corrupt_42 xl_Ta_41 (by decide) rfl (Nat.le_of_ble_eq_true rfl) hr.1 hr.2 ?_
        exact hq0s j hb hj hkj hp
    · refine mv_if_ne 24 (pc := 13) d_Ta_corrupt_13 (by decide) (fun z => absurd z (by decide)) (fun _ => ?_)
      refine mv_throw (pc := 16) hG d_Ta_corrupt_16 d_Ta_corrupt_19 d_Ta_corrupt_20 d_Ta_corrupt_23 xl_Ta_134 (by decide) rfl (Nat.le_of_ble_eq_true rfl) hr.1 hr.2 ?_
      refine hq3s hb (fun j hj e => hc ?_)
      rw [hC.2.2.1.1]
      exact mm_idx_of (by have := hC.2.2.2.2.1; omega) hj e
