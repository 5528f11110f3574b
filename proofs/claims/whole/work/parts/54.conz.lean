/-! CONTRACTS: the reference: save (rows by program: con_z.py) -/
set_option maxRecDepth 20000 in
theorem l_msave {G : mm_G} {Q : mm_O → mm_H → Prop} {h : mm_H} {ds : List Int32} (hM : mm_Mo h) (F0 : mm_W) (hl : ds.length ≤ 600) (h16 : F0 52 16 = nI ds.length) (hD : ∀ i, i < ds.length → F0 70 i = ds.getD i 0) (hq : ∀ F', (∀ a k, a ≠ 68 → F' a k = F0 a k) → (∀ i, i < ds.length → F' 68 i = ds.getD i 0) → mm_V G (2, 48) M_Mo_save Q 46 [some (.ref 52), some (.int (nI ds.length))] [] (mm_wi h F')) :
    ∀ (j : Nat) (F : mm_W), j ≤ ds.length → (∀ a k, a ≠ 68 → F a k = F0 a k) ∧ (∀ i, i < j → F 68 i = ds.getD i 0) → mm_V G (2, 48) M_Mo_save Q 20 [some (.ref 52), some (.int (nI j))] [] (mm_wi h F) := by
  refine mr_loop _ _ ds.length (fun F hI => ?_) (fun j F hj hI ih => ?_)
  · refine mv_iload_n (pc := 20) d_Mo_save_20 rfl ?_
    refine mv_aload_n (pc := 21) d_Mo_save_21 rfl ?_
    refine mr_geti (pc := 22) d_Mo_save_22 fl_Mo_136 hM.1 rfl (by decide) ?_
    rw [show mm_gi (mm_wi h F) 52 16 = nI ds.length from (hI.1 52 16 (by omega)).trans h16]
    refine mv_ic_ge 46 (pc := 25) d_Mo_save_25 (by decide) (fun h25 => ?_) (fun z => absurd z (fun z => z (nI_le (by omega) (by omega))))
    exact hq F hI.1 hI.2
  · refine mv_iload_n (pc := 20) d_Mo_save_20 rfl ?_
    refine mv_aload_n (pc := 21) d_Mo_save_21 rfl ?_
    refine mr_geti (pc := 22) d_Mo_save_22 fl_Mo_136 hM.1 rfl (by decide) ?_
    rw [show mm_gi (mm_wi h F) 52 16 = nI ds.length from (hI.1 52 16 (by omega)).trans h16]
    refine mv_ic_ge 46 (pc := 25) d_Mo_save_25 (by decide) (fun z => absurd z (nI_ge (by omega) (by omega))) (fun h25 => ?_)
    refine mv_aload_n (pc := 28) d_Mo_save_28 rfl ?_
    refine mr_getr (pc := 29) d_Mo_save_29 fl_Mo_56 hM.1 rfl (by decide) hM.g_saved ?_
    refine mv_iload_n (pc := 32) d_Mo_save_32 rfl ?_
    refine mv_aload_n (pc := 33) d_Mo_save_33 rfl ?_
    refine mr_getr (pc := 34) d_Mo_save_34 fl_Mo_62 hM.1 rfl (by decide) hM.g_draft ?_
    refine mv_iload_n (pc := 37) d_Mo_save_37 rfl ?_
    refine mr_iald (pc := 38) d_Mo_save_38 hM.a_draft (mm_inN (by omega) (by decide)) ?_
    rw [mm_cl (by omega), show mm_gi (mm_wi h F) 70 j = ds.getD j 0 from (hI.1 70 j (by omega)).trans (hD j hj)]
    refine mr_iast (pc := 39) d_Mo_save_39 hM.a_saved (mm_inN (by omega) (by decide)) ?_
    rw [mm_cl (by omega)]
    refine mv_iinc (pc := 40) d_Mo_save_40 rfl rfl (by decide) ?_
    refine mv_goto 20 (pc := 43) d_Mo_save_43 (by decide) ?_
    refine mm_V_ls (ls' := [some (.ref 52), some (.int (nI (j + 1)))]) (by simp only [List.set]; rw [nI_succ]; rfl) (ih _ ⟨fun a k ha => ?_, fun i hi => ?_⟩)
    · simp only [mm_usi, mm_uwi, mm_u2, ha, false_and, if_false]; exact hI.1 a k ha
    · by_cases e : i = j
      · subst e; simp [mm_u2]
      · simp only [mm_usi, mm_uwi, mm_u2, e, and_false, if_false]; exact hI.2 i (by omega)
set_option maxRecDepth 20000 in
theorem c_msave {G : mm_G} {Q : mm_O → mm_H → Prop} {h : mm_H} {A : mm_W} {E : mm_E} {sv lg : List Int32} (hM : mm_Mo h) (hS : MS (mm_gi h) A E sv lg) (hcap : 216 + a_cnt (A 9) 256 ≤ 336) (hq : ∀ F', MS F' A [] (a_encW A) [] → F' 52 0 = 0 → mm_ofr (mm_gi h) F' → Q (.inl (some (.int (nI (a_encW A).length)))) (mm_wi h F')) : mm_V G (2, 48) M_Mo_save Q 0 (mm_ent 2 [.ref 52]) [] h := by
  show mm_V G (2, 48) M_Mo_save Q 0 [some (.ref 52), none] [] h
  refine mv_aload_n (pc := 0) d_Mo_save_0 rfl ?_
  refine mv_iconst (v := 0) (pc := 1) d_Mo_save_1 (by decide) ?_
  refine mr_puti (pc := 2) d_Mo_save_2 fl_Mo_69 hM.1 rfl (by decide) ⟨rfl, rfl⟩ ?_
  refine mv_aload_n (pc := 5) d_Mo_save_5 rfl ?_
  refine mv_iconst (v := 0) (pc := 6) d_Mo_save_6 (by decide) ?_
  refine mr_callV1 (pc := 7) d_Mo_save_7 (d2 := (1, 23)) ok_Mo_writeWorld li_Mo_133 sv_Mo_writeWorld hM.1 ⟨by decide, rfl⟩ ⟨by decide, rfl, Nat.le_of_ble_eq_true rfl, rfl, by decide, by decide⟩ ?_
  refine c_mww (h := mm_si h 52 0 0) (k := 0) (by omega) hM (hS.code 0).1 (fun F1 d1 f1 => ?_)
  have hlen : (a_encW A).length ≤ 336 := by have := a_body_len A; rw [a_encW, List.length_append, mm_enc_len]; omega
  refine mv_aload_n (pc := 10) d_Mo_save_10 rfl ?_
  refine mv_aload_n (pc := 11) d_Mo_save_11 rfl ?_
  refine mr_geti (pc := 12) d_Mo_save_12 fl_Mo_126 hM.1 rfl (by decide) ?_
  rw [show mm_gi (mm_wi (mm_si h 52 0 0) F1) 52 20 = nI (a_encW A).length from d1.1]
  refine mr_puti (pc := 15) d_Mo_save_15 fl_Mo_136 hM.1 rfl (by decide) ⟨rfl, rfl⟩ ?_
  refine mv_iconst (v := 0) (pc := 18) d_Mo_save_18 (by decide) ?_
  refine mv_istore_n (pc := 19) d_Mo_save_19 (by decide) ?_
  refine l_msave (h := h) (ds := a_encW A) hM (mm_u2 F1 52 16 (nI (a_encW A).length)) (by omega) (by simp [mm_u2]) (fun i hi => by simpa [mm_u2] using d1.2 i hi) (fun F2 g1 g2 => ?_) 0 _ (by omega) ⟨fun a k ha => rfl, fun i hi => absurd hi (by omega)⟩
  refine mv_aload_n (pc := 46) d_Mo_save_46 rfl ?_
  refine mv_iconst (v := 0) (pc := 47) d_Mo_save_47 (by decide) ?_
  refine mr_puti (pc := 48) d_Mo_save_48 fl_Mo_110 hM.1 rfl (by decide) ⟨rfl, rfl⟩ ?_
  refine mv_aload_n (pc := 51) d_Mo_save_51 rfl ?_
  refine mr_getr (pc := 52) d_Mo_save_52 fl_Mo_44 hM.1 rfl (by decide) hM.g_events ?_
  refine mv_iconst (v := 0) (pc := 55) d_Mo_save_55 (by decide) ?_
  refine mv_iconst (v := 0) (pc := 56) d_Mo_save_56 (by decide) ?_
  refine mr_iast (pc := 57) d_Mo_save_57 hM.a_events (mm_inN (n := 0) (by omega) (by decide)) ?_
  refine mv_aload_n (pc := 58) d_Mo_save_58 rfl ?_
  refine mr_geti (pc := 59) d_Mo_save_59 fl_Mo_136 hM.1 rfl (by decide) ?_
  rw [show mm_gi (mm_si (mm_si (mm_wi h F2) 52 18 0) 64 (0 : Int32).toNatClampNeg 0) 52 16 = nI (a_encW A).length from (g1 52 16 (by omega)).trans (by simp [mm_u2])]
  refine mv_iret (pc := 62) d_Mo_save_62 rfl rfl ?_
  have c0 : (0 : Int32).toNatClampNeg = 0 := rfl
  refine hq _ ⟨?_, ⟨?_, fun j hj => absurd hj (by simp)⟩, ⟨?_, fun j hj => ?_⟩, ⟨?_, fun j hj => absurd hj (by simp)⟩, hlen, by simp⟩ ?_ (fun a j ha => ?_)
  · exact hS.1.same (fun a j h1 h2 => by have n1 : ¬ a = 52 := (by omega); have n2 : ¬ a = 64 := (by omega); simp only [mm_usi, mm_uwi, mm_u2, n1, n2, false_and, if_false]; rw [g1 a j (by omega)]; simp only [mm_u2, n1, false_and, if_false]; rw [f1 a j (by omega) (by omega)]; simp [mm_gsi, n1])
  · simp [mm_u2, c0]; rfl
  · simp only [mm_usi, mm_uwi, mm_u2]; simp; rw [g1 52 16 (by omega)]; simp [mm_u2]
  · simp only [mm_usi, mm_uwi, mm_u2]; simp; simpa [List.getD_eq_getElem?_getD] using g2 j hj
  · simp [mm_u2]; rfl
  · simp only [mm_usi, mm_uwi, mm_u2]; simp; rw [g1 52 0 (by omega)]; simp only [mm_u2]; simp; rw [f1 52 0 (by omega) (by omega)]; simp [mm_gsi]
  · have n1 : ¬ a = 52 := by omega
    have n2 : ¬ a = 64 := by omega
    simp only [mm_usi, mm_uwi, mm_u2, n1, n2, false_and, if_false]
    rw [g1 a j (by omega)]
    simp only [mm_u2, n1, false_and, if_false]
    rw [f1 a j (by omega) (by omega)]
    simp [mm_gsi, n1]
