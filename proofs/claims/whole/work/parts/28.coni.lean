/-! CONTRACTS: TickArena: the public methods but create, load and replay (rows by program: con_i.py) -/
theorem RC.put {F A : mm_W} {w i f : Nat} (h : RC F w A) (hi : i < 16) (hf : 2 ≤ f ∧ f ≤ 8) (x : Int32) : RC (mm_u2 F (w + 6 + i) f x) w (a_put A f i x) := by
  have f0 : ¬ 0 = f := by omega
  have f1 : ¬ 1 = f := by omega
  refine h.slot hi (fun a k ha => by simp [mm_u2, ha]) (fun k j hkj => ?_) ?_ ?_ (fun z k k1 k2 => ?_)
  · unfold a_put; grind
  · simp [mm_u2, a_put, f0, (h.2.1 i hi).1]
  · simp [mm_u2, a_put, f1, (h.2.1 i hi).2.1]
  · have z' : ¬ A 1 i = 0 := by simpa [a_put, f1] using z
    by_cases hk : k = f
    · simp [mm_u2, a_put, hk]
    · simp [mm_u2, a_put, hk, (h.2.1 i hi).2.2 z' k k1 k2]
theorem CS.put {F A : mm_W} {w i f : Nat} {E : mm_E} {sv lg : List Int32} (h : CS F w A E sv lg) (hw : w ≤ 24) (hi : i < 16) (hf : 2 ≤ f ∧ f ≤ 8) (x : Int32) : CS (mm_u2 F (w + 6 + i) f x) w (a_put A f i x) E sv lg := by
  refine h.wld hw (fun a k ha => ?_) (h.1.put hi hf x) (h.2.1.same (fun a k ha => ?_))
  · have hne : ¬ (a = w + 6 + i) := by omega
    simp [mm_u2, hne]
  · have hne : ¬ (a = w + 6 + i) := by omega
    simp [mm_u2, hne]
theorem mm_cfr.s {F : mm_W} {w i f : Nat} (hw : w ≤ 24) (hi : i < 16) (x : Int32) : mm_cfr F (mm_u2 F (w + 6 + i) f x) := fun a k ha => by
  have hne : ¬ (a = w + 6 + i) := by omega
  simp [mm_u2, hne]
set_option maxRecDepth 20000 in
theorem c_destroy {G : mm_G} {Q : mm_O → mm_H → Prop} {h : mm_H} {w w2 : Nat} {A : mm_W} {E : mm_E} {sv lg : List Int32} (hG : G.1.stackTraces = false) (hr : mm_rm G h) (hT : mm_Ta h w w2) (hC : CS (mm_gi h) w A E sv lg) {i : Nat} {x : Int32} (hi : i < 16) (hx : x &&& 15 = nI i) (hq0 : ¬ a_good A x i → Q (.inr 0) (mm_exc h)) (hq2 : a_good A x i → ¬ lg.length + 4 ≤ 400 → Q (.inr 2) (mm_exc h)) (hq : ∀ F', a_good A x i → lg.length + 4 ≤ 400 → CS F' w (a_rem A i) E sv (lg ++ (mm_enc 2 1 ++ mm_enc x 3)) → mm_cfr (mm_gi h) F' → Q (.inl none) (mm_wi h F')) : mm_V G (7, 111) M_Ta_destroy Q 0 (mm_ent 2 [.ref 1, .int x]) [] h := by
  show mm_V G (7, 111) M_Ta_destroy Q 0 [some (.ref 1), some (.int x)] [] h
  refine mv_aload_n (pc := 0) d_Ta_destroy_0 rfl ?_
  refine mv_iload_n (pc := 1) d_Ta_destroy_1 rfl ?_
  refine mr_callV1 (pc := 2) d_Ta_destroy_2 (d2 := (6, 90)) ok_Ta_needGood li_Ta_63 sv_Ta_needGood hT.1 ⟨by decide, rfl⟩ ⟨by decide, rfl, Nat.le_of_ble_eq_true rfl, rfl, by decide, by decide⟩ ?_
  refine c_needGood hG hr hT hC.1 hi hx (fun hg => ?_) (fun hg => ?_)
  · refine mv_aload_n (pc := 5) d_Ta_destroy_5 rfl ?_
    refine mv_iconst (v := 4) (pc := 6) d_Ta_destroy_6 (by decide) ?_
    refine mr_callV1 (pc := 7) d_Ta_destroy_7 (d2 := (6, 90)) ok_Ta_needRoom li_Ta_51 sv_Ta_needRoom hT.1 ⟨by decide, rfl⟩ ⟨by decide, rfl, Nat.le_of_ble_eq_true rfl, rfl, by decide, by decide⟩ ?_
    refine c_needRoom (n := 4) hG hr hT hC.2.2.2.1 hC.2.2.2.2.2 (by decide) (fun hm => ?_) (fun hm => ?_)
    · refine mv_aload_n (pc := 10) d_Ta_destroy_10 rfl ?_
      refine mr_getr (pc := 11) d_Ta_destroy_11 fl_Ta_29 hT.1 rfl (by decide) hT.2.2.2.2.1 ?_
      refine mv_iload_n (pc := 14) d_Ta_destroy_14 rfl ?_
      refine mr_callV1 (pc := 15) d_Ta_destroy_15 (d2 := (2, 44)) ok_Lg_addDestroy li_Ta_66 sv_Lg_addDestroy hT.2.2.2.2.2.2.1.1 ⟨by decide, rfl⟩ ⟨by decide, rfl, Nat.le_of_ble_eq_true rfl, rfl, by decide, by decide⟩ ?_
      refine c_addDestroy hT.2.2.2.2.2.2.1 hC.2.2.2.1 hm (fun F1 f1 B1 => ?_)
      have hw4 := hT.le.1
      have hC1 := hC.log hw4 f1 B1 (by simp only [List.length_append, mm_enc_len]; omega)
      refine mv_aload_n (pc := 18) d_Ta_destroy_18 rfl ?_
      refine mr_getr (pc := 19) d_Ta_destroy_19 fl_Ta_10 hT.1 rfl (by decide) hT.2.1 ?_
      refine mv_iload_n (pc := 22) d_Ta_destroy_22 rfl ?_
      refine mr_callS1 (pc := 23) d_Ta_destroy_23 (d2 := (0, 0)) ok_Ta_slotNumber li_Ta_69 sv_Ta_slotNumber ⟨by decide, rfl, Nat.le_of_ble_eq_true rfl, rfl, by decide, by decide⟩ ?_
      refine c_slotNumber ?_
      rw [hx]
      refine mr_callV1 (pc := 26) d_Ta_destroy_26 (d2 := (1, 21)) ok_Wo_removeThing li_Ta_73 sv_Wo_removeThing hT.2.2.2.2.2.2.2.1.1 ⟨by decide, rfl⟩ ⟨by decide, rfl, Nat.le_of_ble_eq_true rfl, rfl, by decide, by decide⟩ ?_
      refine c_removeThing hT.2.2.2.2.2.2.2.1 hi hC1.1 (fun F2 r1 r2 r3 => ?_)
      refine mv_ret (pc := 29) d_Ta_destroy_29 rfl ?_
      exact hq F2 hg hm (hC1.wld hw4 r2 r1 (hC1.2.1.same r3)) ((mm_cfr.y f1 (by omega)).trans (mm_cfr.w r2 hw4))
    · exact hq2 hg hm
  · exact hq0 hg
set_option maxRecDepth 20000 in
theorem c_speed {G : mm_G} {Q : mm_O → mm_H → Prop} {h : mm_H} {w w2 : Nat} {A : mm_W} {E : mm_E} {sv lg : List Int32} (hG : G.1.stackTraces = false) (hr : mm_rm G h) (hT : mm_Ta h w w2) (hC : CS (mm_gi h) w A E sv lg) {i : Nat} {x : Int32} (hi : i < 16) (hx : x &&& 15 = nI i) {a b : Int32} (hq0 : ¬ (a_good A x i ∧ ((-100 ≤ a ∧ a ≤ 100) ∧ (-100 ≤ b ∧ b ≤ 100))) → Q (.inr 0) (mm_exc h)) (hq2 : a_good A x i → ((-100 ≤ a ∧ a ≤ 100) ∧ (-100 ≤ b ∧ b ≤ 100)) → ¬ lg.length + 6 ≤ 400 → Q (.inr 2) (mm_exc h)) (hq : ∀ F', a_good A x i → ((-100 ≤ a ∧ a ≤ 100) ∧ (-100 ≤ b ∧ b ≤ 100)) → lg.length + 6 ≤ 400 → CS F' w (a_put (a_put A 4 i a) 5 i b) E sv (lg ++ (mm_enc 3 1 ++ mm_enc x 3 ++ mm_enc (a + 128) 1 ++ mm_enc (b + 128) 1)) → mm_cfr (mm_gi h) F' → Q (.inl none) (mm_wi h F')) : mm_V G (7, 111) M_Ta_speed Q 0 (mm_ent 4 [.ref 1, .int x, .int a, .int b]) [] h := by
  show mm_V G (7, 111) M_Ta_speed Q 0 [some (.ref 1), some (.int x), some (.int a), some (.int b)] [] h
  refine mv_aload_n (pc := 0) d_Ta_speed_0 rfl ?_
  refine mv_iload_n (pc := 1) d_Ta_speed_1 rfl ?_
  refine mr_callV1 (pc := 2) d_Ta_speed_2 (d2 := (6, 90)) ok_Ta_needGood li_Ta_63 sv_Ta_needGood hT.1 ⟨by decide, rfl⟩ ⟨by decide, rfl, Nat.le_of_ble_eq_true rfl, rfl, by decide, by decide⟩ ?_
  refine c_needGood hG hr hT hC.1 hi hx (fun hg => ?_) (fun hg => ?_)
  · refine mv_iload_n (pc := 5) d_Ta_speed_5 rfl ?_
    refine mv_iload_n (pc := 6) d_Ta_speed_6 rfl ?_
    refine mr_callS2 (pc := 7) d_Ta_speed_7 (d2 := (1, 22)) ok_Ta_isSpeed li_Ta_76 sv_Ta_isSpeed ⟨by decide, rfl, rfl, Nat.le_of_ble_eq_true rfl, rfl, by decide, by decide⟩ ?_
    refine c_isSpeed (fun hp => ?_) (fun hp => ?_)
    · refine mv_if_ne 21 (pc := 10) d_Ta_speed_10 (by decide) (fun _ => ?_) (fun z => absurd z (by decide))
      refine mv_aload_n (pc := 21) d_Ta_speed_21 rfl ?_
      refine mv_bipush (v := 6) (pc := 22) d_Ta_speed_22 (by decide) ?_
      refine mr_callV1 (pc := 24) d_Ta_speed_24 (d2 := (6, 90)) ok_Ta_needRoom li_Ta_51 sv_Ta_needRoom hT.1 ⟨by decide, rfl⟩ ⟨by decide, rfl, Nat.le_of_ble_eq_true rfl, rfl, by decide, by decide⟩ ?_
      refine c_needRoom (n := 6) hG hr hT hC.2.2.2.1 hC.2.2.2.2.2 (by decide) (fun hm => ?_) (fun hm => ?_)
      · refine mv_aload_n (pc := 27) d_Ta_speed_27 rfl ?_
        refine mr_getr (pc := 28) d_Ta_speed_28 fl_Ta_29 hT.1 rfl (by decide) hT.2.2.2.2.1 ?_
        refine mv_iload_n (pc := 31) d_Ta_speed_31 rfl ?_
        refine mv_iload_n (pc := 32) d_Ta_speed_32 rfl ?_
        refine mv_iload_n (pc := 33) d_Ta_speed_33 rfl ?_
        refine mr_callV3 (pc := 34) d_Ta_speed_34 (d2 := (2, 44)) ok_Lg_addSpeed li_Ta_79 sv_Lg_addSpeed hT.2.2.2.2.2.2.1.1 ⟨by decide, rfl⟩ ⟨by decide, rfl, rfl, rfl, Nat.le_of_ble_eq_true rfl, rfl, by decide, by decide⟩ ?_
        refine c_addSpeed hT.2.2.2.2.2.2.1 hC.2.2.2.1 hm (fun F1 f1 B1 => ?_)
        have hw4 := hT.le.1
        have hC1 := hC.log hw4 f1 B1 (by simp only [List.length_append, mm_enc_len]; omega)
        refine mv_aload_n (pc := 37) d_Ta_speed_37 rfl ?_
        refine mr_getr (pc := 38) d_Ta_speed_38 fl_Ta_10 hT.1 rfl (by decide) hT.2.1 ?_
        refine mv_iload_n (pc := 41) d_Ta_speed_41 rfl ?_
        refine mr_callV1 (pc := 42) d_Ta_speed_42 (d2 := (1, 20)) ok_Wo_slotOf li_Ta_83 sv_Wo_slotOf hT.2.2.2.2.2.2.2.1.1 ⟨by decide, rfl⟩ ⟨by decide, rfl, Nat.le_of_ble_eq_true rfl, rfl, by decide, by decide⟩ ?_
        refine c_slotOf hT.2.2.2.2.2.2.2.1 hi hx ?_
        refine mv_iload_n (pc := 45) d_Ta_speed_45 rfl ?_
        refine mv_iload_n (pc := 46) d_Ta_speed_46 rfl ?_
        refine mr_callV2 (pc := 47) d_Ta_speed_47 (d2 := (0, 0)) ok_Sl_setSpeed li_Ta_87 sv_Sl_setSpeed (hT.2.2.2.2.2.2.2.1.at_ hi) ⟨by decide, rfl⟩ ⟨by decide, rfl, rfl, Nat.le_of_ble_eq_true rfl, rfl, by decide, by decide⟩ ?_
        refine c_setSpeed (hT.2.2.2.2.2.2.2.1.at_ hi) ?_
        refine mv_ret (pc := 50) d_Ta_speed_50 rfl ?_
        exact hq _ hg hp hm ((hC1.put hw4 hi (f := 4) (by omega) a).put hw4 hi (f := 5) (by omega) b) (((mm_cfr.y f1 (by omega)).trans (mm_cfr.s hw4 hi a)).trans (mm_cfr.s hw4 hi b))
      · exact hq2 hg hp hm
    · refine mv_if_ne 21 (pc := 10) d_Ta_speed_10 (by decide) (fun z => absurd z (by decide)) (fun _ => ?_)
      refine mv_throw (pc := 13) hG d_Ta_speed_13 d_Ta_speed_16 d_Ta_speed_17 d_Ta_speed_20 xl_Ta_41 (by decide) rfl (Nat.le_of_ble_eq_true rfl) hr.1 hr.2 ?_
      exact hq0 (fun z => hp z.2)
  · exact hq0 (fun z => hg z.1)
set_option maxRecDepth 20000 in
theorem c_shape {G : mm_G} {Q : mm_O → mm_H → Prop} {h : mm_H} {w w2 : Nat} {A : mm_W} {E : mm_E} {sv lg : List Int32} (hG : G.1.stackTraces = false) (hr : mm_rm G h) (hT : mm_Ta h w w2) (hC : CS (mm_gi h) w A E sv lg) {i : Nat} {x : Int32} (hi : i < 16) (hx : x &&& 15 = nI i) {a b : Int32} (hq0 : ¬ (a_good A x i ∧ ((a = 0 ∧ b = 0) ∨ ((1 ≤ a ∧ a ≤ 200) ∧ (1 ≤ b ∧ b ≤ 200)))) → Q (.inr 0) (mm_exc h)) (hq2 : a_good A x i → ((a = 0 ∧ b = 0) ∨ ((1 ≤ a ∧ a ≤ 200) ∧ (1 ≤ b ∧ b ≤ 200))) → ¬ lg.length + 6 ≤ 400 → Q (.inr 2) (mm_exc h)) (hq : ∀ F', a_good A x i → ((a = 0 ∧ b = 0) ∨ ((1 ≤ a ∧ a ≤ 200) ∧ (1 ≤ b ∧ b ≤ 200))) → lg.length + 6 ≤ 400 → CS F' w (a_put (a_put A 6 i a) 7 i b) E sv (lg ++ (mm_enc 4 1 ++ mm_enc x 3 ++ mm_enc a 1 ++ mm_enc b 1)) → mm_cfr (mm_gi h) F' → Q (.inl none) (mm_wi h F')) : mm_V G (7, 111) M_Ta_shape Q 0 (mm_ent 4 [.ref 1, .int x, .int a, .int b]) [] h := by
  show mm_V G (7, 111) M_Ta_shape Q 0 [some (.ref 1), some (.int x), some (.int a), some (.int b)] [] h
  refine mv_aload_n (pc := 0) d_Ta_shape_0 rfl ?_
  refine mv_iload_n (pc := 1) d_Ta_shape_1 rfl ?_
  refine mr_callV1 (pc := 2) d_Ta_shape_2 (d2 := (6, 90)) ok_Ta_needGood li_Ta_63 sv_Ta_needGood hT.1 ⟨by decide, rfl⟩ ⟨by decide, rfl, Nat.le_of_ble_eq_true rfl, rfl, by decide, by decide⟩ ?_
  refine c_needGood hG hr hT hC.1 hi hx (fun hg => ?_) (fun hg => ?_)
  · refine mv_iload_n (pc := 5) d_Ta_shape_5 rfl ?_
    refine mv_iload_n (pc := 6) d_Ta_shape_6 rfl ?_
    refine mr_callS2 (pc := 7) d_Ta_shape_7 (d2 := (2, 43)) ok_Ta_isShapeOrNone li_Ta_92 sv_Ta_isShapeOrNone ⟨by decide, rfl, rfl, Nat.le_of_ble_eq_true rfl, rfl, by decide, by decide⟩ ?_
    refine c_isShapeOrNone (fun hp => ?_) (fun hp => ?_)
    · refine mv_if_ne 21 (pc := 10) d_Ta_shape_10 (by decide) (fun _ => ?_) (fun z => absurd z (by decide))
      refine mv_aload_n (pc := 21) d_Ta_shape_21 rfl ?_
      refine mv_bipush (v := 6) (pc := 22) d_Ta_shape_22 (by decide) ?_
      refine mr_callV1 (pc := 24) d_Ta_shape_24 (d2 := (6, 90)) ok_Ta_needRoom li_Ta_51 sv_Ta_needRoom hT.1 ⟨by decide, rfl⟩ ⟨by decide, rfl, Nat.le_of_ble_eq_true rfl, rfl, by decide, by decide⟩ ?_
      refine c_needRoom (n := 6) hG hr hT hC.2.2.2.1 hC.2.2.2.2.2 (by decide) (fun hm => ?_) (fun hm => ?_)
      · refine mv_aload_n (pc := 27) d_Ta_shape_27 rfl ?_
        refine mr_getr (pc := 28) d_Ta_shape_28 fl_Ta_29 hT.1 rfl (by decide) hT.2.2.2.2.1 ?_
        refine mv_iload_n (pc := 31) d_Ta_shape_31 rfl ?_
        refine mv_iload_n (pc := 32) d_Ta_shape_32 rfl ?_
        refine mv_iload_n (pc := 33) d_Ta_shape_33 rfl ?_
        refine mr_callV3 (pc := 34) d_Ta_shape_34 (d2 := (2, 44)) ok_Lg_addShape li_Ta_95 sv_Lg_addShape hT.2.2.2.2.2.2.1.1 ⟨by decide, rfl⟩ ⟨by decide, rfl, rfl, rfl, Nat.le_of_ble_eq_true rfl, rfl, by decide, by decide⟩ ?_
        refine c_addShape hT.2.2.2.2.2.2.1 hC.2.2.2.1 hm (fun F1 f1 B1 => ?_)
        have hw4 := hT.le.1
        have hC1 := hC.log hw4 f1 B1 (by simp only [List.length_append, mm_enc_len]; omega)
        refine mv_aload_n (pc := 37) d_Ta_shape_37 rfl ?_
        refine mr_getr (pc := 38) d_Ta_shape_38 fl_Ta_10 hT.1 rfl (by decide) hT.2.1 ?_
        refine mv_iload_n (pc := 41) d_Ta_shape_41 rfl ?_
        refine mr_callV1 (pc := 42) d_Ta_shape_42 (d2 := (1, 20)) ok_Wo_slotOf li_Ta_83 sv_Wo_slotOf hT.2.2.2.2.2.2.2.1.1 ⟨by decide, rfl⟩ ⟨by decide, rfl, Nat.le_of_ble_eq_true rfl, rfl, by decide, by decide⟩ ?_
        refine c_slotOf hT.2.2.2.2.2.2.2.1 hi hx ?_
        refine mv_iload_n (pc := 45) d_Ta_shape_45 rfl ?_
        refine mv_iload_n (pc := 46) d_Ta_shape_46 rfl ?_
        refine mr_callV2 (pc := 47) d_Ta_shape_47 (d2 := (0, 0)) ok_Sl_setShape li_Ta_98 sv_Sl_setShape (hT.2.2.2.2.2.2.2.1.at_ hi) ⟨by decide, rfl⟩ ⟨by decide, rfl, rfl, Nat.le_of_ble_eq_true rfl, rfl, by decide, by decide⟩ ?_
        refine c_setShape (hT.2.2.2.2.2.2.2.1.at_ hi) ?_
        refine mv_ret (pc := 50) d_Ta_shape_50 rfl ?_
        exact hq _ hg hp hm ((hC1.put hw4 hi (f := 6) (by omega) a).put hw4 hi (f := 7) (by omega) b) (((mm_cfr.y f1 (by omega)).trans (mm_cfr.s hw4 hi a)).trans (mm_cfr.s hw4 hi b))
      · exact hq2 hg hp hm
    · refine mv_if_ne 21 (pc := 10) d_Ta_shape_10 (by decide) (fun z => absurd z (by decide)) (fun _ => ?_)
      refine mv_throw (pc := 13) hG d_Ta_shape_13 d_Ta_shape_16 d_Ta_shape_17 d_Ta_shape_20 xl_Ta_41 (by decide) rfl (Nat.le_of_ble_eq_true rfl) hr.1 hr.2 ?_
      exact hq0 (fun z => hp z.2)
  · exact hq0 (fun z => hg z.1)
set_option maxRecDepth 20000 in
theorem c_timer {G : mm_G} {Q : mm_O → mm_H → Prop} {h : mm_H} {w w2 : Nat} {A : mm_W} {E : mm_E} {sv lg : List Int32} (hG : G.1.stackTraces = false) (hr : mm_rm G h) (hT : mm_Ta h w w2) (hC : CS (mm_gi h) w A E sv lg) {i : Nat} {x : Int32} (hi : i < 16) (hx : x &&& 15 = nI i) {a : Int32} (hq0 : ¬ (a_good A x i ∧ (a = 0 ∨ (1 ≤ a ∧ a ≤ 60000))) → Q (.inr 0) (mm_exc h)) (hq2 : a_good A x i → (a = 0 ∨ (1 ≤ a ∧ a ≤ 60000)) → ¬ lg.length + 6 ≤ 400 → Q (.inr 2) (mm_exc h)) (hq : ∀ F', a_good A x i → (a = 0 ∨ (1 ≤ a ∧ a ≤ 60000)) → lg.length + 6 ≤ 400 → CS F' w (a_put A 8 i a) E sv (lg ++ (mm_enc 5 1 ++ mm_enc x 3 ++ mm_enc a 2)) → mm_cfr (mm_gi h) F' → Q (.inl none) (mm_wi h F')) : mm_V G (7, 111) M_Ta_timer Q 0 (mm_ent 3 [.ref 1, .int x, .int a]) [] h := by
  show mm_V G (7, 111) M_Ta_timer Q 0 [some (.ref 1), some (.int x), some (.int a)] [] h
  refine mv_aload_n (pc := 0) d_Ta_timer_0 rfl ?_
  refine mv_iload_n (pc := 1) d_Ta_timer_1 rfl ?_
  refine mr_callV1 (pc := 2) d_Ta_timer_2 (d2 := (6, 90)) ok_Ta_needGood li_Ta_63 sv_Ta_needGood hT.1 ⟨by decide, rfl⟩ ⟨by decide, rfl, Nat.le_of_ble_eq_true rfl, rfl, by decide, by decide⟩ ?_
  refine c_needGood hG hr hT hC.1 hi hx (fun hg => ?_) (fun hg => ?_)
  · refine mv_iload_n (pc := 5) d_Ta_timer_5 rfl ?_
    refine mr_callS1 (pc := 6) d_Ta_timer_6 (d2 := (2, 42)) ok_Ta_isTimerOrNone li_Ta_101 sv_Ta_isTimerOrNone ⟨by decide, rfl, Nat.le_of_ble_eq_true rfl, rfl, by decide, by decide⟩ ?_
    refine c_isTimerOrNone (fun hp => ?_) (fun hp => ?_)
    · refine mv_if_ne 20 (pc := 9) d_Ta_timer_9 (by decide) (fun _ => ?_) (fun z => absurd z (by decide))
      refine mv_aload_n (pc := 20) d_Ta_timer_20 rfl ?_
      refine mv_bipush (v := 6) (pc := 21) d_Ta_timer_21 (by decide) ?_
      refine mr_callV1 (pc := 23) d_Ta_timer_23 (d2 := (6, 90)) ok_Ta_needRoom li_Ta_51 sv_Ta_needRoom hT.1 ⟨by decide, rfl⟩ ⟨by decide, rfl, Nat.le_of_ble_eq_true rfl, rfl, by decide, by decide⟩ ?_
      refine c_needRoom (n := 6) hG hr hT hC.2.2.2.1 hC.2.2.2.2.2 (by decide) (fun hm => ?_) (fun hm => ?_)
      · refine mv_aload_n (pc := 26) d_Ta_timer_26 rfl ?_
        refine mr_getr (pc := 27) d_Ta_timer_27 fl_Ta_29 hT.1 rfl (by decide) hT.2.2.2.2.1 ?_
        refine mv_iload_n (pc := 30) d_Ta_timer_30 rfl ?_
        refine mv_iload_n (pc := 31) d_Ta_timer_31 rfl ?_
        refine mr_callV2 (pc := 32) d_Ta_timer_32 (d2 := (2, 44)) ok_Lg_addTimer li_Ta_105 sv_Lg_addTimer hT.2.2.2.2.2.2.1.1 ⟨by decide, rfl⟩ ⟨by decide, rfl, rfl, Nat.le_of_ble_eq_true rfl, rfl, by decide, by decide⟩ ?_
        refine c_addTimer hT.2.2.2.2.2.2.1 hC.2.2.2.1 hm (fun F1 f1 B1 => ?_)
        have hw4 := hT.le.1
        have hC1 := hC.log hw4 f1 B1 (by simp only [List.length_append, mm_enc_len]; omega)
        refine mv_aload_n (pc := 35) d_Ta_timer_35 rfl ?_
        refine mr_getr (pc := 36) d_Ta_timer_36 fl_Ta_10 hT.1 rfl (by decide) hT.2.1 ?_
        refine mv_iload_n (pc := 39) d_Ta_timer_39 rfl ?_
        refine mr_callV1 (pc := 40) d_Ta_timer_40 (d2 := (1, 20)) ok_Wo_slotOf li_Ta_83 sv_Wo_slotOf hT.2.2.2.2.2.2.2.1.1 ⟨by decide, rfl⟩ ⟨by decide, rfl, Nat.le_of_ble_eq_true rfl, rfl, by decide, by decide⟩ ?_
        refine c_slotOf hT.2.2.2.2.2.2.2.1 hi hx ?_
        refine mv_iload_n (pc := 43) d_Ta_timer_43 rfl ?_
        refine mr_puti (pc := 44) d_Ta_timer_44 fl_Ta_108 (hT.2.2.2.2.2.2.2.1.at_ hi) rfl (by decide) ⟨rfl, rfl⟩ ?_
        refine mv_ret (pc := 47) d_Ta_timer_47 rfl ?_
        exact hq _ hg hp hm (hC1.put hw4 hi (f := 8) (by omega) a) ((mm_cfr.y f1 (by omega)).trans (mm_cfr.s hw4 hi a))
      · exact hq2 hg hp hm
    · refine mv_if_ne 20 (pc := 9) d_Ta_timer_9 (by decide) (fun z => absurd z (by decide)) (fun _ => ?_)
      refine mv_throw (pc := 12) hG d_Ta_timer_12 d_Ta_timer_15 d_Ta_timer_16 d_Ta_timer_19 xl_Ta_41 (by decide) rfl (Nat.le_of_ble_eq_true rfl) hr.1 hr.2 ?_
      exact hq0 (fun z => hp z.2)
  · exact hq0 (fun z => hg z.1)
/-- n ticks; the log's entries of n ticks -/
noncomputable def a_tks (s : mm_E × mm_W) : Nat → mm_E × mm_W
  | 0 => s
  | n + 1 => a_step (a_tks s n).2
def a_tl : Nat → List Int32
  | 0 => []
  | n + 1 => a_tl n ++ mm_enc 6 1
theorem a_tl_len : ∀ n, (a_tl n).length = n
  | 0 => rfl
  | n + 1 => by simp [a_tl, a_tl_len n, mm_enc_len]
set_option maxRecDepth 20000 in
theorem l_tick {G : mm_G} {Q : mm_O → mm_H → Prop} {h : mm_H} {w w2 n : Nat} {A : mm_W} {E : mm_E} {sv lg : List Int32} (hT : mm_Ta h w w2) (hn : n ≤ 50) (hm : lg.length + n ≤ 400) (F0 : mm_W)
    (hq : ∀ F', CS F' w (a_tks (E, A) n).2 (a_tks (E, A) n).1 sv (lg ++ a_tl n) → mm_cfr F0 F' → Q (.inl (some (.int (nI (a_tks (E, A) n).1.length)))) (mm_wi h F')) :
    ∀ (j : Nat) (F : mm_W), j ≤ n → CS F w (a_tks (E, A) j).2 (a_tks (E, A) j).1 sv (lg ++ a_tl j) ∧ mm_cfr F0 F → mm_V G (7, 111) M_Ta_tick Q 27 [some (.ref 1), some (.int (nI n)), some (.int (nI j))] [] (mm_wi h F) := by
  have hw4 := hT.le.1
  refine mr_loop _ _ n (fun F hI => ?_) (fun j F hj hI ih => ?_)
  · refine mv_iload_n (pc := 27) d_Ta_tick_27 rfl ?_
    refine mv_iload_n (pc := 28) d_Ta_tick_28 rfl ?_
    refine mv_ic_ge 52 (pc := 29) d_Ta_tick_29 (by decide) (fun h29 => ?_) (fun z => absurd z (fun z => z (nI_le (Nat.le_refl _) (by omega))))
    refine mv_aload_n (pc := 52) d_Ta_tick_52 rfl ?_
    refine mr_getr (pc := 53) d_Ta_tick_53 fl_Ta_10 hT.1 rfl (by decide) hT.2.1 ?_
    refine mr_getr (pc := 56) d_Ta_tick_56 fl_Ta_122 hT.2.2.2.2.2.2.2.1.1 rfl (by decide) hT.2.2.2.2.2.2.2.1.2.2.2.2.2.2.2.1 ?_
    refine mr_geti (pc := 59) d_Ta_tick_59 fl_Ta_126 hT.2.2.2.2.2.2.2.1.2.2.2.1.1 rfl (by decide) ?_
    rw [show mm_gi (mm_wi h F) (w + 3) 2 = nI (a_tks (E, A) n).1.length from hI.1.2.1.1]
    refine mv_iret (pc := 62) d_Ta_tick_62 rfl rfl ?_
    exact hq F hI.1 hI.2
  · refine mv_iload_n (pc := 27) d_Ta_tick_27 rfl ?_
    refine mv_iload_n (pc := 28) d_Ta_tick_28 rfl ?_
    refine mv_ic_ge 52 (pc := 29) d_Ta_tick_29 (by decide) (fun z => absurd z (nI_ge hj (by omega))) (fun h29 => ?_)
    refine mv_aload_n (pc := 32) d_Ta_tick_32 rfl ?_
    refine mr_getr (pc := 33) d_Ta_tick_33 fl_Ta_29 hT.1 rfl (by decide) hT.2.2.2.2.1 ?_
    refine mr_callV0 (pc := 36) d_Ta_tick_36 (d2 := (2, 44)) ok_Lg_addTick li_Ta_116 sv_Lg_addTick hT.2.2.2.2.2.2.1.1 ⟨by decide, rfl⟩ ⟨by decide, Nat.le_of_ble_eq_true rfl, rfl, by decide, by decide⟩ ?_
    refine c_addTick hT.2.2.2.2.2.2.1 hI.1.2.2.2.1 (by simp only [List.length_append, a_tl_len]; omega) (fun F1 f1 B1 => ?_)
    have hC1 := hI.1.log hw4 f1 B1 (by simp only [List.length_append, a_tl_len, mm_enc_len]; omega)
    refine mv_aload_n (pc := 39) d_Ta_tick_39 rfl ?_
    refine mr_getr (pc := 40) d_Ta_tick_40 fl_Ta_10 hT.1 rfl (by decide) hT.2.1 ?_
    refine mr_callV0 (pc := 43) d_Ta_tick_43 (d2 := (3, 66)) ok_Wo_step li_Ta_119 sv_Wo_step hT.2.2.2.2.2.2.2.1.1 ⟨by decide, rfl⟩ ⟨by decide, Nat.le_of_ble_eq_true rfl, rfl, by decide, by decide⟩ ?_
    refine c_step hT.2.2.2.2.2.2.2.1 hC1.1 (fun F2 r1 r2 r3 => ?_)
    refine mv_iinc (pc := 46) d_Ta_tick_46 rfl rfl (by decide) ?_
    refine mv_goto 27 (pc := 49) d_Ta_tick_49 (by decide) ?_
    refine mm_V_ls (ls' := [some (.ref 1), some (.int (nI n)), some (.int (nI (j + 1)))]) (by simp only [List.set]; rw [nI_succ]; rfl) (ih F2 ⟨?_, (hI.2.trans (mm_cfr.y f1 (by omega))).trans (mm_cfr.w r3 hw4)⟩)
    have h9 := hC1.wld hw4 r3 r1 r2
    simpa only [a_tks, a_tl, List.append_assoc] using h9
set_option maxRecDepth 20000 in
theorem c_tick {G : mm_G} {Q : mm_O → mm_H → Prop} {h : mm_H} {w w2 : Nat} {A : mm_W} {E : mm_E} {sv lg : List Int32} (hG : G.1.stackTraces = false) (hr : mm_rm G h) (hT : mm_Ta h w w2) (hC : CS (mm_gi h) w A E sv lg) {x : Int32} (hq0 : ¬ (1 ≤ x ∧ x ≤ 50) → Q (.inr 0) (mm_exc h)) (hq2 : ∀ n, x = nI n → 1 ≤ n → n ≤ 50 → ¬ lg.length + n ≤ 400 → Q (.inr 2) (mm_exc h)) (hq : ∀ n F', x = nI n → 1 ≤ n → n ≤ 50 → lg.length + n ≤ 400 → CS F' w (a_tks (E, A) n).2 (a_tks (E, A) n).1 sv (lg ++ a_tl n) → mm_cfr (mm_gi h) F' → Q (.inl (some (.int (nI (a_tks (E, A) n).1.length)))) (mm_wi h F')) : mm_V G (7, 111) M_Ta_tick Q 0 (mm_ent 3 [.ref 1, .int x]) [] h := by
  show mm_V G (7, 111) M_Ta_tick Q 0 [some (.ref 1), some (.int x), none] [] h
  refine mv_iload_n (pc := 0) d_Ta_tick_0 rfl ?_
  refine mv_iconst (v := 1) (pc := 1) d_Ta_tick_1 (by decide) ?_
  refine mv_bipush (v := 50) (pc := 2) d_Ta_tick_2 (by decide) ?_
  refine mr_callS3 (pc := 4) d_Ta_tick_4 (d2 := (0, 0)) ok_Ta_isWithin li_Ta_112 sv_Ta_isWithin ⟨by decide, rfl, rfl, rfl, Nat.le_of_ble_eq_true rfl, rfl, by decide, by decide⟩ ?_
  refine c_isWithin (fun hp => ?_) (fun hp => ?_)
  · refine mv_if_ne 18 (pc := 7) d_Ta_tick_7 (by decide) (fun _ => ?_) (fun z => absurd z (by decide))
    obtain ⟨n, hn50, hxn⟩ := nI_of2 (x := x) (M := 50) (n := 50) (by decide) (fun z => absurd (Int32.le_trans hp.1 (Int32.le_of_lt z)) (by decide)) hp.2
    have hn1 : 1 ≤ n := by
      have := hp.1
      rw [hxn] at this
      exact (nI_leI (a := 1) (by omega) (by omega)).mp this
    subst hxn
    refine mv_aload_n (pc := 18) d_Ta_tick_18 rfl ?_
    refine mv_iload_n (pc := 19) d_Ta_tick_19 rfl ?_
    refine mv_iconst (v := 1) (pc := 20) d_Ta_tick_20 (by decide) ?_
    refine mv_imul (pc := 21) d_Ta_tick_21 ?_
    rw [Int32.mul_one]
    refine mr_callV1 (pc := 22) d_Ta_tick_22 (d2 := (6, 90)) ok_Ta_needRoom li_Ta_51 sv_Ta_needRoom hT.1 ⟨by decide, rfl⟩ ⟨by decide, rfl, Nat.le_of_ble_eq_true rfl, rfl, by decide, by decide⟩ ?_
    refine c_needRoom (n := n) hG hr hT hC.2.2.2.1 hC.2.2.2.2.2 (by omega) (fun hm => ?_) (fun hm => ?_)
    · refine mv_iconst (v := 0) (pc := 25) d_Ta_tick_25 (by decide) ?_
      refine mv_istore_n (pc := 26) d_Ta_tick_26 (by decide) ?_
      exact l_tick hT hn50 hm (mm_gi h) (fun F' c f => hq n F' rfl hn1 hn50 hm c f) 0 (mm_gi h) (by omega) ⟨by simpa [a_tks, a_tl] using hC, mm_cfr.rfl'⟩
    · exact hq2 n rfl hn1 hn50 hm
  · refine mv_if_ne 18 (pc := 7) d_Ta_tick_7 (by decide) (fun z => absurd z (by decide)) (fun _ => ?_)
    refine mv_throw (pc := 10) hG d_Ta_tick_10 d_Ta_tick_13 d_Ta_tick_14 d_Ta_tick_17 xl_Ta_41 (by decide) rfl (Nat.le_of_ble_eq_true rfl) hr.1 hr.2 ?_
    exact hq0 hp
