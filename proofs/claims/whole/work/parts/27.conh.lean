/-! CONTRACTS: LogBytes, the entries that are added; TickArena but load and replay (rows by program: con_h.py) -/
set_option maxRecDepth 20000 in
theorem c_addCreate {G : mm_G} {Q : mm_O → mm_H → Prop} {h : mm_H} {z l N : Nat} {x y : Int32} {bs : List Int32} (hz : mm_Hd h z 2 l N) (hB : mm_By (mm_gi h) l bs) (hN : bs.length + 5 ≤ N) (hq : ∀ F', mm_yfr l (mm_gi h) F' → mm_By F' l (bs ++ (mm_enc 1 1 ++ mm_enc x 2 ++ mm_enc y 2)) → Q (.inl none) (mm_wi h F')) : mm_V G (2, 44) M_Lg_addCreate Q 0 (mm_ent 3 [.ref z, .int x, .int y]) [] h := by
  have cc : mm_yfr l (mm_gi h) (mm_gi h) := mm_yfr.rfl'
  have Bc := hB
  show mm_V G (2, 44) M_Lg_addCreate Q 0 [some (.ref z), some (.int x), some (.int y)] [] (mm_wi h (mm_gi h))
  refine mv_aload_n (pc := 0) d_Lg_addCreate_0 rfl ?_
  refine mr_getr (pc := 1) d_Lg_addCreate_1 fl_Lg_14 hz.1 rfl (by decide) hz.2.1 ?_
  refine mv_iconst (v := 1) (pc := 4) d_Lg_addCreate_4 (by decide) ?_
  refine mv_iconst (v := 1) (pc := 5) d_Lg_addCreate_5 (by decide) ?_
  refine mr_callV2 (pc := 6) d_Lg_addCreate_6 (d2 := (1, 21)) ok_By_add li_Lg_20 sv_By_add hz.2.2.1 ⟨by decide, rfl⟩ ⟨by decide, rfl, rfl, Nat.le_of_ble_eq_true rfl, rfl, by decide, by decide⟩ ?_
  refine c_byAdd (n := 1) hz.2.2 (by decide) Bc (by first | omega | (simp only [List.length_append, mm_enc_len]; omega)) (fun Fc fc Bc => ?_)
  replace cc := cc.trans fc
  refine mv_aload_n (pc := 9) d_Lg_addCreate_9 rfl ?_
  refine mr_getr (pc := 10) d_Lg_addCreate_10 fl_Lg_14 hz.1 rfl (by decide) hz.2.1 ?_
  refine mv_iload_n (pc := 13) d_Lg_addCreate_13 rfl ?_
  refine mv_iconst (v := 2) (pc := 14) d_Lg_addCreate_14 (by decide) ?_
  refine mr_callV2 (pc := 15) d_Lg_addCreate_15 (d2 := (1, 21)) ok_By_add li_Lg_20 sv_By_add hz.2.2.1 ⟨by decide, rfl⟩ ⟨by decide, rfl, rfl, Nat.le_of_ble_eq_true rfl, rfl, by decide, by decide⟩ ?_
  refine c_byAdd (n := 2) hz.2.2 (by decide) Bc (by first | omega | (simp only [List.length_append, mm_enc_len]; omega)) (fun Fc fc Bc => ?_)
  replace cc := cc.trans fc
  refine mv_aload_n (pc := 18) d_Lg_addCreate_18 rfl ?_
  refine mr_getr (pc := 19) d_Lg_addCreate_19 fl_Lg_14 hz.1 rfl (by decide) hz.2.1 ?_
  refine mv_iload_n (pc := 22) d_Lg_addCreate_22 rfl ?_
  refine mv_iconst (v := 2) (pc := 23) d_Lg_addCreate_23 (by decide) ?_
  refine mr_callV2 (pc := 24) d_Lg_addCreate_24 (d2 := (1, 21)) ok_By_add li_Lg_20 sv_By_add hz.2.2.1 ⟨by decide, rfl⟩ ⟨by decide, rfl, rfl, Nat.le_of_ble_eq_true rfl, rfl, by decide, by decide⟩ ?_
  refine c_byAdd (n := 2) hz.2.2 (by decide) Bc (by first | omega | (simp only [List.length_append, mm_enc_len]; omega)) (fun Fc fc Bc => ?_)
  replace cc := cc.trans fc
  refine mv_ret (pc := 27) d_Lg_addCreate_27 rfl ?_
  exact hq Fc cc (by simpa only [List.append_assoc] using Bc)
set_option maxRecDepth 20000 in
theorem c_addDestroy {G : mm_G} {Q : mm_O → mm_H → Prop} {h : mm_H} {z l N : Nat} {x : Int32} {bs : List Int32} (hz : mm_Hd h z 2 l N) (hB : mm_By (mm_gi h) l bs) (hN : bs.length + 4 ≤ N) (hq : ∀ F', mm_yfr l (mm_gi h) F' → mm_By F' l (bs ++ (mm_enc 2 1 ++ mm_enc x 3)) → Q (.inl none) (mm_wi h F')) : mm_V G (2, 44) M_Lg_addDestroy Q 0 (mm_ent 2 [.ref z, .int x]) [] h := by
  have cc : mm_yfr l (mm_gi h) (mm_gi h) := mm_yfr.rfl'
  have Bc := hB
  show mm_V G (2, 44) M_Lg_addDestroy Q 0 [some (.ref z), some (.int x)] [] (mm_wi h (mm_gi h))
  refine mv_aload_n (pc := 0) d_Lg_addDestroy_0 rfl ?_
  refine mr_getr (pc := 1) d_Lg_addDestroy_1 fl_Lg_14 hz.1 rfl (by decide) hz.2.1 ?_
  refine mv_iconst (v := 2) (pc := 4) d_Lg_addDestroy_4 (by decide) ?_
  refine mv_iconst (v := 1) (pc := 5) d_Lg_addDestroy_5 (by decide) ?_
  refine mr_callV2 (pc := 6) d_Lg_addDestroy_6 (d2 := (1, 21)) ok_By_add li_Lg_20 sv_By_add hz.2.2.1 ⟨by decide, rfl⟩ ⟨by decide, rfl, rfl, Nat.le_of_ble_eq_true rfl, rfl, by decide, by decide⟩ ?_
  refine c_byAdd (n := 1) hz.2.2 (by decide) Bc (by first | omega | (simp only [List.length_append, mm_enc_len]; omega)) (fun Fc fc Bc => ?_)
  replace cc := cc.trans fc
  refine mv_aload_n (pc := 9) d_Lg_addDestroy_9 rfl ?_
  refine mr_getr (pc := 10) d_Lg_addDestroy_10 fl_Lg_14 hz.1 rfl (by decide) hz.2.1 ?_
  refine mv_iload_n (pc := 13) d_Lg_addDestroy_13 rfl ?_
  refine mv_iconst (v := 3) (pc := 14) d_Lg_addDestroy_14 (by decide) ?_
  refine mr_callV2 (pc := 15) d_Lg_addDestroy_15 (d2 := (1, 21)) ok_By_add li_Lg_20 sv_By_add hz.2.2.1 ⟨by decide, rfl⟩ ⟨by decide, rfl, rfl, Nat.le_of_ble_eq_true rfl, rfl, by decide, by decide⟩ ?_
  refine c_byAdd (n := 3) hz.2.2 (by decide) Bc (by first | omega | (simp only [List.length_append, mm_enc_len]; omega)) (fun Fc fc Bc => ?_)
  replace cc := cc.trans fc
  refine mv_ret (pc := 18) d_Lg_addDestroy_18 rfl ?_
  exact hq Fc cc (by simpa only [List.append_assoc] using Bc)
set_option maxRecDepth 20000 in
theorem c_addSpeed {G : mm_G} {Q : mm_O → mm_H → Prop} {h : mm_H} {z l N : Nat} {x y v : Int32} {bs : List Int32} (hz : mm_Hd h z 2 l N) (hB : mm_By (mm_gi h) l bs) (hN : bs.length + 6 ≤ N) (hq : ∀ F', mm_yfr l (mm_gi h) F' → mm_By F' l (bs ++ (mm_enc 3 1 ++ mm_enc x 3 ++ mm_enc (y + 128) 1 ++ mm_enc (v + 128) 1)) → Q (.inl none) (mm_wi h F')) : mm_V G (2, 44) M_Lg_addSpeed Q 0 (mm_ent 4 [.ref z, .int x, .int y, .int v]) [] h := by
  have cc : mm_yfr l (mm_gi h) (mm_gi h) := mm_yfr.rfl'
  have Bc := hB
  show mm_V G (2, 44) M_Lg_addSpeed Q 0 [some (.ref z), some (.int x), some (.int y), some (.int v)] [] (mm_wi h (mm_gi h))
  refine mv_aload_n (pc := 0) d_Lg_addSpeed_0 rfl ?_
  refine mr_getr (pc := 1) d_Lg_addSpeed_1 fl_Lg_14 hz.1 rfl (by decide) hz.2.1 ?_
  refine mv_iconst (v := 3) (pc := 4) d_Lg_addSpeed_4 (by decide) ?_
  refine mv_iconst (v := 1) (pc := 5) d_Lg_addSpeed_5 (by decide) ?_
  refine mr_callV2 (pc := 6) d_Lg_addSpeed_6 (d2 := (1, 21)) ok_By_add li_Lg_20 sv_By_add hz.2.2.1 ⟨by decide, rfl⟩ ⟨by decide, rfl, rfl, Nat.le_of_ble_eq_true rfl, rfl, by decide, by decide⟩ ?_
  refine c_byAdd (n := 1) hz.2.2 (by decide) Bc (by first | omega | (simp only [List.length_append, mm_enc_len]; omega)) (fun Fc fc Bc => ?_)
  replace cc := cc.trans fc
  refine mv_aload_n (pc := 9) d_Lg_addSpeed_9 rfl ?_
  refine mr_getr (pc := 10) d_Lg_addSpeed_10 fl_Lg_14 hz.1 rfl (by decide) hz.2.1 ?_
  refine mv_iload_n (pc := 13) d_Lg_addSpeed_13 rfl ?_
  refine mv_iconst (v := 3) (pc := 14) d_Lg_addSpeed_14 (by decide) ?_
  refine mr_callV2 (pc := 15) d_Lg_addSpeed_15 (d2 := (1, 21)) ok_By_add li_Lg_20 sv_By_add hz.2.2.1 ⟨by decide, rfl⟩ ⟨by decide, rfl, rfl, Nat.le_of_ble_eq_true rfl, rfl, by decide, by decide⟩ ?_
  refine c_byAdd (n := 3) hz.2.2 (by decide) Bc (by first | omega | (simp only [List.length_append, mm_enc_len]; omega)) (fun Fc fc Bc => ?_)
  replace cc := cc.trans fc
  refine mv_aload_n (pc := 18) d_Lg_addSpeed_18 rfl ?_
  refine mr_getr (pc := 19) d_Lg_addSpeed_19 fl_Lg_14 hz.1 rfl (by decide) hz.2.1 ?_
  refine mv_iload_n (pc := 22) d_Lg_addSpeed_22 rfl ?_
  refine mv_sipush (v := 128) (pc := 23) d_Lg_addSpeed_23 (by decide) ?_
  refine mv_iadd (pc := 26) d_Lg_addSpeed_26 ?_
  refine mv_iconst (v := 1) (pc := 27) d_Lg_addSpeed_27 (by decide) ?_
  refine mr_callV2 (pc := 28) d_Lg_addSpeed_28 (d2 := (1, 21)) ok_By_add li_Lg_20 sv_By_add hz.2.2.1 ⟨by decide, rfl⟩ ⟨by decide, rfl, rfl, Nat.le_of_ble_eq_true rfl, rfl, by decide, by decide⟩ ?_
  refine c_byAdd (n := 1) hz.2.2 (by decide) Bc (by first | omega | (simp only [List.length_append, mm_enc_len]; omega)) (fun Fc fc Bc => ?_)
  replace cc := cc.trans fc
  refine mv_aload_n (pc := 31) d_Lg_addSpeed_31 rfl ?_
  refine mr_getr (pc := 32) d_Lg_addSpeed_32 fl_Lg_14 hz.1 rfl (by decide) hz.2.1 ?_
  refine mv_iload_n (pc := 35) d_Lg_addSpeed_35 rfl ?_
  refine mv_sipush (v := 128) (pc := 36) d_Lg_addSpeed_36 (by decide) ?_
  refine mv_iadd (pc := 39) d_Lg_addSpeed_39 ?_
  refine mv_iconst (v := 1) (pc := 40) d_Lg_addSpeed_40 (by decide) ?_
  refine mr_callV2 (pc := 41) d_Lg_addSpeed_41 (d2 := (1, 21)) ok_By_add li_Lg_20 sv_By_add hz.2.2.1 ⟨by decide, rfl⟩ ⟨by decide, rfl, rfl, Nat.le_of_ble_eq_true rfl, rfl, by decide, by decide⟩ ?_
  refine c_byAdd (n := 1) hz.2.2 (by decide) Bc (by first | omega | (simp only [List.length_append, mm_enc_len]; omega)) (fun Fc fc Bc => ?_)
  replace cc := cc.trans fc
  refine mv_ret (pc := 44) d_Lg_addSpeed_44 rfl ?_
  exact hq Fc cc (by simpa only [List.append_assoc] using Bc)
set_option maxRecDepth 20000 in
theorem c_addShape {G : mm_G} {Q : mm_O → mm_H → Prop} {h : mm_H} {z l N : Nat} {x y v : Int32} {bs : List Int32} (hz : mm_Hd h z 2 l N) (hB : mm_By (mm_gi h) l bs) (hN : bs.length + 6 ≤ N) (hq : ∀ F', mm_yfr l (mm_gi h) F' → mm_By F' l (bs ++ (mm_enc 4 1 ++ mm_enc x 3 ++ mm_enc y 1 ++ mm_enc v 1)) → Q (.inl none) (mm_wi h F')) : mm_V G (2, 44) M_Lg_addShape Q 0 (mm_ent 4 [.ref z, .int x, .int y, .int v]) [] h := by
  have cc : mm_yfr l (mm_gi h) (mm_gi h) := mm_yfr.rfl'
  have Bc := hB
  show mm_V G (2, 44) M_Lg_addShape Q 0 [some (.ref z), some (.int x), some (.int y), some (.int v)] [] (mm_wi h (mm_gi h))
  refine mv_aload_n (pc := 0) d_Lg_addShape_0 rfl ?_
  refine mr_getr (pc := 1) d_Lg_addShape_1 fl_Lg_14 hz.1 rfl (by decide) hz.2.1 ?_
  refine mv_iconst (v := 4) (pc := 4) d_Lg_addShape_4 (by decide) ?_
  refine mv_iconst (v := 1) (pc := 5) d_Lg_addShape_5 (by decide) ?_
  refine mr_callV2 (pc := 6) d_Lg_addShape_6 (d2 := (1, 21)) ok_By_add li_Lg_20 sv_By_add hz.2.2.1 ⟨by decide, rfl⟩ ⟨by decide, rfl, rfl, Nat.le_of_ble_eq_true rfl, rfl, by decide, by decide⟩ ?_
  refine c_byAdd (n := 1) hz.2.2 (by decide) Bc (by first | omega | (simp only [List.length_append, mm_enc_len]; omega)) (fun Fc fc Bc => ?_)
  replace cc := cc.trans fc
  refine mv_aload_n (pc := 9) d_Lg_addShape_9 rfl ?_
  refine mr_getr (pc := 10) d_Lg_addShape_10 fl_Lg_14 hz.1 rfl (by decide) hz.2.1 ?_
  refine mv_iload_n (pc := 13) d_Lg_addShape_13 rfl ?_
  refine mv_iconst (v := 3) (pc := 14) d_Lg_addShape_14 (by decide) ?_
  refine mr_callV2 (pc := 15) d_Lg_addShape_15 (d2 := (1, 21)) ok_By_add li_Lg_20 sv_By_add hz.2.2.1 ⟨by decide, rfl⟩ ⟨by decide, rfl, rfl, Nat.le_of_ble_eq_true rfl, rfl, by decide, by decide⟩ ?_
  refine c_byAdd (n := 3) hz.2.2 (by decide) Bc (by first | omega | (simp only [List.length_append, mm_enc_len]; omega)) (fun Fc fc Bc => ?_)
  replace cc := cc.trans fc
  refine mv_aload_n (pc := 18) d_Lg_addShape_18 rfl ?_
  refine mr_getr (pc := 19) d_Lg_addShape_19 fl_Lg_14 hz.1 rfl (by decide) hz.2.1 ?_
  refine mv_iload_n (pc := 22) d_Lg_addShape_22 rfl ?_
  refine mv_iconst (v := 1) (pc := 23) d_Lg_addShape_23 (by decide) ?_
  refine mr_callV2 (pc := 24) d_Lg_addShape_24 (d2 := (1, 21)) ok_By_add li_Lg_20 sv_By_add hz.2.2.1 ⟨by decide, rfl⟩ ⟨by decide, rfl, rfl, Nat.le_of_ble_eq_true rfl, rfl, by decide, by decide⟩ ?_
  refine c_byAdd (n := 1) hz.2.2 (by decide) Bc (by first | omega | (simp only [List.length_append, mm_enc_len]; omega)) (fun Fc fc Bc => ?_)
  replace cc := cc.trans fc
  refine mv_aload_n (pc := 27) d_Lg_addShape_27 rfl ?_
  refine mr_getr (pc := 28) d_Lg_addShape_28 fl_Lg_14 hz.1 rfl (by decide) hz.2.1 ?_
  refine mv_iload_n (pc := 31) d_Lg_addShape_31 rfl ?_
  refine mv_iconst (v := 1) (pc := 32) d_Lg_addShape_32 (by decide) ?_
  refine mr_callV2 (pc := 33) d_Lg_addShape_33 (d2 := (1, 21)) ok_By_add li_Lg_20 sv_By_add hz.2.2.1 ⟨by decide, rfl⟩ ⟨by decide, rfl, rfl, Nat.le_of_ble_eq_true rfl, rfl, by decide, by decide⟩ ?_
  refine c_byAdd (n := 1) hz.2.2 (by decide) Bc (by first | omega | (simp only [List.length_append, mm_enc_len]; omega)) (fun Fc fc Bc => ?_)
  replace cc := cc.trans fc
  refine mv_ret (pc := 36) d_Lg_addShape_36 rfl ?_
  exact hq Fc cc (by simpa only [List.append_assoc] using Bc)
set_option maxRecDepth 20000 in
theorem c_addTimer {G : mm_G} {Q : mm_O → mm_H → Prop} {h : mm_H} {z l N : Nat} {x y : Int32} {bs : List Int32} (hz : mm_Hd h z 2 l N) (hB : mm_By (mm_gi h) l bs) (hN : bs.length + 6 ≤ N) (hq : ∀ F', mm_yfr l (mm_gi h) F' → mm_By F' l (bs ++ (mm_enc 5 1 ++ mm_enc x 3 ++ mm_enc y 2)) → Q (.inl none) (mm_wi h F')) : mm_V G (2, 44) M_Lg_addTimer Q 0 (mm_ent 3 [.ref z, .int x, .int y]) [] h := by
  have cc : mm_yfr l (mm_gi h) (mm_gi h) := mm_yfr.rfl'
  have Bc := hB
  show mm_V G (2, 44) M_Lg_addTimer Q 0 [some (.ref z), some (.int x), some (.int y)] [] (mm_wi h (mm_gi h))
  refine mv_aload_n (pc := 0) d_Lg_addTimer_0 rfl ?_
  refine mr_getr (pc := 1) d_Lg_addTimer_1 fl_Lg_14 hz.1 rfl (by decide) hz.2.1 ?_
  refine mv_iconst (v := 5) (pc := 4) d_Lg_addTimer_4 (by decide) ?_
  refine mv_iconst (v := 1) (pc := 5) d_Lg_addTimer_5 (by decide) ?_
  refine mr_callV2 (pc := 6) d_Lg_addTimer_6 (d2 := (1, 21)) ok_By_add li_Lg_20 sv_By_add hz.2.2.1 ⟨by decide, rfl⟩ ⟨by decide, rfl, rfl, Nat.le_of_ble_eq_true rfl, rfl, by decide, by decide⟩ ?_
  refine c_byAdd (n := 1) hz.2.2 (by decide) Bc (by first | omega | (simp only [List.length_append, mm_enc_len]; omega)) (fun Fc fc Bc => ?_)
  replace cc := cc.trans fc
  refine mv_aload_n (pc := 9) d_Lg_addTimer_9 rfl ?_
  refine mr_getr (pc := 10) d_Lg_addTimer_10 fl_Lg_14 hz.1 rfl (by decide) hz.2.1 ?_
  refine mv_iload_n (pc := 13) d_Lg_addTimer_13 rfl ?_
  refine mv_iconst (v := 3) (pc := 14) d_Lg_addTimer_14 (by decide) ?_
  refine mr_callV2 (pc := 15) d_Lg_addTimer_15 (d2 := (1, 21)) ok_By_add li_Lg_20 sv_By_add hz.2.2.1 ⟨by decide, rfl⟩ ⟨by decide, rfl, rfl, Nat.le_of_ble_eq_true rfl, rfl, by decide, by decide⟩ ?_
  refine c_byAdd (n := 3) hz.2.2 (by decide) Bc (by first | omega | (simp only [List.length_append, mm_enc_len]; omega)) (fun Fc fc Bc => ?_)
  replace cc := cc.trans fc
  refine mv_aload_n (pc := 18) d_Lg_addTimer_18 rfl ?_
  refine mr_getr (pc := 19) d_Lg_addTimer_19 fl_Lg_14 hz.1 rfl (by decide) hz.2.1 ?_
  refine mv_iload_n (pc := 22) d_Lg_addTimer_22 rfl ?_
  refine mv_iconst (v := 2) (pc := 23) d_Lg_addTimer_23 (by decide) ?_
  refine mr_callV2 (pc := 24) d_Lg_addTimer_24 (d2 := (1, 21)) ok_By_add li_Lg_20 sv_By_add hz.2.2.1 ⟨by decide, rfl⟩ ⟨by decide, rfl, rfl, Nat.le_of_ble_eq_true rfl, rfl, by decide, by decide⟩ ?_
  refine c_byAdd (n := 2) hz.2.2 (by decide) Bc (by first | omega | (simp only [List.length_append, mm_enc_len]; omega)) (fun Fc fc Bc => ?_)
  replace cc := cc.trans fc
  refine mv_ret (pc := 27) d_Lg_addTimer_27 rfl ?_
  exact hq Fc cc (by simpa only [List.append_assoc] using Bc)
set_option maxRecDepth 20000 in
theorem c_addTick {G : mm_G} {Q : mm_O → mm_H → Prop} {h : mm_H} {z l N : Nat} {bs : List Int32} (hz : mm_Hd h z 2 l N) (hB : mm_By (mm_gi h) l bs) (hN : bs.length + 1 ≤ N) (hq : ∀ F', mm_yfr l (mm_gi h) F' → mm_By F' l (bs ++ (mm_enc 6 1)) → Q (.inl none) (mm_wi h F')) : mm_V G (2, 44) M_Lg_addTick Q 0 (mm_ent 1 [.ref z]) [] h := by
  have cc : mm_yfr l (mm_gi h) (mm_gi h) := mm_yfr.rfl'
  have Bc := hB
  show mm_V G (2, 44) M_Lg_addTick Q 0 [some (.ref z)] [] (mm_wi h (mm_gi h))
  refine mv_aload_n (pc := 0) d_Lg_addTick_0 rfl ?_
  refine mr_getr (pc := 1) d_Lg_addTick_1 fl_Lg_14 hz.1 rfl (by decide) hz.2.1 ?_
  refine mv_bipush (v := 6) (pc := 4) d_Lg_addTick_4 (by decide) ?_
  refine mv_iconst (v := 1) (pc := 6) d_Lg_addTick_6 (by decide) ?_
  refine mr_callV2 (pc := 7) d_Lg_addTick_7 (d2 := (1, 21)) ok_By_add li_Lg_20 sv_By_add hz.2.2.1 ⟨by decide, rfl⟩ ⟨by decide, rfl, rfl, Nat.le_of_ble_eq_true rfl, rfl, by decide, by decide⟩ ?_
  refine c_byAdd (n := 1) hz.2.2 (by decide) Bc (by first | omega | (simp only [List.length_append, mm_enc_len]; omega)) (fun Fc fc Bc => ?_)
  replace cc := cc.trans fc
  refine mv_ret (pc := 10) d_Lg_addTick_10 rfl ?_
  exact hq Fc cc (by simpa only [List.append_assoc] using Bc)
/-- the TickArena object 1: its present world w, its spare one w2, the saved state, the log -/
def mm_Ta (h : mm_H) (w w2 : Nat) : Prop := mm_at h 1 6 4 ∧ mm_gr h 1 0 = some w ∧ mm_gr h 1 1 = some w2 ∧ mm_gr h 1 2 = some 46 ∧ mm_gr h 1 3 = some 49 ∧ mm_Hd h 46 4 47 336 ∧ mm_Hd h 49 2 50 400 ∧ mm_Wd h w ∧ mm_Wd h w2 ∧ ((w = 2 ∧ w2 = 24) ∨ (w = 24 ∧ w2 = 2))
/-- what it holds: the world, the events, the saved bytes, the log's bytes -/
def CS (F : mm_W) (w : Nat) (A : mm_W) (E : mm_E) (sv lg : List Int32) : Prop := RC F w A ∧ RE F w E ∧ mm_By F 47 sv ∧ mm_By F 50 lg ∧ sv.length ≤ 336 ∧ lg.length ≤ 400
def mm_cfr (F F' : mm_W) : Prop := ∀ a k, 52 ≤ a → F' a k = F a k
def mm_rm (G : mm_G) (h : mm_H) : Prop := mm_c h + 1 ≤ mm_BC G ∧ mm_s h + 6 ≤ mm_BS G
theorem mm_cfr.rfl' {F : mm_W} : mm_cfr F F := fun _ _ _ => rfl
theorem mm_cfr.trans {F F1 F2 : mm_W} (h1 : mm_cfr F F1) (h2 : mm_cfr F1 F2) : mm_cfr F F2 := fun a k ha => (h2 a k ha).trans (h1 a k ha)
theorem mm_cfr.y {F F' : mm_W} {y : Nat} (h : mm_yfr y F F') (hy : y < 51) : mm_cfr F F' := fun a k ha => h.1 a k (by omega) (by omega)
theorem mm_cfr.w {F F' : mm_W} {w : Nat} (h : mm_wfr w F F') (hw : w ≤ 24) : mm_cfr F F' := fun a k ha => h a k (by omega)
theorem mm_By.off {F F' : mm_W} {y : Nat} {bs : List Int32} (h : mm_By F y bs) (h0 : F' y 1 = F y 1) (h1 : ∀ k, F' (y + 1) k = F (y + 1) k) : mm_By F' y bs := ⟨h0.trans h.1, fun j hj => (h1 j).trans (h.2 j hj)⟩
theorem CS.log {F F' A : mm_W} {w : Nat} {E : mm_E} {sv lg lg' : List Int32} (h : CS F w A E sv lg) (hw : w ≤ 24) (hf : mm_yfr 50 F F') (hB : mm_By F' 50 lg') (hl : lg'.length ≤ 400) : CS F' w A E sv lg' :=
  ⟨h.1.yfr (Or.inr (by omega)) hf, h.2.1.same (fun a k ha => hf.1 a k (by omega) (by omega)), h.2.2.1.off (hf.1 _ _ (by omega) (by omega)) (fun k => hf.1 _ _ (by omega) (by omega)), hB, h.2.2.2.2.1, hl⟩
theorem CS.wld {F F' A A' : mm_W} {w : Nat} {E E' : mm_E} {sv lg : List Int32} (h : CS F w A E sv lg) (hw : w ≤ 24) (hf : mm_wfr w F F') (hR : RC F' w A') (hE : RE F' w E') : CS F' w A' E' sv lg :=
  ⟨hR, hE, h.2.2.1.off (hf _ _ (by omega)) (fun k => hf _ _ (by omega)), h.2.2.2.1.off (hf _ _ (by omega)) (fun k => hf _ _ (by omega)), h.2.2.2.2⟩
theorem mm_Ta.le {h : mm_H} {w w2 : Nat} (hT : mm_Ta h w w2) : w ≤ 24 ∧ w2 ≤ 24 ∧ 2 ≤ w ∧ 2 ≤ w2 := by
  rcases hT.2.2.2.2.2.2.2.2.2 with ⟨rfl, rfl⟩ | ⟨rfl, rfl⟩ <;> omega
/-- a handle is good -/
def a_good (A : mm_W) (x : Int32) (i : Nat) : Prop := ¬ A 1 i = 0 ∧ A 0 i = x >>> ((4 : Int32) &&& 31)
/-- what the code asks of a handle, at the heap -/
theorem RC.good {F A : mm_W} {w i : Nat} {x : Int32} (h : RC F w A) (hi : i < 16) : (¬ F (w + 6 + i) 1 = 0 ∧ F (w + 6 + i) 0 = x >>> ((4 : Int32) &&& 31)) ↔ a_good A x i := by
  obtain ⟨q0, q1, -⟩ := h.2.1 i hi
  unfold a_good; rw [q0, q1]
set_option maxRecDepth 20000 in
theorem c_needGood {G : mm_G} {Q : mm_O → mm_H → Prop} {h : mm_H} {w w2 i : Nat} {x : Int32} {A : mm_W} (hG : G.1.stackTraces = false) (hr : mm_rm G h) (hT : mm_Ta h w w2) (hR : RC (mm_gi h) w A) (hi : i < 16) (hx : x &&& 15 = nI i) (hq : a_good A x i → Q (.inl none) h) (hqx : ¬ a_good A x i → Q (.inr 0) (mm_exc h)) : mm_V G (6, 90) M_Ta_needGood Q 0 (mm_ent 2 [.ref 1, .int x]) [] h := by
  show mm_V G (6, 90) M_Ta_needGood Q 0 [some (.ref 1), some (.int x)] [] h
  refine mv_aload_n (pc := 0) d_Ta_needGood_0 rfl ?_
  refine mr_getr (pc := 1) d_Ta_needGood_1 fl_Ta_10 hT.1 rfl (by decide) hT.2.1 ?_
  refine mv_iload_n (pc := 4) d_Ta_needGood_4 rfl ?_
  refine mr_callV1 (pc := 5) d_Ta_needGood_5 (d2 := (2, 41)) ok_Wo_isGood li_Ta_150 sv_Wo_isGood hT.2.2.2.2.2.2.2.1.1 ⟨by decide, rfl⟩ ⟨by decide, rfl, Nat.le_of_ble_eq_true rfl, rfl, by decide, by decide⟩ ?_
  refine c_isGood hT.2.2.2.2.2.2.2.1 hi hx (fun hc5 => ?_) (fun hc5 => ?_)
  · refine mv_if_ne 19 (pc := 8) d_Ta_needGood_8 (by decide) (fun _ => ?_) (fun z => absurd z (by decide))
    refine mv_ret (pc := 19) d_Ta_needGood_19 rfl ?_
    exact hq ((hR.good hi).mp hc5)
  · refine mv_if_ne 19 (pc := 8) d_Ta_needGood_8 (by decide) (fun z => absurd z (by decide)) (fun _ => ?_)
    refine mv_throw (pc := 11) hG d_Ta_needGood_11 d_Ta_needGood_14 d_Ta_needGood_15 d_Ta_needGood_18 xl_Ta_41 (by decide) rfl (Nat.le_of_ble_eq_true rfl) hr.1 hr.2 ?_
    exact hqx (fun z => hc5 ((hR.good hi).mpr z))
set_option maxRecDepth 20000 in
theorem c_needRoom {G : mm_G} {Q : mm_O → mm_H → Prop} {h : mm_H} {w w2 n : Nat} {lg : List Int32} (hG : G.1.stackTraces = false) (hr : mm_rm G h) (hT : mm_Ta h w w2) (hB : mm_By (mm_gi h) 50 lg) (hl : lg.length ≤ 400) (hn : n ≤ 400) (hq : lg.length + n ≤ 400 → Q (.inl none) h) (hqx : ¬ lg.length + n ≤ 400 → Q (.inr 2) (mm_exc h)) : mm_V G (6, 90) M_Ta_needRoom Q 0 (mm_ent 2 [.ref 1, .int (nI n)]) [] h := by
  show mm_V G (6, 90) M_Ta_needRoom Q 0 [some (.ref 1), some (.int (nI n))] [] h
  refine mv_aload_n (pc := 0) d_Ta_needRoom_0 rfl ?_
  refine mr_getr (pc := 1) d_Ta_needRoom_1 fl_Ta_29 hT.1 rfl (by decide) hT.2.2.2.2.1 ?_
  refine mr_getr (pc := 4) d_Ta_needRoom_4 fl_Ta_188 hT.2.2.2.2.2.2.1.1 rfl (by decide) hT.2.2.2.2.2.2.1.2.1 ?_
  refine mv_iload_n (pc := 7) d_Ta_needRoom_7 rfl ?_
  refine mr_callV1 (pc := 8) d_Ta_needRoom_8 (d2 := (0, 0)) ok_By_hasRoom li_Ta_219 sv_By_hasRoom hT.2.2.2.2.2.2.1.2.2.1 ⟨by decide, rfl⟩ ⟨by decide, rfl, Nat.le_of_ble_eq_true rfl, rfl, by decide, by decide⟩ ?_
  refine c_byHasRoom hT.2.2.2.2.2.2.1.2.2 (fun hc8 => ?_) (fun hc8 => ?_)
  · refine mv_if_ne 22 (pc := 11) d_Ta_needRoom_11 (by decide) (fun _ => ?_) (fun z => absurd z (by decide))
    refine mv_ret (pc := 22) d_Ta_needRoom_22 rfl ?_
    refine hq ?_
    rw [hB.1] at hc8
    have hc8 : nI n ≤ nI 400 - nI lg.length := hc8
    rw [pk_sub (by omega), nI_leI (by omega) (by omega)] at hc8
    omega
  · refine mv_if_ne 22 (pc := 11) d_Ta_needRoom_11 (by decide) (fun z => absurd z (by decide)) (fun _ => ?_)
    refine mv_throw (pc := 14) hG d_Ta_needRoom_14 d_Ta_needRoom_17 d_Ta_needRoom_18 d_Ta_needRoom_21 xl_Ta_222 (by decide) rfl (Nat.le_of_ble_eq_true rfl) hr.1 hr.2 ?_
    refine hqx (fun z => hc8 ?_)
    rw [hB.1]
    show nI n ≤ nI 400 - nI lg.length
    rw [pk_sub (by omega)]
    exact nI_le (by omega) (by omega)
set_option maxRecDepth 20000 in
theorem c_bytesOf {G : mm_G} {Q : mm_O → mm_H → Prop} {h : mm_H} {w w2 : Nat} {b : Int32} (hT : mm_Ta h w w2) (hq1 : ¬ b = 0 → Q (.inl (some (.ref 50))) h) (hq0 : b = 0 → Q (.inl (some (.ref 47))) h) : mm_V G (0, 0) M_Ta_bytesOf Q 0 (mm_ent 2 [.ref 1, .int b]) [] h := by
  show mm_V G (0, 0) M_Ta_bytesOf Q 0 [some (.ref 1), some (.int b)] [] h
  refine mv_iload_n (pc := 0) d_Ta_bytesOf_0 rfl ?_
  refine mv_if_eq 14 (pc := 1) d_Ta_bytesOf_1 (by decide) (fun h1 => ?_) (fun h1 => ?_)
  · refine mv_aload_n (pc := 14) d_Ta_bytesOf_14 rfl ?_
    refine mr_getr (pc := 15) d_Ta_bytesOf_15 fl_Ta_22 hT.1 rfl (by decide) hT.2.2.2.1 ?_
    refine mr_getr (pc := 18) d_Ta_bytesOf_18 fl_Ta_198 hT.2.2.2.2.2.1.1 rfl (by decide) hT.2.2.2.2.2.1.2.1 ?_
    refine mv_aret (pc := 21) d_Ta_bytesOf_21 rfl (Or.inl ⟨_, rfl⟩) ?_
    exact hq0 h1
  · refine mv_aload_n (pc := 4) d_Ta_bytesOf_4 rfl ?_
    refine mr_getr (pc := 5) d_Ta_bytesOf_5 fl_Ta_29 hT.1 rfl (by decide) hT.2.2.2.2.1 ?_
    refine mr_getr (pc := 8) d_Ta_bytesOf_8 fl_Ta_188 hT.2.2.2.2.2.2.1.1 rfl (by decide) hT.2.2.2.2.2.2.1.2.1 ?_
    refine mv_goto 21 (pc := 11) d_Ta_bytesOf_11 (by decide) ?_
    refine mv_aret (pc := 21) d_Ta_bytesOf_21 rfl (Or.inl ⟨_, rfl⟩) ?_
    exact hq1 h1
theorem RC.set {F A : mm_W} {h : mm_H} {w i : Nat} (hR : RC F w A) (hi : i < 16) (x y : Int32) : RC (mm_settle (mm_wi h F) (w + 6 + i) x y).1 w (a_set A i x y) := by
  refine hR.slot hi (fun a k ha => by simp [mm_settle, mm_usi, mm_u2, ha, mm_uwi]) (fun k j hkj => ?_) ?_ ?_ (fun _ k k1 k2 => ?_)
  · unfold a_set; grind
  · simp [mm_settle, mm_usi, mm_u2, mm_uwi, a_set, (hR.2.1 i hi).1]
  · simp [mm_settle, mm_usi, mm_u2, mm_uwi, a_set]
  · have : k = 2 ∨ k = 3 ∨ k = 4 ∨ k = 5 ∨ k = 6 ∨ k = 7 ∨ k = 8 := by omega
    rcases this with rfl | rfl | rfl | rfl | rfl | rfl | rfl <;> simp [mm_settle, mm_usi, mm_u2, mm_uwi, a_set]
set_option maxRecDepth 20000 in
theorem c_create {G : mm_G} {Q : mm_O → mm_H → Prop} {h : mm_H} {w w2 : Nat} {A : mm_W} {E : mm_E} {sv lg : List Int32} (hG : G.1.stackTraces = false) (hr : mm_rm G h) (hT : mm_Ta h w w2) (hC : CS (mm_gi h) w A E sv lg) {x y : Int32} (hq0 : ¬ ((0 ≤ x ∧ x ≤ 4095) ∧ (0 ≤ y ∧ y ≤ 4095)) → Q (.inr 0) (mm_exc h)) (hq1 : ((0 ≤ x ∧ x ≤ 4095) ∧ (0 ≤ y ∧ y ≤ 4095)) → (∀ j, j < 16 → ¬ A 1 j = 0) → Q (.inr 1) (mm_exc h)) (hq2 : ∀ i, ((0 ≤ x ∧ x ≤ 4095) ∧ (0 ≤ y ∧ y ≤ 4095)) → i < 16 → A 1 i = 0 → ¬ lg.length + 5 ≤ 400 → Q (.inr 2) (mm_exc h)) (hq : ∀ i F', ((0 ≤ x ∧ x ≤ 4095) ∧ (0 ≤ y ∧ y ≤ 4095)) → i < 16 → (∀ j, j < i → ¬ A 1 j = 0) → A 1 i = 0 → lg.length + 5 ≤ 400 → CS F' w (a_set A i x y) E sv (lg ++ (mm_enc 1 1 ++ mm_enc x 2 ++ mm_enc y 2)) → mm_cfr (mm_gi h) F' → Q (.inl (some (.int (nI i + 16 * A 0 i)))) (mm_wi h F')) : mm_V G (7, 111) M_Ta_create Q 0 (mm_ent 3 [.ref 1, .int x, .int y]) [] h := by
  show mm_V G (7, 111) M_Ta_create Q 0 [some (.ref 1), some (.int x), some (.int y)] [] h
  refine mv_iload_n (pc := 0) d_Ta_create_0 rfl ?_
  refine mv_iload_n (pc := 1) d_Ta_create_1 rfl ?_
  refine mr_callS2 (pc := 2) d_Ta_create_2 (d2 := (1, 22)) ok_Ta_isPlace li_Ta_37 sv_Ta_isPlace ⟨by decide, rfl, rfl, Nat.le_of_ble_eq_true rfl, rfl, by decide, by decide⟩ ?_
  refine c_isPlace (fun hp => ?_) (fun hp => ?_)
  · refine mv_if_ne 16 (pc := 5) d_Ta_create_5 (by decide) (fun _ => ?_) (fun z => absurd z (by decide))
    refine mv_aload_n (pc := 16) d_Ta_create_16 rfl ?_
    refine mr_getr (pc := 17) d_Ta_create_17 fl_Ta_10 hT.1 rfl (by decide) hT.2.1 ?_
    refine mr_callV0 (pc := 20) d_Ta_create_20 (d2 := (0, 0)) ok_Wo_lowestEmpty li_Ta_44 sv_Wo_lowestEmpty hT.2.2.2.2.2.2.2.1.1 ⟨by decide, rfl⟩ ⟨by decide, Nat.le_of_ble_eq_true rfl, rfl, by decide, by decide⟩ ?_
    refine c_lowestEmpty hT.2.2.2.2.2.2.2.1 (fun i hi hlow hz => ?_) (fun hall => ?_)
    · refine mv_iconst (v := -1) (pc := 23) d_Ta_create_23 (by decide) ?_
      refine mv_ic_ne 35 (pc := 24) d_Ta_create_24 (by decide) (fun h24 => ?_) (fun z => absurd z (nI_nm1 hi))
      refine mv_aload_n (pc := 35) d_Ta_create_35 rfl ?_
      refine mv_iconst (v := 5) (pc := 36) d_Ta_create_36 (by decide) ?_
      refine mr_callV1 (pc := 37) d_Ta_create_37 (d2 := (6, 90)) ok_Ta_needRoom li_Ta_51 sv_Ta_needRoom hT.1 ⟨by decide, rfl⟩ ⟨by decide, rfl, Nat.le_of_ble_eq_true rfl, rfl, by decide, by decide⟩ ?_
      refine c_needRoom (n := 5) hG hr hT hC.2.2.2.1 hC.2.2.2.2.2 (by decide) (fun hm => ?_) (fun hm => ?_)
      · refine mv_aload_n (pc := 40) d_Ta_create_40 rfl ?_
        refine mr_getr (pc := 41) d_Ta_create_41 fl_Ta_29 hT.1 rfl (by decide) hT.2.2.2.2.1 ?_
        refine mv_iload_n (pc := 44) d_Ta_create_44 rfl ?_
        refine mv_iload_n (pc := 45) d_Ta_create_45 rfl ?_
        refine mr_callV2 (pc := 46) d_Ta_create_46 (d2 := (2, 44)) ok_Lg_addCreate li_Ta_55 sv_Lg_addCreate hT.2.2.2.2.2.2.1.1 ⟨by decide, rfl⟩ ⟨by decide, rfl, rfl, Nat.le_of_ble_eq_true rfl, rfl, by decide, by decide⟩ ?_
        refine c_addCreate hT.2.2.2.2.2.2.1 hC.2.2.2.1 hm (fun F1 f1 B1 => ?_)
        refine mv_aload_n (pc := 49) d_Ta_create_49 rfl ?_
        refine mr_getr (pc := 50) d_Ta_create_50 fl_Ta_10 hT.1 rfl (by decide) hT.2.1 ?_
        refine mv_iload_n (pc := 53) d_Ta_create_53 rfl ?_
        refine mv_iload_n (pc := 54) d_Ta_create_54 rfl ?_
        refine mr_callV2 (pc := 55) d_Ta_create_55 (d2 := (2, 44)) ok_Wo_addThing li_Ta_59 sv_Wo_addThing hT.2.2.2.2.2.2.2.1.1 ⟨by decide, rfl⟩ ⟨by decide, rfl, rfl, Nat.le_of_ble_eq_true rfl, rfl, by decide, by decide⟩ ?_
        refine c_addThing hT.2.2.2.2.2.2.2.1 (fun i2 hi2 hlow2 hz2 => ?_) (fun hall => ?_)
        · refine mv_iret (pc := 58) d_Ta_create_58 rfl rfl ?_
          have hle := hT.le
          have hw4 := hle.1
          have hg1 : ∀ j, j < 16 → ∀ k, mm_gi (mm_wi h F1) (w + 6 + j) k = mm_gi h (w + 6 + j) k := fun j hj k => f1.1 _ k (by omega) (by omega)
          have hC1 := hC.log hw4 f1 B1 (by simp only [List.length_append, mm_enc_len]; omega)
          have t1 : ∀ j, j < 16 → mm_gi (mm_wi h F1) (w + 6 + j) 1 = A 1 j := fun j hj => (hC1.1.2.1 j hj).2.1
          have t0 : mm_gi (mm_wi h F1) (w + 6 + i2) 0 = A 0 i2 := (hC1.1.2.1 i2 hi2).1
          rw [t0]
          refine hq i2 (mm_settle (mm_wi h F1) (w + 6 + i2) x y).1 hp hi2 (fun j hj => by rw [← t1 j (by omega)]; exact hlow2 j hj) (by rw [← t1 i2 hi2]; exact hz2) hm (hC1.wld hw4 (fun a k ha => ?_) (hC1.1.set hi2 x y) (hC1.2.1.same (fun a k ha => ?_))) ((mm_cfr.y f1 (by omega)).trans (fun a k ha => ?_))
          all_goals (have hne : ¬ (a = w + 6 + i2) := by omega)
          all_goals (simp [mm_settle, mm_usi, mm_u2, hne, mm_uwi])
        · exact absurd hz (by have hle := hT.le; rw [← f1.1 _ 1 (by omega) (by omega)]; exact hall i hi)
      · exact hq2 i hp hi (by rw [← (hC.1.2.1 i hi).2.1]; exact hz) hm
    · refine mv_iconst (v := -1) (pc := 23) d_Ta_create_23 (by decide) ?_
      refine mv_ic_ne 35 (pc := 24) d_Ta_create_24 (by decide) (fun z => absurd z (fun z => z rfl)) (fun h24 => ?_)
      refine mv_throw (pc := 27) hG d_Ta_create_27 d_Ta_create_30 d_Ta_create_31 d_Ta_create_34 xl_Ta_48 (by decide) rfl (Nat.le_of_ble_eq_true rfl) hr.1 hr.2 ?_
      exact hq1 hp (fun j hj => by rw [← (hC.1.2.1 j hj).2.1]; exact hall j hj)
  · refine mv_if_ne 16 (pc := 5) d_Ta_create_5 (by decide) (fun z => absurd z (by decide)) (fun _ => ?_)
    refine mv_throw (pc := 8) hG d_Ta_create_8 d_Ta_create_11 d_Ta_create_12 d_Ta_create_15 xl_Ta_41 (by decide) rfl (Nat.le_of_ble_eq_true rfl) hr.1 hr.2 ?_
    exact hq0 hp
