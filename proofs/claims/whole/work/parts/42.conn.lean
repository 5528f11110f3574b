/-! CONTRACTS: the reference: step (rows by program: con_n.py) -/
theorem RM.put {F A : mm_W} {k i f : Nat} (h : RM F k A) (hi : i < 16) (hf : 2 ≤ f) (hf2 : f ≤ 8) (v : Int32) : RM (mm_u2 F (54 + f) (16 * k + i) v) k (a_put A f i v) := by
  refine h.slot hi (fun a j ha => ?_) (fun g j hg => ?_) ?_ ?_ (fun z g g1 g2 => ?_)
  · have n1 : ¬ (a = 54 + f ∧ j = 16 * k + i) := by omega
    simp [mm_u2, n1]
  · unfold a_put; grind
  · have n1 : ¬ (54 = 54 + f) := by omega
    have n2 : ¬ (f = 0) := by omega
    have n3 : ¬ (0 = f) := by omega
    simp [mm_u2, a_put, n1, n2, n3, (h.2.1 i hi).1]
  · have n1 : ¬ (55 = 54 + f) := by omega
    have n2 : ¬ (1 = f) := by omega
    simp [mm_u2, a_put, n1, n2, (h.2.1 i hi).2.1]
  · have n2 : ¬ (1 = f) := by omega
    have z' : ¬ A 1 i = 0 := by simpa [a_put, n2] using z
    have := (h.2.1 i hi).2.2 z' g g1 g2
    by_cases e : g = f
    · subst e; simp [mm_u2, a_put]
    · have n1 : ¬ (54 + g = 54 + f) := by omega
      simp [mm_u2, a_put, n1, e, this]
theorem mm_mfr.put {F F0 : mm_W} {k i f : Nat} (h : mm_mfr k F0 F) (hi : i < 16) (hf2 : f ≤ 8) (v : Int32) : mm_mfr k F0 (mm_u2 F (54 + f) (16 * k + i) v) := fun a j ha => by
  have n1 : ¬ (a = 54 + f ∧ j = 16 * k + i) := by omega
  simp only [mm_u2, n1, if_false]
  exact h a j ha
theorem RM.clk {F A : mm_W} {k : Nat} (h : RM F k A) (x : Int32) : RM (mm_u2 F 53 k x) k (a_put A 10 0 x) := by
  refine ⟨by simp [mm_u2, a_put], fun i hi => ?_, fun p hp => ?_⟩
  · obtain ⟨q0, q1, q2⟩ := h.2.1 i hi
    refine ⟨by simp [mm_u2, a_put, q0], by simp [mm_u2, a_put, q1], fun z f f1 f2 => ?_⟩
    have z' : ¬ A 1 i = 0 := by simpa [a_put] using z
    have hf : ¬ f = 10 := by omega
    have n1 : ¬ (54 + f = 53) := by omega
    simp [mm_u2, a_put, n1, hf, q2 z' f f1 f2]
  · simp [mm_u2, a_put, h.2.2 p hp]
/-- the frame of a tick -/
def mm_sfr (k : Nat) (F F' : mm_W) : Prop := ∀ a j, ((a < 53 ∨ 63 < a ∨ (a = 53 ∧ j ≠ k) ∨ (54 ≤ a ∧ a ≤ 62 ∧ (j < 16 * k ∨ 16 * k + 16 ≤ j)) ∨ (a = 63 ∧ (j < 256 * k ∨ 256 * k + 256 ≤ j))) ∧ (a < 64 ∨ 67 < a ∨ (a = 64 ∧ j ≠ k) ∨ (65 ≤ a ∧ a ≤ 67 ∧ (j < 120 * k ∨ 120 * k + 120 ≤ j)))) → F' a j = F a j
theorem mm_sfr.trans {k : Nat} {F F1 F2 : mm_W} (h1 : mm_sfr k F F1) (h2 : mm_sfr k F1 F2) : mm_sfr k F F2 := fun a j ha => (h2 a j ha).trans (h1 a j ha)
theorem mm_mfr.s {k : Nat} {F F' : mm_W} (h : mm_mfr k F F') : mm_sfr k F F' := fun a j ha => h a j ha.1
theorem mm_nfr.s {k : Nat} {F F' : mm_W} (h : mm_nfr k F F') : mm_sfr k F F' := fun a j ha => h a j ha.2
theorem RM.mvd {F B : mm_W} {k i : Nat} (h : RM F k B) (hi : i < 16) (z : ¬ B 1 i = 0) {v2 v3 v4 v5 : Int32} (e2 : v2 = mm_mvx (B 2 i) (B 4 i)) (e3 : v3 = mm_mvx (B 3 i) (B 5 i)) (e4 : v4 = mm_mvv (B 2 i) (B 4 i)) (e5 : v5 = mm_mvv (B 3 i) (B 5 i)) :
    RM (mm_u2 (mm_u2 (mm_u2 (mm_u2 F 58 (16 * k + i) v4) 59 (16 * k + i) v5) 56 (16 * k + i) v2) 57 (16 * k + i) v3) k (a_mv1 B i) := by
  subst e2 e3 e4 e5
  obtain ⟨q0, q1, q2⟩ := h.2.1 i hi
  unfold a_mv1
  rw [if_pos z]
  refine h.slot hi (fun a j ha => ?_) (fun f j hf => ?_) ?_ ?_ (fun z2 f f1 f2 => ?_)
  · have n : ∀ q, 54 ≤ q → q ≤ 62 → ¬ (a = q ∧ j = 16 * k + i) := fun q q1 q2 => by omega
    simp [mm_u2, n 56 (by omega) (by omega), n 57 (by omega) (by omega), n 58 (by omega) (by omega), n 59 (by omega) (by omega)]
  · grind
  · simp [mm_u2, q0]
  · simp [mm_u2, q1]
  · have h2 : f = 2 ∨ f = 3 ∨ f = 4 ∨ f = 5 ∨ f = 6 ∨ f = 7 ∨ f = 8 := by omega
    have r6 := q2 z 6 (by omega) (by omega)
    have r7 := q2 z 7 (by omega) (by omega)
    have r8 := q2 z 8 (by omega) (by omega)
    simp only [Nat.reduceAdd] at r6 r7 r8
    rcases h2 with rfl | rfl | rfl | rfl | rfl | rfl | rfl <;> simp [mm_u2, r6, r7, r8]
theorem mm_mfr.mvd {F F0 : mm_W} {k i : Nat} (h : mm_mfr k F0 F) (hi : i < 16) (v2 v3 v4 v5 : Int32) : mm_mfr k F0 (mm_u2 (mm_u2 (mm_u2 (mm_u2 F 58 (16 * k + i) v4) 59 (16 * k + i) v5) 56 (16 * k + i) v2) 57 (16 * k + i) v3) :=
  (((h.put (f := 4) hi (by omega) v4).put (f := 5) hi (by omega) v5).put (f := 2) hi (by omega) v2).put (f := 3) hi (by omega) v3
theorem RM.tch {F A : mm_W} {k p : Nat} (h : RM F k A) (x : Int32) : RM (mm_u2 F 63 (256 * k + p) x) k (a_put A 9 p x) := by
  refine h.touch (fun a j ha => by simp [mm_u2, ha]) (fun f j hf => by simp [a_put, hf]) (fun q hq => ?_)
  by_cases e : q = p
  · subst e; simp [mm_u2, a_put]
  · have n1 : ¬ (256 * k + q = 256 * k + p) := by omega
    simp [mm_u2, a_put, n1, e, h.2.2 q hq]
theorem mm_mfr.tch {F F0 : mm_W} {k p : Nat} (h : mm_mfr k F0 F) (hp : p < 256) (x : Int32) : mm_mfr k F0 (mm_u2 F 63 (256 * k + p) x) := fun a j ha => by
  have n1 : ¬ (a = 63 ∧ j = 256 * k + p) := by omega
  simp only [mm_u2, n1, if_false]
  exact h a j ha
theorem mm_c1 {x : Int32} (h : 0 ≤ x) : (x = 2147483647 → (if x < 2147483647 then x + 1 else x) = 2147483647) ∧ (¬ x = 2147483647 → (if x < 2147483647 then x + 1 else x) = x + 1) := by
  refine ⟨fun e => by subst e; decide, fun e => ?_⟩
  rw [if_pos]
  have e' : ¬ x.toInt = 2147483647 := fun z => e (Int32.toInt_inj.mp (z.trans i_max.symm))
  have := i_bd x
  simp only [Int32.lt_iff_toInt_lt, i_max]
  omega
set_option maxRecDepth 20000 in
theorem l_mIn {G : mm_G} {Q : mm_O → mm_H → Prop} {h : mm_H} {k : Nat} (hk : k < 2) {a : Nat} {S : mm_E × mm_W} (hM : mm_Mo h) (ha : a < 16) (hS : S.1.length + (15 - a) ≤ 120) (F0 : mm_W) (hq : ∀ F', RM F' k (a_row a S (15 - a)).2 → RME F' k (a_row a S (15 - a)).1 → WF (a_row a S (15 - a)).2 → mm_sfr k F0 F' → mm_V G (2, 45) M_Mo_step Q 411 [some (.ref 52), some (.int (nI k)), some (.int (nI a)), some (.int (nI (a + 1 + (15 - a)))), none, none] [] (mm_wi h F')) :
    ∀ (n : Nat) (F : mm_W), n ≤ 15 - a → (RM F k (a_row a S n).2 ∧ RME F k (a_row a S n).1 ∧ WF (a_row a S n).2) ∧ mm_sfr k F0 F → mm_V G (2, 45) M_Mo_step Q 308 [some (.ref 52), some (.int (nI k)), some (.int (nI a)), some (.int (nI (a + 1 + n))), none, none] [] (mm_wi h F) := by
  refine mr_loop _ _ (15 - a) (fun F hI => ?_) (fun n F hn hI ih => ?_)
  · refine mv_iload_n (pc := 308) d_Mo_step_308 rfl ?_
    refine mv_bipush (v := 16) (pc := 309) d_Mo_step_309 (by decide) ?_
    refine mv_ic_ge 411 (pc := 311) d_Mo_step_311 (by decide) (fun h311 => ?_) (fun z => absurd z (by rw [show a + 1 + (15 - a) = 16 by omega]; exact mm_ge16))
    exact hq F hI.1.1 hI.1.2.1 hI.1.2.2 hI.2
  · obtain ⟨⟨hR, hE, hW⟩, hF⟩ := hI
    have hb : a + 1 + n < 16 := by omega
    have hlen : (a_row a S n).1.length < 120 := by
      have := a_row_len a S n
      omega
    have hp : a * 16 + (a + 1 + n) < 256 := by omega
    refine mv_iload_n (pc := 308) d_Mo_step_308 rfl ?_
    refine mv_bipush (v := 16) (pc := 309) d_Mo_step_309 (by decide) ?_
    refine mv_ic_ge 411 (pc := 311) d_Mo_step_311 (by decide) (fun z => absurd z (mm_lt16 hb)) (fun h311 => ?_)
    refine mv_sipush (v := 256) (pc := 314) d_Mo_step_314 (by decide) ?_
    refine mv_iload_n (pc := 317) d_Mo_step_317 rfl ?_
    refine mv_imul (pc := 318) d_Mo_step_318 ?_
    refine mv_bipush (v := 16) (pc := 319) d_Mo_step_319 (by decide) ?_
    refine mv_iload_n (pc := 321) d_Mo_step_321 rfl ?_
    refine mv_imul (pc := 322) d_Mo_step_322 ?_
    refine mv_iadd (pc := 323) d_Mo_step_323 ?_
    refine mv_iload_n (pc := 324) d_Mo_step_324 rfl ?_
    refine mv_iadd (pc := 325) d_Mo_step_325 ?_
    rw [mm_256, mm_16, nI_add, nI_add, show 256 * k + 16 * a + (a + 1 + n) = 256 * k + (a * 16 + (a + 1 + n)) by omega]
    refine mv_istore (pc := 326) d_Mo_step_326 (by decide) ?_
    refine mv_aload_n (pc := 328) d_Mo_step_328 rfl ?_
    refine mv_bipush (v := 16) (pc := 329) d_Mo_step_329 (by decide) ?_
    refine mv_iload_n (pc := 331) d_Mo_step_331 rfl ?_
    refine mv_imul (pc := 332) d_Mo_step_332 ?_
    refine mv_iload_n (pc := 333) d_Mo_step_333 rfl ?_
    refine mv_iadd (pc := 334) d_Mo_step_334 ?_
    refine mv_bipush (v := 16) (pc := 335) d_Mo_step_335 (by decide) ?_
    refine mv_iload_n (pc := 337) d_Mo_step_337 rfl ?_
    refine mv_imul (pc := 338) d_Mo_step_338 ?_
    refine mv_iload_n (pc := 339) d_Mo_step_339 rfl ?_
    refine mv_iadd (pc := 340) d_Mo_step_340 ?_
    rw [mm_16, nI_add, nI_add]
    refine mr_callV2 (pc := 341) d_Mo_step_341 (d2 := (1, 23)) ok_Mo_overlap li_Mo_83 sv_Mo_overlap hM.1 ⟨by decide, rfl⟩ ⟨by decide, rfl, rfl, Nat.le_of_ble_eq_true rfl, rfl, by decide, by decide⟩ ?_
    refine c_overlap (A := (a_row a S n).2) hk hM ha hb hR hW.1 (fun hc => ?_) (fun hc => ?_)
    · have e1 := a_b1 hc
      refine mv_istore (pc := 344) d_Mo_step_344 (by decide) ?_
      refine mv_iload (pc := 346) d_Mo_step_346 rfl ?_
      refine mv_if_eq 373 (pc := 348) d_Mo_step_348 (by decide) (fun z => absurd z (by decide)) (fun _ => ?_)
      refine mv_aload_n (pc := 351) d_Mo_step_351 rfl ?_
      refine mv_iload_n (pc := 352) d_Mo_step_352 rfl ?_
      refine mv_aload_n (pc := 353) d_Mo_step_353 rfl ?_
      refine mr_getr (pc := 354) d_Mo_step_354 fl_Mo_41 hM.1 rfl (by decide) hM.g_touch ?_
      refine mv_iload (pc := 357) d_Mo_step_357 rfl ?_
      refine mr_zald (pc := 359) d_Mo_step_359 hM.a_touch (mm_inN (by omega) (by decide)) ?_
      rw [mm_cl (by omega), show mm_gi (mm_wi h F) 63 (256 * k + (a * 16 + (a + 1 + n))) = (a_row a S n).2 9 (a * 16 + (a + 1 + n)) from hR.2.2 _ hp]
      refine mv_if_eq 367 (pc := 360) d_Mo_step_360 (by decide) (fun h360 => ?_) (fun h360 => ?_)
      · refine mv_iconst (v := 0) (pc := 367) d_Mo_step_367 (by decide) ?_
        refine mv_iload_n (pc := 368) d_Mo_step_368 rfl ?_
        refine mv_iload_n (pc := 369) d_Mo_step_369 rfl ?_
        refine mr_callV4 (pc := 370) d_Mo_step_370 (d2 := (0, 0)) ok_Mo_note li_Mo_87 sv_Mo_note hM.1 ⟨by decide, rfl⟩ ⟨by decide, rfl, rfl, rfl, rfl, Nat.le_of_ble_eq_true rfl, rfl, by decide, by decide⟩ ?_
        refine c_note (E := (a_row a S n).1) hk hM ha hb hE hlen (fun F2 n1 n2 => ?_)
        refine mv_iload (pc := 373) d_Mo_step_373 rfl ?_
        refine mv_if_ne 396 (pc := 375) d_Mo_step_375 (by decide) (fun _ => ?_) (fun z => absurd z (by decide))
        refine mv_aload_n (pc := 396) d_Mo_step_396 rfl ?_
        refine mr_getr (pc := 397) d_Mo_step_397 fl_Mo_41 hM.1 rfl (by decide) hM.g_touch ?_
        refine mv_iload (pc := 400) d_Mo_step_400 rfl ?_
        refine mv_iload (pc := 402) d_Mo_step_402 rfl ?_
        refine mr_zast (pc := 404) d_Mo_step_404 hM.a_touch (mm_inN (by omega) (by decide)) ?_
        rw [mm_cl (by omega), mm_nar1]
        refine mv_iinc (pc := 405) d_Mo_step_405 rfl rfl (by decide) ?_
        refine mv_goto 308 (pc := 408) d_Mo_step_408 (by decide) ?_
        refine mm_V_drop 4 ?_
        refine mm_V_drop 5 ?_
        refine mm_V_ls (ls' := [some (.ref 52), some (.int (nI k)), some (.int (nI a)), some (.int (nI (a + 1 + (n + 1)))), none, none]) (by simp only [List.set]; rw [show a + 1 + (n + 1) = a + 1 + n + 1 by omega, nI_succ]; rfl) ?_
        have k1 := (hR.nfr n2).tch (p := a * 16 + (a + 1 + n)) 1
        refine ih _ ⟨⟨?_, ?_, hW.mt (by omega) hb⟩, (hF.trans n2.s).trans (mm_mfr.rfl'.tch hp 1).s⟩
        · show RM _ k (a_put (a_row a S n).2 9 (a * 16 + (a + 1 + n)) (a_b (a_ov (a_row a S n).2 a (a + 1 + n))))
          rw [e1]; exact k1
        · show RME _ k (a_mtE (a_row a S n).1 ((a_row a S n).2 9 (a * 16 + (a + 1 + n))) (a * 16 + (a + 1 + n)) (a_b (a_ov (a_row a S n).2 a (a + 1 + n))))
          rw [e1]
          have e2 : a_mtE (a_row a S n).1 ((a_row a S n).2 9 (a * 16 + (a + 1 + n))) (a * 16 + (a + 1 + n)) 1 = (a_row a S n).1 ++ [(0, a * 16 + (a + 1 + n))] := by simp [a_mtE, h360]
          rw [e2]
          exact RME.off n1 (fun a2 j h1 h2 => by have n9 : ¬ (a2 = 63) := (by omega); simp [mm_u2, mm_g0, mm_gwi, n9])
      · refine mv_iconst (v := 1) (pc := 363) d_Mo_step_363 (by decide) ?_
        refine mv_goto 368 (pc := 364) d_Mo_step_364 (by decide) ?_
        refine mv_iload_n (pc := 368) d_Mo_step_368 rfl ?_
        refine mv_iload_n (pc := 369) d_Mo_step_369 rfl ?_
        refine mr_callV4 (pc := 370) d_Mo_step_370 (d2 := (0, 0)) ok_Mo_note li_Mo_87 sv_Mo_note hM.1 ⟨by decide, rfl⟩ ⟨by decide, rfl, rfl, rfl, rfl, Nat.le_of_ble_eq_true rfl, rfl, by decide, by decide⟩ ?_
        refine c_note (E := (a_row a S n).1) hk hM ha hb hE hlen (fun F2 n1 n2 => ?_)
        refine mv_iload (pc := 373) d_Mo_step_373 rfl ?_
        refine mv_if_ne 396 (pc := 375) d_Mo_step_375 (by decide) (fun _ => ?_) (fun z => absurd z (by decide))
        refine mv_aload_n (pc := 396) d_Mo_step_396 rfl ?_
        refine mr_getr (pc := 397) d_Mo_step_397 fl_Mo_41 hM.1 rfl (by decide) hM.g_touch ?_
        refine mv_iload (pc := 400) d_Mo_step_400 rfl ?_
        refine mv_iload (pc := 402) d_Mo_step_402 rfl ?_
        refine mr_zast (pc := 404) d_Mo_step_404 hM.a_touch (mm_inN (by omega) (by decide)) ?_
        rw [mm_cl (by omega), mm_nar1]
        refine mv_iinc (pc := 405) d_Mo_step_405 rfl rfl (by decide) ?_
        refine mv_goto 308 (pc := 408) d_Mo_step_408 (by decide) ?_
        refine mm_V_drop 4 ?_
        refine mm_V_drop 5 ?_
        refine mm_V_ls (ls' := [some (.ref 52), some (.int (nI k)), some (.int (nI a)), some (.int (nI (a + 1 + (n + 1)))), none, none]) (by simp only [List.set]; rw [show a + 1 + (n + 1) = a + 1 + n + 1 by omega, nI_succ]; rfl) ?_
        have k1 := (hR.nfr n2).tch (p := a * 16 + (a + 1 + n)) 1
        refine ih _ ⟨⟨?_, ?_, hW.mt (by omega) hb⟩, (hF.trans n2.s).trans (mm_mfr.rfl'.tch hp 1).s⟩
        · show RM _ k (a_put (a_row a S n).2 9 (a * 16 + (a + 1 + n)) (a_b (a_ov (a_row a S n).2 a (a + 1 + n))))
          rw [e1]; exact k1
        · show RME _ k (a_mtE (a_row a S n).1 ((a_row a S n).2 9 (a * 16 + (a + 1 + n))) (a * 16 + (a + 1 + n)) (a_b (a_ov (a_row a S n).2 a (a + 1 + n))))
          rw [e1]
          have e2 : a_mtE (a_row a S n).1 ((a_row a S n).2 9 (a * 16 + (a + 1 + n))) (a * 16 + (a + 1 + n)) 1 = (a_row a S n).1 ++ [(1, a * 16 + (a + 1 + n))] := by simp [a_mtE, h360]
          rw [e2]
          exact RME.off n1 (fun a2 j h1 h2 => by have n9 : ¬ (a2 = 63) := (by omega); simp [mm_u2, mm_g0, mm_gwi, n9])
    · have e1 := a_b0 hc
      refine mv_istore (pc := 344) d_Mo_step_344 (by decide) ?_
      refine mv_iload (pc := 346) d_Mo_step_346 rfl ?_
      refine mv_if_eq 373 (pc := 348) d_Mo_step_348 (by decide) (fun _ => ?_) (fun z => absurd z (by decide))
      refine mv_iload (pc := 373) d_Mo_step_373 rfl ?_
      refine mv_if_ne 396 (pc := 375) d_Mo_step_375 (by decide) (fun z => absurd z (by decide)) (fun _ => ?_)
      refine mv_aload_n (pc := 378) d_Mo_step_378 rfl ?_
      refine mr_getr (pc := 379) d_Mo_step_379 fl_Mo_41 hM.1 rfl (by decide) hM.g_touch ?_
      refine mv_iload (pc := 382) d_Mo_step_382 rfl ?_
      refine mr_zald (pc := 384) d_Mo_step_384 hM.a_touch (mm_inN (by omega) (by decide)) ?_
      rw [mm_cl (by omega), show mm_gi (mm_wi h F) 63 (256 * k + (a * 16 + (a + 1 + n))) = (a_row a S n).2 9 (a * 16 + (a + 1 + n)) from hR.2.2 _ hp]
      refine mv_if_eq 396 (pc := 385) d_Mo_step_385 (by decide) (fun h385 => ?_) (fun h385 => ?_)
      · refine mv_aload_n (pc := 396) d_Mo_step_396 rfl ?_
        refine mr_getr (pc := 397) d_Mo_step_397 fl_Mo_41 hM.1 rfl (by decide) hM.g_touch ?_
        refine mv_iload (pc := 400) d_Mo_step_400 rfl ?_
        refine mv_iload (pc := 402) d_Mo_step_402 rfl ?_
        refine mr_zast (pc := 404) d_Mo_step_404 hM.a_touch (mm_inN (by omega) (by decide)) ?_
        rw [mm_cl (by omega), mm_nar0]
        refine mv_iinc (pc := 405) d_Mo_step_405 rfl rfl (by decide) ?_
        refine mv_goto 308 (pc := 408) d_Mo_step_408 (by decide) ?_
        refine mm_V_drop 4 ?_
        refine mm_V_drop 5 ?_
        refine mm_V_ls (ls' := [some (.ref 52), some (.int (nI k)), some (.int (nI a)), some (.int (nI (a + 1 + (n + 1)))), none, none]) (by simp only [List.set]; rw [show a + 1 + (n + 1) = a + 1 + n + 1 by omega, nI_succ]; rfl) ?_
        have k1 := (hR).tch (p := a * 16 + (a + 1 + n)) 0
        refine ih _ ⟨⟨?_, ?_, hW.mt (by omega) hb⟩, (hF).trans (mm_mfr.rfl'.tch hp 0).s⟩
        · show RM _ k (a_put (a_row a S n).2 9 (a * 16 + (a + 1 + n)) (a_b (a_ov (a_row a S n).2 a (a + 1 + n))))
          rw [e1]; exact k1
        · show RME _ k (a_mtE (a_row a S n).1 ((a_row a S n).2 9 (a * 16 + (a + 1 + n))) (a * 16 + (a + 1 + n)) (a_b (a_ov (a_row a S n).2 a (a + 1 + n))))
          rw [e1]
          have e2 : a_mtE (a_row a S n).1 ((a_row a S n).2 9 (a * 16 + (a + 1 + n))) (a * 16 + (a + 1 + n)) 0 = (a_row a S n).1 := by simp [a_mtE, h385]
          rw [e2]
          exact RME.off hE (fun a2 j h1 h2 => by have n9 : ¬ (a2 = 63) := (by omega); simp [mm_u2, mm_g0, mm_gwi, n9])
      · refine mv_aload_n (pc := 388) d_Mo_step_388 rfl ?_
        refine mv_iload_n (pc := 389) d_Mo_step_389 rfl ?_
        refine mv_iconst (v := 2) (pc := 390) d_Mo_step_390 (by decide) ?_
        refine mv_iload_n (pc := 391) d_Mo_step_391 rfl ?_
        refine mv_iload_n (pc := 392) d_Mo_step_392 rfl ?_
        refine mr_callV4 (pc := 393) d_Mo_step_393 (d2 := (0, 0)) ok_Mo_note li_Mo_87 sv_Mo_note hM.1 ⟨by decide, rfl⟩ ⟨by decide, rfl, rfl, rfl, rfl, Nat.le_of_ble_eq_true rfl, rfl, by decide, by decide⟩ ?_
        refine c_note (E := (a_row a S n).1) hk hM ha hb hE hlen (fun F2 n1 n2 => ?_)
        refine mv_aload_n (pc := 396) d_Mo_step_396 rfl ?_
        refine mr_getr (pc := 397) d_Mo_step_397 fl_Mo_41 hM.1 rfl (by decide) hM.g_touch ?_
        refine mv_iload (pc := 400) d_Mo_step_400 rfl ?_
        refine mv_iload (pc := 402) d_Mo_step_402 rfl ?_
        refine mr_zast (pc := 404) d_Mo_step_404 hM.a_touch (mm_inN (by omega) (by decide)) ?_
        rw [mm_cl (by omega), mm_nar0]
        refine mv_iinc (pc := 405) d_Mo_step_405 rfl rfl (by decide) ?_
        refine mv_goto 308 (pc := 408) d_Mo_step_408 (by decide) ?_
        refine mm_V_drop 4 ?_
        refine mm_V_drop 5 ?_
        refine mm_V_ls (ls' := [some (.ref 52), some (.int (nI k)), some (.int (nI a)), some (.int (nI (a + 1 + (n + 1)))), none, none]) (by simp only [List.set]; rw [show a + 1 + (n + 1) = a + 1 + n + 1 by omega, nI_succ]; rfl) ?_
        have k1 := (hR.nfr n2).tch (p := a * 16 + (a + 1 + n)) 0
        refine ih _ ⟨⟨?_, ?_, hW.mt (by omega) hb⟩, (hF.trans n2.s).trans (mm_mfr.rfl'.tch hp 0).s⟩
        · show RM _ k (a_put (a_row a S n).2 9 (a * 16 + (a + 1 + n)) (a_b (a_ov (a_row a S n).2 a (a + 1 + n))))
          rw [e1]; exact k1
        · show RME _ k (a_mtE (a_row a S n).1 ((a_row a S n).2 9 (a * 16 + (a + 1 + n))) (a * 16 + (a + 1 + n)) (a_b (a_ov (a_row a S n).2 a (a + 1 + n))))
          rw [e1]
          have e2 : a_mtE (a_row a S n).1 ((a_row a S n).2 9 (a * 16 + (a + 1 + n))) (a * 16 + (a + 1 + n)) 0 = (a_row a S n).1 ++ [(2, a * 16 + (a + 1 + n))] := by simp [a_mtE, h385]
          rw [e2]
          exact RME.off n1 (fun a2 j h1 h2 => by have n9 : ¬ (a2 = 63) := (by omega); simp [mm_u2, mm_g0, mm_gwi, n9])
set_option maxRecDepth 20000 in
theorem l_mOut {G : mm_G} {Q : mm_O → mm_H → Prop} {h : mm_H} {k : Nat} (hk : k < 2) {A : mm_W} (hM : mm_Mo h) (F0 : mm_W) (hq : ∀ F', RM F' k (a_all ([], A) 16).2 → RME F' k (a_all ([], A) 16).1 → mm_sfr k F0 F' → Q (.inl none) (mm_wi h F')) :
    ∀ (a : Nat) (F : mm_W), a ≤ 16 → (RM F k (a_all ([], A) a).2 ∧ RME F k (a_all ([], A) a).1 ∧ WF (a_all ([], A) a).2) ∧ mm_sfr k F0 F → mm_V G (2, 45) M_Mo_step Q 298 [some (.ref 52), some (.int (nI k)), some (.int (nI a)), none, none, none] [] (mm_wi h F) := by
  refine mr_loop _ _ 16 (fun F hI => ?_) (fun a F ha hI ih => ?_)
  · refine mv_iload_n (pc := 298) d_Mo_step_298 rfl ?_
    refine mv_bipush (v := 16) (pc := 299) d_Mo_step_299 (by decide) ?_
    refine mv_ic_ge 417 (pc := 301) d_Mo_step_301 (by decide) (fun h301 => ?_) (fun z => absurd z (mm_ge16))
    refine mv_ret (pc := 417) d_Mo_step_417 rfl ?_
    exact hq F hI.1.1 hI.1.2.1 hI.2
  · have hS : (a_all ([], A) a).1.length + (15 - a) ≤ 120 := by
      have h1 := a_all_len ([], A) a
      have h2 := a_tri_le (a + 1) (by omega)
      have h3 : a_tri (a + 1) = a_tri a + (15 - a) := rfl
      simp only [List.length_nil] at h1
      omega
    refine mv_iload_n (pc := 298) d_Mo_step_298 rfl ?_
    refine mv_bipush (v := 16) (pc := 299) d_Mo_step_299 (by decide) ?_
    refine mv_ic_ge 417 (pc := 301) d_Mo_step_301 (by decide) (fun z => absurd z (mm_lt16 ha)) (fun h301 => ?_)
    refine mv_iload_n (pc := 304) d_Mo_step_304 rfl ?_
    refine mv_iconst (v := 1) (pc := 305) d_Mo_step_305 (by decide) ?_
    refine mv_iadd (pc := 306) d_Mo_step_306 ?_
    refine mv_istore_n (pc := 307) d_Mo_step_307 (by decide) ?_
    refine mm_V_ls (ls' := [some (.ref 52), some (.int (nI k)), some (.int (nI a)), some (.int (nI (a + 1 + 0))), none, none]) (by simp only [List.set]; rw [show a + 1 + 0 = a + 1 by omega, nI_succ]) ?_
    refine l_mIn hk hM ha hS F0 (fun F' r1 r2 r3 r4 => ?_) 0 F (by omega) hI
    refine mv_iinc (pc := 411) d_Mo_step_411 rfl rfl (by decide) ?_
    refine mv_goto 298 (pc := 414) d_Mo_step_414 (by decide) ?_
    refine mm_V_drop 3 ?_
    refine mm_V_ls (ls' := [some (.ref 52), some (.int (nI k)), some (.int (nI (a + 1))), none, none, none]) (by simp only [List.set]; rw [nI_succ]; rfl) (ih F' ⟨⟨r1, r2, r3⟩, r4⟩)
set_option maxRecDepth 20000 in
theorem l_mMv {G : mm_G} {Q : mm_O → mm_H → Prop} {h : mm_H} {k : Nat} (hk : k < 2) {C : mm_W} (hM : mm_Mo h) (F0 : mm_W) (hq : ∀ F', RM F' k (a_mv C 16) → WF (a_mv C 16) → mm_mfr k F0 F' → mm_V G (2, 45) M_Mo_step Q 289 [some (.ref 52), some (.int (nI k)), some (.int (nI (16 * k + 16))), none, none, none] [] (mm_wi h F')) :
    ∀ (i : Nat) (F : mm_W), i ≤ 16 → (RM F k (a_mv C i) ∧ WF (a_mv C i)) ∧ mm_mfr k F0 F → mm_V G (2, 45) M_Mo_step Q 99 [some (.ref 52), some (.int (nI k)), some (.int (nI (16 * k + i))), none, none, none] [] (mm_wi h F) := by
  refine mr_loop _ _ 16 (fun F hI => ?_) (fun i F hi hI ih => ?_)
  · refine mv_iload_n (pc := 99) d_Mo_step_99 rfl ?_
    refine mv_bipush (v := 16) (pc := 100) d_Mo_step_100 (by decide) ?_
    refine mv_iload_n (pc := 102) d_Mo_step_102 rfl ?_
    refine mv_imul (pc := 103) d_Mo_step_103 ?_
    refine mv_bipush (v := 16) (pc := 104) d_Mo_step_104 (by decide) ?_
    refine mv_iadd (pc := 106) d_Mo_step_106 ?_
    rw [mm_16, mm_p16]
    refine mv_ic_ge 289 (pc := 107) d_Mo_step_107 (by decide) (fun h107 => ?_) (fun z => absurd z (fun z => z (nI_le (by omega) (by omega))))
    exact hq F hI.1.1 hI.1.2 hI.2
  · obtain ⟨hR, hW⟩ := hI.1
    refine mv_iload_n (pc := 99) d_Mo_step_99 rfl ?_
    refine mv_bipush (v := 16) (pc := 100) d_Mo_step_100 (by decide) ?_
    refine mv_iload_n (pc := 102) d_Mo_step_102 rfl ?_
    refine mv_imul (pc := 103) d_Mo_step_103 ?_
    refine mv_bipush (v := 16) (pc := 104) d_Mo_step_104 (by decide) ?_
    refine mv_iadd (pc := 106) d_Mo_step_106 ?_
    rw [mm_16, mm_p16]
    refine mv_ic_ge 289 (pc := 107) d_Mo_step_107 (by decide) (fun z => absurd z (nI_ge (by omega) (by omega))) (fun h107 => ?_)
    refine mv_aload_n (pc := 110) d_Mo_step_110 rfl ?_
    refine mr_getr (pc := 111) d_Mo_step_111 fl_Mo_16 hM.1 rfl (by decide) hM.g_full ?_
    refine mv_iload_n (pc := 114) d_Mo_step_114 rfl ?_
    refine mr_zald (pc := 115) d_Mo_step_115 hM.a_full (mm_inN (by omega) (by decide)) ?_
    rw [mm_cl (by omega), show mm_gi (mm_wi h F) 55 (16 * k + i) = a_mv C i 1 i from (hR.2.1 i hi).2.1]
    refine mv_if_eq 283 (pc := 116) d_Mo_step_116 (by decide) (fun h116 => ?_) (fun h116 => ?_)
    · refine mv_iinc (pc := 283) d_Mo_step_283 rfl rfl (by decide) ?_
      refine mv_goto 99 (pc := 286) d_Mo_step_286 (by decide) ?_
      have e : a_mv1 (a_mv C i) i = a_mv C i := by unfold a_mv1; rw [if_neg (fun z => z h116)]
      refine mm_V_ls (ls' := [some (.ref 52), some (.int (nI k)), some (.int (nI (16 * k + (i + 1)))), none, none, none]) (by simp only [List.set]; rw [← Nat.add_assoc, nI_succ]; rfl) (ih F ⟨⟨?_, hW.mv1 hi⟩, hI.2⟩)
      show RM F k (a_mv1 (a_mv C i) i)
      rw [e]; exact hR
    · have r := (hR.2.1 i hi).2.2 h116
      refine mv_aload_n (pc := 119) d_Mo_step_119 rfl ?_
      refine mr_getr (pc := 120) d_Mo_step_120 fl_Mo_20 hM.1 rfl (by decide) hM.g_px ?_
      refine mv_iload_n (pc := 123) d_Mo_step_123 rfl ?_
      refine mr_iald (pc := 124) d_Mo_step_124 hM.a_px (mm_inN (by omega) (by decide)) ?_
      rw [mm_cl (by omega), show mm_gi (mm_wi h F) 56 (16 * k + i) = a_mv C i 2 i from r 2 (by omega) (by omega)]
      refine mv_aload_n (pc := 125) d_Mo_step_125 rfl ?_
      refine mr_getr (pc := 126) d_Mo_step_126 fl_Mo_26 hM.1 rfl (by decide) hM.g_sx ?_
      refine mv_iload_n (pc := 129) d_Mo_step_129 rfl ?_
      refine mr_iald (pc := 130) d_Mo_step_130 hM.a_sx (mm_inN (by omega) (by decide)) ?_
      rw [mm_cl (by omega), show mm_gi (mm_wi h F) 58 (16 * k + i) = a_mv C i 4 i from r 4 (by omega) (by omega)]
      refine mv_iadd (pc := 131) d_Mo_step_131 ?_
      refine mv_istore_n (pc := 132) d_Mo_step_132 (by decide) ?_
      refine mv_aload_n (pc := 133) d_Mo_step_133 rfl ?_
      refine mr_getr (pc := 134) d_Mo_step_134 fl_Mo_23 hM.1 rfl (by decide) hM.g_py ?_
      refine mv_iload_n (pc := 137) d_Mo_step_137 rfl ?_
      refine mr_iald (pc := 138) d_Mo_step_138 hM.a_py (mm_inN (by omega) (by decide)) ?_
      rw [mm_cl (by omega), show mm_gi (mm_wi h F) 57 (16 * k + i) = a_mv C i 3 i from r 3 (by omega) (by omega)]
      refine mv_aload_n (pc := 139) d_Mo_step_139 rfl ?_
      refine mr_getr (pc := 140) d_Mo_step_140 fl_Mo_29 hM.1 rfl (by decide) hM.g_sy ?_
      refine mv_iload_n (pc := 143) d_Mo_step_143 rfl ?_
      refine mr_iald (pc := 144) d_Mo_step_144 hM.a_sy (mm_inN (by omega) (by decide)) ?_
      rw [mm_cl (by omega), show mm_gi (mm_wi h F) 59 (16 * k + i) = a_mv C i 5 i from r 5 (by omega) (by omega)]
      refine mv_iadd (pc := 145) d_Mo_step_145 ?_
      refine mv_istore (pc := 146) d_Mo_step_146 (by decide) ?_
      refine mv_aload_n (pc := 148) d_Mo_step_148 rfl ?_
      refine mr_getr (pc := 149) d_Mo_step_149 fl_Mo_26 hM.1 rfl (by decide) hM.g_sx ?_
      refine mv_iload_n (pc := 152) d_Mo_step_152 rfl ?_
      refine mv_iload_n (pc := 153) d_Mo_step_153 rfl ?_
      refine mv_if_lt 164 (pc := 154) d_Mo_step_154 (by decide) (fun h154 => ?_) (fun h154 => ?_)
      · refine mv_aload_n (pc := 164) d_Mo_step_164 rfl ?_
        refine mr_getr (pc := 165) d_Mo_step_165 fl_Mo_26 hM.1 rfl (by decide) hM.g_sx ?_
        refine mv_iload_n (pc := 168) d_Mo_step_168 rfl ?_
        refine mr_iald (pc := 169) d_Mo_step_169 hM.a_sx (mm_inN (by omega) (by decide)) ?_
        rw [mm_cl (by omega), show mm_gi (mm_wi h F) 58 (16 * k + i) = a_mv C i 4 i from r 4 (by omega) (by omega)]
        refine mv_ineg (pc := 170) d_Mo_step_170 ?_
        refine mv_goto 180 (pc := 171) d_Mo_step_171 (by decide) ?_
        refine mr_iast (pc := 180) d_Mo_step_180 hM.a_sx (mm_inN (by omega) (by decide)) ?_
        rw [mm_cl (n := 16 * k + i) (by omega)]
        refine mv_aload_n (pc := 181) d_Mo_step_181 rfl ?_
        refine mr_getr (pc := 182) d_Mo_step_182 fl_Mo_29 hM.1 rfl (by decide) hM.g_sy ?_
        refine mv_iload_n (pc := 185) d_Mo_step_185 rfl ?_
        refine mv_iload (pc := 186) d_Mo_step_186 rfl ?_
        refine mv_if_lt 199 (pc := 188) d_Mo_step_188 (by decide) (fun h188 => ?_) (fun h188 => ?_)
        · refine mv_aload_n (pc := 199) d_Mo_step_199 rfl ?_
          refine mr_getr (pc := 200) d_Mo_step_200 fl_Mo_29 hM.1 rfl (by decide) hM.g_sy ?_
          refine mv_iload_n (pc := 203) d_Mo_step_203 rfl ?_
          refine mr_iald (pc := 204) d_Mo_step_204 hM.a_sy (mm_inN (by omega) (by decide)) ?_
          rw [mm_cl (by omega), show mm_gi (mm_si (mm_wi h F) 58 (16 * k + i) _) 59 (16 * k + i) = a_mv C i 5 i from r 5 (by omega) (by omega)]
          refine mv_ineg (pc := 205) d_Mo_step_205 ?_
          refine mv_goto 215 (pc := 206) d_Mo_step_206 (by decide) ?_
          refine mr_iast (pc := 215) d_Mo_step_215 hM.a_sy (mm_inN (by omega) (by decide)) ?_
          refine mv_aload_n (pc := 216) d_Mo_step_216 rfl ?_
          refine mr_getr (pc := 217) d_Mo_step_217 fl_Mo_20 hM.1 rfl (by decide) hM.g_px ?_
          refine mv_iload_n (pc := 220) d_Mo_step_220 rfl ?_
          refine mv_iload_n (pc := 221) d_Mo_step_221 rfl ?_
          refine mv_if_ge 230 (pc := 222) d_Mo_step_222 (by decide) (fun z => absurd z (Int32.not_le.mpr h154)) (fun h222 => ?_)
          refine mv_iload_n (pc := 225) d_Mo_step_225 rfl ?_
          refine mv_ineg (pc := 226) d_Mo_step_226 ?_
          refine mv_goto 246 (pc := 227) d_Mo_step_227 (by decide) ?_
          refine mr_iast (pc := 246) d_Mo_step_246 hM.a_px (mm_inN (by omega) (by decide)) ?_
          refine mv_aload_n (pc := 247) d_Mo_step_247 rfl ?_
          refine mr_getr (pc := 248) d_Mo_step_248 fl_Mo_23 hM.1 rfl (by decide) hM.g_py ?_
          refine mv_iload_n (pc := 251) d_Mo_step_251 rfl ?_
          refine mv_iload (pc := 252) d_Mo_step_252 rfl ?_
          refine mv_if_ge 263 (pc := 254) d_Mo_step_254 (by decide) (fun z => absurd z (Int32.not_le.mpr h188)) (fun h254 => ?_)
          refine mv_iload (pc := 257) d_Mo_step_257 rfl ?_
          refine mv_ineg (pc := 259) d_Mo_step_259 ?_
          refine mv_goto 282 (pc := 260) d_Mo_step_260 (by decide) ?_
          refine mr_iast (pc := 282) d_Mo_step_282 hM.a_py (mm_inN (by omega) (by decide)) ?_
          rw [mm_cl (n := 16 * k + i) (by omega)]
          refine mv_iinc (pc := 283) d_Mo_step_283 rfl rfl (by decide) ?_
          refine mv_goto 99 (pc := 286) d_Mo_step_286 (by decide) ?_
          refine mm_V_drop 3 ?_
          refine mm_V_drop 4 ?_
          refine mm_V_ls (ls' := [some (.ref 52), some (.int (nI k)), some (.int (nI (16 * k + (i + 1)))), none, none, none]) (by simp only [List.set]; rw [← Nat.add_assoc, nI_succ]; rfl) (ih _ ⟨⟨?_, hW.mv1 hi⟩, hI.2.mvd hi _ _ _ _⟩)
          exact RM.mvd hR hi h116 (by clear ih hq; unfold mm_mvx; grind) (by clear ih hq; unfold mm_mvx; grind) (by clear ih hq; unfold mm_mvv; grind) (by clear ih hq; unfold mm_mvv; grind)
        · refine mv_iload (pc := 191) d_Mo_step_191 rfl ?_
          refine mv_sipush (v := 4095) (pc := 193) d_Mo_step_193 (by decide) ?_
          refine mv_ic_le 209 (pc := 196) d_Mo_step_196 (by decide) (fun h196 => ?_) (fun h196 => ?_)
          · refine mv_aload_n (pc := 209) d_Mo_step_209 rfl ?_
            refine mr_getr (pc := 210) d_Mo_step_210 fl_Mo_29 hM.1 rfl (by decide) hM.g_sy ?_
            refine mv_iload_n (pc := 213) d_Mo_step_213 rfl ?_
            refine mr_iald (pc := 214) d_Mo_step_214 hM.a_sy (mm_inN (by omega) (by decide)) ?_
            rw [mm_cl (by omega), show mm_gi (mm_si (mm_wi h F) 58 (16 * k + i) _) 59 (16 * k + i) = a_mv C i 5 i from r 5 (by omega) (by omega)]
            refine mr_iast (pc := 215) d_Mo_step_215 hM.a_sy (mm_inN (by omega) (by decide)) ?_
            refine mv_aload_n (pc := 216) d_Mo_step_216 rfl ?_
            refine mr_getr (pc := 217) d_Mo_step_217 fl_Mo_20 hM.1 rfl (by decide) hM.g_px ?_
            refine mv_iload_n (pc := 220) d_Mo_step_220 rfl ?_
            refine mv_iload_n (pc := 221) d_Mo_step_221 rfl ?_
            refine mv_if_ge 230 (pc := 222) d_Mo_step_222 (by decide) (fun z => absurd z (Int32.not_le.mpr h154)) (fun h222 => ?_)
            refine mv_iload_n (pc := 225) d_Mo_step_225 rfl ?_
            refine mv_ineg (pc := 226) d_Mo_step_226 ?_
            refine mv_goto 246 (pc := 227) d_Mo_step_227 (by decide) ?_
            refine mr_iast (pc := 246) d_Mo_step_246 hM.a_px (mm_inN (by omega) (by decide)) ?_
            refine mv_aload_n (pc := 247) d_Mo_step_247 rfl ?_
            refine mr_getr (pc := 248) d_Mo_step_248 fl_Mo_23 hM.1 rfl (by decide) hM.g_py ?_
            refine mv_iload_n (pc := 251) d_Mo_step_251 rfl ?_
            refine mv_iload (pc := 252) d_Mo_step_252 rfl ?_
            refine mv_if_ge 263 (pc := 254) d_Mo_step_254 (by decide) (fun h254 => ?_) (fun z => absurd z (fun y => y (Int32.not_lt.mp h188)))
            refine mv_iload (pc := 263) d_Mo_step_263 rfl ?_
            refine mv_sipush (v := 4095) (pc := 265) d_Mo_step_265 (by decide) ?_
            refine mv_ic_le 280 (pc := 268) d_Mo_step_268 (by decide) (fun h268 => ?_) (fun z => absurd z (fun y => y h196))
            refine mv_iload (pc := 280) d_Mo_step_280 rfl ?_
            refine mr_iast (pc := 282) d_Mo_step_282 hM.a_py (mm_inN (by omega) (by decide)) ?_
            rw [mm_cl (n := 16 * k + i) (by omega)]
            refine mv_iinc (pc := 283) d_Mo_step_283 rfl rfl (by decide) ?_
            refine mv_goto 99 (pc := 286) d_Mo_step_286 (by decide) ?_
            refine mm_V_drop 3 ?_
            refine mm_V_drop 4 ?_
            refine mm_V_ls (ls' := [some (.ref 52), some (.int (nI k)), some (.int (nI (16 * k + (i + 1)))), none, none, none]) (by simp only [List.set]; rw [← Nat.add_assoc, nI_succ]; rfl) (ih _ ⟨⟨?_, hW.mv1 hi⟩, hI.2.mvd hi _ _ _ _⟩)
            exact RM.mvd hR hi h116 (by clear ih hq; unfold mm_mvx; grind) (by clear ih hq; unfold mm_mvx; grind) (by clear ih hq; unfold mm_mvv; grind) (by clear ih hq; unfold mm_mvv; grind)
          · refine mv_aload_n (pc := 199) d_Mo_step_199 rfl ?_
            refine mr_getr (pc := 200) d_Mo_step_200 fl_Mo_29 hM.1 rfl (by decide) hM.g_sy ?_
            refine mv_iload_n (pc := 203) d_Mo_step_203 rfl ?_
            refine mr_iald (pc := 204) d_Mo_step_204 hM.a_sy (mm_inN (by omega) (by decide)) ?_
            rw [mm_cl (by omega), show mm_gi (mm_si (mm_wi h F) 58 (16 * k + i) _) 59 (16 * k + i) = a_mv C i 5 i from r 5 (by omega) (by omega)]
            refine mv_ineg (pc := 205) d_Mo_step_205 ?_
            refine mv_goto 215 (pc := 206) d_Mo_step_206 (by decide) ?_
            refine mr_iast (pc := 215) d_Mo_step_215 hM.a_sy (mm_inN (by omega) (by decide)) ?_
            refine mv_aload_n (pc := 216) d_Mo_step_216 rfl ?_
            refine mr_getr (pc := 217) d_Mo_step_217 fl_Mo_20 hM.1 rfl (by decide) hM.g_px ?_
            refine mv_iload_n (pc := 220) d_Mo_step_220 rfl ?_
            refine mv_iload_n (pc := 221) d_Mo_step_221 rfl ?_
            refine mv_if_ge 230 (pc := 222) d_Mo_step_222 (by decide) (fun z => absurd z (Int32.not_le.mpr h154)) (fun h222 => ?_)
            refine mv_iload_n (pc := 225) d_Mo_step_225 rfl ?_
            refine mv_ineg (pc := 226) d_Mo_step_226 ?_
            refine mv_goto 246 (pc := 227) d_Mo_step_227 (by decide) ?_
            refine mr_iast (pc := 246) d_Mo_step_246 hM.a_px (mm_inN (by omega) (by decide)) ?_
            refine mv_aload_n (pc := 247) d_Mo_step_247 rfl ?_
            refine mr_getr (pc := 248) d_Mo_step_248 fl_Mo_23 hM.1 rfl (by decide) hM.g_py ?_
            refine mv_iload_n (pc := 251) d_Mo_step_251 rfl ?_
            refine mv_iload (pc := 252) d_Mo_step_252 rfl ?_
            refine mv_if_ge 263 (pc := 254) d_Mo_step_254 (by decide) (fun h254 => ?_) (fun z => absurd z (fun y => y (Int32.not_lt.mp h188)))
            refine mv_iload (pc := 263) d_Mo_step_263 rfl ?_
            refine mv_sipush (v := 4095) (pc := 265) d_Mo_step_265 (by decide) ?_
            refine mv_ic_le 280 (pc := 268) d_Mo_step_268 (by decide) (fun z => absurd z (h196)) (fun h268 => ?_)
            refine mv_sipush (v := 8190) (pc := 271) d_Mo_step_271 (by decide) ?_
            refine mv_iload (pc := 274) d_Mo_step_274 rfl ?_
            refine mv_isub (pc := 276) d_Mo_step_276 ?_
            refine mv_goto 282 (pc := 277) d_Mo_step_277 (by decide) ?_
            refine mr_iast (pc := 282) d_Mo_step_282 hM.a_py (mm_inN (by omega) (by decide)) ?_
            rw [mm_cl (n := 16 * k + i) (by omega)]
            refine mv_iinc (pc := 283) d_Mo_step_283 rfl rfl (by decide) ?_
            refine mv_goto 99 (pc := 286) d_Mo_step_286 (by decide) ?_
            refine mm_V_drop 3 ?_
            refine mm_V_drop 4 ?_
            refine mm_V_ls (ls' := [some (.ref 52), some (.int (nI k)), some (.int (nI (16 * k + (i + 1)))), none, none, none]) (by simp only [List.set]; rw [← Nat.add_assoc, nI_succ]; rfl) (ih _ ⟨⟨?_, hW.mv1 hi⟩, hI.2.mvd hi _ _ _ _⟩)
            exact RM.mvd hR hi h116 (by clear ih hq; unfold mm_mvx; grind) (by clear ih hq; unfold mm_mvx; grind) (by clear ih hq; unfold mm_mvv; grind) (by clear ih hq; unfold mm_mvv; grind)
      · refine mv_iload_n (pc := 157) d_Mo_step_157 rfl ?_
        refine mv_sipush (v := 4095) (pc := 158) d_Mo_step_158 (by decide) ?_
        refine mv_ic_le 174 (pc := 161) d_Mo_step_161 (by decide) (fun h161 => ?_) (fun h161 => ?_)
        · refine mv_aload_n (pc := 174) d_Mo_step_174 rfl ?_
          refine mr_getr (pc := 175) d_Mo_step_175 fl_Mo_26 hM.1 rfl (by decide) hM.g_sx ?_
          refine mv_iload_n (pc := 178) d_Mo_step_178 rfl ?_
          refine mr_iald (pc := 179) d_Mo_step_179 hM.a_sx (mm_inN (by omega) (by decide)) ?_
          rw [mm_cl (by omega), show mm_gi (mm_wi h F) 58 (16 * k + i) = a_mv C i 4 i from r 4 (by omega) (by omega)]
          refine mr_iast (pc := 180) d_Mo_step_180 hM.a_sx (mm_inN (by omega) (by decide)) ?_
          rw [mm_cl (n := 16 * k + i) (by omega)]
          refine mv_aload_n (pc := 181) d_Mo_step_181 rfl ?_
          refine mr_getr (pc := 182) d_Mo_step_182 fl_Mo_29 hM.1 rfl (by decide) hM.g_sy ?_
          refine mv_iload_n (pc := 185) d_Mo_step_185 rfl ?_
          refine mv_iload (pc := 186) d_Mo_step_186 rfl ?_
          refine mv_if_lt 199 (pc := 188) d_Mo_step_188 (by decide) (fun h188 => ?_) (fun h188 => ?_)
          · refine mv_aload_n (pc := 199) d_Mo_step_199 rfl ?_
            refine mr_getr (pc := 200) d_Mo_step_200 fl_Mo_29 hM.1 rfl (by decide) hM.g_sy ?_
            refine mv_iload_n (pc := 203) d_Mo_step_203 rfl ?_
            refine mr_iald (pc := 204) d_Mo_step_204 hM.a_sy (mm_inN (by omega) (by decide)) ?_
            rw [mm_cl (by omega), show mm_gi (mm_si (mm_wi h F) 58 (16 * k + i) _) 59 (16 * k + i) = a_mv C i 5 i from r 5 (by omega) (by omega)]
            refine mv_ineg (pc := 205) d_Mo_step_205 ?_
            refine mv_goto 215 (pc := 206) d_Mo_step_206 (by decide) ?_
            refine mr_iast (pc := 215) d_Mo_step_215 hM.a_sy (mm_inN (by omega) (by decide)) ?_
            refine mv_aload_n (pc := 216) d_Mo_step_216 rfl ?_
            refine mr_getr (pc := 217) d_Mo_step_217 fl_Mo_20 hM.1 rfl (by decide) hM.g_px ?_
            refine mv_iload_n (pc := 220) d_Mo_step_220 rfl ?_
            refine mv_iload_n (pc := 221) d_Mo_step_221 rfl ?_
            refine mv_if_ge 230 (pc := 222) d_Mo_step_222 (by decide) (fun h222 => ?_) (fun z => absurd z (fun y => y (Int32.not_lt.mp h154)))
            refine mv_iload_n (pc := 230) d_Mo_step_230 rfl ?_
            refine mv_sipush (v := 4095) (pc := 231) d_Mo_step_231 (by decide) ?_
            refine mv_ic_le 245 (pc := 234) d_Mo_step_234 (by decide) (fun h234 => ?_) (fun z => absurd z (fun y => y h161))
            refine mv_iload_n (pc := 245) d_Mo_step_245 rfl ?_
            refine mr_iast (pc := 246) d_Mo_step_246 hM.a_px (mm_inN (by omega) (by decide)) ?_
            refine mv_aload_n (pc := 247) d_Mo_step_247 rfl ?_
            refine mr_getr (pc := 248) d_Mo_step_248 fl_Mo_23 hM.1 rfl (by decide) hM.g_py ?_
            refine mv_iload_n (pc := 251) d_Mo_step_251 rfl ?_
            refine mv_iload (pc := 252) d_Mo_step_252 rfl ?_
            refine mv_if_ge 263 (pc := 254) d_Mo_step_254 (by decide) (fun z => absurd z (Int32.not_le.mpr h188)) (fun h254 => ?_)
            refine mv_iload (pc := 257) d_Mo_step_257 rfl ?_
            refine mv_ineg (pc := 259) d_Mo_step_259 ?_
            refine mv_goto 282 (pc := 260) d_Mo_step_260 (by decide) ?_
            refine mr_iast (pc := 282) d_Mo_step_282 hM.a_py (mm_inN (by omega) (by decide)) ?_
            rw [mm_cl (n := 16 * k + i) (by omega)]
            refine mv_iinc (pc := 283) d_Mo_step_283 rfl rfl (by decide) ?_
            refine mv_goto 99 (pc := 286) d_Mo_step_286 (by decide) ?_
            refine mm_V_drop 3 ?_
            refine mm_V_drop 4 ?_
            refine mm_V_ls (ls' := [some (.ref 52), some (.int (nI k)), some (.int (nI (16 * k + (i + 1)))), none, none, none]) (by simp only [List.set]; rw [← Nat.add_assoc, nI_succ]; rfl) (ih _ ⟨⟨?_, hW.mv1 hi⟩, hI.2.mvd hi _ _ _ _⟩)
            exact RM.mvd hR hi h116 (by clear ih hq; unfold mm_mvx; grind) (by clear ih hq; unfold mm_mvx; grind) (by clear ih hq; unfold mm_mvv; grind) (by clear ih hq; unfold mm_mvv; grind)
          · refine mv_iload (pc := 191) d_Mo_step_191 rfl ?_
            refine mv_sipush (v := 4095) (pc := 193) d_Mo_step_193 (by decide) ?_
            refine mv_ic_le 209 (pc := 196) d_Mo_step_196 (by decide) (fun h196 => ?_) (fun h196 => ?_)
            · refine mv_aload_n (pc := 209) d_Mo_step_209 rfl ?_
              refine mr_getr (pc := 210) d_Mo_step_210 fl_Mo_29 hM.1 rfl (by decide) hM.g_sy ?_
              refine mv_iload_n (pc := 213) d_Mo_step_213 rfl ?_
              refine mr_iald (pc := 214) d_Mo_step_214 hM.a_sy (mm_inN (by omega) (by decide)) ?_
              rw [mm_cl (by omega), show mm_gi (mm_si (mm_wi h F) 58 (16 * k + i) _) 59 (16 * k + i) = a_mv C i 5 i from r 5 (by omega) (by omega)]
              refine mr_iast (pc := 215) d_Mo_step_215 hM.a_sy (mm_inN (by omega) (by decide)) ?_
              refine mv_aload_n (pc := 216) d_Mo_step_216 rfl ?_
              refine mr_getr (pc := 217) d_Mo_step_217 fl_Mo_20 hM.1 rfl (by decide) hM.g_px ?_
              refine mv_iload_n (pc := 220) d_Mo_step_220 rfl ?_
              refine mv_iload_n (pc := 221) d_Mo_step_221 rfl ?_
              refine mv_if_ge 230 (pc := 222) d_Mo_step_222 (by decide) (fun h222 => ?_) (fun z => absurd z (fun y => y (Int32.not_lt.mp h154)))
              refine mv_iload_n (pc := 230) d_Mo_step_230 rfl ?_
              refine mv_sipush (v := 4095) (pc := 231) d_Mo_step_231 (by decide) ?_
              refine mv_ic_le 245 (pc := 234) d_Mo_step_234 (by decide) (fun h234 => ?_) (fun z => absurd z (fun y => y h161))
              refine mv_iload_n (pc := 245) d_Mo_step_245 rfl ?_
              refine mr_iast (pc := 246) d_Mo_step_246 hM.a_px (mm_inN (by omega) (by decide)) ?_
              refine mv_aload_n (pc := 247) d_Mo_step_247 rfl ?_
              refine mr_getr (pc := 248) d_Mo_step_248 fl_Mo_23 hM.1 rfl (by decide) hM.g_py ?_
              refine mv_iload_n (pc := 251) d_Mo_step_251 rfl ?_
              refine mv_iload (pc := 252) d_Mo_step_252 rfl ?_
              refine mv_if_ge 263 (pc := 254) d_Mo_step_254 (by decide) (fun h254 => ?_) (fun z => absurd z (fun y => y (Int32.not_lt.mp h188)))
              refine mv_iload (pc := 263) d_Mo_step_263 rfl ?_
              refine mv_sipush (v := 4095) (pc := 265) d_Mo_step_265 (by decide) ?_
              refine mv_ic_le 280 (pc := 268) d_Mo_step_268 (by decide) (fun h268 => ?_) (fun z => absurd z (fun y => y h196))
              refine mv_iload (pc := 280) d_Mo_step_280 rfl ?_
              refine mr_iast (pc := 282) d_Mo_step_282 hM.a_py (mm_inN (by omega) (by decide)) ?_
              rw [mm_cl (n := 16 * k + i) (by omega)]
              refine mv_iinc (pc := 283) d_Mo_step_283 rfl rfl (by decide) ?_
              refine mv_goto 99 (pc := 286) d_Mo_step_286 (by decide) ?_
              refine mm_V_drop 3 ?_
              refine mm_V_drop 4 ?_
              refine mm_V_ls (ls' := [some (.ref 52), some (.int (nI k)), some (.int (nI (16 * k + (i + 1)))), none, none, none]) (by simp only [List.set]; rw [← Nat.add_assoc, nI_succ]; rfl) (ih _ ⟨⟨?_, hW.mv1 hi⟩, hI.2.mvd hi _ _ _ _⟩)
              exact RM.mvd hR hi h116 (by clear ih hq; unfold mm_mvx; grind) (by clear ih hq; unfold mm_mvx; grind) (by clear ih hq; unfold mm_mvv; grind) (by clear ih hq; unfold mm_mvv; grind)
            · refine mv_aload_n (pc := 199) d_Mo_step_199 rfl ?_
              refine mr_getr (pc := 200) d_Mo_step_200 fl_Mo_29 hM.1 rfl (by decide) hM.g_sy ?_
              refine mv_iload_n (pc := 203) d_Mo_step_203 rfl ?_
              refine mr_iald (pc := 204) d_Mo_step_204 hM.a_sy (mm_inN (by omega) (by decide)) ?_
              rw [mm_cl (by omega), show mm_gi (mm_si (mm_wi h F) 58 (16 * k + i) _) 59 (16 * k + i) = a_mv C i 5 i from r 5 (by omega) (by omega)]
              refine mv_ineg (pc := 205) d_Mo_step_205 ?_
              refine mv_goto 215 (pc := 206) d_Mo_step_206 (by decide) ?_
              refine mr_iast (pc := 215) d_Mo_step_215 hM.a_sy (mm_inN (by omega) (by decide)) ?_
              refine mv_aload_n (pc := 216) d_Mo_step_216 rfl ?_
              refine mr_getr (pc := 217) d_Mo_step_217 fl_Mo_20 hM.1 rfl (by decide) hM.g_px ?_
              refine mv_iload_n (pc := 220) d_Mo_step_220 rfl ?_
              refine mv_iload_n (pc := 221) d_Mo_step_221 rfl ?_
              refine mv_if_ge 230 (pc := 222) d_Mo_step_222 (by decide) (fun h222 => ?_) (fun z => absurd z (fun y => y (Int32.not_lt.mp h154)))
              refine mv_iload_n (pc := 230) d_Mo_step_230 rfl ?_
              refine mv_sipush (v := 4095) (pc := 231) d_Mo_step_231 (by decide) ?_
              refine mv_ic_le 245 (pc := 234) d_Mo_step_234 (by decide) (fun h234 => ?_) (fun z => absurd z (fun y => y h161))
              refine mv_iload_n (pc := 245) d_Mo_step_245 rfl ?_
              refine mr_iast (pc := 246) d_Mo_step_246 hM.a_px (mm_inN (by omega) (by decide)) ?_
              refine mv_aload_n (pc := 247) d_Mo_step_247 rfl ?_
              refine mr_getr (pc := 248) d_Mo_step_248 fl_Mo_23 hM.1 rfl (by decide) hM.g_py ?_
              refine mv_iload_n (pc := 251) d_Mo_step_251 rfl ?_
              refine mv_iload (pc := 252) d_Mo_step_252 rfl ?_
              refine mv_if_ge 263 (pc := 254) d_Mo_step_254 (by decide) (fun h254 => ?_) (fun z => absurd z (fun y => y (Int32.not_lt.mp h188)))
              refine mv_iload (pc := 263) d_Mo_step_263 rfl ?_
              refine mv_sipush (v := 4095) (pc := 265) d_Mo_step_265 (by decide) ?_
              refine mv_ic_le 280 (pc := 268) d_Mo_step_268 (by decide) (fun z => absurd z (h196)) (fun h268 => ?_)
              refine mv_sipush (v := 8190) (pc := 271) d_Mo_step_271 (by decide) ?_
              refine mv_iload (pc := 274) d_Mo_step_274 rfl ?_
              refine mv_isub (pc := 276) d_Mo_step_276 ?_
              refine mv_goto 282 (pc := 277) d_Mo_step_277 (by decide) ?_
              refine mr_iast (pc := 282) d_Mo_step_282 hM.a_py (mm_inN (by omega) (by decide)) ?_
              rw [mm_cl (n := 16 * k + i) (by omega)]
              refine mv_iinc (pc := 283) d_Mo_step_283 rfl rfl (by decide) ?_
              refine mv_goto 99 (pc := 286) d_Mo_step_286 (by decide) ?_
              refine mm_V_drop 3 ?_
              refine mm_V_drop 4 ?_
              refine mm_V_ls (ls' := [some (.ref 52), some (.int (nI k)), some (.int (nI (16 * k + (i + 1)))), none, none, none]) (by simp only [List.set]; rw [← Nat.add_assoc, nI_succ]; rfl) (ih _ ⟨⟨?_, hW.mv1 hi⟩, hI.2.mvd hi _ _ _ _⟩)
              exact RM.mvd hR hi h116 (by clear ih hq; unfold mm_mvx; grind) (by clear ih hq; unfold mm_mvx; grind) (by clear ih hq; unfold mm_mvv; grind) (by clear ih hq; unfold mm_mvv; grind)
        · refine mv_aload_n (pc := 164) d_Mo_step_164 rfl ?_
          refine mr_getr (pc := 165) d_Mo_step_165 fl_Mo_26 hM.1 rfl (by decide) hM.g_sx ?_
          refine mv_iload_n (pc := 168) d_Mo_step_168 rfl ?_
          refine mr_iald (pc := 169) d_Mo_step_169 hM.a_sx (mm_inN (by omega) (by decide)) ?_
          rw [mm_cl (by omega), show mm_gi (mm_wi h F) 58 (16 * k + i) = a_mv C i 4 i from r 4 (by omega) (by omega)]
          refine mv_ineg (pc := 170) d_Mo_step_170 ?_
          refine mv_goto 180 (pc := 171) d_Mo_step_171 (by decide) ?_
          refine mr_iast (pc := 180) d_Mo_step_180 hM.a_sx (mm_inN (by omega) (by decide)) ?_
          rw [mm_cl (n := 16 * k + i) (by omega)]
          refine mv_aload_n (pc := 181) d_Mo_step_181 rfl ?_
          refine mr_getr (pc := 182) d_Mo_step_182 fl_Mo_29 hM.1 rfl (by decide) hM.g_sy ?_
          refine mv_iload_n (pc := 185) d_Mo_step_185 rfl ?_
          refine mv_iload (pc := 186) d_Mo_step_186 rfl ?_
          refine mv_if_lt 199 (pc := 188) d_Mo_step_188 (by decide) (fun h188 => ?_) (fun h188 => ?_)
          · refine mv_aload_n (pc := 199) d_Mo_step_199 rfl ?_
            refine mr_getr (pc := 200) d_Mo_step_200 fl_Mo_29 hM.1 rfl (by decide) hM.g_sy ?_
            refine mv_iload_n (pc := 203) d_Mo_step_203 rfl ?_
            refine mr_iald (pc := 204) d_Mo_step_204 hM.a_sy (mm_inN (by omega) (by decide)) ?_
            rw [mm_cl (by omega), show mm_gi (mm_si (mm_wi h F) 58 (16 * k + i) _) 59 (16 * k + i) = a_mv C i 5 i from r 5 (by omega) (by omega)]
            refine mv_ineg (pc := 205) d_Mo_step_205 ?_
            refine mv_goto 215 (pc := 206) d_Mo_step_206 (by decide) ?_
            refine mr_iast (pc := 215) d_Mo_step_215 hM.a_sy (mm_inN (by omega) (by decide)) ?_
            refine mv_aload_n (pc := 216) d_Mo_step_216 rfl ?_
            refine mr_getr (pc := 217) d_Mo_step_217 fl_Mo_20 hM.1 rfl (by decide) hM.g_px ?_
            refine mv_iload_n (pc := 220) d_Mo_step_220 rfl ?_
            refine mv_iload_n (pc := 221) d_Mo_step_221 rfl ?_
            refine mv_if_ge 230 (pc := 222) d_Mo_step_222 (by decide) (fun h222 => ?_) (fun z => absurd z (fun y => y (Int32.not_lt.mp h154)))
            refine mv_iload_n (pc := 230) d_Mo_step_230 rfl ?_
            refine mv_sipush (v := 4095) (pc := 231) d_Mo_step_231 (by decide) ?_
            refine mv_ic_le 245 (pc := 234) d_Mo_step_234 (by decide) (fun z => absurd z (h161)) (fun h234 => ?_)
            refine mv_sipush (v := 8190) (pc := 237) d_Mo_step_237 (by decide) ?_
            refine mv_iload_n (pc := 240) d_Mo_step_240 rfl ?_
            refine mv_isub (pc := 241) d_Mo_step_241 ?_
            refine mv_goto 246 (pc := 242) d_Mo_step_242 (by decide) ?_
            refine mr_iast (pc := 246) d_Mo_step_246 hM.a_px (mm_inN (by omega) (by decide)) ?_
            refine mv_aload_n (pc := 247) d_Mo_step_247 rfl ?_
            refine mr_getr (pc := 248) d_Mo_step_248 fl_Mo_23 hM.1 rfl (by decide) hM.g_py ?_
            refine mv_iload_n (pc := 251) d_Mo_step_251 rfl ?_
            refine mv_iload (pc := 252) d_Mo_step_252 rfl ?_
            refine mv_if_ge 263 (pc := 254) d_Mo_step_254 (by decide) (fun z => absurd z (Int32.not_le.mpr h188)) (fun h254 => ?_)
            refine mv_iload (pc := 257) d_Mo_step_257 rfl ?_
            refine mv_ineg (pc := 259) d_Mo_step_259 ?_
            refine mv_goto 282 (pc := 260) d_Mo_step_260 (by decide) ?_
            refine mr_iast (pc := 282) d_Mo_step_282 hM.a_py (mm_inN (by omega) (by decide)) ?_
            rw [mm_cl (n := 16 * k + i) (by omega)]
            refine mv_iinc (pc := 283) d_Mo_step_283 rfl rfl (by decide) ?_
            refine mv_goto 99 (pc := 286) d_Mo_step_286 (by decide) ?_
            refine mm_V_drop 3 ?_
            refine mm_V_drop 4 ?_
            refine mm_V_ls (ls' := [some (.ref 52), some (.int (nI k)), some (.int (nI (16 * k + (i + 1)))), none, none, none]) (by simp only [List.set]; rw [← Nat.add_assoc, nI_succ]; rfl) (ih _ ⟨⟨?_, hW.mv1 hi⟩, hI.2.mvd hi _ _ _ _⟩)
            exact RM.mvd hR hi h116 (by clear ih hq; unfold mm_mvx; grind) (by clear ih hq; unfold mm_mvx; grind) (by clear ih hq; unfold mm_mvv; grind) (by clear ih hq; unfold mm_mvv; grind)
          · refine mv_iload (pc := 191) d_Mo_step_191 rfl ?_
            refine mv_sipush (v := 4095) (pc := 193) d_Mo_step_193 (by decide) ?_
            refine mv_ic_le 209 (pc := 196) d_Mo_step_196 (by decide) (fun h196 => ?_) (fun h196 => ?_)
            · refine mv_aload_n (pc := 209) d_Mo_step_209 rfl ?_
              refine mr_getr (pc := 210) d_Mo_step_210 fl_Mo_29 hM.1 rfl (by decide) hM.g_sy ?_
              refine mv_iload_n (pc := 213) d_Mo_step_213 rfl ?_
              refine mr_iald (pc := 214) d_Mo_step_214 hM.a_sy (mm_inN (by omega) (by decide)) ?_
              rw [mm_cl (by omega), show mm_gi (mm_si (mm_wi h F) 58 (16 * k + i) _) 59 (16 * k + i) = a_mv C i 5 i from r 5 (by omega) (by omega)]
              refine mr_iast (pc := 215) d_Mo_step_215 hM.a_sy (mm_inN (by omega) (by decide)) ?_
              refine mv_aload_n (pc := 216) d_Mo_step_216 rfl ?_
              refine mr_getr (pc := 217) d_Mo_step_217 fl_Mo_20 hM.1 rfl (by decide) hM.g_px ?_
              refine mv_iload_n (pc := 220) d_Mo_step_220 rfl ?_
              refine mv_iload_n (pc := 221) d_Mo_step_221 rfl ?_
              refine mv_if_ge 230 (pc := 222) d_Mo_step_222 (by decide) (fun h222 => ?_) (fun z => absurd z (fun y => y (Int32.not_lt.mp h154)))
              refine mv_iload_n (pc := 230) d_Mo_step_230 rfl ?_
              refine mv_sipush (v := 4095) (pc := 231) d_Mo_step_231 (by decide) ?_
              refine mv_ic_le 245 (pc := 234) d_Mo_step_234 (by decide) (fun z => absurd z (h161)) (fun h234 => ?_)
              refine mv_sipush (v := 8190) (pc := 237) d_Mo_step_237 (by decide) ?_
              refine mv_iload_n (pc := 240) d_Mo_step_240 rfl ?_
              refine mv_isub (pc := 241) d_Mo_step_241 ?_
              refine mv_goto 246 (pc := 242) d_Mo_step_242 (by decide) ?_
              refine mr_iast (pc := 246) d_Mo_step_246 hM.a_px (mm_inN (by omega) (by decide)) ?_
              refine mv_aload_n (pc := 247) d_Mo_step_247 rfl ?_
              refine mr_getr (pc := 248) d_Mo_step_248 fl_Mo_23 hM.1 rfl (by decide) hM.g_py ?_
              refine mv_iload_n (pc := 251) d_Mo_step_251 rfl ?_
              refine mv_iload (pc := 252) d_Mo_step_252 rfl ?_
              refine mv_if_ge 263 (pc := 254) d_Mo_step_254 (by decide) (fun h254 => ?_) (fun z => absurd z (fun y => y (Int32.not_lt.mp h188)))
              refine mv_iload (pc := 263) d_Mo_step_263 rfl ?_
              refine mv_sipush (v := 4095) (pc := 265) d_Mo_step_265 (by decide) ?_
              refine mv_ic_le 280 (pc := 268) d_Mo_step_268 (by decide) (fun h268 => ?_) (fun z => absurd z (fun y => y h196))
              refine mv_iload (pc := 280) d_Mo_step_280 rfl ?_
              refine mr_iast (pc := 282) d_Mo_step_282 hM.a_py (mm_inN (by omega) (by decide)) ?_
              rw [mm_cl (n := 16 * k + i) (by omega)]
              refine mv_iinc (pc := 283) d_Mo_step_283 rfl rfl (by decide) ?_
              refine mv_goto 99 (pc := 286) d_Mo_step_286 (by decide) ?_
              refine mm_V_drop 3 ?_
              refine mm_V_drop 4 ?_
              refine mm_V_ls (ls' := [some (.ref 52), some (.int (nI k)), some (.int (nI (16 * k + (i + 1)))), none, none, none]) (by simp only [List.set]; rw [← Nat.add_assoc, nI_succ]; rfl) (ih _ ⟨⟨?_, hW.mv1 hi⟩, hI.2.mvd hi _ _ _ _⟩)
              exact RM.mvd hR hi h116 (by clear ih hq; unfold mm_mvx; grind) (by clear ih hq; unfold mm_mvx; grind) (by clear ih hq; unfold mm_mvv; grind) (by clear ih hq; unfold mm_mvv; grind)
            · refine mv_aload_n (pc := 199) d_Mo_step_199 rfl ?_
              refine mr_getr (pc := 200) d_Mo_step_200 fl_Mo_29 hM.1 rfl (by decide) hM.g_sy ?_
              refine mv_iload_n (pc := 203) d_Mo_step_203 rfl ?_
              refine mr_iald (pc := 204) d_Mo_step_204 hM.a_sy (mm_inN (by omega) (by decide)) ?_
              rw [mm_cl (by omega), show mm_gi (mm_si (mm_wi h F) 58 (16 * k + i) _) 59 (16 * k + i) = a_mv C i 5 i from r 5 (by omega) (by omega)]
              refine mv_ineg (pc := 205) d_Mo_step_205 ?_
              refine mv_goto 215 (pc := 206) d_Mo_step_206 (by decide) ?_
              refine mr_iast (pc := 215) d_Mo_step_215 hM.a_sy (mm_inN (by omega) (by decide)) ?_
              refine mv_aload_n (pc := 216) d_Mo_step_216 rfl ?_
              refine mr_getr (pc := 217) d_Mo_step_217 fl_Mo_20 hM.1 rfl (by decide) hM.g_px ?_
              refine mv_iload_n (pc := 220) d_Mo_step_220 rfl ?_
              refine mv_iload_n (pc := 221) d_Mo_step_221 rfl ?_
              refine mv_if_ge 230 (pc := 222) d_Mo_step_222 (by decide) (fun h222 => ?_) (fun z => absurd z (fun y => y (Int32.not_lt.mp h154)))
              refine mv_iload_n (pc := 230) d_Mo_step_230 rfl ?_
              refine mv_sipush (v := 4095) (pc := 231) d_Mo_step_231 (by decide) ?_
              refine mv_ic_le 245 (pc := 234) d_Mo_step_234 (by decide) (fun z => absurd z (h161)) (fun h234 => ?_)
              refine mv_sipush (v := 8190) (pc := 237) d_Mo_step_237 (by decide) ?_
              refine mv_iload_n (pc := 240) d_Mo_step_240 rfl ?_
              refine mv_isub (pc := 241) d_Mo_step_241 ?_
              refine mv_goto 246 (pc := 242) d_Mo_step_242 (by decide) ?_
              refine mr_iast (pc := 246) d_Mo_step_246 hM.a_px (mm_inN (by omega) (by decide)) ?_
              refine mv_aload_n (pc := 247) d_Mo_step_247 rfl ?_
              refine mr_getr (pc := 248) d_Mo_step_248 fl_Mo_23 hM.1 rfl (by decide) hM.g_py ?_
              refine mv_iload_n (pc := 251) d_Mo_step_251 rfl ?_
              refine mv_iload (pc := 252) d_Mo_step_252 rfl ?_
              refine mv_if_ge 263 (pc := 254) d_Mo_step_254 (by decide) (fun h254 => ?_) (fun z => absurd z (fun y => y (Int32.not_lt.mp h188)))
              refine mv_iload (pc := 263) d_Mo_step_263 rfl ?_
              refine mv_sipush (v := 4095) (pc := 265) d_Mo_step_265 (by decide) ?_
              refine mv_ic_le 280 (pc := 268) d_Mo_step_268 (by decide) (fun z => absurd z (h196)) (fun h268 => ?_)
              refine mv_sipush (v := 8190) (pc := 271) d_Mo_step_271 (by decide) ?_
              refine mv_iload (pc := 274) d_Mo_step_274 rfl ?_
              refine mv_isub (pc := 276) d_Mo_step_276 ?_
              refine mv_goto 282 (pc := 277) d_Mo_step_277 (by decide) ?_
              refine mr_iast (pc := 282) d_Mo_step_282 hM.a_py (mm_inN (by omega) (by decide)) ?_
              rw [mm_cl (n := 16 * k + i) (by omega)]
              refine mv_iinc (pc := 283) d_Mo_step_283 rfl rfl (by decide) ?_
              refine mv_goto 99 (pc := 286) d_Mo_step_286 (by decide) ?_
              refine mm_V_drop 3 ?_
              refine mm_V_drop 4 ?_
              refine mm_V_ls (ls' := [some (.ref 52), some (.int (nI k)), some (.int (nI (16 * k + (i + 1)))), none, none, none]) (by simp only [List.set]; rw [← Nat.add_assoc, nI_succ]; rfl) (ih _ ⟨⟨?_, hW.mv1 hi⟩, hI.2.mvd hi _ _ _ _⟩)
              exact RM.mvd hR hi h116 (by clear ih hq; unfold mm_mvx; grind) (by clear ih hq; unfold mm_mvx; grind) (by clear ih hq; unfold mm_mvv; grind) (by clear ih hq; unfold mm_mvv; grind)
set_option maxRecDepth 20000 in
theorem l_mCd {G : mm_G} {Q : mm_O → mm_H → Prop} {h : mm_H} {k : Nat} (hk : k < 2) {C : mm_W} (hM : mm_Mo h) (F0 : mm_W) (hq : ∀ F', RM F' k (a_cd C 16) → WF (a_cd C 16) → mm_mfr k F0 F' → mm_V G (2, 45) M_Mo_step Q 94 [some (.ref 52), some (.int (nI k)), some (.int (nI (16 * k + 16))), none, none, none] [] (mm_wi h F')) :
    ∀ (i : Nat) (F : mm_W), i ≤ 16 → (RM F k (a_cd C i) ∧ WF (a_cd C i)) ∧ mm_mfr k F0 F → mm_V G (2, 45) M_Mo_step Q 35 [some (.ref 52), some (.int (nI k)), some (.int (nI (16 * k + i))), none, none, none] [] (mm_wi h F) := by
  refine mr_loop _ _ 16 (fun F hI => ?_) (fun i F hi hI ih => ?_)
  · refine mv_iload_n (pc := 35) d_Mo_step_35 rfl ?_
    refine mv_bipush (v := 16) (pc := 36) d_Mo_step_36 (by decide) ?_
    refine mv_iload_n (pc := 38) d_Mo_step_38 rfl ?_
    refine mv_imul (pc := 39) d_Mo_step_39 ?_
    refine mv_bipush (v := 16) (pc := 40) d_Mo_step_40 (by decide) ?_
    refine mv_iadd (pc := 42) d_Mo_step_42 ?_
    rw [mm_16, mm_p16]
    refine mv_ic_ge 94 (pc := 43) d_Mo_step_43 (by decide) (fun h43 => ?_) (fun z => absurd z (fun z => z (nI_le (by omega) (by omega))))
    exact hq F hI.1.1 hI.1.2 hI.2
  · obtain ⟨hR, hW⟩ := hI.1
    refine mv_iload_n (pc := 35) d_Mo_step_35 rfl ?_
    refine mv_bipush (v := 16) (pc := 36) d_Mo_step_36 (by decide) ?_
    refine mv_iload_n (pc := 38) d_Mo_step_38 rfl ?_
    refine mv_imul (pc := 39) d_Mo_step_39 ?_
    refine mv_bipush (v := 16) (pc := 40) d_Mo_step_40 (by decide) ?_
    refine mv_iadd (pc := 42) d_Mo_step_42 ?_
    rw [mm_16, mm_p16]
    refine mv_ic_ge 94 (pc := 43) d_Mo_step_43 (by decide) (fun z => absurd z (nI_ge (by omega) (by omega))) (fun h43 => ?_)
    refine mv_aload_n (pc := 46) d_Mo_step_46 rfl ?_
    refine mr_getr (pc := 47) d_Mo_step_47 fl_Mo_16 hM.1 rfl (by decide) hM.g_full ?_
    refine mv_iload_n (pc := 50) d_Mo_step_50 rfl ?_
    refine mr_zald (pc := 51) d_Mo_step_51 hM.a_full (mm_inN (by omega) (by decide)) ?_
    rw [mm_cl (by omega), show mm_gi (mm_wi h F) 55 (16 * k + i) = a_cd C i 1 i from (hR.2.1 i hi).2.1]
    refine mv_if_eq 88 (pc := 52) d_Mo_step_52 (by decide) (fun h52 => ?_) (fun h52 => ?_)
    · refine mv_iinc (pc := 88) d_Mo_step_88 rfl rfl (by decide) ?_
      refine mv_goto 35 (pc := 91) d_Mo_step_91 (by decide) ?_
      have e : a_cd1 (a_cd C i) i = a_cd C i := by unfold a_cd1; rw [if_neg (fun z => z.1 h52)]
      refine mm_V_ls (ls' := [some (.ref 52), some (.int (nI k)), some (.int (nI (16 * k + (i + 1)))), none, none, none]) (by simp only [List.set]; rw [← Nat.add_assoc, nI_succ]; rfl) (ih F ⟨⟨?_, hW.cd1 hi⟩, hI.2⟩)
      show RM F k (a_cd1 (a_cd C i) i)
      rw [e]; exact hR
    · have r := (hR.2.1 i hi).2.2 h52
      refine mv_aload_n (pc := 55) d_Mo_step_55 rfl ?_
      refine mr_getr (pc := 56) d_Mo_step_56 fl_Mo_38 hM.1 rfl (by decide) hM.g_left ?_
      refine mv_iload_n (pc := 59) d_Mo_step_59 rfl ?_
      refine mr_iald (pc := 60) d_Mo_step_60 hM.a_left (mm_inN (by omega) (by decide)) ?_
      rw [mm_cl (by omega), show mm_gi (mm_wi h F) 62 (16 * k + i) = a_cd C i 8 i from r 8 (by omega) (by omega)]
      refine mv_if_le 88 (pc := 61) d_Mo_step_61 (by decide) (fun h61 => ?_) (fun h61 => ?_)
      · refine mv_iinc (pc := 88) d_Mo_step_88 rfl rfl (by decide) ?_
        refine mv_goto 35 (pc := 91) d_Mo_step_91 (by decide) ?_
        have e : a_cd1 (a_cd C i) i = a_cd C i := by unfold a_cd1; rw [if_neg (fun z => Int32.not_le.mpr z.2 h61)]
        refine mm_V_ls (ls' := [some (.ref 52), some (.int (nI k)), some (.int (nI (16 * k + (i + 1)))), none, none, none]) (by simp only [List.set]; rw [← Nat.add_assoc, nI_succ]; rfl) (ih F ⟨⟨?_, hW.cd1 hi⟩, hI.2⟩)
        show RM F k (a_cd1 (a_cd C i) i)
        rw [e]; exact hR
      · refine mv_aload_n (pc := 64) d_Mo_step_64 rfl ?_
        refine mr_getr (pc := 65) d_Mo_step_65 fl_Mo_38 hM.1 rfl (by decide) hM.g_left ?_
        refine mv_iload_n (pc := 68) d_Mo_step_68 rfl ?_
        refine mv_dup2 (pc := 69) d_Mo_step_69 rfl rfl ?_
        refine mr_iald (pc := 70) d_Mo_step_70 hM.a_left (mm_inN (by omega) (by decide)) ?_
        rw [mm_cl (by omega), show mm_gi (mm_wi h F) 62 (16 * k + i) = a_cd C i 8 i from r 8 (by omega) (by omega)]
        refine mv_iconst (v := 1) (pc := 71) d_Mo_step_71 (by decide) ?_
        refine mv_isub (pc := 72) d_Mo_step_72 ?_
        refine mr_iast (pc := 73) d_Mo_step_73 hM.a_left (mm_inN (by omega) (by decide)) ?_
        rw [mm_cl (by omega)]
        refine mv_aload_n (pc := 74) d_Mo_step_74 rfl ?_
        refine mr_getr (pc := 75) d_Mo_step_75 fl_Mo_38 hM.1 rfl (by decide) hM.g_left ?_
        refine mv_iload_n (pc := 78) d_Mo_step_78 rfl ?_
        refine mr_iald (pc := 79) d_Mo_step_79 hM.a_left (mm_inN (by omega) (by decide)) ?_
        rw [mm_cl (by omega), show mm_gi (mm_si (mm_wi h F) 62 (16 * k + i) (a_cd C i 8 i - 1)) 62 (16 * k + i) = a_cd C i 8 i - 1 by simp [mm_gsi]]
        refine mv_if_ne 88 (pc := 80) d_Mo_step_80 (by decide) (fun h80 => ?_) (fun h80 => ?_)
        · refine mv_iinc (pc := 88) d_Mo_step_88 rfl rfl (by decide) ?_
          refine mv_goto 35 (pc := 91) d_Mo_step_91 (by decide) ?_
          have e : a_cd1 (a_cd C i) i = a_put (a_cd C i) 8 i (a_cd C i 8 i - 1) := by unfold a_cd1; rw [if_pos ⟨h52, Int32.not_le.mp h61⟩, if_neg h80]
          refine mm_V_ls (ls' := [some (.ref 52), some (.int (nI k)), some (.int (nI (16 * k + (i + 1)))), none, none, none]) (by simp only [List.set]; rw [← Nat.add_assoc, nI_succ]; rfl) (ih _ ⟨⟨?_, hW.cd1 hi⟩, hI.2.put (f := 8) hi (by omega) _⟩)
          show RM _ k (a_cd1 (a_cd C i) i)
          rw [e]; exact hR.put (f := 8) hi (by omega) (by omega) _
        · refine mv_aload_n (pc := 83) d_Mo_step_83 rfl ?_
          refine mv_iload_n (pc := 84) d_Mo_step_84 rfl ?_
          refine mr_callV1 (pc := 85) d_Mo_step_85 (d2 := (0, 0)) ok_Mo_remove li_Mo_79 sv_Mo_remove hM.1 ⟨by decide, rfl⟩ ⟨by decide, rfl, Nat.le_of_ble_eq_true rfl, rfl, by decide, by decide⟩ ?_
          refine c_mrem hk hM hi (hR.put (f := 8) hi (by omega) (by omega) (a_cd C i 8 i - 1)) (by simpa [a_put] using (hW.1 i hi).2.1) (fun F2 r2 f2 => ?_)
          refine mv_iinc (pc := 88) d_Mo_step_88 rfl rfl (by decide) ?_
          refine mv_goto 35 (pc := 91) d_Mo_step_91 (by decide) ?_
          have e : a_cd1 (a_cd C i) i = a_rem (a_put (a_cd C i) 8 i (a_cd C i 8 i - 1)) i := by unfold a_cd1; rw [if_pos ⟨h52, Int32.not_le.mp h61⟩, if_pos h80]
          refine mm_V_ls (ls' := [some (.ref 52), some (.int (nI k)), some (.int (nI (16 * k + (i + 1)))), none, none, none]) (by simp only [List.set]; rw [← Nat.add_assoc, nI_succ]; rfl) (ih F2 ⟨⟨?_, hW.cd1 hi⟩, (hI.2.put (f := 8) hi (by omega) _).trans f2⟩)
          show RM F2 k (a_cd1 (a_cd C i) i)
          rw [e]; exact r2
set_option maxRecDepth 20000 in
theorem c_mstep {G : mm_G} {Q : mm_O → mm_H → Prop} {h : mm_H} {k : Nat} (hk : k < 2) {A : mm_W} (hM : mm_Mo h) (hR : RM (mm_gi h) k A) (hW : WF A) (hq : ∀ F', RM F' k (a_step A).2 → RME F' k (a_step A).1 → mm_sfr k (mm_gi h) F' → Q (.inl none) (mm_wi h F')) : mm_V G (2, 45) M_Mo_step Q 0 (mm_ent 6 [.ref 52, .int (nI k)]) [] h := by
  show mm_V G (2, 45) M_Mo_step Q 0 [some (.ref 52), some (.int (nI k)), none, none, none, none] [] h
  refine mv_aload_n (pc := 0) d_Mo_step_0 rfl ?_
  refine mr_getr (pc := 1) d_Mo_step_1 fl_Mo_7 hM.1 rfl (by decide) hM.g_clocks ?_
  refine mv_iload_n (pc := 4) d_Mo_step_4 rfl ?_
  refine mv_aload_n (pc := 5) d_Mo_step_5 rfl ?_
  refine mr_getr (pc := 6) d_Mo_step_6 fl_Mo_7 hM.1 rfl (by decide) hM.g_clocks ?_
  refine mv_iload_n (pc := 9) d_Mo_step_9 rfl ?_
  refine mr_iald (pc := 10) d_Mo_step_10 hM.a_clocks (mm_inN (by omega) (by decide)) ?_
  rw [mm_cl (by omega), hR.1]
  refine mv_ldc (pc := 11) d_Mo_step_11 lc_Mo_78 ?_
  refine mv_ic_ne 21 (pc := 13) d_Mo_step_13 (by decide) (fun h13 => ?_) (fun h13 => ?_)
  · refine mv_aload_n (pc := 21) d_Mo_step_21 rfl ?_
    refine mr_getr (pc := 22) d_Mo_step_22 fl_Mo_7 hM.1 rfl (by decide) hM.g_clocks ?_
    refine mv_iload_n (pc := 25) d_Mo_step_25 rfl ?_
    refine mr_iald (pc := 26) d_Mo_step_26 hM.a_clocks (mm_inN (by omega) (by decide)) ?_
    rw [mm_cl (by omega), hR.1]
    refine mv_iconst (v := 1) (pc := 27) d_Mo_step_27 (by decide) ?_
    refine mv_iadd (pc := 28) d_Mo_step_28 ?_
    refine mr_iast (pc := 29) d_Mo_step_29 hM.a_clocks (mm_inN (by omega) (by decide)) ?_
    rw [mm_cl (by omega)]
    refine mv_bipush (v := 16) (pc := 30) d_Mo_step_30 (by decide) ?_
    refine mv_iload_n (pc := 32) d_Mo_step_32 rfl ?_
    refine mv_imul (pc := 33) d_Mo_step_33 ?_
    rw [mm_16]
    refine mv_istore_n (pc := 34) d_Mo_step_34 (by decide) ?_
    have hk1 := hk
    obtain ⟨B, hB⟩ : ∃ B, B = a_put A 10 0 (if A 10 0 < 2147483647 then A 10 0 + 1 else A 10 0) := ⟨_, rfl⟩
    have hRB : RM (mm_u2 (mm_gi h) 53 k (A 10 0 + 1)) k B := by
      rw [hB, ((mm_c1 hW.2.1).2 h13)]
      exact hR.clk _
    have hWB : WF B := by rw [hB]; exact hW.clock (a_clk hW.2.1)
    refine mm_V_ls (ls' := [some (.ref 52), some (.int (nI k)), some (.int (nI (16 * k + 0))), none, none, none]) rfl ?_
    refine l_mCd hk hM (mm_gi h) (fun F1 r1 w1 f1 => ?_) 0 _ (by omega) ⟨⟨hRB, hWB⟩, fun a j ha => ?_⟩
    · have hgo : ∀ F3, RM F3 k (a_mv (a_cd B 16) 16) → WF (a_mv (a_cd B 16) 16) → mm_mfr k (mm_gi h) F3 → mm_V G (2, 45) M_Mo_step Q 289 [some (.ref 52), some (.int (nI k)), some (.int (nI (16 * k + 16))), none, none, none] [] (mm_wi h F3) := fun F3 r3 w3 f3 => by
        have hs : a_step A = a_all ([], a_mv (a_cd B 16) 16) 16 := by rw [hB]; rfl
        rw [hs] at hq
        generalize a_mv (a_cd B 16) 16 = D at r3 w3 hq
        refine mv_aload_n (pc := 289) d_Mo_step_289 rfl ?_
        refine mr_getr (pc := 290) d_Mo_step_290 fl_Mo_44 hM.1 rfl (by decide) hM.g_events ?_
        refine mv_iload_n (pc := 293) d_Mo_step_293 rfl ?_
        refine mv_iconst (v := 0) (pc := 294) d_Mo_step_294 (by decide) ?_
        refine mr_iast (pc := 295) d_Mo_step_295 hM.a_events (mm_inN (by omega) (by decide)) ?_
        rw [mm_cl (by omega)]
        refine mv_iconst (v := 0) (pc := 296) d_Mo_step_296 (by decide) ?_
        refine mv_istore_n (pc := 297) d_Mo_step_297 (by decide) ?_
        refine l_mOut hk hM (mm_gi h) hq 0 _ (by omega) ⟨⟨?_, ⟨?_, fun j hj => absurd hj (by simp [a_all])⟩, w3⟩, ?_⟩
        · exact r3.same (fun a j a1 a2 => by have n9 : ¬ a = 64 := (by omega); simp [mm_u2, mm_g0, mm_gwi, n9])
        · simp [mm_u2, a_all]; rfl
        · exact f3.s.trans (fun a j ha => by have n9 : ¬ (a = 64 ∧ j = k) := (by omega); simp [mm_u2, mm_g0, mm_gwi, n9])
      generalize a_cd B 16 = C at r1 w1 hgo
      refine mv_bipush (v := 16) (pc := 94) d_Mo_step_94 (by decide) ?_
      refine mv_iload_n (pc := 96) d_Mo_step_96 rfl ?_
      refine mv_imul (pc := 97) d_Mo_step_97 ?_
      refine mv_istore_n (pc := 98) d_Mo_step_98 (by decide) ?_
      rw [mm_16]
      refine mm_V_ls (ls' := [some (.ref 52), some (.int (nI k)), some (.int (nI (16 * k + 0))), none, none, none]) rfl ?_
      exact l_mMv hk hM (mm_gi h) hgo 0 F1 (by omega) ⟨⟨r1, w1⟩, f1⟩
    · have n9 : ¬ (a = 53 ∧ j = k) := by omega
      simp [mm_u2, mm_g0, n9]
  · refine mv_ldc (pc := 16) d_Mo_step_16 lc_Mo_78 ?_
    refine mv_goto 29 (pc := 18) d_Mo_step_18 (by decide) ?_
    refine mr_iast (pc := 29) d_Mo_step_29 hM.a_clocks (mm_inN (by omega) (by decide)) ?_
    rw [mm_cl (by omega)]
    refine mv_bipush (v := 16) (pc := 30) d_Mo_step_30 (by decide) ?_
    refine mv_iload_n (pc := 32) d_Mo_step_32 rfl ?_
    refine mv_imul (pc := 33) d_Mo_step_33 ?_
    rw [mm_16]
    refine mv_istore_n (pc := 34) d_Mo_step_34 (by decide) ?_
    have hk1 := hk
    obtain ⟨B, hB⟩ : ∃ B, B = a_put A 10 0 (if A 10 0 < 2147483647 then A 10 0 + 1 else A 10 0) := ⟨_, rfl⟩
    have hRB : RM (mm_u2 (mm_gi h) 53 k 2147483647) k B := by
      rw [hB, ((mm_c1 hW.2.1).1 h13)]
      exact hR.clk _
    have hWB : WF B := by rw [hB]; exact hW.clock (a_clk hW.2.1)
    refine mm_V_ls (ls' := [some (.ref 52), some (.int (nI k)), some (.int (nI (16 * k + 0))), none, none, none]) rfl ?_
    refine l_mCd hk hM (mm_gi h) (fun F1 r1 w1 f1 => ?_) 0 _ (by omega) ⟨⟨hRB, hWB⟩, fun a j ha => ?_⟩
    · have hgo : ∀ F3, RM F3 k (a_mv (a_cd B 16) 16) → WF (a_mv (a_cd B 16) 16) → mm_mfr k (mm_gi h) F3 → mm_V G (2, 45) M_Mo_step Q 289 [some (.ref 52), some (.int (nI k)), some (.int (nI (16 * k + 16))), none, none, none] [] (mm_wi h F3) := fun F3 r3 w3 f3 => by
        have hs : a_step A = a_all ([], a_mv (a_cd B 16) 16) 16 := by rw [hB]; rfl
        rw [hs] at hq
        generalize a_mv (a_cd B 16) 16 = D at r3 w3 hq
        refine mv_aload_n (pc := 289) d_Mo_step_289 rfl ?_
        refine mr_getr (pc := 290) d_Mo_step_290 fl_Mo_44 hM.1 rfl (by decide) hM.g_events ?_
        refine mv_iload_n (pc := 293) d_Mo_step_293 rfl ?_
        refine mv_iconst (v := 0) (pc := 294) d_Mo_step_294 (by decide) ?_
        refine mr_iast (pc := 295) d_Mo_step_295 hM.a_events (mm_inN (by omega) (by decide)) ?_
        rw [mm_cl (by omega)]
        refine mv_iconst (v := 0) (pc := 296) d_Mo_step_296 (by decide) ?_
        refine mv_istore_n (pc := 297) d_Mo_step_297 (by decide) ?_
        refine l_mOut hk hM (mm_gi h) hq 0 _ (by omega) ⟨⟨?_, ⟨?_, fun j hj => absurd hj (by simp [a_all])⟩, w3⟩, ?_⟩
        · exact r3.same (fun a j a1 a2 => by have n9 : ¬ a = 64 := (by omega); simp [mm_u2, mm_g0, mm_gwi, n9])
        · simp [mm_u2, a_all]; rfl
        · exact f3.s.trans (fun a j ha => by have n9 : ¬ (a = 64 ∧ j = k) := (by omega); simp [mm_u2, mm_g0, mm_gwi, n9])
      generalize a_cd B 16 = C at r1 w1 hgo
      refine mv_bipush (v := 16) (pc := 94) d_Mo_step_94 (by decide) ?_
      refine mv_iload_n (pc := 96) d_Mo_step_96 rfl ?_
      refine mv_imul (pc := 97) d_Mo_step_97 ?_
      refine mv_istore_n (pc := 98) d_Mo_step_98 (by decide) ?_
      rw [mm_16]
      refine mm_V_ls (ls' := [some (.ref 52), some (.int (nI k)), some (.int (nI (16 * k + 0))), none, none, none]) rfl ?_
      exact l_mMv hk hM (mm_gi h) hgo 0 F1 (by omega) ⟨⟨r1, w1⟩, f1⟩
    · have n9 : ¬ (a = 53 ∧ j = k) := by omega
      simp [mm_u2, mm_g0, n9]
