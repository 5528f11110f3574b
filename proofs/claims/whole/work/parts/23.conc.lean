/-! CONTRACTS: World (rows by program: con_c.py) -/
theorem mm_Wd.sl {h : mm_H} {w i : Nat} (hw : mm_Wd h w) (hi : i < 16) : mm_gr h (w + 1) (nI i).toNatClampNeg = some (w + 6 + i) := by
  rw [nI_clamp (by omega)]; exact hw.2.2.2.2.2.2.2.2 i hi
theorem mm_Wd.at_ {h : mm_H} {w i : Nat} (hw : mm_Wd h w) (hi : i < 16) : mm_at h (w + 6 + i) 3 9 := hw.2.2.2.2.1 i hi
theorem mm_in16 {i : Nat} (hi : i < 16) : vp_in (nI i) 16 := vp_in_nI hi (by decide)
theorem mm_in256 {i : Nat} (hi : i < 256) : vp_in (nI i) 256 := vp_in_nI hi (by decide)
theorem mm_lt16 {i : Nat} (hi : i < 16) : ¬ (16 : Int32) ≤ nI i := nI_ge (b := 16) hi (by decide)
theorem mm_lt256 {i : Nat} (hi : i < 256) : ¬ (256 : Int32) ≤ nI i := nI_ge (b := 256) hi (by decide)
theorem mm_ge16 : ¬ ¬ (16 : Int32) ≤ nI 16 := fun z => z (by decide)
theorem mm_ge256 : ¬ ¬ (256 : Int32) ≤ nI 256 := fun z => z (by decide)
theorem mm_wsi (h : mm_H) (F : mm_W) (a k : Nat) (x : Int32) : mm_si (mm_wi h F) a k x = mm_wi h (mm_u2 F a k x) := rfl
theorem mm_wwi (h : mm_H) (F F' : mm_W) : mm_wi (mm_wi h F) F' = mm_wi h F' := rfl
theorem mm_w0 (h : mm_H) : mm_wi h (mm_gi h) = h := rfl
set_option maxRecDepth 20000 in
theorem c_slotOf {G : mm_G} {Q : mm_O → mm_H → Prop} {h : mm_H} {w i : Nat} {x : Int32} (hw : mm_Wd h w) (hi : i < 16) (hx : x &&& 15 = nI i) (hq : Q (.inl (some (.ref (w + 6 + i)))) h) : mm_V G (1, 20) M_Wo_slotOf Q 0 (mm_ent 2 [.ref w, .int x]) [] h := by
  show mm_V G (1, 20) M_Wo_slotOf Q 0 [some (.ref w), some (.int x)] [] h
  refine mv_aload_n (pc := 0) d_Wo_slotOf_0 rfl ?_
  refine mr_getr (pc := 1) d_Wo_slotOf_1 fl_Wo_11 hw.1 rfl (by decide) hw.2.2.2.2.2.1 ?_
  refine mv_iload_n (pc := 4) d_Wo_slotOf_4 rfl ?_
  refine mr_callS1 (pc := 5) d_Wo_slotOf_5 (d2 := (0, 0)) ok_Ta_slotNumber li_Wo_41 sv_Ta_slotNumber ⟨by decide, rfl, Nat.le_of_ble_eq_true rfl, rfl, by decide, by decide⟩ ?_
  refine c_slotNumber ?_
  rw [hx]
  refine mr_aald (pc := 8) d_Wo_slotOf_8 hw.2.1 (mm_in16 hi) (hw.sl hi) ?_
  refine mv_aret (pc := 9) d_Wo_slotOf_9 rfl (Or.inl ⟨_, rfl⟩) ?_
  exact hq
set_option maxRecDepth 20000 in
theorem c_isGood {G : mm_G} {Q : mm_O → mm_H → Prop} {h : mm_H} {w i : Nat} {x : Int32} (hw : mm_Wd h w) (hi : i < 16) (hx : x &&& 15 = nI i) (hq1 : ¬ mm_gi h (w + 6 + i) 1 = 0 ∧ mm_gi h (w + 6 + i) 0 = x >>> ((4 : Int32) &&& 31) → Q (.inl (some (.int 1))) h) (hq0 : ¬ (¬ mm_gi h (w + 6 + i) 1 = 0 ∧ mm_gi h (w + 6 + i) 0 = x >>> ((4 : Int32) &&& 31)) → Q (.inl (some (.int 0))) h) : mm_V G (2, 41) M_Wo_isGood Q 0 (mm_ent 3 [.ref w, .int x]) [] h := by
  show mm_V G (2, 41) M_Wo_isGood Q 0 [some (.ref w), some (.int x), none] [] h
  refine mv_aload_n (pc := 0) d_Wo_isGood_0 rfl ?_
  refine mv_iload_n (pc := 1) d_Wo_isGood_1 rfl ?_
  refine mr_callV1 (pc := 2) d_Wo_isGood_2 (d2 := (1, 20)) ok_Wo_slotOf li_Wo_29 sv_Wo_slotOf hw.1 ⟨by decide, rfl⟩ ⟨by decide, rfl, Nat.le_of_ble_eq_true rfl, rfl, by decide, by decide⟩ ?_
  refine c_slotOf hw hi hx ?_
  refine mv_astore_n (pc := 5) d_Wo_isGood_5 (by decide) ?_
  refine mv_aload_n (pc := 6) d_Wo_isGood_6 rfl ?_
  refine mr_geti (pc := 7) d_Wo_isGood_7 fl_Wo_33 (hw.at_ hi) rfl (by decide) ?_
  refine mv_if_eq 27 (pc := 10) d_Wo_isGood_10 (by decide) (fun h10 => ?_) (fun h10 => ?_)
  · refine mv_iconst (v := 0) (pc := 27) d_Wo_isGood_27 (by decide) ?_
    refine mv_iret (pc := 28) d_Wo_isGood_28 rfl rfl ?_
    exact hq0 (by clear hq1 hq0; grind)
  · refine mv_aload_n (pc := 13) d_Wo_isGood_13 rfl ?_
    refine mr_geti (pc := 14) d_Wo_isGood_14 fl_Wo_37 (hw.at_ hi) rfl (by decide) ?_
    refine mv_iload_n (pc := 17) d_Wo_isGood_17 rfl ?_
    refine mv_iconst (v := 4) (pc := 18) d_Wo_isGood_18 (by decide) ?_
    refine mv_ishr (pc := 19) d_Wo_isGood_19 ?_
    refine mv_ic_ne 27 (pc := 20) d_Wo_isGood_20 (by decide) (fun h20 => ?_) (fun h20 => ?_)
    · refine mv_iconst (v := 0) (pc := 27) d_Wo_isGood_27 (by decide) ?_
      refine mv_iret (pc := 28) d_Wo_isGood_28 rfl rfl ?_
      exact hq0 (by clear hq1 hq0; grind)
    · refine mv_iconst (v := 1) (pc := 23) d_Wo_isGood_23 (by decide) ?_
      refine mv_goto 28 (pc := 24) d_Wo_isGood_24 (by decide) ?_
      refine mv_iret (pc := 28) d_Wo_isGood_28 rfl rfl ?_
      exact hq1 (by clear hq1 hq0; grind)
set_option maxRecDepth 20000 in
theorem c_handleIn {G : mm_G} {Q : mm_O → mm_H → Prop} {h : mm_H} {w i : Nat} (hw : mm_Wd h w) (hi : i < 16) (hq : Q (.inl (some (.int (nI i + 16 * mm_gi h (w + 6 + i) 0)))) h) : mm_V G (0, 0) M_Wo_handleIn Q 0 (mm_ent 2 [.ref w, .int (nI i)]) [] h := by
  show mm_V G (0, 0) M_Wo_handleIn Q 0 [some (.ref w), some (.int (nI i))] [] h
  refine mv_iload_n (pc := 0) d_Wo_handleIn_0 rfl ?_
  refine mv_bipush (v := 16) (pc := 1) d_Wo_handleIn_1 (by decide) ?_
  refine mv_aload_n (pc := 3) d_Wo_handleIn_3 rfl ?_
  refine mr_getr (pc := 4) d_Wo_handleIn_4 fl_Wo_11 hw.1 rfl (by decide) hw.2.2.2.2.2.1 ?_
  refine mv_iload_n (pc := 7) d_Wo_handleIn_7 rfl ?_
  refine mr_aald (pc := 8) d_Wo_handleIn_8 hw.2.1 (mm_in16 hi) (hw.sl hi) ?_
  refine mr_geti (pc := 9) d_Wo_handleIn_9 fl_Wo_37 (hw.at_ hi) rfl (by decide) ?_
  refine mv_imul (pc := 12) d_Wo_handleIn_12 ?_
  refine mv_iadd (pc := 13) d_Wo_handleIn_13 ?_
  refine mv_iret (pc := 14) d_Wo_handleIn_14 rfl rfl ?_
  exact hq
set_option maxRecDepth 20000 in
theorem l_lowest {G : mm_G} {Q : mm_O → mm_H → Prop} {h : mm_H} {w : Nat} (hw : mm_Wd h w) (hq : ∀ i, i < 16 → (∀ j, j < i → ¬ mm_gi h (w + 6 + j) 1 = 0) → mm_gi h (w + 6 + i) 1 = 0 → Q (.inl (some (.int (nI i)))) h) (hq0 : (∀ j, j < 16 → ¬ mm_gi h (w + 6 + j) 1 = 0) → Q (.inl (some (.int (-1)))) h) :
    ∀ (i : Nat) (_ : Unit), i ≤ 16 → (∀ j, j < i → ¬ mm_gi h (w + 6 + j) 1 = 0) → mm_V G (0, 0) M_Wo_lowestEmpty Q 2 [some (.ref w), some (.int (nI i))] [] h := by
  refine mr_loop _ _ 16 (fun _ hI => ?_) (fun i _ hi hI ih => ?_)
  · refine mv_iload_n (pc := 2) d_Wo_lowestEmpty_2 rfl ?_
    refine mv_bipush (v := 16) (pc := 3) d_Wo_lowestEmpty_3 (by decide) ?_
    refine mv_ic_ge 28 (pc := 5) d_Wo_lowestEmpty_5 (by decide) (fun h5 => ?_) (fun z => absurd z (mm_ge16))
    refine mv_iconst (v := -1) (pc := 28) d_Wo_lowestEmpty_28 (by decide) ?_
    refine mv_iret (pc := 29) d_Wo_lowestEmpty_29 rfl rfl ?_
    exact hq0 hI
  · refine mv_iload_n (pc := 2) d_Wo_lowestEmpty_2 rfl ?_
    refine mv_bipush (v := 16) (pc := 3) d_Wo_lowestEmpty_3 (by decide) ?_
    refine mv_ic_ge 28 (pc := 5) d_Wo_lowestEmpty_5 (by decide) (fun z => absurd z (mm_lt16 hi)) (fun h5 => ?_)
    refine mv_aload_n (pc := 8) d_Wo_lowestEmpty_8 rfl ?_
    refine mr_getr (pc := 9) d_Wo_lowestEmpty_9 fl_Wo_11 hw.1 rfl (by decide) hw.2.2.2.2.2.1 ?_
    refine mv_iload_n (pc := 12) d_Wo_lowestEmpty_12 rfl ?_
    refine mr_aald (pc := 13) d_Wo_lowestEmpty_13 hw.2.1 (mm_in16 hi) (hw.sl hi) ?_
    refine mr_geti (pc := 14) d_Wo_lowestEmpty_14 fl_Wo_33 (hw.at_ hi) rfl (by decide) ?_
    refine mv_if_ne 22 (pc := 17) d_Wo_lowestEmpty_17 (by decide) (fun h17 => ?_) (fun h17 => ?_)
    · refine mv_iinc (pc := 22) d_Wo_lowestEmpty_22 rfl rfl (by decide) ?_
      refine mv_goto 2 (pc := 25) d_Wo_lowestEmpty_25 (by decide) ?_
      refine mm_V_ls (ls' := [some (.ref w), some (.int (nI (i + 1)))]) (by simp only [List.set]; rw [nI_succ]; rfl) (ih () fun j hj => ?_)
      by_cases hji : j = i
      · subst hji; exact h17
      · exact hI j (by omega)
    · refine mv_iload_n (pc := 20) d_Wo_lowestEmpty_20 rfl ?_
      refine mv_iret (pc := 21) d_Wo_lowestEmpty_21 rfl rfl ?_
      exact hq i hi hI h17
set_option maxRecDepth 20000 in
theorem c_lowestEmpty {G : mm_G} {Q : mm_O → mm_H → Prop} {h : mm_H} {w : Nat} (hw : mm_Wd h w) (hq : ∀ i, i < 16 → (∀ j, j < i → ¬ mm_gi h (w + 6 + j) 1 = 0) → mm_gi h (w + 6 + i) 1 = 0 → Q (.inl (some (.int (nI i)))) h) (hq0 : (∀ j, j < 16 → ¬ mm_gi h (w + 6 + j) 1 = 0) → Q (.inl (some (.int (-1)))) h) : mm_V G (0, 0) M_Wo_lowestEmpty Q 0 (mm_ent 2 [.ref w]) [] h := by
  show mm_V G (0, 0) M_Wo_lowestEmpty Q 0 [some (.ref w), none] [] h
  refine mv_iconst (v := 0) (pc := 0) d_Wo_lowestEmpty_0 (by decide) ?_
  refine mv_istore_n (pc := 1) d_Wo_lowestEmpty_1 (by decide) ?_
  exact l_lowest hw hq hq0 0 () (by omega) (fun j hj => absurd hj (by omega))
theorem nI_nm1 {i : Nat} (hi : i < 16) : ¬ nI i = -1 := fun z => by
  have h1 := nI_toInt (n := i) (by omega)
  rw [z] at h1
  have h2 : (-1 : Int32).toInt = -1 := by decide
  omega
set_option maxRecDepth 20000 in
theorem c_addThing {G : mm_G} {Q : mm_O → mm_H → Prop} {h : mm_H} {w : Nat} {x y : Int32} (hw : mm_Wd h w) (hq : ∀ i, i < 16 → (∀ j, j < i → ¬ mm_gi h (w + 6 + j) 1 = 0) → mm_gi h (w + 6 + i) 1 = 0 → Q (.inl (some (.int (nI i + 16 * mm_gi h (w + 6 + i) 0)))) (mm_settle h (w + 6 + i) x y)) (hq0 : (∀ j, j < 16 → ¬ mm_gi h (w + 6 + j) 1 = 0) → Q (.inl (some (.int (-1)))) h) : mm_V G (2, 44) M_Wo_addThing Q 0 (mm_ent 4 [.ref w, .int x, .int y]) [] h := by
  show mm_V G (2, 44) M_Wo_addThing Q 0 [some (.ref w), some (.int x), some (.int y), none] [] h
  refine mv_aload_n (pc := 0) d_Wo_addThing_0 rfl ?_
  refine mr_callV0 (pc := 1) d_Wo_addThing_1 (d2 := (0, 0)) ok_Wo_lowestEmpty li_Wo_45 sv_Wo_lowestEmpty hw.1 ⟨by decide, rfl⟩ ⟨by decide, Nat.le_of_ble_eq_true rfl, rfl, by decide, by decide⟩ ?_
  refine c_lowestEmpty hw (fun i hi hlow hz => ?_) (fun hall => ?_)
  · refine mv_istore_n (pc := 4) d_Wo_addThing_4 (by decide) ?_
    refine mv_iload_n (pc := 5) d_Wo_addThing_5 rfl ?_
    refine mv_iconst (v := -1) (pc := 6) d_Wo_addThing_6 (by decide) ?_
    refine mv_ic_ne 12 (pc := 7) d_Wo_addThing_7 (by decide) (fun h7 => ?_) (fun z => absurd z (nI_nm1 hi))
    refine mv_aload_n (pc := 12) d_Wo_addThing_12 rfl ?_
    refine mr_getr (pc := 13) d_Wo_addThing_13 fl_Wo_11 hw.1 rfl (by decide) hw.2.2.2.2.2.1 ?_
    refine mv_iload_n (pc := 16) d_Wo_addThing_16 rfl ?_
    refine mr_aald (pc := 17) d_Wo_addThing_17 hw.2.1 (mm_in16 hi) (hw.sl hi) ?_
    refine mv_iload_n (pc := 18) d_Wo_addThing_18 rfl ?_
    refine mv_iload_n (pc := 19) d_Wo_addThing_19 rfl ?_
    refine mr_callV2 (pc := 20) d_Wo_addThing_20 (d2 := (1, 22)) ok_Sl_settle li_Wo_49 sv_Sl_settle (hw.at_ hi) ⟨by decide, rfl⟩ ⟨by decide, rfl, rfl, Nat.le_of_ble_eq_true rfl, rfl, by decide, by decide⟩ ?_
    refine c_settle (hw.at_ hi) ?_
    refine mv_aload_n (pc := 23) d_Wo_addThing_23 rfl ?_
    refine mv_iload_n (pc := 24) d_Wo_addThing_24 rfl ?_
    refine mr_callV1 (pc := 25) d_Wo_addThing_25 (d2 := (0, 0)) ok_Wo_handleIn li_Wo_53 sv_Wo_handleIn hw.1 ⟨by decide, rfl⟩ ⟨by decide, rfl, Nat.le_of_ble_eq_true rfl, rfl, by decide, by decide⟩ ?_
    refine c_handleIn hw hi ?_
    refine mv_iret (pc := 28) d_Wo_addThing_28 rfl rfl ?_
    have e : mm_gi (mm_settle h (w + 6 + i) x y) (w + 6 + i) 0 = mm_gi h (w + 6 + i) 0 := by simp [mm_settle, mm_gsi]
    rw [e]
    exact hq i hi hlow hz
  · refine mv_istore_n (pc := 4) d_Wo_addThing_4 (by decide) ?_
    refine mv_iload_n (pc := 5) d_Wo_addThing_5 rfl ?_
    refine mv_iconst (v := -1) (pc := 6) d_Wo_addThing_6 (by decide) ?_
    refine mv_ic_ne 12 (pc := 7) d_Wo_addThing_7 (by decide) (fun z => absurd z (fun z => z rfl)) (fun h7 => ?_)
    refine mv_iconst (v := -1) (pc := 10) d_Wo_addThing_10 (by decide) ?_
    refine mv_iret (pc := 11) d_Wo_addThing_11 rfl rfl ?_
    exact hq0 hall
theorem RC.rem {F F2 A : mm_W} {w i : Nat} (h : RC F w A) (hi : i < 16) (h1 : ∀ a k, a ≠ w + 2 → F2 a k = mm_u2 (mm_u2 F (w + 6 + i) 1 0) (w + 6 + i) 0 (F (w + 6 + i) 0 + 1 - (F (w + 6 + i) 0 + 1) / 65536 * 65536) a k)
    (h2 : ∀ p, p < 256 → F2 (w + 2) p = if p / 16 = i ∨ p % 16 = i then 0 else F (w + 2) p) : RC F2 w (a_rem A i) := by
  have hr1 : RC (mm_u2 (mm_u2 F (w + 6 + i) 1 0) (w + 6 + i) 0 (F (w + 6 + i) 0 + 1 - (F (w + 6 + i) 0 + 1) / 65536 * 65536)) w (a_put (a_put A 1 i 0) 0 i (A 0 i + 1 - (A 0 i + 1) / 65536 * 65536)) := by
    refine h.slot hi (fun a k ha => by simp [mm_u2, ha]) (fun k j hkj => ?_) ?_ ?_ (fun z => ?_)
    · unfold a_put; grind
    · simp [mm_u2, a_put, (h.2.1 i hi).1]
    · simp [mm_u2, a_put]
    · simp [a_put] at z
  refine hr1.touch (fun a k ha => h1 a k ha) (fun k j hk => ?_) (fun p hp => ?_)
  · unfold a_put a_rem; grind
  · rw [h2 p hp, h.2.2 p hp]; unfold a_rem; simp
set_option maxRecDepth 20000 in
theorem l_remove {G : mm_G} {Q : mm_O → mm_H → Prop} {h : mm_H} {w i : Nat} (hw : mm_Wd h w) (hi : i < 16) (F1 : mm_W) (hq : ∀ F', (∀ a k, a ≠ w + 2 → F' a k = F1 a k) → (∀ p, p < 256 → F' (w + 2) p = if p / 16 = i ∨ p % 16 = i then 0 else F1 (w + 2) p) → Q (.inl none) (mm_wi h F')) :
    ∀ (b : Nat) (F : mm_W), b ≤ 16 → (∀ a k, a ≠ w + 2 → F a k = F1 a k) ∧ (∀ p, p < 256 → F (w + 2) p = if (p / 16 = i ∧ p % 16 < b) ∨ (p % 16 = i ∧ p / 16 < b) then 0 else F1 (w + 2) p) → mm_V G (1, 21) M_Wo_removeThing Q 11 [some (.ref w), some (.int (nI i)), some (.int (nI b))] [] (mm_wi h F) := by
  refine mr_loop _ _ 16 (fun F hI => ?_) (fun b F hb hI ih => ?_)
  · refine mv_iload_n (pc := 11) d_Wo_removeThing_11 rfl ?_
    refine mv_bipush (v := 16) (pc := 12) d_Wo_removeThing_12 (by decide) ?_
    refine mv_ic_ge 45 (pc := 14) d_Wo_removeThing_14 (by decide) (fun h14 => ?_) (fun z => absurd z (mm_ge16))
    refine mv_ret (pc := 45) d_Wo_removeThing_45 rfl ?_
    refine hq F hI.1 (fun p hp => ?_)
    rw [hI.2 p hp]
    congr 1
    grind
  · refine mv_iload_n (pc := 11) d_Wo_removeThing_11 rfl ?_
    refine mv_bipush (v := 16) (pc := 12) d_Wo_removeThing_12 (by decide) ?_
    refine mv_ic_ge 45 (pc := 14) d_Wo_removeThing_14 (by decide) (fun z => absurd z (mm_lt16 hb)) (fun h14 => ?_)
    refine mv_aload_n (pc := 17) d_Wo_removeThing_17 rfl ?_
    refine mr_getr (pc := 18) d_Wo_removeThing_18 fl_Wo_17 hw.1 rfl (by decide) hw.2.2.2.2.2.2.1 ?_
    refine mv_iload_n (pc := 21) d_Wo_removeThing_21 rfl ?_
    refine mv_iload_n (pc := 22) d_Wo_removeThing_22 rfl ?_
    refine mr_callS2 (pc := 23) d_Wo_removeThing_23 (d2 := (0, 0)) ok_Ta_pairOf li_Wo_59 sv_Ta_pairOf ⟨by decide, rfl, rfl, Nat.le_of_ble_eq_true rfl, rfl, by decide, by decide⟩ ?_
    refine c_pairOf ?_
    rw [mm_pair]
    refine mv_iconst (v := 0) (pc := 26) d_Wo_removeThing_26 (by decide) ?_
    refine mr_zast (pc := 27) d_Wo_removeThing_27 hw.2.2.1 (mm_in256 (by omega)) ?_
    rw [nI_clamp (by omega), mm_nar0]
    refine mv_aload_n (pc := 28) d_Wo_removeThing_28 rfl ?_
    refine mr_getr (pc := 29) d_Wo_removeThing_29 fl_Wo_17 hw.1 rfl (by decide) hw.2.2.2.2.2.2.1 ?_
    refine mv_iload_n (pc := 32) d_Wo_removeThing_32 rfl ?_
    refine mv_iload_n (pc := 33) d_Wo_removeThing_33 rfl ?_
    refine mr_callS2 (pc := 34) d_Wo_removeThing_34 (d2 := (0, 0)) ok_Ta_pairOf li_Wo_59 sv_Ta_pairOf ⟨by decide, rfl, rfl, Nat.le_of_ble_eq_true rfl, rfl, by decide, by decide⟩ ?_
    refine c_pairOf ?_
    rw [mm_pair]
    refine mv_iconst (v := 0) (pc := 37) d_Wo_removeThing_37 (by decide) ?_
    refine mr_zast (pc := 38) d_Wo_removeThing_38 hw.2.2.1 (mm_in256 (by omega)) ?_
    rw [nI_clamp (by omega), mm_nar0]
    refine mv_iinc (pc := 39) d_Wo_removeThing_39 rfl rfl (by decide) ?_
    refine mv_goto 11 (pc := 42) d_Wo_removeThing_42 (by decide) ?_
    refine mm_V_ls (ls' := [some (.ref w), some (.int (nI i)), some (.int (nI (b + 1)))]) (by simp only [List.set]; rw [nI_succ]; rfl) (ih _ ⟨fun a k ha => ?_, fun p hp => ?_⟩)
    · simp [mm_u2, mm_usi, mm_uwi, ha, hI.1 a k ha]
    · have hP := hI.2 p hp
      simp only [mm_u2, mm_usi, mm_uwi, true_and]
      by_cases e1 : p = b * 16 + i
      · rw [if_pos e1, if_pos (by omega)]
      · rw [if_neg e1]
        by_cases e2 : p = i * 16 + b
        · rw [if_pos e2, if_pos (by omega)]
        · rw [if_neg e2, hP]
          congr 1
          exact propext (by omega)
set_option maxRecDepth 20000 in
theorem c_removeThing {G : mm_G} {Q : mm_O → mm_H → Prop} {h : mm_H} {w i : Nat} {A : mm_W} (hw : mm_Wd h w) (hi : i < 16) (hR : RC (mm_gi h) w A) (hq : ∀ F', RC F' w (a_rem A i) → mm_wfr w (mm_gi h) F' → mm_efr w (mm_gi h) F' → Q (.inl none) (mm_wi h F')) : mm_V G (1, 21) M_Wo_removeThing Q 0 (mm_ent 3 [.ref w, .int (nI i)]) [] h := by
  show mm_V G (1, 21) M_Wo_removeThing Q 0 [some (.ref w), some (.int (nI i)), none] [] h
  refine mv_aload_n (pc := 0) d_Wo_removeThing_0 rfl ?_
  refine mr_getr (pc := 1) d_Wo_removeThing_1 fl_Wo_11 hw.1 rfl (by decide) hw.2.2.2.2.2.1 ?_
  refine mv_iload_n (pc := 4) d_Wo_removeThing_4 rfl ?_
  refine mr_aald (pc := 5) d_Wo_removeThing_5 hw.2.1 (mm_in16 hi) (hw.sl hi) ?_
  refine mr_callV0 (pc := 6) d_Wo_removeThing_6 (d2 := (0, 0)) ok_Sl_vacate li_Wo_56 sv_Sl_vacate (hw.at_ hi) ⟨by decide, rfl⟩ ⟨by decide, Nat.le_of_ble_eq_true rfl, rfl, by decide, by decide⟩ ?_
  refine c_vacate (hw.at_ hi) ?_
  refine mv_iconst (v := 0) (pc := 9) d_Wo_removeThing_9 (by decide) ?_
  refine mv_istore_n (pc := 10) d_Wo_removeThing_10 (by decide) ?_
  refine l_remove hw hi (mm_u2 (mm_u2 (mm_gi h) (w + 6 + i) 1 0) (w + 6 + i) 0 (mm_gi h (w + 6 + i) 0 + 1 - (mm_gi h (w + 6 + i) 0 + 1) / 65536 * 65536)) (fun F' h1 h2 => hq F' (hR.rem hi h1 (fun p hp => ?_)) (fun a k ha => ?_) (fun a k ha => ?_)) 0 _ (by omega) ⟨fun a k ha => rfl, fun p hp => ?_⟩
  · rw [h2 p hp]; have hne : ¬ (w + 2 = w + 6 + i) := by omega
    simp [mm_u2, hne]
  · rw [h1 a k (by omega)]; have hne : ¬ (a = w + 6 + i) := by omega
    simp [mm_u2, hne]
  · rw [h1 a k (by omega)]; have hne : ¬ (a = w + 6 + i) := by omega
    simp [mm_u2, hne]
  · simp; rfl
set_option maxRecDepth 20000 in
theorem l_forget {G : mm_G} {Q : mm_O → mm_H → Prop} {h : mm_H} {w : Nat} (hw : mm_Wd h w) (F1 : mm_W) (hq : ∀ F', (∀ a k, a ≠ w + 2 → F' a k = F1 a k) → (∀ p, p < 256 → F' (w + 2) p = 0) → Q (.inl none) (mm_wi h F')) :
    ∀ (b : Nat) (F : mm_W), b ≤ 256 → (∀ a k, a ≠ w + 2 → F a k = F1 a k) ∧ (∀ p, p < b → F (w + 2) p = 0) → mm_V G (0, 0) M_Wo_forgetTouching Q 2 [some (.ref w), some (.int (nI b))] [] (mm_wi h F) := by
  refine mr_loop _ _ 256 (fun F hI => ?_) (fun b F hb hI ih => ?_)
  · refine mv_iload_n (pc := 2) d_Wo_forgetTouching_2 rfl ?_
    refine mv_sipush (v := 256) (pc := 3) d_Wo_forgetTouching_3 (by decide) ?_
    refine mv_ic_ge 22 (pc := 6) d_Wo_forgetTouching_6 (by decide) (fun h6 => ?_) (fun z => absurd z (mm_ge256))
    refine mv_ret (pc := 22) d_Wo_forgetTouching_22 rfl ?_
    exact hq F hI.1 hI.2
  · refine mv_iload_n (pc := 2) d_Wo_forgetTouching_2 rfl ?_
    refine mv_sipush (v := 256) (pc := 3) d_Wo_forgetTouching_3 (by decide) ?_
    refine mv_ic_ge 22 (pc := 6) d_Wo_forgetTouching_6 (by decide) (fun z => absurd z (mm_lt256 hb)) (fun h6 => ?_)
    refine mv_aload_n (pc := 9) d_Wo_forgetTouching_9 rfl ?_
    refine mr_getr (pc := 10) d_Wo_forgetTouching_10 fl_Wo_17 hw.1 rfl (by decide) hw.2.2.2.2.2.2.1 ?_
    refine mv_iload_n (pc := 13) d_Wo_forgetTouching_13 rfl ?_
    refine mv_iconst (v := 0) (pc := 14) d_Wo_forgetTouching_14 (by decide) ?_
    refine mr_zast (pc := 15) d_Wo_forgetTouching_15 hw.2.2.1 (mm_in256 hb) ?_
    rw [nI_clamp (by omega), mm_nar0]
    refine mv_iinc (pc := 16) d_Wo_forgetTouching_16 rfl rfl (by decide) ?_
    refine mv_goto 2 (pc := 19) d_Wo_forgetTouching_19 (by decide) ?_
    refine mm_V_ls (ls' := [some (.ref w), some (.int (nI (b + 1)))]) (by simp only [List.set]; rw [nI_succ]; rfl) (ih _ ⟨fun a k ha => ?_, fun p hp => ?_⟩)
    · simp [mm_u2, mm_usi, mm_uwi, ha, hI.1 a k ha]
    · by_cases e1 : p = b
      · simp [mm_u2, e1]
      · simp [mm_u2, mm_usi, mm_uwi, e1, hI.2 p (by omega)]
set_option maxRecDepth 20000 in
theorem c_forget {G : mm_G} {Q : mm_O → mm_H → Prop} {h : mm_H} {w : Nat} (hw : mm_Wd h w) (hq : ∀ F', (∀ a k, a ≠ w + 2 → F' a k = mm_gi h a k) → (∀ p, p < 256 → F' (w + 2) p = 0) → Q (.inl none) (mm_wi h F')) : mm_V G (0, 0) M_Wo_forgetTouching Q 0 (mm_ent 2 [.ref w]) [] h := by
  show mm_V G (0, 0) M_Wo_forgetTouching Q 0 [some (.ref w), none] [] h
  refine mv_iconst (v := 0) (pc := 0) d_Wo_forgetTouching_0 (by decide) ?_
  refine mv_istore_n (pc := 1) d_Wo_forgetTouching_1 (by decide) ?_
  exact l_forget hw (mm_gi h) hq 0 (mm_gi h) (by omega) ⟨fun _ _ _ => rfl, fun p hp => absurd hp (by omega)⟩
/-- how many of the first n places hold something -/
def a_cnt (T : Nat → Int32) : Nat → Nat
  | 0 => 0
  | n + 1 => a_cnt T n + (if T n = 0 then 0 else 1)
set_option maxRecDepth 20000 in
theorem l_count {G : mm_G} {Q : mm_O → mm_H → Prop} {h : mm_H} {w : Nat} (hw : mm_Wd h w) (hq : Q (.inl (some (.int (nI (a_cnt (mm_gi h (w + 2)) 256))))) h) :
    ∀ (b : Nat) (_ : Unit), b ≤ 256 → True → mm_V G (0, 0) M_Wo_countTouching Q 4 [some (.ref w), some (.int (nI (a_cnt (mm_gi h (w + 2)) b))), some (.int (nI b))] [] h := by
  refine mr_loop _ _ 256 (fun _ _ => ?_) (fun b _ hb _ ih => ?_)
  · refine mv_iload_n (pc := 4) d_Wo_countTouching_4 rfl ?_
    refine mv_sipush (v := 256) (pc := 5) d_Wo_countTouching_5 (by decide) ?_
    refine mv_ic_ge 29 (pc := 8) d_Wo_countTouching_8 (by decide) (fun h8 => ?_) (fun z => absurd z (mm_ge256))
    refine mv_iload_n (pc := 29) d_Wo_countTouching_29 rfl ?_
    refine mv_iret (pc := 30) d_Wo_countTouching_30 rfl rfl ?_
    exact hq
  · refine mv_iload_n (pc := 4) d_Wo_countTouching_4 rfl ?_
    refine mv_sipush (v := 256) (pc := 5) d_Wo_countTouching_5 (by decide) ?_
    refine mv_ic_ge 29 (pc := 8) d_Wo_countTouching_8 (by decide) (fun z => absurd z (mm_lt256 hb)) (fun h8 => ?_)
    refine mv_aload_n (pc := 11) d_Wo_countTouching_11 rfl ?_
    refine mr_getr (pc := 12) d_Wo_countTouching_12 fl_Wo_17 hw.1 rfl (by decide) hw.2.2.2.2.2.2.1 ?_
    refine mv_iload_n (pc := 15) d_Wo_countTouching_15 rfl ?_
    refine mr_zald (pc := 16) d_Wo_countTouching_16 hw.2.2.1 (mm_in256 hb) ?_
    rw [nI_clamp (by omega)]
    refine mv_if_eq 23 (pc := 17) d_Wo_countTouching_17 (by decide) (fun h17 => ?_) (fun h17 => ?_)
    · refine mv_iinc (pc := 23) d_Wo_countTouching_23 rfl rfl (by decide) ?_
      refine mv_goto 4 (pc := 26) d_Wo_countTouching_26 (by decide) ?_
      refine mm_V_ls (ls' := [some (.ref w), some (.int (nI (a_cnt (mm_gi h (w + 2)) (b + 1)))), some (.int (nI (b + 1)))]) ?_ (ih () trivial)
      simp only [List.set, a_cnt, h17, if_true, if_false]
      simp only [nI_succ, Nat.add_zero]
      rfl
    · refine mv_iinc (pc := 20) d_Wo_countTouching_20 rfl rfl (by decide) ?_
      refine mv_iinc (pc := 23) d_Wo_countTouching_23 rfl rfl (by decide) ?_
      refine mv_goto 4 (pc := 26) d_Wo_countTouching_26 (by decide) ?_
      refine mm_V_ls (ls' := [some (.ref w), some (.int (nI (a_cnt (mm_gi h (w + 2)) (b + 1)))), some (.int (nI (b + 1)))]) ?_ (ih () trivial)
      simp only [List.set, a_cnt, h17, if_true, if_false]
      simp only [nI_succ, Nat.add_zero]
      rfl
set_option maxRecDepth 20000 in
theorem c_countTouching {G : mm_G} {Q : mm_O → mm_H → Prop} {h : mm_H} {w : Nat} (hw : mm_Wd h w) (hq : Q (.inl (some (.int (nI (a_cnt (mm_gi h (w + 2)) 256))))) h) : mm_V G (0, 0) M_Wo_countTouching Q 0 (mm_ent 3 [.ref w]) [] h := by
  show mm_V G (0, 0) M_Wo_countTouching Q 0 [some (.ref w), none, none] [] h
  refine mv_iconst (v := 0) (pc := 0) d_Wo_countTouching_0 (by decide) ?_
  refine mv_istore_n (pc := 1) d_Wo_countTouching_1 (by decide) ?_
  refine mv_iconst (v := 0) (pc := 2) d_Wo_countTouching_2 (by decide) ?_
  refine mv_istore_n (pc := 3) d_Wo_countTouching_3 (by decide) ?_
  exact l_count hw hq 0 () (by omega) trivial
set_option maxRecDepth 20000 in
theorem c_isPair {G : mm_G} {Q : mm_O → mm_H → Prop} {h : mm_H} {w p : Nat} (hw : mm_Wd h w) (hp : p < 256) (hq1 : p / 16 < p % 16 ∧ ¬ mm_gi h (w + 6 + p / 16) 1 = 0 ∧ ¬ mm_gi h (w + 6 + p % 16) 1 = 0 → Q (.inl (some (.int 1))) h) (hq0 : ¬ (p / 16 < p % 16 ∧ ¬ mm_gi h (w + 6 + p / 16) 1 = 0 ∧ ¬ mm_gi h (w + 6 + p % 16) 1 = 0) → Q (.inl (some (.int 0))) h) : mm_V G (1, 20) M_Wo_isPairOfThings Q 0 (mm_ent 4 [.ref w, .int (nI p)]) [] h := by
  show mm_V G (1, 20) M_Wo_isPairOfThings Q 0 [some (.ref w), some (.int (nI p)), none, none] [] h
  refine mv_iload_n (pc := 0) d_Wo_isPairOfThings_0 rfl ?_
  refine mr_callS1 (pc := 1) d_Wo_isPairOfThings_1 (d2 := (0, 0)) ok_Ta_firstOf li_Wo_108 sv_Ta_firstOf ⟨by decide, rfl, Nat.le_of_ble_eq_true rfl, rfl, by decide, by decide⟩ ?_
  refine c_firstOf ?_
  rw [show nI p / 16 = nI (p / 16) from pk_div (d := 16) (by omega) (by decide) (by decide)]
  refine mv_istore_n (pc := 4) d_Wo_isPairOfThings_4 (by decide) ?_
  refine mv_iload_n (pc := 5) d_Wo_isPairOfThings_5 rfl ?_
  refine mr_callS1 (pc := 6) d_Wo_isPairOfThings_6 (d2 := (0, 0)) ok_Ta_secondOf li_Wo_111 sv_Ta_secondOf ⟨by decide, rfl, Nat.le_of_ble_eq_true rfl, rfl, by decide, by decide⟩ ?_
  refine c_secondOf ?_
  rw [show nI p - nI p / 16 * 16 = nI (p % 16) from pk_rem (d := 16) (by omega) (by decide) (by decide)]
  refine mv_istore_n (pc := 9) d_Wo_isPairOfThings_9 (by decide) ?_
  refine mv_iload_n (pc := 10) d_Wo_isPairOfThings_10 rfl ?_
  refine mv_iload_n (pc := 11) d_Wo_isPairOfThings_11 rfl ?_
  refine mv_ic_ge 43 (pc := 12) d_Wo_isPairOfThings_12 (by decide) (fun h12 => ?_) (fun h12 => ?_)
  · replace h12 : p % 16 ≤ p / 16 := (nI_leI (by omega) (by omega)).mp h12
    refine mv_iconst (v := 0) (pc := 43) d_Wo_isPairOfThings_43 (by decide) ?_
    refine mv_iret (pc := 44) d_Wo_isPairOfThings_44 rfl rfl ?_
    exact hq0 (by clear hq1 hq0; grind)
  · replace h12 : p / 16 < p % 16 := Nat.not_le.mp fun z => h12 (nI_le z (by omega))
    refine mv_aload_n (pc := 15) d_Wo_isPairOfThings_15 rfl ?_
    refine mr_getr (pc := 16) d_Wo_isPairOfThings_16 fl_Wo_11 hw.1 rfl (by decide) hw.2.2.2.2.2.1 ?_
    refine mv_iload_n (pc := 19) d_Wo_isPairOfThings_19 rfl ?_
    refine mr_aald (pc := 20) d_Wo_isPairOfThings_20 hw.2.1 (mm_in16 (i := p / 16) (by omega)) (hw.sl (i := p / 16) (by omega)) ?_
    refine mr_geti (pc := 21) d_Wo_isPairOfThings_21 fl_Wo_33 (hw.at_ (i := p / 16) (by omega)) rfl (by decide) ?_
    refine mv_if_eq 43 (pc := 24) d_Wo_isPairOfThings_24 (by decide) (fun h24 => ?_) (fun h24 => ?_)
    · refine mv_iconst (v := 0) (pc := 43) d_Wo_isPairOfThings_43 (by decide) ?_
      refine mv_iret (pc := 44) d_Wo_isPairOfThings_44 rfl rfl ?_
      exact hq0 (by clear hq1 hq0; grind)
    · refine mv_aload_n (pc := 27) d_Wo_isPairOfThings_27 rfl ?_
      refine mr_getr (pc := 28) d_Wo_isPairOfThings_28 fl_Wo_11 hw.1 rfl (by decide) hw.2.2.2.2.2.1 ?_
      refine mv_iload_n (pc := 31) d_Wo_isPairOfThings_31 rfl ?_
      refine mr_aald (pc := 32) d_Wo_isPairOfThings_32 hw.2.1 (mm_in16 (i := p % 16) (by omega)) (hw.sl (i := p % 16) (by omega)) ?_
      refine mr_geti (pc := 33) d_Wo_isPairOfThings_33 fl_Wo_33 (hw.at_ (i := p % 16) (by omega)) rfl (by decide) ?_
      refine mv_if_eq 43 (pc := 36) d_Wo_isPairOfThings_36 (by decide) (fun h36 => ?_) (fun h36 => ?_)
      · refine mv_iconst (v := 0) (pc := 43) d_Wo_isPairOfThings_43 (by decide) ?_
        refine mv_iret (pc := 44) d_Wo_isPairOfThings_44 rfl rfl ?_
        exact hq0 (by clear hq1 hq0; grind)
      · refine mv_iconst (v := 1) (pc := 39) d_Wo_isPairOfThings_39 (by decide) ?_
        refine mv_goto 44 (pc := 40) d_Wo_isPairOfThings_40 (by decide) ?_
        refine mv_iret (pc := 44) d_Wo_isPairOfThings_44 rfl rfl ?_
        exact hq1 (by clear hq1 hq0; grind)
