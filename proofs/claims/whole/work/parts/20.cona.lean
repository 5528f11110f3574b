/-! CONTRACTS: the static helpers of TickArena; Slot (rows by program: con_a.py, walk.py) -/
/-- other ints in the same heap -/
def mm_wi (h : mm_H) (F : Nat → Nat → Int32) : mm_H := (F, h.2)
theorem mm_gsi (h : mm_H) (a k : Nat) (x : Int32) (b j : Nat) : mm_gi (mm_si h a k x) b j = if b = a ∧ j = k then x else mm_gi h b j := rfl
theorem mm_gwi (h : mm_H) (F : Nat → Nat → Int32) (b j : Nat) : mm_gi (mm_wi h F) b j = F b j := rfl
theorem mm_usi (h : mm_H) (a k : Nat) (x : Int32) : (mm_si h a k x).1 = mm_u2 h.1 a k x := rfl
theorem mm_uwi (h : mm_H) (F : Nat → Nat → Int32) : (mm_wi h F).1 = F := rfl
theorem mm_g0 (h : mm_H) (b j : Nat) : h.1 b j = mm_gi h b j := rfl
set_option maxRecDepth 20000 in
theorem c_isWithin {G : mm_G} {Q : mm_O → mm_H → Prop} {h : mm_H} {x a b : Int32} (hq1 : a ≤ x ∧ x ≤ b → Q (.inl (some (.int 1))) h) (hq0 : ¬ (a ≤ x ∧ x ≤ b) → Q (.inl (some (.int 0))) h) : mm_V G (0, 0) M_Ta_isWithin Q 0 (mm_ent 3 [.int x, .int a, .int b]) [] h := by
  show mm_V G (0, 0) M_Ta_isWithin Q 0 [some (.int x), some (.int a), some (.int b)] [] h
  refine mv_iload_n (pc := 0) d_Ta_isWithin_0 rfl ?_
  refine mv_iload_n (pc := 1) d_Ta_isWithin_1 rfl ?_
  refine mv_ic_lt 14 (pc := 2) d_Ta_isWithin_2 (by decide) (fun h2 => ?_) (fun h2 => ?_)
  · refine mv_iconst (v := 0) (pc := 14) d_Ta_isWithin_14 (by decide) ?_
    refine mv_iret (pc := 15) d_Ta_isWithin_15 rfl rfl ?_
    exact hq0 (by clear hq1 hq0; grind)
  · refine mv_iload_n (pc := 5) d_Ta_isWithin_5 rfl ?_
    refine mv_iload_n (pc := 6) d_Ta_isWithin_6 rfl ?_
    refine mv_ic_gt 14 (pc := 7) d_Ta_isWithin_7 (by decide) (fun h7 => ?_) (fun h7 => ?_)
    · refine mv_iconst (v := 0) (pc := 14) d_Ta_isWithin_14 (by decide) ?_
      refine mv_iret (pc := 15) d_Ta_isWithin_15 rfl rfl ?_
      exact hq0 (by clear hq1 hq0; grind)
    · refine mv_iconst (v := 1) (pc := 10) d_Ta_isWithin_10 (by decide) ?_
      refine mv_goto 15 (pc := 11) d_Ta_isWithin_11 (by decide) ?_
      refine mv_iret (pc := 15) d_Ta_isWithin_15 rfl rfl ?_
      exact hq1 (by clear hq1 hq0; grind)
set_option maxRecDepth 20000 in
theorem c_isPlace {G : mm_G} {Q : mm_O → mm_H → Prop} {h : mm_H} {x y : Int32} (hq1 : (0 ≤ x ∧ x ≤ 4095) ∧ (0 ≤ y ∧ y ≤ 4095) → Q (.inl (some (.int 1))) h) (hq0 : ¬ ((0 ≤ x ∧ x ≤ 4095) ∧ (0 ≤ y ∧ y ≤ 4095)) → Q (.inl (some (.int 0))) h) : mm_V G (1, 22) M_Ta_isPlace Q 0 (mm_ent 2 [.int x, .int y]) [] h := by
  show mm_V G (1, 22) M_Ta_isPlace Q 0 [some (.int x), some (.int y)] [] h
  refine mv_iload_n (pc := 0) d_Ta_isPlace_0 rfl ?_
  refine mv_iconst (v := 0) (pc := 1) d_Ta_isPlace_1 (by decide) ?_
  refine mv_sipush (v := 4095) (pc := 2) d_Ta_isPlace_2 (by decide) ?_
  refine mr_callS3 (pc := 5) d_Ta_isPlace_5 (d2 := (0, 0)) ok_Ta_isWithin li_Ta_112 sv_Ta_isWithin ⟨by decide, rfl, rfl, rfl, Nat.le_of_ble_eq_true rfl, rfl, by decide, by decide⟩ ?_
  refine c_isWithin (fun hc5 => ?_) (fun hc5 => ?_)
  · refine mv_if_eq 26 (pc := 8) d_Ta_isPlace_8 (by decide) (fun z => absurd z (by decide)) (fun _ => ?_)
    refine mv_iload_n (pc := 11) d_Ta_isPlace_11 rfl ?_
    refine mv_iconst (v := 0) (pc := 12) d_Ta_isPlace_12 (by decide) ?_
    refine mv_sipush (v := 4095) (pc := 13) d_Ta_isPlace_13 (by decide) ?_
    refine mr_callS3 (pc := 16) d_Ta_isPlace_16 (d2 := (0, 0)) ok_Ta_isWithin li_Ta_112 sv_Ta_isWithin ⟨by decide, rfl, rfl, rfl, Nat.le_of_ble_eq_true rfl, rfl, by decide, by decide⟩ ?_
    refine c_isWithin (fun hc16 => ?_) (fun hc16 => ?_)
    · refine mv_if_eq 26 (pc := 19) d_Ta_isPlace_19 (by decide) (fun z => absurd z (by decide)) (fun _ => ?_)
      refine mv_iconst (v := 1) (pc := 22) d_Ta_isPlace_22 (by decide) ?_
      refine mv_goto 27 (pc := 23) d_Ta_isPlace_23 (by decide) ?_
      refine mv_iret (pc := 27) d_Ta_isPlace_27 rfl rfl ?_
      exact hq1 (by clear hq1 hq0; grind)
    · refine mv_if_eq 26 (pc := 19) d_Ta_isPlace_19 (by decide) (fun _ => ?_) (fun z => absurd z (by decide))
      refine mv_iconst (v := 0) (pc := 26) d_Ta_isPlace_26 (by decide) ?_
      refine mv_iret (pc := 27) d_Ta_isPlace_27 rfl rfl ?_
      exact hq0 (by clear hq1 hq0; grind)
  · refine mv_if_eq 26 (pc := 8) d_Ta_isPlace_8 (by decide) (fun _ => ?_) (fun z => absurd z (by decide))
    refine mv_iconst (v := 0) (pc := 26) d_Ta_isPlace_26 (by decide) ?_
    refine mv_iret (pc := 27) d_Ta_isPlace_27 rfl rfl ?_
    exact hq0 (by clear hq1 hq0; grind)
set_option maxRecDepth 20000 in
theorem c_isSpeed {G : mm_G} {Q : mm_O → mm_H → Prop} {h : mm_H} {x y : Int32} (hq1 : (-100 ≤ x ∧ x ≤ 100) ∧ (-100 ≤ y ∧ y ≤ 100) → Q (.inl (some (.int 1))) h) (hq0 : ¬ ((-100 ≤ x ∧ x ≤ 100) ∧ (-100 ≤ y ∧ y ≤ 100)) → Q (.inl (some (.int 0))) h) : mm_V G (1, 22) M_Ta_isSpeed Q 0 (mm_ent 2 [.int x, .int y]) [] h := by
  show mm_V G (1, 22) M_Ta_isSpeed Q 0 [some (.int x), some (.int y)] [] h
  refine mv_iload_n (pc := 0) d_Ta_isSpeed_0 rfl ?_
  refine mv_bipush (v := -100) (pc := 1) d_Ta_isSpeed_1 (by decide) ?_
  refine mv_bipush (v := 100) (pc := 3) d_Ta_isSpeed_3 (by decide) ?_
  refine mr_callS3 (pc := 5) d_Ta_isSpeed_5 (d2 := (0, 0)) ok_Ta_isWithin li_Ta_112 sv_Ta_isWithin ⟨by decide, rfl, rfl, rfl, Nat.le_of_ble_eq_true rfl, rfl, by decide, by decide⟩ ?_
  refine c_isWithin (fun hc5 => ?_) (fun hc5 => ?_)
  · refine mv_if_eq 26 (pc := 8) d_Ta_isSpeed_8 (by decide) (fun z => absurd z (by decide)) (fun _ => ?_)
    refine mv_iload_n (pc := 11) d_Ta_isSpeed_11 rfl ?_
    refine mv_bipush (v := -100) (pc := 12) d_Ta_isSpeed_12 (by decide) ?_
    refine mv_bipush (v := 100) (pc := 14) d_Ta_isSpeed_14 (by decide) ?_
    refine mr_callS3 (pc := 16) d_Ta_isSpeed_16 (d2 := (0, 0)) ok_Ta_isWithin li_Ta_112 sv_Ta_isWithin ⟨by decide, rfl, rfl, rfl, Nat.le_of_ble_eq_true rfl, rfl, by decide, by decide⟩ ?_
    refine c_isWithin (fun hc16 => ?_) (fun hc16 => ?_)
    · refine mv_if_eq 26 (pc := 19) d_Ta_isSpeed_19 (by decide) (fun z => absurd z (by decide)) (fun _ => ?_)
      refine mv_iconst (v := 1) (pc := 22) d_Ta_isSpeed_22 (by decide) ?_
      refine mv_goto 27 (pc := 23) d_Ta_isSpeed_23 (by decide) ?_
      refine mv_iret (pc := 27) d_Ta_isSpeed_27 rfl rfl ?_
      exact hq1 (by clear hq1 hq0; grind)
    · refine mv_if_eq 26 (pc := 19) d_Ta_isSpeed_19 (by decide) (fun _ => ?_) (fun z => absurd z (by decide))
      refine mv_iconst (v := 0) (pc := 26) d_Ta_isSpeed_26 (by decide) ?_
      refine mv_iret (pc := 27) d_Ta_isSpeed_27 rfl rfl ?_
      exact hq0 (by clear hq1 hq0; grind)
  · refine mv_if_eq 26 (pc := 8) d_Ta_isSpeed_8 (by decide) (fun _ => ?_) (fun z => absurd z (by decide))
    refine mv_iconst (v := 0) (pc := 26) d_Ta_isSpeed_26 (by decide) ?_
    refine mv_iret (pc := 27) d_Ta_isSpeed_27 rfl rfl ?_
    exact hq0 (by clear hq1 hq0; grind)
set_option maxRecDepth 20000 in
theorem c_isShape {G : mm_G} {Q : mm_O → mm_H → Prop} {h : mm_H} {x y : Int32} (hq1 : (1 ≤ x ∧ x ≤ 200) ∧ (1 ≤ y ∧ y ≤ 200) → Q (.inl (some (.int 1))) h) (hq0 : ¬ ((1 ≤ x ∧ x ≤ 200) ∧ (1 ≤ y ∧ y ≤ 200)) → Q (.inl (some (.int 0))) h) : mm_V G (1, 22) M_Ta_isShape Q 0 (mm_ent 2 [.int x, .int y]) [] h := by
  show mm_V G (1, 22) M_Ta_isShape Q 0 [some (.int x), some (.int y)] [] h
  refine mv_iload_n (pc := 0) d_Ta_isShape_0 rfl ?_
  refine mv_iconst (v := 1) (pc := 1) d_Ta_isShape_1 (by decide) ?_
  refine mv_sipush (v := 200) (pc := 2) d_Ta_isShape_2 (by decide) ?_
  refine mr_callS3 (pc := 5) d_Ta_isShape_5 (d2 := (0, 0)) ok_Ta_isWithin li_Ta_112 sv_Ta_isWithin ⟨by decide, rfl, rfl, rfl, Nat.le_of_ble_eq_true rfl, rfl, by decide, by decide⟩ ?_
  refine c_isWithin (fun hc5 => ?_) (fun hc5 => ?_)
  · refine mv_if_eq 26 (pc := 8) d_Ta_isShape_8 (by decide) (fun z => absurd z (by decide)) (fun _ => ?_)
    refine mv_iload_n (pc := 11) d_Ta_isShape_11 rfl ?_
    refine mv_iconst (v := 1) (pc := 12) d_Ta_isShape_12 (by decide) ?_
    refine mv_sipush (v := 200) (pc := 13) d_Ta_isShape_13 (by decide) ?_
    refine mr_callS3 (pc := 16) d_Ta_isShape_16 (d2 := (0, 0)) ok_Ta_isWithin li_Ta_112 sv_Ta_isWithin ⟨by decide, rfl, rfl, rfl, Nat.le_of_ble_eq_true rfl, rfl, by decide, by decide⟩ ?_
    refine c_isWithin (fun hc16 => ?_) (fun hc16 => ?_)
    · refine mv_if_eq 26 (pc := 19) d_Ta_isShape_19 (by decide) (fun z => absurd z (by decide)) (fun _ => ?_)
      refine mv_iconst (v := 1) (pc := 22) d_Ta_isShape_22 (by decide) ?_
      refine mv_goto 27 (pc := 23) d_Ta_isShape_23 (by decide) ?_
      refine mv_iret (pc := 27) d_Ta_isShape_27 rfl rfl ?_
      exact hq1 (by clear hq1 hq0; grind)
    · refine mv_if_eq 26 (pc := 19) d_Ta_isShape_19 (by decide) (fun _ => ?_) (fun z => absurd z (by decide))
      refine mv_iconst (v := 0) (pc := 26) d_Ta_isShape_26 (by decide) ?_
      refine mv_iret (pc := 27) d_Ta_isShape_27 rfl rfl ?_
      exact hq0 (by clear hq1 hq0; grind)
  · refine mv_if_eq 26 (pc := 8) d_Ta_isShape_8 (by decide) (fun _ => ?_) (fun z => absurd z (by decide))
    refine mv_iconst (v := 0) (pc := 26) d_Ta_isShape_26 (by decide) ?_
    refine mv_iret (pc := 27) d_Ta_isShape_27 rfl rfl ?_
    exact hq0 (by clear hq1 hq0; grind)
set_option maxRecDepth 20000 in
theorem c_isShapeOrNone {G : mm_G} {Q : mm_O → mm_H → Prop} {h : mm_H} {x y : Int32} (hq1 : (x = 0 ∧ y = 0) ∨ ((1 ≤ x ∧ x ≤ 200) ∧ (1 ≤ y ∧ y ≤ 200)) → Q (.inl (some (.int 1))) h) (hq0 : ¬ ((x = 0 ∧ y = 0) ∨ ((1 ≤ x ∧ x ≤ 200) ∧ (1 ≤ y ∧ y ≤ 200))) → Q (.inl (some (.int 0))) h) : mm_V G (2, 43) M_Ta_isShapeOrNone Q 0 (mm_ent 2 [.int x, .int y]) [] h := by
  show mm_V G (2, 43) M_Ta_isShapeOrNone Q 0 [some (.int x), some (.int y)] [] h
  refine mv_iload_n (pc := 0) d_Ta_isShapeOrNone_0 rfl ?_
  refine mv_if_ne 8 (pc := 1) d_Ta_isShapeOrNone_1 (by decide) (fun h1 => ?_) (fun h1 => ?_)
  · refine mv_iload_n (pc := 8) d_Ta_isShapeOrNone_8 rfl ?_
    refine mv_iload_n (pc := 9) d_Ta_isShapeOrNone_9 rfl ?_
    refine mr_callS2 (pc := 10) d_Ta_isShapeOrNone_10 (d2 := (1, 22)) ok_Ta_isShape li_Ta_225 sv_Ta_isShape ⟨by decide, rfl, rfl, Nat.le_of_ble_eq_true rfl, rfl, by decide, by decide⟩ ?_
    refine c_isShape (fun hc10 => ?_) (fun hc10 => ?_)
    · refine mv_if_eq 20 (pc := 13) d_Ta_isShapeOrNone_13 (by decide) (fun z => absurd z (by decide)) (fun _ => ?_)
      refine mv_iconst (v := 1) (pc := 16) d_Ta_isShapeOrNone_16 (by decide) ?_
      refine mv_goto 21 (pc := 17) d_Ta_isShapeOrNone_17 (by decide) ?_
      refine mv_iret (pc := 21) d_Ta_isShapeOrNone_21 rfl rfl ?_
      exact hq1 (by clear hq1 hq0; grind)
    · refine mv_if_eq 20 (pc := 13) d_Ta_isShapeOrNone_13 (by decide) (fun _ => ?_) (fun z => absurd z (by decide))
      refine mv_iconst (v := 0) (pc := 20) d_Ta_isShapeOrNone_20 (by decide) ?_
      refine mv_iret (pc := 21) d_Ta_isShapeOrNone_21 rfl rfl ?_
      exact hq0 (by clear hq1 hq0; grind)
  · refine mv_iload_n (pc := 4) d_Ta_isShapeOrNone_4 rfl ?_
    refine mv_if_eq 16 (pc := 5) d_Ta_isShapeOrNone_5 (by decide) (fun h5 => ?_) (fun h5 => ?_)
    · refine mv_iconst (v := 1) (pc := 16) d_Ta_isShapeOrNone_16 (by decide) ?_
      refine mv_goto 21 (pc := 17) d_Ta_isShapeOrNone_17 (by decide) ?_
      refine mv_iret (pc := 21) d_Ta_isShapeOrNone_21 rfl rfl ?_
      exact hq1 (by clear hq1 hq0; grind)
    · refine mv_iload_n (pc := 8) d_Ta_isShapeOrNone_8 rfl ?_
      refine mv_iload_n (pc := 9) d_Ta_isShapeOrNone_9 rfl ?_
      refine mr_callS2 (pc := 10) d_Ta_isShapeOrNone_10 (d2 := (1, 22)) ok_Ta_isShape li_Ta_225 sv_Ta_isShape ⟨by decide, rfl, rfl, Nat.le_of_ble_eq_true rfl, rfl, by decide, by decide⟩ ?_
      refine c_isShape (fun hc10 => ?_) (fun hc10 => ?_)
      · refine mv_if_eq 20 (pc := 13) d_Ta_isShapeOrNone_13 (by decide) (fun z => absurd z (by decide)) (fun _ => ?_)
        refine mv_iconst (v := 1) (pc := 16) d_Ta_isShapeOrNone_16 (by decide) ?_
        refine mv_goto 21 (pc := 17) d_Ta_isShapeOrNone_17 (by decide) ?_
        refine mv_iret (pc := 21) d_Ta_isShapeOrNone_21 rfl rfl ?_
        exact hq1 (by clear hq1 hq0; grind)
      · refine mv_if_eq 20 (pc := 13) d_Ta_isShapeOrNone_13 (by decide) (fun _ => ?_) (fun z => absurd z (by decide))
        refine mv_iconst (v := 0) (pc := 20) d_Ta_isShapeOrNone_20 (by decide) ?_
        refine mv_iret (pc := 21) d_Ta_isShapeOrNone_21 rfl rfl ?_
        exact hq0 (by clear hq1 hq0; grind)
set_option maxRecDepth 20000 in
theorem c_isTimer {G : mm_G} {Q : mm_O → mm_H → Prop} {h : mm_H} {x : Int32} (hq1 : 1 ≤ x ∧ x ≤ 60000 → Q (.inl (some (.int 1))) h) (hq0 : ¬ (1 ≤ x ∧ x ≤ 60000) → Q (.inl (some (.int 0))) h) : mm_V G (1, 22) M_Ta_isTimer Q 0 (mm_ent 1 [.int x]) [] h := by
  show mm_V G (1, 22) M_Ta_isTimer Q 0 [some (.int x)] [] h
  refine mv_iload_n (pc := 0) d_Ta_isTimer_0 rfl ?_
  refine mv_iconst (v := 1) (pc := 1) d_Ta_isTimer_1 (by decide) ?_
  refine mv_ldc (pc := 2) d_Ta_isTimer_2 lc_Ta_228 ?_
  refine mr_callS3 (pc := 4) d_Ta_isTimer_4 (d2 := (0, 0)) ok_Ta_isWithin li_Ta_112 sv_Ta_isWithin ⟨by decide, rfl, rfl, rfl, Nat.le_of_ble_eq_true rfl, rfl, by decide, by decide⟩ ?_
  refine c_isWithin (fun hc4 => ?_) (fun hc4 => ?_)
  · refine mv_iret (pc := 7) d_Ta_isTimer_7 rfl rfl ?_
    exact hq1 (by clear hq1 hq0; grind)
  · refine mv_iret (pc := 7) d_Ta_isTimer_7 rfl rfl ?_
    exact hq0 (by clear hq1 hq0; grind)
set_option maxRecDepth 20000 in
theorem c_isTimerOrNone {G : mm_G} {Q : mm_O → mm_H → Prop} {h : mm_H} {x : Int32} (hq1 : x = 0 ∨ (1 ≤ x ∧ x ≤ 60000) → Q (.inl (some (.int 1))) h) (hq0 : ¬ (x = 0 ∨ (1 ≤ x ∧ x ≤ 60000)) → Q (.inl (some (.int 0))) h) : mm_V G (2, 42) M_Ta_isTimerOrNone Q 0 (mm_ent 1 [.int x]) [] h := by
  show mm_V G (2, 42) M_Ta_isTimerOrNone Q 0 [some (.int x)] [] h
  refine mv_iload_n (pc := 0) d_Ta_isTimerOrNone_0 rfl ?_
  refine mv_if_eq 11 (pc := 1) d_Ta_isTimerOrNone_1 (by decide) (fun h1 => ?_) (fun h1 => ?_)
  · refine mv_iconst (v := 1) (pc := 11) d_Ta_isTimerOrNone_11 (by decide) ?_
    refine mv_goto 16 (pc := 12) d_Ta_isTimerOrNone_12 (by decide) ?_
    refine mv_iret (pc := 16) d_Ta_isTimerOrNone_16 rfl rfl ?_
    exact hq1 (by clear hq1 hq0; grind)
  · refine mv_iload_n (pc := 4) d_Ta_isTimerOrNone_4 rfl ?_
    refine mr_callS1 (pc := 5) d_Ta_isTimerOrNone_5 (d2 := (1, 22)) ok_Ta_isTimer li_Ta_229 sv_Ta_isTimer ⟨by decide, rfl, Nat.le_of_ble_eq_true rfl, rfl, by decide, by decide⟩ ?_
    refine c_isTimer (fun hc5 => ?_) (fun hc5 => ?_)
    · refine mv_if_eq 15 (pc := 8) d_Ta_isTimerOrNone_8 (by decide) (fun z => absurd z (by decide)) (fun _ => ?_)
      refine mv_iconst (v := 1) (pc := 11) d_Ta_isTimerOrNone_11 (by decide) ?_
      refine mv_goto 16 (pc := 12) d_Ta_isTimerOrNone_12 (by decide) ?_
      refine mv_iret (pc := 16) d_Ta_isTimerOrNone_16 rfl rfl ?_
      exact hq1 (by clear hq1 hq0; grind)
    · refine mv_if_eq 15 (pc := 8) d_Ta_isTimerOrNone_8 (by decide) (fun _ => ?_) (fun z => absurd z (by decide))
      refine mv_iconst (v := 0) (pc := 15) d_Ta_isTimerOrNone_15 (by decide) ?_
      refine mv_iret (pc := 16) d_Ta_isTimerOrNone_16 rfl rfl ?_
      exact hq0 (by clear hq1 hq0; grind)
set_option maxRecDepth 20000 in
theorem c_areCloser {G : mm_G} {Q : mm_O → mm_H → Prop} {h : mm_H} {x y z : Int32} (hq1 : x - y < z ∧ y - x < z → Q (.inl (some (.int 1))) h) (hq0 : ¬ (x - y < z ∧ y - x < z) → Q (.inl (some (.int 0))) h) : mm_V G (0, 0) M_Ta_areCloser Q 0 (mm_ent 3 [.int x, .int y, .int z]) [] h := by
  show mm_V G (0, 0) M_Ta_areCloser Q 0 [some (.int x), some (.int y), some (.int z)] [] h
  refine mv_iload_n (pc := 0) d_Ta_areCloser_0 rfl ?_
  refine mv_iload_n (pc := 1) d_Ta_areCloser_1 rfl ?_
  refine mv_isub (pc := 2) d_Ta_areCloser_2 ?_
  refine mv_iload_n (pc := 3) d_Ta_areCloser_3 rfl ?_
  refine mv_ic_ge 18 (pc := 4) d_Ta_areCloser_4 (by decide) (fun h4 => ?_) (fun h4 => ?_)
  · refine mv_iconst (v := 0) (pc := 18) d_Ta_areCloser_18 (by decide) ?_
    refine mv_iret (pc := 19) d_Ta_areCloser_19 rfl rfl ?_
    exact hq0 (by clear hq1 hq0; grind)
  · refine mv_iload_n (pc := 7) d_Ta_areCloser_7 rfl ?_
    refine mv_iload_n (pc := 8) d_Ta_areCloser_8 rfl ?_
    refine mv_isub (pc := 9) d_Ta_areCloser_9 ?_
    refine mv_iload_n (pc := 10) d_Ta_areCloser_10 rfl ?_
    refine mv_ic_ge 18 (pc := 11) d_Ta_areCloser_11 (by decide) (fun h11 => ?_) (fun h11 => ?_)
    · refine mv_iconst (v := 0) (pc := 18) d_Ta_areCloser_18 (by decide) ?_
      refine mv_iret (pc := 19) d_Ta_areCloser_19 rfl rfl ?_
      exact hq0 (by clear hq1 hq0; grind)
    · refine mv_iconst (v := 1) (pc := 14) d_Ta_areCloser_14 (by decide) ?_
      refine mv_goto 19 (pc := 15) d_Ta_areCloser_15 (by decide) ?_
      refine mv_iret (pc := 19) d_Ta_areCloser_19 rfl rfl ?_
      exact hq1 (by clear hq1 hq0; grind)
set_option maxRecDepth 20000 in
theorem c_slotNumber {G : mm_G} {Q : mm_O → mm_H → Prop} {h : mm_H} {x : Int32} (hq : Q (.inl (some (.int (x &&& 15)))) h) : mm_V G (0, 0) M_Ta_slotNumber Q 0 (mm_ent 1 [.int x]) [] h := by
  show mm_V G (0, 0) M_Ta_slotNumber Q 0 [some (.int x)] [] h
  refine mv_iload_n (pc := 0) d_Ta_slotNumber_0 rfl ?_
  refine mv_bipush (v := 15) (pc := 1) d_Ta_slotNumber_1 (by decide) ?_
  refine mv_iand (pc := 3) d_Ta_slotNumber_3 ?_
  refine mv_iret (pc := 4) d_Ta_slotNumber_4 rfl rfl ?_
  exact hq
set_option maxRecDepth 20000 in
theorem c_pairOf {G : mm_G} {Q : mm_O → mm_H → Prop} {h : mm_H} {x y : Int32} (hq : Q (.inl (some (.int (x * 16 + y)))) h) : mm_V G (0, 0) M_Ta_pairOf Q 0 (mm_ent 2 [.int x, .int y]) [] h := by
  show mm_V G (0, 0) M_Ta_pairOf Q 0 [some (.int x), some (.int y)] [] h
  refine mv_iload_n (pc := 0) d_Ta_pairOf_0 rfl ?_
  refine mv_bipush (v := 16) (pc := 1) d_Ta_pairOf_1 (by decide) ?_
  refine mv_imul (pc := 3) d_Ta_pairOf_3 ?_
  refine mv_iload_n (pc := 4) d_Ta_pairOf_4 rfl ?_
  refine mv_iadd (pc := 5) d_Ta_pairOf_5 ?_
  refine mv_iret (pc := 6) d_Ta_pairOf_6 rfl rfl ?_
  exact hq
set_option maxRecDepth 20000 in
theorem c_firstOf {G : mm_G} {Q : mm_O → mm_H → Prop} {h : mm_H} {x : Int32} (hq : Q (.inl (some (.int (x / 16)))) h) : mm_V G (0, 0) M_Ta_firstOf Q 0 (mm_ent 1 [.int x]) [] h := by
  show mm_V G (0, 0) M_Ta_firstOf Q 0 [some (.int x)] [] h
  refine mv_iload_n (pc := 0) d_Ta_firstOf_0 rfl ?_
  refine mv_bipush (v := 16) (pc := 1) d_Ta_firstOf_1 (by decide) ?_
  refine mv_idiv (pc := 3) d_Ta_firstOf_3 (by decide) ?_
  refine mv_iret (pc := 4) d_Ta_firstOf_4 rfl rfl ?_
  exact hq
set_option maxRecDepth 20000 in
theorem c_secondOf {G : mm_G} {Q : mm_O → mm_H → Prop} {h : mm_H} {x : Int32} (hq : Q (.inl (some (.int (x - x / 16 * 16)))) h) : mm_V G (0, 0) M_Ta_secondOf Q 0 (mm_ent 1 [.int x]) [] h := by
  show mm_V G (0, 0) M_Ta_secondOf Q 0 [some (.int x)] [] h
  refine mv_iload_n (pc := 0) d_Ta_secondOf_0 rfl ?_
  refine mv_bipush (v := 16) (pc := 1) d_Ta_secondOf_1 (by decide) ?_
  refine mv_irem (pc := 3) d_Ta_secondOf_3 (by decide) ?_
  refine mv_iret (pc := 4) d_Ta_secondOf_4 rfl rfl ?_
  exact hq
set_option maxRecDepth 20000 in
theorem c_setSpeed {G : mm_G} {Q : mm_O → mm_H → Prop} {h : mm_H} {a : Nat} {x y : Int32} (ha : mm_at h a 3 9) (hq : Q (.inl none) (mm_si (mm_si h a 4 x) a 5 y)) : mm_V G (0, 0) M_Sl_setSpeed Q 0 (mm_ent 3 [.ref a, .int x, .int y]) [] h := by
  show mm_V G (0, 0) M_Sl_setSpeed Q 0 [some (.ref a), some (.int x), some (.int y)] [] h
  refine mv_aload_n (pc := 0) d_Sl_setSpeed_0 rfl ?_
  refine mv_iload_n (pc := 1) d_Sl_setSpeed_1 rfl ?_
  refine mr_puti (pc := 2) d_Sl_setSpeed_2 fl_Sl_36 ha rfl (by decide) ⟨rfl, rfl⟩ ?_
  refine mv_aload_n (pc := 5) d_Sl_setSpeed_5 rfl ?_
  refine mv_iload_n (pc := 6) d_Sl_setSpeed_6 rfl ?_
  refine mr_puti (pc := 7) d_Sl_setSpeed_7 fl_Sl_39 ha rfl (by decide) ⟨rfl, rfl⟩ ?_
  refine mv_ret (pc := 10) d_Sl_setSpeed_10 rfl ?_
  exact hq
set_option maxRecDepth 20000 in
theorem c_setShape {G : mm_G} {Q : mm_O → mm_H → Prop} {h : mm_H} {a : Nat} {x y : Int32} (ha : mm_at h a 3 9) (hq : Q (.inl none) (mm_si (mm_si h a 6 x) a 7 y)) : mm_V G (0, 0) M_Sl_setShape Q 0 (mm_ent 3 [.ref a, .int x, .int y]) [] h := by
  show mm_V G (0, 0) M_Sl_setShape Q 0 [some (.ref a), some (.int x), some (.int y)] [] h
  refine mv_aload_n (pc := 0) d_Sl_setShape_0 rfl ?_
  refine mv_iload_n (pc := 1) d_Sl_setShape_1 rfl ?_
  refine mr_puti (pc := 2) d_Sl_setShape_2 fl_Sl_42 ha rfl (by decide) ⟨rfl, rfl⟩ ?_
  refine mv_aload_n (pc := 5) d_Sl_setShape_5 rfl ?_
  refine mv_iload_n (pc := 6) d_Sl_setShape_6 rfl ?_
  refine mr_puti (pc := 7) d_Sl_setShape_7 fl_Sl_45 ha rfl (by decide) ⟨rfl, rfl⟩ ?_
  refine mv_ret (pc := 10) d_Sl_setShape_10 rfl ?_
  exact hq
/-- a thing is put into a slot -/
def mm_settle (h : mm_H) (a : Nat) (x y : Int32) : mm_H := mm_si (mm_si (mm_si (mm_si (mm_si (mm_si (mm_si (mm_si h a 1 1) a 2 x) a 3 y) a 4 0) a 5 0) a 6 0) a 7 0) a 8 0
set_option maxRecDepth 20000 in
theorem c_settle {G : mm_G} {Q : mm_O → mm_H → Prop} {h : mm_H} {a : Nat} {x y : Int32} (ha : mm_at h a 3 9) (hq : Q (.inl none) (mm_settle h a x y)) : mm_V G (1, 22) M_Sl_settle Q 0 (mm_ent 3 [.ref a, .int x, .int y]) [] h := by
  show mm_V G (1, 22) M_Sl_settle Q 0 [some (.ref a), some (.int x), some (.int y)] [] h
  refine mv_aload_n (pc := 0) d_Sl_settle_0 rfl ?_
  refine mv_iconst (v := 1) (pc := 1) d_Sl_settle_1 (by decide) ?_
  refine mr_puti (pc := 2) d_Sl_settle_2 fl_Sl_9 ha rfl (by decide) ⟨rfl, rfl⟩ ?_
  refine mv_aload_n (pc := 5) d_Sl_settle_5 rfl ?_
  refine mv_iload_n (pc := 6) d_Sl_settle_6 rfl ?_
  refine mr_puti (pc := 7) d_Sl_settle_7 fl_Sl_15 ha rfl (by decide) ⟨rfl, rfl⟩ ?_
  refine mv_aload_n (pc := 10) d_Sl_settle_10 rfl ?_
  refine mv_iload_n (pc := 11) d_Sl_settle_11 rfl ?_
  refine mr_puti (pc := 12) d_Sl_settle_12 fl_Sl_19 ha rfl (by decide) ⟨rfl, rfl⟩ ?_
  refine mv_aload_n (pc := 15) d_Sl_settle_15 rfl ?_
  refine mv_iconst (v := 0) (pc := 16) d_Sl_settle_16 (by decide) ?_
  refine mv_iconst (v := 0) (pc := 17) d_Sl_settle_17 (by decide) ?_
  refine mr_callV2 (pc := 18) d_Sl_settle_18 (d2 := (0, 0)) ok_Sl_setSpeed li_Sl_22 sv_Sl_setSpeed ha ⟨by decide, rfl⟩ ⟨by decide, rfl, rfl, Nat.le_of_ble_eq_true rfl, rfl, by decide, by decide⟩ ?_
  refine c_setSpeed ha ?_
  refine mv_aload_n (pc := 21) d_Sl_settle_21 rfl ?_
  refine mv_iconst (v := 0) (pc := 22) d_Sl_settle_22 (by decide) ?_
  refine mv_iconst (v := 0) (pc := 23) d_Sl_settle_23 (by decide) ?_
  refine mr_callV2 (pc := 24) d_Sl_settle_24 (d2 := (0, 0)) ok_Sl_setShape li_Sl_26 sv_Sl_setShape ha ⟨by decide, rfl⟩ ⟨by decide, rfl, rfl, Nat.le_of_ble_eq_true rfl, rfl, by decide, by decide⟩ ?_
  refine c_setShape ha ?_
  refine mv_aload_n (pc := 27) d_Sl_settle_27 rfl ?_
  refine mv_iconst (v := 0) (pc := 28) d_Sl_settle_28 (by decide) ?_
  refine mr_puti (pc := 29) d_Sl_settle_29 fl_Sl_29 ha rfl (by decide) ⟨rfl, rfl⟩ ?_
  refine mv_ret (pc := 32) d_Sl_settle_32 rfl ?_
  exact hq
set_option maxRecDepth 20000 in
theorem c_vacate {G : mm_G} {Q : mm_O → mm_H → Prop} {h : mm_H} {a : Nat} (ha : mm_at h a 3 9) (hq : Q (.inl none) (mm_si (mm_si h a 1 0) a 0 (mm_gi h a 0 + 1 - (mm_gi h a 0 + 1) / 65536 * 65536))) : mm_V G (0, 0) M_Sl_vacate Q 0 (mm_ent 1 [.ref a]) [] h := by
  show mm_V G (0, 0) M_Sl_vacate Q 0 [some (.ref a)] [] h
  refine mv_aload_n (pc := 0) d_Sl_vacate_0 rfl ?_
  refine mv_iconst (v := 0) (pc := 1) d_Sl_vacate_1 (by decide) ?_
  refine mr_puti (pc := 2) d_Sl_vacate_2 fl_Sl_9 ha rfl (by decide) ⟨rfl, rfl⟩ ?_
  refine mv_aload_n (pc := 5) d_Sl_vacate_5 rfl ?_
  refine mv_aload_n (pc := 6) d_Sl_vacate_6 rfl ?_
  refine mr_geti (pc := 7) d_Sl_vacate_7 fl_Sl_32 ha rfl (by decide) ?_
  refine mv_iconst (v := 1) (pc := 10) d_Sl_vacate_10 (by decide) ?_
  refine mv_iadd (pc := 11) d_Sl_vacate_11 ?_
  refine mv_ldc (pc := 12) d_Sl_vacate_12 lc_Sl_35 ?_
  refine mv_irem (pc := 14) d_Sl_vacate_14 (by decide) ?_
  refine mr_puti (pc := 15) d_Sl_vacate_15 fl_Sl_32 ha rfl (by decide) ⟨rfl, rfl⟩ ?_
  refine mv_ret (pc := 18) d_Sl_vacate_18 rfl ?_
  simpa [mm_gsi] using hq
set_option maxRecDepth 20000 in
theorem c_hasShape {G : mm_G} {Q : mm_O → mm_H → Prop} {h : mm_H} {a : Nat} (ha : mm_at h a 3 9) (hq1 : ¬ mm_gi h a 1 = 0 ∧ 0 < mm_gi h a 6 → Q (.inl (some (.int 1))) h) (hq0 : ¬ (¬ mm_gi h a 1 = 0 ∧ 0 < mm_gi h a 6) → Q (.inl (some (.int 0))) h) : mm_V G (0, 0) M_Sl_hasShape Q 0 (mm_ent 1 [.ref a]) [] h := by
  show mm_V G (0, 0) M_Sl_hasShape Q 0 [some (.ref a)] [] h
  refine mv_aload_n (pc := 0) d_Sl_hasShape_0 rfl ?_
  refine mr_geti (pc := 1) d_Sl_hasShape_1 fl_Sl_9 ha rfl (by decide) ?_
  refine mv_if_eq 18 (pc := 4) d_Sl_hasShape_4 (by decide) (fun h4 => ?_) (fun h4 => ?_)
  · refine mv_iconst (v := 0) (pc := 18) d_Sl_hasShape_18 (by decide) ?_
    refine mv_iret (pc := 19) d_Sl_hasShape_19 rfl rfl ?_
    exact hq0 (by clear hq1 hq0; grind)
  · refine mv_aload_n (pc := 7) d_Sl_hasShape_7 rfl ?_
    refine mr_geti (pc := 8) d_Sl_hasShape_8 fl_Sl_42 ha rfl (by decide) ?_
    refine mv_if_le 18 (pc := 11) d_Sl_hasShape_11 (by decide) (fun h11 => ?_) (fun h11 => ?_)
    · refine mv_iconst (v := 0) (pc := 18) d_Sl_hasShape_18 (by decide) ?_
      refine mv_iret (pc := 19) d_Sl_hasShape_19 rfl rfl ?_
      exact hq0 (by clear hq1 hq0; grind)
    · refine mv_iconst (v := 1) (pc := 14) d_Sl_hasShape_14 (by decide) ?_
      refine mv_goto 19 (pc := 15) d_Sl_hasShape_15 (by decide) ?_
      refine mv_iret (pc := 19) d_Sl_hasShape_19 rfl rfl ?_
      exact hq1 (by clear hq1 hq0; grind)
set_option maxRecDepth 20000 in
theorem c_hasTimer {G : mm_G} {Q : mm_O → mm_H → Prop} {h : mm_H} {a : Nat} (ha : mm_at h a 3 9) (hq1 : ¬ mm_gi h a 1 = 0 ∧ 0 < mm_gi h a 8 → Q (.inl (some (.int 1))) h) (hq0 : ¬ (¬ mm_gi h a 1 = 0 ∧ 0 < mm_gi h a 8) → Q (.inl (some (.int 0))) h) : mm_V G (0, 0) M_Sl_hasTimer Q 0 (mm_ent 1 [.ref a]) [] h := by
  show mm_V G (0, 0) M_Sl_hasTimer Q 0 [some (.ref a)] [] h
  refine mv_aload_n (pc := 0) d_Sl_hasTimer_0 rfl ?_
  refine mr_geti (pc := 1) d_Sl_hasTimer_1 fl_Sl_9 ha rfl (by decide) ?_
  refine mv_if_eq 18 (pc := 4) d_Sl_hasTimer_4 (by decide) (fun h4 => ?_) (fun h4 => ?_)
  · refine mv_iconst (v := 0) (pc := 18) d_Sl_hasTimer_18 (by decide) ?_
    refine mv_iret (pc := 19) d_Sl_hasTimer_19 rfl rfl ?_
    exact hq0 (by clear hq1 hq0; grind)
  · refine mv_aload_n (pc := 7) d_Sl_hasTimer_7 rfl ?_
    refine mr_geti (pc := 8) d_Sl_hasTimer_8 fl_Sl_29 ha rfl (by decide) ?_
    refine mv_if_le 18 (pc := 11) d_Sl_hasTimer_11 (by decide) (fun h11 => ?_) (fun h11 => ?_)
    · refine mv_iconst (v := 0) (pc := 18) d_Sl_hasTimer_18 (by decide) ?_
      refine mv_iret (pc := 19) d_Sl_hasTimer_19 rfl rfl ?_
      exact hq0 (by clear hq1 hq0; grind)
    · refine mv_iconst (v := 1) (pc := 14) d_Sl_hasTimer_14 (by decide) ?_
      refine mv_goto 19 (pc := 15) d_Sl_hasTimer_15 (by decide) ?_
      refine mv_iret (pc := 19) d_Sl_hasTimer_19 rfl rfl ?_
      exact hq1 (by clear hq1 hq0; grind)
set_option maxRecDepth 20000 in
theorem c_covers {G : mm_G} {Q : mm_O → mm_H → Prop} {h : mm_H} {a : Nat} {x y : Int32} (ha : mm_at h a 3 9) (hq1 : (¬ mm_gi h a 1 = 0 ∧ 0 < mm_gi h a 6) ∧ (mm_gi h a 2 - x < mm_gi h a 6 ∧ x - mm_gi h a 2 < mm_gi h a 6) ∧ (mm_gi h a 3 - y < mm_gi h a 7 ∧ y - mm_gi h a 3 < mm_gi h a 7) → Q (.inl (some (.int 1))) h) (hq0 : ¬ ((¬ mm_gi h a 1 = 0 ∧ 0 < mm_gi h a 6) ∧ (mm_gi h a 2 - x < mm_gi h a 6 ∧ x - mm_gi h a 2 < mm_gi h a 6) ∧ (mm_gi h a 3 - y < mm_gi h a 7 ∧ y - mm_gi h a 3 < mm_gi h a 7)) → Q (.inl (some (.int 0))) h) : mm_V G (1, 22) M_Sl_covers Q 0 (mm_ent 3 [.ref a, .int x, .int y]) [] h := by
  show mm_V G (1, 22) M_Sl_covers Q 0 [some (.ref a), some (.int x), some (.int y)] [] h
  refine mv_aload_n (pc := 0) d_Sl_covers_0 rfl ?_
  refine mr_callV0 (pc := 1) d_Sl_covers_1 (d2 := (0, 0)) ok_Sl_hasShape li_Sl_48 sv_Sl_hasShape ha ⟨by decide, rfl⟩ ⟨by decide, Nat.le_of_ble_eq_true rfl, rfl, by decide, by decide⟩ ?_
  refine c_hasShape ha (fun hc1 => ?_) (fun hc1 => ?_)
  · refine mv_if_eq 41 (pc := 4) d_Sl_covers_4 (by decide) (fun z => absurd z (by decide)) (fun _ => ?_)
    refine mv_aload_n (pc := 7) d_Sl_covers_7 rfl ?_
    refine mr_geti (pc := 8) d_Sl_covers_8 fl_Sl_15 ha rfl (by decide) ?_
    refine mv_iload_n (pc := 11) d_Sl_covers_11 rfl ?_
    refine mv_aload_n (pc := 12) d_Sl_covers_12 rfl ?_
    refine mr_geti (pc := 13) d_Sl_covers_13 fl_Sl_42 ha rfl (by decide) ?_
    refine mr_callS3 (pc := 16) d_Sl_covers_16 (d2 := (0, 0)) ok_Ta_areCloser li_Sl_52 sv_Ta_areCloser ⟨by decide, rfl, rfl, rfl, Nat.le_of_ble_eq_true rfl, rfl, by decide, by decide⟩ ?_
    refine c_areCloser (fun hc16 => ?_) (fun hc16 => ?_)
    · refine mv_if_eq 41 (pc := 19) d_Sl_covers_19 (by decide) (fun z => absurd z (by decide)) (fun _ => ?_)
      refine mv_aload_n (pc := 22) d_Sl_covers_22 rfl ?_
      refine mr_geti (pc := 23) d_Sl_covers_23 fl_Sl_19 ha rfl (by decide) ?_
      refine mv_iload_n (pc := 26) d_Sl_covers_26 rfl ?_
      refine mv_aload_n (pc := 27) d_Sl_covers_27 rfl ?_
      refine mr_geti (pc := 28) d_Sl_covers_28 fl_Sl_45 ha rfl (by decide) ?_
      refine mr_callS3 (pc := 31) d_Sl_covers_31 (d2 := (0, 0)) ok_Ta_areCloser li_Sl_52 sv_Ta_areCloser ⟨by decide, rfl, rfl, rfl, Nat.le_of_ble_eq_true rfl, rfl, by decide, by decide⟩ ?_
      refine c_areCloser (fun hc31 => ?_) (fun hc31 => ?_)
      · refine mv_if_eq 41 (pc := 34) d_Sl_covers_34 (by decide) (fun z => absurd z (by decide)) (fun _ => ?_)
        refine mv_iconst (v := 1) (pc := 37) d_Sl_covers_37 (by decide) ?_
        refine mv_goto 42 (pc := 38) d_Sl_covers_38 (by decide) ?_
        refine mv_iret (pc := 42) d_Sl_covers_42 rfl rfl ?_
        exact hq1 (by clear hq1 hq0; grind)
      · refine mv_if_eq 41 (pc := 34) d_Sl_covers_34 (by decide) (fun _ => ?_) (fun z => absurd z (by decide))
        refine mv_iconst (v := 0) (pc := 41) d_Sl_covers_41 (by decide) ?_
        refine mv_iret (pc := 42) d_Sl_covers_42 rfl rfl ?_
        exact hq0 (by clear hq1 hq0; grind)
    · refine mv_if_eq 41 (pc := 19) d_Sl_covers_19 (by decide) (fun _ => ?_) (fun z => absurd z (by decide))
      refine mv_iconst (v := 0) (pc := 41) d_Sl_covers_41 (by decide) ?_
      refine mv_iret (pc := 42) d_Sl_covers_42 rfl rfl ?_
      exact hq0 (by clear hq1 hq0; grind)
  · refine mv_if_eq 41 (pc := 4) d_Sl_covers_4 (by decide) (fun _ => ?_) (fun z => absurd z (by decide))
    refine mv_iconst (v := 0) (pc := 41) d_Sl_covers_41 (by decide) ?_
    refine mv_iret (pc := 42) d_Sl_covers_42 rfl rfl ?_
    exact hq0 (by clear hq1 hq0; grind)
set_option maxRecDepth 20000 in
theorem c_overlaps {G : mm_G} {Q : mm_O → mm_H → Prop} {h : mm_H} {a b : Nat} (ha : mm_at h a 3 9) (hb : mm_at h b 3 9) (hq1 : (¬ mm_gi h a 1 = 0 ∧ 0 < mm_gi h a 6) ∧ (¬ mm_gi h b 1 = 0 ∧ 0 < mm_gi h b 6) ∧ (mm_gi h a 2 - mm_gi h b 2 < mm_gi h a 6 + mm_gi h b 6 ∧ mm_gi h b 2 - mm_gi h a 2 < mm_gi h a 6 + mm_gi h b 6) ∧ (mm_gi h a 3 - mm_gi h b 3 < mm_gi h a 7 + mm_gi h b 7 ∧ mm_gi h b 3 - mm_gi h a 3 < mm_gi h a 7 + mm_gi h b 7) → Q (.inl (some (.int 1))) h) (hq0 : ¬ ((¬ mm_gi h a 1 = 0 ∧ 0 < mm_gi h a 6) ∧ (¬ mm_gi h b 1 = 0 ∧ 0 < mm_gi h b 6) ∧ (mm_gi h a 2 - mm_gi h b 2 < mm_gi h a 6 + mm_gi h b 6 ∧ mm_gi h b 2 - mm_gi h a 2 < mm_gi h a 6 + mm_gi h b 6) ∧ (mm_gi h a 3 - mm_gi h b 3 < mm_gi h a 7 + mm_gi h b 7 ∧ mm_gi h b 3 - mm_gi h a 3 < mm_gi h a 7 + mm_gi h b 7)) → Q (.inl (some (.int 0))) h) : mm_V G (1, 22) M_Sl_overlaps Q 0 (mm_ent 2 [.ref a, .ref b]) [] h := by
  show mm_V G (1, 22) M_Sl_overlaps Q 0 [some (.ref a), some (.ref b)] [] h
  refine mv_aload_n (pc := 0) d_Sl_overlaps_0 rfl ?_
  refine mr_callV0 (pc := 1) d_Sl_overlaps_1 (d2 := (0, 0)) ok_Sl_hasShape li_Sl_48 sv_Sl_hasShape ha ⟨by decide, rfl⟩ ⟨by decide, Nat.le_of_ble_eq_true rfl, rfl, by decide, by decide⟩ ?_
  refine c_hasShape ha (fun hc1 => ?_) (fun hc1 => ?_)
  · refine mv_if_eq 64 (pc := 4) d_Sl_overlaps_4 (by decide) (fun z => absurd z (by decide)) (fun _ => ?_)
    refine mv_aload_n (pc := 7) d_Sl_overlaps_7 rfl ?_
    refine mr_callV0 (pc := 8) d_Sl_overlaps_8 (d2 := (0, 0)) ok_Sl_hasShape li_Sl_48 sv_Sl_hasShape hb ⟨by decide, rfl⟩ ⟨by decide, Nat.le_of_ble_eq_true rfl, rfl, by decide, by decide⟩ ?_
    refine c_hasShape hb (fun hc8 => ?_) (fun hc8 => ?_)
    · refine mv_if_eq 64 (pc := 11) d_Sl_overlaps_11 (by decide) (fun z => absurd z (by decide)) (fun _ => ?_)
      refine mv_aload_n (pc := 14) d_Sl_overlaps_14 rfl ?_
      refine mr_geti (pc := 15) d_Sl_overlaps_15 fl_Sl_15 ha rfl (by decide) ?_
      refine mv_aload_n (pc := 18) d_Sl_overlaps_18 rfl ?_
      refine mr_geti (pc := 19) d_Sl_overlaps_19 fl_Sl_15 hb rfl (by decide) ?_
      refine mv_aload_n (pc := 22) d_Sl_overlaps_22 rfl ?_
      refine mr_geti (pc := 23) d_Sl_overlaps_23 fl_Sl_42 ha rfl (by decide) ?_
      refine mv_aload_n (pc := 26) d_Sl_overlaps_26 rfl ?_
      refine mr_geti (pc := 27) d_Sl_overlaps_27 fl_Sl_42 hb rfl (by decide) ?_
      refine mv_iadd (pc := 30) d_Sl_overlaps_30 ?_
      refine mr_callS3 (pc := 31) d_Sl_overlaps_31 (d2 := (0, 0)) ok_Ta_areCloser li_Sl_52 sv_Ta_areCloser ⟨by decide, rfl, rfl, rfl, Nat.le_of_ble_eq_true rfl, rfl, by decide, by decide⟩ ?_
      refine c_areCloser (fun hc31 => ?_) (fun hc31 => ?_)
      · refine mv_if_eq 64 (pc := 34) d_Sl_overlaps_34 (by decide) (fun z => absurd z (by decide)) (fun _ => ?_)
        refine mv_aload_n (pc := 37) d_Sl_overlaps_37 rfl ?_
        refine mr_geti (pc := 38) d_Sl_overlaps_38 fl_Sl_19 ha rfl (by decide) ?_
        refine mv_aload_n (pc := 41) d_Sl_overlaps_41 rfl ?_
        refine mr_geti (pc := 42) d_Sl_overlaps_42 fl_Sl_19 hb rfl (by decide) ?_
        refine mv_aload_n (pc := 45) d_Sl_overlaps_45 rfl ?_
        refine mr_geti (pc := 46) d_Sl_overlaps_46 fl_Sl_45 ha rfl (by decide) ?_
        refine mv_aload_n (pc := 49) d_Sl_overlaps_49 rfl ?_
        refine mr_geti (pc := 50) d_Sl_overlaps_50 fl_Sl_45 hb rfl (by decide) ?_
        refine mv_iadd (pc := 53) d_Sl_overlaps_53 ?_
        refine mr_callS3 (pc := 54) d_Sl_overlaps_54 (d2 := (0, 0)) ok_Ta_areCloser li_Sl_52 sv_Ta_areCloser ⟨by decide, rfl, rfl, rfl, Nat.le_of_ble_eq_true rfl, rfl, by decide, by decide⟩ ?_
        refine c_areCloser (fun hc54 => ?_) (fun hc54 => ?_)
        · refine mv_if_eq 64 (pc := 57) d_Sl_overlaps_57 (by decide) (fun z => absurd z (by decide)) (fun _ => ?_)
          refine mv_iconst (v := 1) (pc := 60) d_Sl_overlaps_60 (by decide) ?_
          refine mv_goto 65 (pc := 61) d_Sl_overlaps_61 (by decide) ?_
          refine mv_iret (pc := 65) d_Sl_overlaps_65 rfl rfl ?_
          exact hq1 (by clear hq1 hq0; grind)
        · refine mv_if_eq 64 (pc := 57) d_Sl_overlaps_57 (by decide) (fun _ => ?_) (fun z => absurd z (by decide))
          refine mv_iconst (v := 0) (pc := 64) d_Sl_overlaps_64 (by decide) ?_
          refine mv_iret (pc := 65) d_Sl_overlaps_65 rfl rfl ?_
          exact hq0 (by clear hq1 hq0; grind)
      · refine mv_if_eq 64 (pc := 34) d_Sl_overlaps_34 (by decide) (fun _ => ?_) (fun z => absurd z (by decide))
        refine mv_iconst (v := 0) (pc := 64) d_Sl_overlaps_64 (by decide) ?_
        refine mv_iret (pc := 65) d_Sl_overlaps_65 rfl rfl ?_
        exact hq0 (by clear hq1 hq0; grind)
    · refine mv_if_eq 64 (pc := 11) d_Sl_overlaps_11 (by decide) (fun _ => ?_) (fun z => absurd z (by decide))
      refine mv_iconst (v := 0) (pc := 64) d_Sl_overlaps_64 (by decide) ?_
      refine mv_iret (pc := 65) d_Sl_overlaps_65 rfl rfl ?_
      exact hq0 (by clear hq1 hq0; grind)
  · refine mv_if_eq 64 (pc := 4) d_Sl_overlaps_4 (by decide) (fun _ => ?_) (fun z => absurd z (by decide))
    refine mv_iconst (v := 0) (pc := 64) d_Sl_overlaps_64 (by decide) ?_
    refine mv_iret (pc := 65) d_Sl_overlaps_65 rfl rfl ?_
    exact hq0 (by clear hq1 hq0; grind)
set_option maxRecDepth 20000 in
theorem c_thrownBack {G : mm_G} {Q : mm_O → mm_H → Prop} {h : mm_H} {x : Int32} (hq : Q (.inl (some (.int (if x < 0 then -x else 8190 - x)))) h) : mm_V G (0, 0) M_Sl_thrownBack Q 0 (mm_ent 1 [.int x]) [] h := by
  show mm_V G (0, 0) M_Sl_thrownBack Q 0 [some (.int x)] [] h
  refine mv_iload_n (pc := 0) d_Sl_thrownBack_0 rfl ?_
  refine mv_if_ge 9 (pc := 1) d_Sl_thrownBack_1 (by decide) (fun h1 => ?_) (fun h1 => ?_)
  · refine mv_sipush (v := 8190) (pc := 9) d_Sl_thrownBack_9 (by decide) ?_
    refine mv_iload_n (pc := 12) d_Sl_thrownBack_12 rfl ?_
    refine mv_isub (pc := 13) d_Sl_thrownBack_13 ?_
    refine mv_iret (pc := 14) d_Sl_thrownBack_14 rfl rfl ?_
    rw [if_neg (Int32.not_lt.mpr h1)] at hq
    exact hq
  · refine mv_iload_n (pc := 4) d_Sl_thrownBack_4 rfl ?_
    refine mv_ineg (pc := 5) d_Sl_thrownBack_5 ?_
    refine mv_goto 14 (pc := 6) d_Sl_thrownBack_6 (by decide) ?_
    refine mv_iret (pc := 14) d_Sl_thrownBack_14 rfl rfl ?_
    rw [if_pos (Int32.not_le.mp h1)] at hq
    exact hq
/-- one coordinate's move between the walls: the place, the speed -/
def mm_mvx (x v : Int32) : Int32 := if 0 ≤ x + v ∧ x + v ≤ 4095 then x + v else if x + v < 0 then -(x + v) else 8190 - (x + v)
def mm_mvv (x v : Int32) : Int32 := if 0 ≤ x + v ∧ x + v ≤ 4095 then v else -v
/-- F' is F but for the place and speed of the slot a, which have moved -/
def mm_moved (F F' : Nat → Nat → Int32) (a : Nat) : Prop := (∀ b k, b ≠ a → F' b k = F b k) ∧ (∀ k, k ≠ 2 → k ≠ 3 → k ≠ 4 → k ≠ 5 → F' a k = F a k) ∧ F' a 2 = mm_mvx (F a 2) (F a 4) ∧ F' a 3 = mm_mvx (F a 3) (F a 5) ∧ F' a 4 = mm_mvv (F a 2) (F a 4) ∧ F' a 5 = mm_mvv (F a 3) (F a 5)
set_option maxRecDepth 20000 in
theorem c_move {G : mm_G} {Q : mm_O → mm_H → Prop} {h : mm_H} {a : Nat} (ha : mm_at h a 3 9) (hq : ∀ F', mm_moved (mm_gi h) F' a → Q (.inl none) (mm_wi h F')) : mm_V G (1, 22) M_Sl_move Q 0 (mm_ent 1 [.ref a]) [] h := by
  show mm_V G (1, 22) M_Sl_move Q 0 [some (.ref a)] [] h
  refine mv_aload_n (pc := 0) d_Sl_move_0 rfl ?_
  refine mv_dup (pc := 1) d_Sl_move_1 rfl ?_
  refine mr_geti (pc := 2) d_Sl_move_2 fl_Sl_15 ha rfl (by decide) ?_
  refine mv_aload_n (pc := 5) d_Sl_move_5 rfl ?_
  refine mr_geti (pc := 6) d_Sl_move_6 fl_Sl_36 ha rfl (by decide) ?_
  refine mv_iadd (pc := 9) d_Sl_move_9 ?_
  refine mr_puti (pc := 10) d_Sl_move_10 fl_Sl_15 ha rfl (by decide) ⟨rfl, rfl⟩ ?_
  refine mv_aload_n (pc := 13) d_Sl_move_13 rfl ?_
  refine mr_geti (pc := 14) d_Sl_move_14 fl_Sl_15 ha rfl (by decide) ?_
  refine mv_iconst (v := 0) (pc := 17) d_Sl_move_17 (by decide) ?_
  refine mv_sipush (v := 4095) (pc := 18) d_Sl_move_18 (by decide) ?_
  refine mr_callS3 (pc := 21) d_Sl_move_21 (d2 := (0, 0)) ok_Ta_isWithin li_Sl_56 sv_Ta_isWithin ⟨by decide, rfl, rfl, rfl, Nat.le_of_ble_eq_true rfl, rfl, by decide, by decide⟩ ?_
  refine c_isWithin (fun hc21 => ?_) (fun hc21 => ?_)
  · refine mv_if_ne 47 (pc := 24) d_Sl_move_24 (by decide) (fun _ => ?_) (fun z => absurd z (by decide))
    refine mv_aload_n (pc := 47) d_Sl_move_47 rfl ?_
    refine mv_dup (pc := 48) d_Sl_move_48 rfl ?_
    refine mr_geti (pc := 49) d_Sl_move_49 fl_Sl_19 ha rfl (by decide) ?_
    refine mv_aload_n (pc := 52) d_Sl_move_52 rfl ?_
    refine mr_geti (pc := 53) d_Sl_move_53 fl_Sl_39 ha rfl (by decide) ?_
    refine mv_iadd (pc := 56) d_Sl_move_56 ?_
    refine mr_puti (pc := 57) d_Sl_move_57 fl_Sl_19 ha rfl (by decide) ⟨rfl, rfl⟩ ?_
    refine mv_aload_n (pc := 60) d_Sl_move_60 rfl ?_
    refine mr_geti (pc := 61) d_Sl_move_61 fl_Sl_19 ha rfl (by decide) ?_
    refine mv_iconst (v := 0) (pc := 64) d_Sl_move_64 (by decide) ?_
    refine mv_sipush (v := 4095) (pc := 65) d_Sl_move_65 (by decide) ?_
    refine mr_callS3 (pc := 68) d_Sl_move_68 (d2 := (0, 0)) ok_Ta_isWithin li_Sl_56 sv_Ta_isWithin ⟨by decide, rfl, rfl, rfl, Nat.le_of_ble_eq_true rfl, rfl, by decide, by decide⟩ ?_
    refine c_isWithin (fun hc68 => ?_) (fun hc68 => ?_)
    · refine mv_if_ne 94 (pc := 71) d_Sl_move_71 (by decide) (fun _ => ?_) (fun z => absurd z (by decide))
      refine mv_ret (pc := 94) d_Sl_move_94 rfl ?_
      refine hq _ ⟨fun b k hb => ?_, fun k k2 k3 k4 k5 => ?_, ?_, ?_, ?_, ?_⟩
      all_goals (simp [mm_u2, mm_usi, mm_g0, mm_gsi, mm_mvx, mm_mvv] at * <;> grind)
    · refine mv_if_ne 94 (pc := 71) d_Sl_move_71 (by decide) (fun z => absurd z (by decide)) (fun _ => ?_)
      refine mv_aload_n (pc := 74) d_Sl_move_74 rfl ?_
      refine mv_aload_n (pc := 75) d_Sl_move_75 rfl ?_
      refine mr_geti (pc := 76) d_Sl_move_76 fl_Sl_19 ha rfl (by decide) ?_
      refine mr_callS1 (pc := 79) d_Sl_move_79 (d2 := (0, 0)) ok_Sl_thrownBack li_Sl_59 sv_Sl_thrownBack ⟨by decide, rfl, Nat.le_of_ble_eq_true rfl, rfl, by decide, by decide⟩ ?_
      refine c_thrownBack ?_
      refine mr_puti (pc := 82) d_Sl_move_82 fl_Sl_19 ha rfl (by decide) ⟨rfl, rfl⟩ ?_
      refine mv_aload_n (pc := 85) d_Sl_move_85 rfl ?_
      refine mv_aload_n (pc := 86) d_Sl_move_86 rfl ?_
      refine mr_geti (pc := 87) d_Sl_move_87 fl_Sl_39 ha rfl (by decide) ?_
      refine mv_ineg (pc := 90) d_Sl_move_90 ?_
      refine mr_puti (pc := 91) d_Sl_move_91 fl_Sl_39 ha rfl (by decide) ⟨rfl, rfl⟩ ?_
      refine mv_ret (pc := 94) d_Sl_move_94 rfl ?_
      refine hq _ ⟨fun b k hb => ?_, fun k k2 k3 k4 k5 => ?_, ?_, ?_, ?_, ?_⟩
      all_goals (simp [mm_u2, mm_usi, mm_g0, mm_gsi, mm_mvx, mm_mvv] at * <;> grind)
  · refine mv_if_ne 47 (pc := 24) d_Sl_move_24 (by decide) (fun z => absurd z (by decide)) (fun _ => ?_)
    refine mv_aload_n (pc := 27) d_Sl_move_27 rfl ?_
    refine mv_aload_n (pc := 28) d_Sl_move_28 rfl ?_
    refine mr_geti (pc := 29) d_Sl_move_29 fl_Sl_15 ha rfl (by decide) ?_
    refine mr_callS1 (pc := 32) d_Sl_move_32 (d2 := (0, 0)) ok_Sl_thrownBack li_Sl_59 sv_Sl_thrownBack ⟨by decide, rfl, Nat.le_of_ble_eq_true rfl, rfl, by decide, by decide⟩ ?_
    refine c_thrownBack ?_
    refine mr_puti (pc := 35) d_Sl_move_35 fl_Sl_15 ha rfl (by decide) ⟨rfl, rfl⟩ ?_
    refine mv_aload_n (pc := 38) d_Sl_move_38 rfl ?_
    refine mv_aload_n (pc := 39) d_Sl_move_39 rfl ?_
    refine mr_geti (pc := 40) d_Sl_move_40 fl_Sl_36 ha rfl (by decide) ?_
    refine mv_ineg (pc := 43) d_Sl_move_43 ?_
    refine mr_puti (pc := 44) d_Sl_move_44 fl_Sl_36 ha rfl (by decide) ⟨rfl, rfl⟩ ?_
    refine mv_aload_n (pc := 47) d_Sl_move_47 rfl ?_
    refine mv_dup (pc := 48) d_Sl_move_48 rfl ?_
    refine mr_geti (pc := 49) d_Sl_move_49 fl_Sl_19 ha rfl (by decide) ?_
    refine mv_aload_n (pc := 52) d_Sl_move_52 rfl ?_
    refine mr_geti (pc := 53) d_Sl_move_53 fl_Sl_39 ha rfl (by decide) ?_
    refine mv_iadd (pc := 56) d_Sl_move_56 ?_
    refine mr_puti (pc := 57) d_Sl_move_57 fl_Sl_19 ha rfl (by decide) ⟨rfl, rfl⟩ ?_
    refine mv_aload_n (pc := 60) d_Sl_move_60 rfl ?_
    refine mr_geti (pc := 61) d_Sl_move_61 fl_Sl_19 ha rfl (by decide) ?_
    refine mv_iconst (v := 0) (pc := 64) d_Sl_move_64 (by decide) ?_
    refine mv_sipush (v := 4095) (pc := 65) d_Sl_move_65 (by decide) ?_
    refine mr_callS3 (pc := 68) d_Sl_move_68 (d2 := (0, 0)) ok_Ta_isWithin li_Sl_56 sv_Ta_isWithin ⟨by decide, rfl, rfl, rfl, Nat.le_of_ble_eq_true rfl, rfl, by decide, by decide⟩ ?_
    refine c_isWithin (fun hc68 => ?_) (fun hc68 => ?_)
    · refine mv_if_ne 94 (pc := 71) d_Sl_move_71 (by decide) (fun _ => ?_) (fun z => absurd z (by decide))
      refine mv_ret (pc := 94) d_Sl_move_94 rfl ?_
      refine hq _ ⟨fun b k hb => ?_, fun k k2 k3 k4 k5 => ?_, ?_, ?_, ?_, ?_⟩
      all_goals (simp [mm_u2, mm_usi, mm_g0, mm_gsi, mm_mvx, mm_mvv] at * <;> grind)
    · refine mv_if_ne 94 (pc := 71) d_Sl_move_71 (by decide) (fun z => absurd z (by decide)) (fun _ => ?_)
      refine mv_aload_n (pc := 74) d_Sl_move_74 rfl ?_
      refine mv_aload_n (pc := 75) d_Sl_move_75 rfl ?_
      refine mr_geti (pc := 76) d_Sl_move_76 fl_Sl_19 ha rfl (by decide) ?_
      refine mr_callS1 (pc := 79) d_Sl_move_79 (d2 := (0, 0)) ok_Sl_thrownBack li_Sl_59 sv_Sl_thrownBack ⟨by decide, rfl, Nat.le_of_ble_eq_true rfl, rfl, by decide, by decide⟩ ?_
      refine c_thrownBack ?_
      refine mr_puti (pc := 82) d_Sl_move_82 fl_Sl_19 ha rfl (by decide) ⟨rfl, rfl⟩ ?_
      refine mv_aload_n (pc := 85) d_Sl_move_85 rfl ?_
      refine mv_aload_n (pc := 86) d_Sl_move_86 rfl ?_
      refine mr_geti (pc := 87) d_Sl_move_87 fl_Sl_39 ha rfl (by decide) ?_
      refine mv_ineg (pc := 90) d_Sl_move_90 ?_
      refine mr_puti (pc := 91) d_Sl_move_91 fl_Sl_39 ha rfl (by decide) ⟨rfl, rfl⟩ ?_
      refine mv_ret (pc := 94) d_Sl_move_94 rfl ?_
      refine hq _ ⟨fun b k hb => ?_, fun k k2 k3 k4 k5 => ?_, ?_, ?_, ?_, ?_⟩
      all_goals (simp [mm_u2, mm_usi, mm_g0, mm_gsi, mm_mvx, mm_mvv] at * <;> grind)
