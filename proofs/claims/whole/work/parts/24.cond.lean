/-! CONTRACTS: World: covering, the parts of a tick, step (rows by program: con_d.py) -/
/-- a slot's row covers a place -/
def mm_cvr (f : Nat → Int32) (x y : Int32) : Prop := (¬ f 1 = 0 ∧ 0 < f 6) ∧ (f 2 - x < f 6 ∧ x - f 2 < f 6) ∧ (f 3 - y < f 7 ∧ y - f 3 < f 7)
noncomputable def a_cov (P : Nat → Prop) : Nat → Int32
  | 0 => 0
  | n + 1 => @ite Int32 (P n) (Classical.propDecidable (P n)) (a_cov P n + ((1 : Int32) <<< (nI n &&& 31))) (a_cov P n)
theorem a_cov1 {P : Nat → Prop} {n : Nat} (h : P n) : a_cov P (n + 1) = a_cov P n + ((1 : Int32) <<< (nI n &&& 31)) := by
  show @ite Int32 (P n) (Classical.propDecidable (P n)) _ _ = _
  rw [if_pos h]
theorem a_cov0 {P : Nat → Prop} {n : Nat} (h : ¬ P n) : a_cov P (n + 1) = a_cov P n := by
  show @ite Int32 (P n) (Classical.propDecidable (P n)) _ _ = _
  rw [if_neg h]
set_option maxRecDepth 20000 in
theorem l_covering {G : mm_G} {Q : mm_O → mm_H → Prop} {h : mm_H} {w : Nat} {x y : Int32} (hw : mm_Wd h w) (hq : Q (.inl (some (.int (a_cov (fun i => mm_cvr (mm_gi h (w + 6 + i)) x y) 16)))) h) :
    ∀ (i : Nat) (_ : Unit), i ≤ 16 → True → mm_V G (2, 44) M_Wo_covering Q 5 [some (.ref w), some (.int x), some (.int y), some (.int (a_cov (fun i => mm_cvr (mm_gi h (w + 6 + i)) x y) i)), some (.int (nI i))] [] h := by
  refine mr_loop _ _ 16 (fun _ _ => ?_) (fun i _ hi _ ih => ?_)
  · refine mv_iload (pc := 5) d_Wo_covering_5 rfl ?_
    refine mv_bipush (v := 16) (pc := 7) d_Wo_covering_7 (by decide) ?_
    refine mv_ic_ge 40 (pc := 9) d_Wo_covering_9 (by decide) (fun h9 => ?_) (fun z => absurd z (mm_ge16))
    refine mv_iload_n (pc := 40) d_Wo_covering_40 rfl ?_
    refine mv_iret (pc := 41) d_Wo_covering_41 rfl rfl ?_
    exact hq
  · refine mv_iload (pc := 5) d_Wo_covering_5 rfl ?_
    refine mv_bipush (v := 16) (pc := 7) d_Wo_covering_7 (by decide) ?_
    refine mv_ic_ge 40 (pc := 9) d_Wo_covering_9 (by decide) (fun z => absurd z (mm_lt16 hi)) (fun h9 => ?_)
    refine mv_aload_n (pc := 12) d_Wo_covering_12 rfl ?_
    refine mr_getr (pc := 13) d_Wo_covering_13 fl_Wo_11 hw.1 rfl (by decide) hw.2.2.2.2.2.1 ?_
    refine mv_iload (pc := 16) d_Wo_covering_16 rfl ?_
    refine mr_aald (pc := 18) d_Wo_covering_18 hw.2.1 (mm_in16 hi) (hw.sl hi) ?_
    refine mv_iload_n (pc := 19) d_Wo_covering_19 rfl ?_
    refine mv_iload_n (pc := 20) d_Wo_covering_20 rfl ?_
    refine mr_callV2 (pc := 21) d_Wo_covering_21 (d2 := (1, 22)) ok_Sl_covers li_Wo_63 sv_Sl_covers (hw.at_ hi) ⟨by decide, rfl⟩ ⟨by decide, rfl, rfl, Nat.le_of_ble_eq_true rfl, rfl, by decide, by decide⟩ ?_
    refine c_covers (hw.at_ hi) (fun hc21 => ?_) (fun hc21 => ?_)
    · refine mv_if_eq 34 (pc := 24) d_Wo_covering_24 (by decide) (fun z => absurd z (by decide)) (fun _ => ?_)
      refine mv_iload_n (pc := 27) d_Wo_covering_27 rfl ?_
      refine mv_iconst (v := 1) (pc := 28) d_Wo_covering_28 (by decide) ?_
      refine mv_iload (pc := 29) d_Wo_covering_29 rfl ?_
      refine mv_ishl (pc := 31) d_Wo_covering_31 ?_
      refine mv_iadd (pc := 32) d_Wo_covering_32 ?_
      refine mv_istore_n (pc := 33) d_Wo_covering_33 (by decide) ?_
      refine mv_iinc (pc := 34) d_Wo_covering_34 rfl rfl (by decide) ?_
      refine mv_goto 5 (pc := 37) d_Wo_covering_37 (by decide) ?_
      refine mm_V_ls (ls' := [some (.ref w), some (.int x), some (.int y), some (.int (a_cov (fun i => mm_cvr (mm_gi h (w + 6 + i)) x y) (i + 1))), some (.int (nI (i + 1)))]) ?_ (ih () trivial)
      rw [a_cov1 (P := fun i => mm_cvr (mm_gi h (w + 6 + i)) x y) hc21, nI_succ]
      rfl
    · refine mv_if_eq 34 (pc := 24) d_Wo_covering_24 (by decide) (fun _ => ?_) (fun z => absurd z (by decide))
      refine mv_iinc (pc := 34) d_Wo_covering_34 rfl rfl (by decide) ?_
      refine mv_goto 5 (pc := 37) d_Wo_covering_37 (by decide) ?_
      refine mm_V_ls (ls' := [some (.ref w), some (.int x), some (.int y), some (.int (a_cov (fun i => mm_cvr (mm_gi h (w + 6 + i)) x y) (i + 1))), some (.int (nI (i + 1)))]) ?_ (ih () trivial)
      rw [a_cov0 (P := fun i => mm_cvr (mm_gi h (w + 6 + i)) x y) hc21, nI_succ]
      rfl
set_option maxRecDepth 20000 in
theorem c_covering {G : mm_G} {Q : mm_O → mm_H → Prop} {h : mm_H} {w : Nat} {x y : Int32} (hw : mm_Wd h w) (hq : Q (.inl (some (.int (a_cov (fun i => mm_cvr (mm_gi h (w + 6 + i)) x y) 16)))) h) : mm_V G (2, 44) M_Wo_covering Q 0 (mm_ent 5 [.ref w, .int x, .int y]) [] h := by
  show mm_V G (2, 44) M_Wo_covering Q 0 [some (.ref w), some (.int x), some (.int y), none, none] [] h
  refine mv_iconst (v := 0) (pc := 0) d_Wo_covering_0 (by decide) ?_
  refine mv_istore_n (pc := 1) d_Wo_covering_1 (by decide) ?_
  refine mv_iconst (v := 0) (pc := 2) d_Wo_covering_2 (by decide) ?_
  refine mv_istore (pc := 3) d_Wo_covering_3 (by decide) ?_
  exact l_covering hw hq 0 () (by omega) trivial
theorem RC.tm {F B : mm_W} {w i : Nat} (h : RC F w B) (hi : i < 16) (ht : ¬ B 1 i = 0) (x : Int32) : RC (mm_u2 F (w + 6 + i) 8 x) w (a_put B 8 i x) := by
  refine h.slot hi (fun a k ha => by simp [mm_u2, ha]) (fun k j hkj => ?_) ?_ ?_ (fun _ k k1 k2 => ?_)
  · unfold a_put; grind
  · simp [mm_u2, a_put, (h.2.1 i hi).1]
  · simp [mm_u2, a_put, (h.2.1 i hi).2.1]
  · by_cases hk : k = 8
    · simp [mm_u2, a_put, hk]
    · simp [mm_u2, a_put, hk, (h.2.1 i hi).2.2 ht k k1 k2]
set_option maxRecDepth 20000 in
theorem l_countDown {G : mm_G} {Q : mm_O → mm_H → Prop} {h : mm_H} {w : Nat} {A : mm_W} (hw : mm_Wd h w) (F0 : mm_W) (hq : ∀ F', RC F' w (a_cd A 16) → mm_wfr w F0 F' → mm_efr w F0 F' → Q (.inl none) (mm_wi h F')) :
    ∀ (i : Nat) (F : mm_W), i ≤ 16 → RC F w (a_cd A i) ∧ mm_wfr w F0 F ∧ mm_efr w F0 F → mm_V G (2, 43) M_Wo_countDown Q 2 [some (.ref w), some (.int (nI i))] [] (mm_wi h F) := by
  refine mr_loop _ _ 16 (fun F hI => ?_) (fun i F hi hI ih => ?_)
  · refine mv_iload_n (pc := 2) d_Wo_countDown_2 rfl ?_
    refine mv_bipush (v := 16) (pc := 3) d_Wo_countDown_3 (by decide) ?_
    refine mv_ic_ge 58 (pc := 5) d_Wo_countDown_5 (by decide) (fun h5 => ?_) (fun z => absurd z (mm_ge16))
    refine mv_ret (pc := 58) d_Wo_countDown_58 rfl ?_
    exact hq F hI.1 hI.2.1 hI.2.2
  · obtain ⟨hR, hwf, hef⟩ := hI
    have q1 : F (w + 6 + i) 1 = a_cd A i 1 i := (hR.2.1 i hi).2.1
    have q8 : ¬ a_cd A i 1 i = 0 → F (w + 6 + i) 8 = a_cd A i 8 i := fun z => (hR.2.1 i hi).2.2 z 8 (by omega) (by omega)
    refine mv_iload_n (pc := 2) d_Wo_countDown_2 rfl ?_
    refine mv_bipush (v := 16) (pc := 3) d_Wo_countDown_3 (by decide) ?_
    refine mv_ic_ge 58 (pc := 5) d_Wo_countDown_5 (by decide) (fun z => absurd z (mm_lt16 hi)) (fun h5 => ?_)
    refine mv_aload_n (pc := 8) d_Wo_countDown_8 rfl ?_
    refine mr_getr (pc := 9) d_Wo_countDown_9 fl_Wo_11 hw.1 rfl (by decide) hw.2.2.2.2.2.1 ?_
    refine mv_iload_n (pc := 12) d_Wo_countDown_12 rfl ?_
    refine mr_aald (pc := 13) d_Wo_countDown_13 hw.2.1 (mm_in16 hi) (hw.sl hi) ?_
    refine mr_callV0 (pc := 14) d_Wo_countDown_14 (d2 := (0, 0)) ok_Sl_hasTimer li_Wo_80 sv_Sl_hasTimer (hw.at_ hi) ⟨by decide, rfl⟩ ⟨by decide, Nat.le_of_ble_eq_true rfl, rfl, by decide, by decide⟩ ?_
    refine c_hasTimer (hw.at_ hi) (fun hc14 => ?_) (fun hc14 => ?_)
    · rw [mm_gwi, mm_gwi] at hc14
      refine mv_if_eq 52 (pc := 17) d_Wo_countDown_17 (by decide) (fun z => absurd z (by decide)) (fun _ => ?_)
      refine mv_aload_n (pc := 20) d_Wo_countDown_20 rfl ?_
      refine mr_getr (pc := 21) d_Wo_countDown_21 fl_Wo_11 hw.1 rfl (by decide) hw.2.2.2.2.2.1 ?_
      refine mv_iload_n (pc := 24) d_Wo_countDown_24 rfl ?_
      refine mr_aald (pc := 25) d_Wo_countDown_25 hw.2.1 (mm_in16 hi) (hw.sl hi) ?_
      refine mv_dup (pc := 26) d_Wo_countDown_26 rfl ?_
      refine mr_geti (pc := 27) d_Wo_countDown_27 fl_Wo_84 (hw.at_ hi) rfl (by decide) ?_
      refine mv_iconst (v := 1) (pc := 30) d_Wo_countDown_30 (by decide) ?_
      refine mv_isub (pc := 31) d_Wo_countDown_31 ?_
      refine mr_puti (pc := 32) d_Wo_countDown_32 fl_Wo_84 (hw.at_ hi) rfl (by decide) ⟨rfl, rfl⟩ ?_
      have ht : ¬ a_cd A i 1 i = 0 := by rw [← q1]; exact hc14.1
      have h8 := q8 ht
      have hcond : ¬ a_cd A i 1 i = 0 ∧ 0 < a_cd A i 8 i := ⟨ht, by rw [← h8]; exact hc14.2⟩
      rw [mm_gwi, h8, mm_wsi]
      have hR1 := hR.tm hi ht (a_cd A i 8 i - 1)
      have hwf1 : mm_wfr w F0 (mm_u2 F (w + 6 + i) 8 (a_cd A i 8 i - 1)) := fun a k ha => by
        rw [← hwf a k ha]
        have hne : ¬ (a = w + 6 + i) := by omega
        simp [mm_u2, hne]
      have hef1 : mm_efr w F0 (mm_u2 F (w + 6 + i) 8 (a_cd A i 8 i - 1)) := fun a k ha => by
        rw [← hef a k ha]
        have hne : ¬ (a = w + 6 + i) := by omega
        simp [mm_u2, hne]
      refine mv_aload_n (pc := 35) d_Wo_countDown_35 rfl ?_
      refine mr_getr (pc := 36) d_Wo_countDown_36 fl_Wo_11 hw.1 rfl (by decide) hw.2.2.2.2.2.1 ?_
      refine mv_iload_n (pc := 39) d_Wo_countDown_39 rfl ?_
      refine mr_aald (pc := 40) d_Wo_countDown_40 hw.2.1 (mm_in16 hi) (hw.sl hi) ?_
      refine mr_geti (pc := 41) d_Wo_countDown_41 fl_Wo_84 (hw.at_ hi) rfl (by decide) ?_
      rw [show mm_gi (mm_wi h (mm_u2 F (w + 6 + i) 8 (a_cd A i 8 i - 1))) (w + 6 + i) 8 = a_cd A i 8 i - 1 by simp [mm_gwi, mm_u2]]
      refine mv_if_ne 52 (pc := 44) d_Wo_countDown_44 (by decide) (fun h44 => ?_) (fun h44 => ?_)
      · refine mv_iinc (pc := 52) d_Wo_countDown_52 rfl rfl (by decide) ?_
        refine mv_goto 2 (pc := 55) d_Wo_countDown_55 (by decide) ?_
        refine mm_V_ls (ls' := [some (.ref w), some (.int (nI (i + 1)))]) (by simp only [List.set]; rw [nI_succ]; rfl) ?_
        have e : a_cd A (i + 1) = a_put (a_cd A i) 8 i (a_cd A i 8 i - 1) := by
          show a_cd1 (a_cd A i) i = _
          unfold a_cd1
          rw [if_pos hcond, if_neg h44]
        exact ih _ ⟨by rw [e]; exact hR1, hwf1, hef1⟩
      · refine mv_aload_n (pc := 47) d_Wo_countDown_47 rfl ?_
        refine mv_iload_n (pc := 48) d_Wo_countDown_48 rfl ?_
        refine mr_callV1 (pc := 49) d_Wo_countDown_49 (d2 := (1, 21)) ok_Wo_removeThing li_Wo_87 sv_Wo_removeThing hw.1 ⟨by decide, rfl⟩ ⟨by decide, rfl, Nat.le_of_ble_eq_true rfl, rfl, by decide, by decide⟩ ?_
        refine c_removeThing (A := a_put (a_cd A i) 8 i (a_cd A i 8 i - 1)) hw hi hR1 (fun F' r1 r2 r3 => ?_)
        refine mv_iinc (pc := 52) d_Wo_countDown_52 rfl rfl (by decide) ?_
        refine mv_goto 2 (pc := 55) d_Wo_countDown_55 (by decide) ?_
        refine mm_V_ls (ls' := [some (.ref w), some (.int (nI (i + 1)))]) (by simp only [List.set]; rw [nI_succ]; rfl) ?_
        have e : a_cd A (i + 1) = a_rem (a_put (a_cd A i) 8 i (a_cd A i 8 i - 1)) i := by
          show a_cd1 (a_cd A i) i = _
          unfold a_cd1
          rw [if_pos hcond, if_pos h44]
        exact ih F' ⟨by rw [e]; exact r1, hwf1.trans r2, hef1.trans r3⟩
    · rw [mm_gwi, mm_gwi] at hc14
      refine mv_if_eq 52 (pc := 17) d_Wo_countDown_17 (by decide) (fun _ => ?_) (fun z => absurd z (by decide))
      refine mv_iinc (pc := 52) d_Wo_countDown_52 rfl rfl (by decide) ?_
      refine mv_goto 2 (pc := 55) d_Wo_countDown_55 (by decide) ?_
      refine mm_V_ls (ls' := [some (.ref w), some (.int (nI (i + 1)))]) (by simp only [List.set]; rw [nI_succ]; rfl) ?_
      have e : a_cd A (i + 1) = a_cd A i := by
        show a_cd1 (a_cd A i) i = _
        unfold a_cd1
        rw [if_neg]
        rintro ⟨z1, z2⟩
        exact hc14 ⟨by rw [q1]; exact z1, by rw [q8 z1]; exact z2⟩
      exact ih F ⟨by rw [e]; exact hR, hwf, hef⟩
set_option maxRecDepth 20000 in
theorem c_countDown {G : mm_G} {Q : mm_O → mm_H → Prop} {h : mm_H} {w : Nat} {A : mm_W} (hw : mm_Wd h w) (hR : RC (mm_gi h) w A) (hq : ∀ F', RC F' w (a_cd A 16) → mm_wfr w (mm_gi h) F' → mm_efr w (mm_gi h) F' → Q (.inl none) (mm_wi h F')) : mm_V G (2, 43) M_Wo_countDown Q 0 (mm_ent 2 [.ref w]) [] h := by
  show mm_V G (2, 43) M_Wo_countDown Q 0 [some (.ref w), none] [] h
  refine mv_iconst (v := 0) (pc := 0) d_Wo_countDown_0 (by decide) ?_
  refine mv_istore_n (pc := 1) d_Wo_countDown_1 (by decide) ?_
  exact l_countDown hw (mm_gi h) hq 0 (mm_gi h) (by omega) ⟨hR, mm_wfr.rfl', mm_efr.rfl'⟩
theorem RC.mv {F F' B : mm_W} {w i : Nat} (h : RC F w B) (hi : i < 16) (ht : ¬ B 1 i = 0) (hm : mm_moved F F' (w + 6 + i)) : RC F' w (a_mv1 B i) := by
  obtain ⟨m1, m2, m3, m4, m5, m6⟩ := hm
  obtain ⟨q0, q1, q2⟩ := h.2.1 i hi
  have e2 := q2 ht 2 (by omega) (by omega)
  have e3 := q2 ht 3 (by omega) (by omega)
  have e4 := q2 ht 4 (by omega) (by omega)
  have e5 := q2 ht 5 (by omega) (by omega)
  unfold a_mv1
  rw [if_pos ht]
  refine h.slot hi (fun a k ha => m1 a k ha) (fun k j hkj => ?_) ?_ ?_ (fun _ k k1 k2 => ?_)
  · grind
  · rw [m2 0 (by omega) (by omega) (by omega) (by omega)]; simp [q0]
  · rw [m2 1 (by omega) (by omega) (by omega) (by omega)]; simp [q1]
  · have hk : k = 2 ∨ k = 3 ∨ k = 4 ∨ k = 5 ∨ (k ≠ 2 ∧ k ≠ 3 ∧ k ≠ 4 ∧ k ≠ 5) := by omega
    rcases hk with rfl | rfl | rfl | rfl | ⟨k2', k3', k4', k5'⟩
    · rw [m3, e2, e4]; simp
    · rw [m4, e3, e5]; simp
    · rw [m5, e2, e4]; simp
    · rw [m6, e3, e5]; simp
    · rw [m2 k k2' k3' k4' k5', q2 ht k k1 k2]; simp [k2', k3', k4', k5']
set_option maxRecDepth 20000 in
theorem l_moveAll {G : mm_G} {Q : mm_O → mm_H → Prop} {h : mm_H} {w : Nat} {A : mm_W} (hw : mm_Wd h w) (F0 : mm_W) (hq : ∀ F', RC F' w (a_mv A 16) → mm_wfr w F0 F' → mm_efr w F0 F' → Q (.inl none) (mm_wi h F')) :
    ∀ (i : Nat) (F : mm_W), i ≤ 16 → RC F w (a_mv A i) ∧ mm_wfr w F0 F ∧ mm_efr w F0 F → mm_V G (2, 42) M_Wo_moveAll Q 2 [some (.ref w), some (.int (nI i))] [] (mm_wi h F) := by
  refine mr_loop _ _ 16 (fun F hI => ?_) (fun i F hi hI ih => ?_)
  · refine mv_iload_n (pc := 2) d_Wo_moveAll_2 rfl ?_
    refine mv_bipush (v := 16) (pc := 3) d_Wo_moveAll_3 (by decide) ?_
    refine mv_ic_ge 35 (pc := 5) d_Wo_moveAll_5 (by decide) (fun h5 => ?_) (fun z => absurd z (mm_ge16))
    refine mv_ret (pc := 35) d_Wo_moveAll_35 rfl ?_
    exact hq F hI.1 hI.2.1 hI.2.2
  · obtain ⟨hR, hwf, hef⟩ := hI
    have q1 : mm_gi (mm_wi h F) (w + 6 + i) 1 = a_mv A i 1 i := (hR.2.1 i hi).2.1
    refine mv_iload_n (pc := 2) d_Wo_moveAll_2 rfl ?_
    refine mv_bipush (v := 16) (pc := 3) d_Wo_moveAll_3 (by decide) ?_
    refine mv_ic_ge 35 (pc := 5) d_Wo_moveAll_5 (by decide) (fun z => absurd z (mm_lt16 hi)) (fun h5 => ?_)
    refine mv_aload_n (pc := 8) d_Wo_moveAll_8 rfl ?_
    refine mr_getr (pc := 9) d_Wo_moveAll_9 fl_Wo_11 hw.1 rfl (by decide) hw.2.2.2.2.2.1 ?_
    refine mv_iload_n (pc := 12) d_Wo_moveAll_12 rfl ?_
    refine mr_aald (pc := 13) d_Wo_moveAll_13 hw.2.1 (mm_in16 hi) (hw.sl hi) ?_
    refine mr_geti (pc := 14) d_Wo_moveAll_14 fl_Wo_33 (hw.at_ hi) rfl (by decide) ?_
    refine mv_if_eq 29 (pc := 17) d_Wo_moveAll_17 (by decide) (fun h17 => ?_) (fun h17 => ?_)
    · refine mv_iinc (pc := 29) d_Wo_moveAll_29 rfl rfl (by decide) ?_
      refine mv_goto 2 (pc := 32) d_Wo_moveAll_32 (by decide) ?_
      refine mm_V_ls (ls' := [some (.ref w), some (.int (nI (i + 1)))]) (by simp only [List.set]; rw [nI_succ]; rfl) ?_
      have e : a_mv A (i + 1) = a_mv A i := by
        show a_mv1 (a_mv A i) i = _
        unfold a_mv1
        rw [if_neg (fun z => z (q1.symm.trans h17))]
      exact ih F ⟨by rw [e]; exact hR, hwf, hef⟩
    · refine mv_aload_n (pc := 20) d_Wo_moveAll_20 rfl ?_
      refine mr_getr (pc := 21) d_Wo_moveAll_21 fl_Wo_11 hw.1 rfl (by decide) hw.2.2.2.2.2.1 ?_
      refine mv_iload_n (pc := 24) d_Wo_moveAll_24 rfl ?_
      refine mr_aald (pc := 25) d_Wo_moveAll_25 hw.2.1 (mm_in16 hi) (hw.sl hi) ?_
      refine mr_callV0 (pc := 26) d_Wo_moveAll_26 (d2 := (1, 22)) ok_Sl_move li_Wo_91 sv_Sl_move (hw.at_ hi) ⟨by decide, rfl⟩ ⟨by decide, Nat.le_of_ble_eq_true rfl, rfl, by decide, by decide⟩ ?_
      refine c_move (hw.at_ hi) (fun F' hm => ?_)
      refine mv_iinc (pc := 29) d_Wo_moveAll_29 rfl rfl (by decide) ?_
      refine mv_goto 2 (pc := 32) d_Wo_moveAll_32 (by decide) ?_
      refine mm_V_ls (ls' := [some (.ref w), some (.int (nI (i + 1)))]) (by simp only [List.set]; rw [nI_succ]; rfl) ?_
      have ht : ¬ a_mv A i 1 i = 0 := fun z => h17 (q1.trans z)
      exact ih F' ⟨hR.mv hi ht hm, hwf.trans (fun a k ha => hm.1 a k (by omega)), hef.trans (fun a k ha => hm.1 a k (by omega))⟩
set_option maxRecDepth 20000 in
theorem c_moveAll {G : mm_G} {Q : mm_O → mm_H → Prop} {h : mm_H} {w : Nat} {A : mm_W} (hw : mm_Wd h w) (hR : RC (mm_gi h) w A) (hq : ∀ F', RC F' w (a_mv A 16) → mm_wfr w (mm_gi h) F' → mm_efr w (mm_gi h) F' → Q (.inl none) (mm_wi h F')) : mm_V G (2, 42) M_Wo_moveAll Q 0 (mm_ent 2 [.ref w]) [] h := by
  show mm_V G (2, 42) M_Wo_moveAll Q 0 [some (.ref w), none] [] h
  refine mv_iconst (v := 0) (pc := 0) d_Wo_moveAll_0 (by decide) ?_
  refine mv_istore_n (pc := 1) d_Wo_moveAll_1 (by decide) ?_
  exact l_moveAll hw (mm_gi h) hq 0 (mm_gi h) (by omega) ⟨hR, mm_wfr.rfl', mm_efr.rfl'⟩
theorem RC.meet {F F' A : mm_W} {w p : Nat} {b : Int32} (h : RC F w A) (ho : ∀ a k, a ≠ w + 2 → a ≠ w + 3 → a ≠ w + 4 → a ≠ w + 5 → F' a k = F a k) (ht : ∀ q, F' (w + 2) q = if q = p then b else F (w + 2) q) : RC F' w (a_put A 9 p b) := by
  refine ⟨by rw [ho w 3 (by omega) (by omega) (by omega) (by omega)]; simpa [a_put] using h.1, fun j hj => ?_, fun q hq => ?_⟩
  · obtain ⟨q0, q1, q2⟩ := h.2.1 j hj
    refine ⟨by rw [ho _ 0 (by omega) (by omega) (by omega) (by omega)]; simpa [a_put] using q0, by rw [ho _ 1 (by omega) (by omega) (by omega) (by omega)]; simpa [a_put] using q1, fun z k k1 k2 => ?_⟩
    have z' : ¬ A 1 j = 0 := by simpa [a_put] using z
    rw [ho _ k (by omega) (by omega) (by omega) (by omega), q2 z' k k1 k2]
    have hk : ¬ k = 9 := by omega
    simp [a_put, hk]
  · rw [ht q]
    by_cases hqp : q = p
    · simp [a_put, hqp]
    · simp [a_put, hqp, h.2.2 q hq]
theorem RE.add {F F' : mm_W} {w p : Nat} {E : mm_E} {k : Int32} (h : RE F w E) (h2 : F' (w + 3) 2 = nI (E.length + 1)) (h4 : ∀ j, F' (w + 4) j = if j = E.length then k else F (w + 4) j) (h5 : ∀ j, F' (w + 5) j = if j = E.length then nI p else F (w + 5) j) : RE F' w (E ++ [(k, p)]) := by
  refine ⟨by rw [h2]; simp, fun j hj => ?_⟩
  simp only [List.length_append, List.length_cons, List.length_nil] at hj
  rw [h4 j, h5 j, List.getD_eq_getElem?_getD]
  by_cases e : j = E.length
  · subst e; simp
  · have := h.2 j (by omega)
    rw [List.getD_eq_getElem?_getD] at this
    rw [if_neg e, if_neg e, List.getElem?_append_left (by omega)]
    exact this
theorem RE.same {F F' : mm_W} {w : Nat} {E : mm_E} (h : RE F w E) (hs : ∀ a k, a = w + 3 ∨ a = w + 4 ∨ a = w + 5 → F' a k = F a k) : RE F' w E :=
  ⟨by rw [hs _ 2 (Or.inl rfl)]; exact h.1, fun j hj => by rw [hs _ j (Or.inr (Or.inl rfl)), hs _ j (Or.inr (Or.inr rfl))]; exact h.2 j hj⟩
theorem mm_narb {b : Int32} (hb : b = 0 ∨ b = 1) : vp_nar .boolean b = b := by rcases hb with rfl | rfl <;> decide
set_option maxRecDepth 20000 in
theorem c_meet {G : mm_G} {Q : mm_O → mm_H → Prop} {h : mm_H} {w p : Nat} {b : Int32} {A : mm_W} {E : mm_E} (hw : mm_Wd h w) (hR : RC (mm_gi h) w A) (hE : RE (mm_gi h) w E) (hlen : E.length < 120) (hp : p < 256) (hb : b = 0 ∨ b = 1) (hq : ∀ F', RC F' w (a_put A 9 p b) → RE F' w (a_mtE E (A 9 p) p b) → mm_wfr w (mm_gi h) F' → Q (.inl none) (mm_wi h F')) : mm_V G (1, 22) M_Wo_meet Q 0 (mm_ent 3 [.ref w, .int (nI p), .int b]) [] h := by
  show mm_V G (1, 22) M_Wo_meet Q 0 [some (.ref w), some (.int (nI p)), some (.int b)] [] h
  refine mv_iload_n (pc := 0) d_Wo_meet_0 rfl ?_
  refine mv_if_eq 29 (pc := 1) d_Wo_meet_1 (by decide) (fun h1 => ?_) (fun h1 => ?_)
  · refine mv_aload_n (pc := 29) d_Wo_meet_29 rfl ?_
    refine mr_getr (pc := 30) d_Wo_meet_30 fl_Wo_17 hw.1 rfl (by decide) hw.2.2.2.2.2.2.1 ?_
    refine mv_iload_n (pc := 33) d_Wo_meet_33 rfl ?_
    refine mr_zald (pc := 34) d_Wo_meet_34 hw.2.2.1 (mm_in256 hp) ?_
    rw [nI_clamp (by omega), hR.2.2 p hp]
    refine mv_if_eq 47 (pc := 35) d_Wo_meet_35 (by decide) (fun h35 => ?_) (fun h35 => ?_)
    · refine mv_aload_n (pc := 47) d_Wo_meet_47 rfl ?_
      refine mr_getr (pc := 48) d_Wo_meet_48 fl_Wo_17 hw.1 rfl (by decide) hw.2.2.2.2.2.2.1 ?_
      refine mv_iload_n (pc := 51) d_Wo_meet_51 rfl ?_
      refine mv_iload_n (pc := 52) d_Wo_meet_52 rfl ?_
      refine mr_zast (pc := 53) d_Wo_meet_53 hw.2.2.1 (mm_in256 hp) ?_
      rw [nI_clamp (by omega), mm_narb hb]
      refine mv_ret (pc := 54) d_Wo_meet_54 rfl ?_
      have e : a_mtE E (A 9 p) p b = E := by unfold a_mtE; rw [if_neg (fun z => z h1), if_neg (fun z => z h35)]
      rw [e] at hq
      refine hq _ (hR.meet (b := b) (p := p) (fun a k a1 a2 a3 a4 => ?_) (fun q => ?_)) (hE.same (fun a k ha => ?_)) (fun a k ha => ?_)
      · simp [mm_u2, mm_usi, mm_uwi, mm_g0, mm_gsi, mm_gwi, a1, a2, a3, a4]
      · by_cases e1 : q = p <;> simp [mm_u2, mm_usi, mm_uwi, mm_g0, mm_gsi, mm_gwi, e1]
      · have n2 : ¬ a = w + 2 := by omega
        simp [mm_u2, mm_usi, mm_uwi, mm_g0, mm_gsi, mm_gwi, n2]
      · have n2 : ¬ a = w + 2 := by omega
        simp [mm_u2, mm_usi, mm_uwi, mm_g0, mm_gsi, mm_gwi, n2]
    · refine mv_aload_n (pc := 38) d_Wo_meet_38 rfl ?_
      refine mr_getr (pc := 39) d_Wo_meet_39 fl_Wo_24 hw.1 rfl (by decide) hw.2.2.2.2.2.2.2.1 ?_
      refine mv_iconst (v := 2) (pc := 42) d_Wo_meet_42 (by decide) ?_
      refine mv_iload_n (pc := 43) d_Wo_meet_43 rfl ?_
      refine mr_callV2 (pc := 44) d_Wo_meet_44 (d2 := (0, 0)) ok_Ev_add li_Wo_105 sv_Ev_add hw.2.2.2.1.1 ⟨by decide, rfl⟩ ⟨by decide, rfl, rfl, Nat.le_of_ble_eq_true rfl, rfl, by decide, by decide⟩ ?_
      refine c_evAdd hw.2.2.2.1 hE.1 hlen ?_
      refine mv_aload_n (pc := 47) d_Wo_meet_47 rfl ?_
      refine mr_getr (pc := 48) d_Wo_meet_48 fl_Wo_17 hw.1 rfl (by decide) hw.2.2.2.2.2.2.1 ?_
      refine mv_iload_n (pc := 51) d_Wo_meet_51 rfl ?_
      refine mv_iload_n (pc := 52) d_Wo_meet_52 rfl ?_
      refine mr_zast (pc := 53) d_Wo_meet_53 hw.2.2.1 (mm_in256 hp) ?_
      rw [nI_clamp (by omega), mm_narb hb]
      refine mv_ret (pc := 54) d_Wo_meet_54 rfl ?_
      have e : a_mtE E (A 9 p) p b = E ++ [(2, p)] := by unfold a_mtE; rw [if_neg (fun z => z h1), if_pos h35]
      rw [e] at hq
      refine hq _ (hR.meet (b := b) (p := p) (fun a k a1 a2 a3 a4 => ?_) (fun q => ?_)) (hE.add (k := 2) ?_ (fun j => ?_) (fun j => ?_)) (fun a k ha => ?_)
      · simp [mm_u2, mm_usi, mm_uwi, mm_g0, mm_gsi, mm_gwi, a1, a2, a3, a4]
      · by_cases e1 : q = p <;> simp [mm_u2, mm_usi, mm_uwi, mm_g0, mm_gsi, mm_gwi, e1]
      · simp [mm_u2, mm_usi, mm_uwi, mm_g0, mm_gsi, mm_gwi]
      · by_cases e2 : j = E.length <;> simp [mm_u2, mm_usi, mm_uwi, mm_g0, mm_gsi, mm_gwi, e2]
      · by_cases e2 : j = E.length <;> simp [mm_u2, mm_usi, mm_uwi, mm_g0, mm_gsi, mm_gwi, e2]
      · have n2 : ¬ a = w + 2 := by omega
        have n3 : ¬ a = w + 3 := by omega
        have n4 : ¬ a = w + 4 := by omega
        have n5 : ¬ a = w + 5 := by omega
        simp [mm_u2, mm_usi, mm_uwi, mm_g0, mm_gsi, mm_gwi, n2, n3, n4, n5]
  · refine mv_aload_n (pc := 4) d_Wo_meet_4 rfl ?_
    refine mr_getr (pc := 5) d_Wo_meet_5 fl_Wo_24 hw.1 rfl (by decide) hw.2.2.2.2.2.2.2.1 ?_
    refine mv_aload_n (pc := 8) d_Wo_meet_8 rfl ?_
    refine mr_getr (pc := 9) d_Wo_meet_9 fl_Wo_17 hw.1 rfl (by decide) hw.2.2.2.2.2.2.1 ?_
    refine mv_iload_n (pc := 12) d_Wo_meet_12 rfl ?_
    refine mr_zald (pc := 13) d_Wo_meet_13 hw.2.2.1 (mm_in256 hp) ?_
    rw [nI_clamp (by omega), hR.2.2 p hp]
    refine mv_if_eq 21 (pc := 14) d_Wo_meet_14 (by decide) (fun h14 => ?_) (fun h14 => ?_)
    · refine mv_iconst (v := 0) (pc := 21) d_Wo_meet_21 (by decide) ?_
      refine mv_iload_n (pc := 22) d_Wo_meet_22 rfl ?_
      refine mr_callV2 (pc := 23) d_Wo_meet_23 (d2 := (0, 0)) ok_Ev_add li_Wo_105 sv_Ev_add hw.2.2.2.1.1 ⟨by decide, rfl⟩ ⟨by decide, rfl, rfl, Nat.le_of_ble_eq_true rfl, rfl, by decide, by decide⟩ ?_
      refine c_evAdd hw.2.2.2.1 hE.1 hlen ?_
      refine mv_goto 47 (pc := 26) d_Wo_meet_26 (by decide) ?_
      refine mv_aload_n (pc := 47) d_Wo_meet_47 rfl ?_
      refine mr_getr (pc := 48) d_Wo_meet_48 fl_Wo_17 hw.1 rfl (by decide) hw.2.2.2.2.2.2.1 ?_
      refine mv_iload_n (pc := 51) d_Wo_meet_51 rfl ?_
      refine mv_iload_n (pc := 52) d_Wo_meet_52 rfl ?_
      refine mr_zast (pc := 53) d_Wo_meet_53 hw.2.2.1 (mm_in256 hp) ?_
      rw [nI_clamp (by omega), mm_narb hb]
      refine mv_ret (pc := 54) d_Wo_meet_54 rfl ?_
      have e : a_mtE E (A 9 p) p b = E ++ [(0, p)] := by unfold a_mtE; rw [if_pos h1, if_neg (fun z => z h14)]
      rw [e] at hq
      refine hq _ (hR.meet (b := b) (p := p) (fun a k a1 a2 a3 a4 => ?_) (fun q => ?_)) (hE.add (k := 0) ?_ (fun j => ?_) (fun j => ?_)) (fun a k ha => ?_)
      · simp [mm_u2, mm_usi, mm_uwi, mm_g0, mm_gsi, mm_gwi, a1, a2, a3, a4]
      · by_cases e1 : q = p <;> simp [mm_u2, mm_usi, mm_uwi, mm_g0, mm_gsi, mm_gwi, e1]
      · simp [mm_u2, mm_usi, mm_uwi, mm_g0, mm_gsi, mm_gwi]
      · by_cases e2 : j = E.length <;> simp [mm_u2, mm_usi, mm_uwi, mm_g0, mm_gsi, mm_gwi, e2]
      · by_cases e2 : j = E.length <;> simp [mm_u2, mm_usi, mm_uwi, mm_g0, mm_gsi, mm_gwi, e2]
      · have n2 : ¬ a = w + 2 := by omega
        have n3 : ¬ a = w + 3 := by omega
        have n4 : ¬ a = w + 4 := by omega
        have n5 : ¬ a = w + 5 := by omega
        simp [mm_u2, mm_usi, mm_uwi, mm_g0, mm_gsi, mm_gwi, n2, n3, n4, n5]
    · refine mv_iconst (v := 1) (pc := 17) d_Wo_meet_17 (by decide) ?_
      refine mv_goto 22 (pc := 18) d_Wo_meet_18 (by decide) ?_
      refine mv_iload_n (pc := 22) d_Wo_meet_22 rfl ?_
      refine mr_callV2 (pc := 23) d_Wo_meet_23 (d2 := (0, 0)) ok_Ev_add li_Wo_105 sv_Ev_add hw.2.2.2.1.1 ⟨by decide, rfl⟩ ⟨by decide, rfl, rfl, Nat.le_of_ble_eq_true rfl, rfl, by decide, by decide⟩ ?_
      refine c_evAdd hw.2.2.2.1 hE.1 hlen ?_
      refine mv_goto 47 (pc := 26) d_Wo_meet_26 (by decide) ?_
      refine mv_aload_n (pc := 47) d_Wo_meet_47 rfl ?_
      refine mr_getr (pc := 48) d_Wo_meet_48 fl_Wo_17 hw.1 rfl (by decide) hw.2.2.2.2.2.2.1 ?_
      refine mv_iload_n (pc := 51) d_Wo_meet_51 rfl ?_
      refine mv_iload_n (pc := 52) d_Wo_meet_52 rfl ?_
      refine mr_zast (pc := 53) d_Wo_meet_53 hw.2.2.1 (mm_in256 hp) ?_
      rw [nI_clamp (by omega), mm_narb hb]
      refine mv_ret (pc := 54) d_Wo_meet_54 rfl ?_
      have e : a_mtE E (A 9 p) p b = E ++ [(1, p)] := by unfold a_mtE; rw [if_pos h1, if_pos h14]
      rw [e] at hq
      refine hq _ (hR.meet (b := b) (p := p) (fun a k a1 a2 a3 a4 => ?_) (fun q => ?_)) (hE.add (k := 1) ?_ (fun j => ?_) (fun j => ?_)) (fun a k ha => ?_)
      · simp [mm_u2, mm_usi, mm_uwi, mm_g0, mm_gsi, mm_gwi, a1, a2, a3, a4]
      · by_cases e1 : q = p <;> simp [mm_u2, mm_usi, mm_uwi, mm_g0, mm_gsi, mm_gwi, e1]
      · simp [mm_u2, mm_usi, mm_uwi, mm_g0, mm_gsi, mm_gwi]
      · by_cases e2 : j = E.length <;> simp [mm_u2, mm_usi, mm_uwi, mm_g0, mm_gsi, mm_gwi, e2]
      · by_cases e2 : j = E.length <;> simp [mm_u2, mm_usi, mm_uwi, mm_g0, mm_gsi, mm_gwi, e2]
      · have n2 : ¬ a = w + 2 := by omega
        have n3 : ¬ a = w + 3 := by omega
        have n4 : ¬ a = w + 4 := by omega
        have n5 : ¬ a = w + 5 := by omega
        simp [mm_u2, mm_usi, mm_uwi, mm_g0, mm_gsi, mm_gwi, n2, n3, n4, n5]
