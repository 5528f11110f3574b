/-! CONTRACTS: LogBytes: the entries done again; replay (rows by program: con_rj.py) -/
def mm_xfr (y w : Nat) (F F' : mm_W) : Prop := ∀ a k, (a < w ∨ w + 22 ≤ a) → ¬ (a = y ∧ k = 2) → F' a k = F a k
theorem mm_xfr.rfl' {y w : Nat} {F : mm_W} : mm_xfr y w F F := fun _ _ _ _ => rfl
theorem mm_xfr.trans {y w : Nat} {F F1 F2 : mm_W} (h1 : mm_xfr y w F F1) (h2 : mm_xfr y w F1 F2) : mm_xfr y w F F2 := fun a k ha hb => (h2 a k ha hb).trans (h1 a k ha hb)
theorem mm_xfr.pl {y w : Nat} {F0 F : mm_W} (h : mm_xfr y w F0 F) (x : Int32) : mm_xfr y w F0 (mm_u2 F y 2 x) := fun a k ha hb => by
  simp only [mm_u2, hb, if_false]
  exact h a k ha hb
theorem mm_xfr.wfr {y w : Nat} {F0 F F' : mm_W} (h : mm_xfr y w F0 F) (f : mm_wfr w F F') : mm_xfr y w F0 F' := fun a k ha hb => (f a k ha).trans (h a k ha hb)
theorem mm_xfr.sl {y w i : Nat} {F0 F : mm_W} (h : mm_xfr y w F0 F) (hi : i < 16) (k : Nat) (x : Int32) : mm_xfr y w F0 (mm_u2 F (w + 6 + i) k x) := fun a j ha hb => by
  have n1 : ¬ a = w + 6 + i := by omega
  simp only [mm_u2, n1, false_and, if_false]
  exact h a j ha hb
theorem RC.pl {F A : mm_W} {w y : Nat} (h : RC F w A) (hd : y + 1 < w ∨ w + 22 ≤ y) (x : Int32) : RC (mm_u2 F y 2 x) w A := h.same9 (fun a k h1 h2 => by have n1 : ¬ a = y := (by omega); simp [mm_u2, n1])
theorem mm_By.xfr {F F' : mm_W} {y w : Nat} {bs : List Int32} (h : mm_By F y bs) (hd : y + 1 < w ∨ w + 22 ≤ y) (f : mm_xfr y w F F') : mm_By F' y bs := ⟨(f y 1 (by omega) (by omega)).trans h.1, fun j hj => (f (y + 1) j (by omega) (by omega)).trans (h.2 j hj)⟩
theorem nI_hm1 {i : Nat} {g : Int32} (hi : i < 16) (hg : 0 ≤ g ∧ g ≤ 65535) : ¬ nI i + 16 * g = -1 := fun z => by
  obtain ⟨j, hj, rfl⟩ := nI_of2 (x := g) (M := 65535) (n := 65535) (by decide) (Int32.not_lt.mpr hg.1) hg.2
  rw [mm_16, nI_add] at z
  have h1 : (0 : Int32) ≤ nI (i + 16 * j) := nI_pos' (by omega)
  rw [z] at h1
  exact absurd h1 (by decide)
set_option maxRecDepth 20000 in
theorem c_redoCreate {G : mm_G} {Q : mm_O → mm_H → Prop} {h : mm_H} {z y N w p : Nat} {B : mm_W} {lg : List Int32} (hz : mm_Hd h z 2 y N) (hw : mm_Wd h w) (hd : y + 1 < w ∨ w + 22 ≤ y) (hN : lg.length ≤ N) (hB : mm_By (mm_gi h) y lg) (hR : RC (mm_gi h) w B) (hW : WF B) (hp : p + 1 ≤ lg.length) (hpl : mm_gi h y 2 = nI (p + 1)) (hq1 : ∀ F' B' n, a_en1 B lg p = some (B', n) → RC F' w B' → F' y 2 = nI (p + n) → mm_xfr y w (mm_gi h) F' → Q (.inl (some (.int 1))) (mm_wi h F')) (hq0 : ∀ F', a_en1 B lg p = none → mm_xfr y w (mm_gi h) F' → Q (.inl (some (.int 0))) (mm_wi h F')) : mm_V G (3, 67) M_Lg_redoCreate Q 0 (mm_ent 4 [.ref z, .ref w]) [] h := by
  show mm_V G (3, 67) M_Lg_redoCreate Q 0 [some (.ref z), some (.ref w), none, none] [] h
  refine mv_aload_n (pc := 0) d_Lg_redoCreate_0 rfl ?_
  refine mr_getr (pc := 1) d_Lg_redoCreate_1 fl_Lg_14 hz.1 rfl (by decide) hz.2.1 ?_
  refine mv_iconst (v := 2) (pc := 4) d_Lg_redoCreate_4 (by decide) ?_
  refine mr_callV1 (pc := 5) d_Lg_redoCreate_5 (d2 := (1, 21)) ok_By_next li_Lg_36 sv_By_next hz.2.2.1 ⟨by decide, rfl⟩ ⟨by decide, rfl, Nat.le_of_ble_eq_true rfl, rfl, by decide, by decide⟩ ?_
  refine c_nx (h := h) (n := 2) (p := p + 1) hz.2.2 (by omega) hN hB (by first | exact hp | exact mm_np_le _ _ _) hpl ?_
  refine mv_istore_n (pc := 8) d_Lg_redoCreate_8 (by decide) ?_
  refine mv_aload_n (pc := 9) d_Lg_redoCreate_9 rfl ?_
  refine mr_getr (pc := 10) d_Lg_redoCreate_10 fl_Lg_14 hz.1 rfl (by decide) hz.2.1 ?_
  refine mv_iconst (v := 2) (pc := 13) d_Lg_redoCreate_13 (by decide) ?_
  refine mr_callV1 (pc := 14) d_Lg_redoCreate_14 (d2 := (1, 21)) ok_By_next li_Lg_36 sv_By_next hz.2.2.1 ⟨by decide, rfl⟩ ⟨by decide, rfl, Nat.le_of_ble_eq_true rfl, rfl, by decide, by decide⟩ ?_
  refine c_nx (h := (mm_si h y 2 (nI (mm_np lg (p + 1) 2)))) (n := 2) (p := (mm_np lg (p + 1) 2)) hz.2.2 (by omega) hN (hB.pl _) (by first | exact hp | exact mm_np_le _ _ _) (mm_gss _ _ _ _) ?_
  refine mv_istore_n (pc := 17) d_Lg_redoCreate_17 (by decide) ?_
  refine mv_iload_n (pc := 18) d_Lg_redoCreate_18 rfl ?_
  refine mv_iload_n (pc := 19) d_Lg_redoCreate_19 rfl ?_
  refine mr_callS2 (pc := 20) d_Lg_redoCreate_20 (d2 := (1, 22)) ok_Ta_isPlace li_Lg_60 sv_Ta_isPlace ⟨by decide, rfl, rfl, Nat.le_of_ble_eq_true rfl, rfl, by decide, by decide⟩ ?_
  refine c_isPlace (fun hp1 => ?_) (fun hp1 => ?_)
  · refine mv_if_eq 40 (pc := 23) d_Lg_redoCreate_23 (by decide) (fun z => absurd z (by decide)) (fun _ => ?_)
    refine mv_aload_n (pc := 26) d_Lg_redoCreate_26 rfl ?_
    refine mv_iload_n (pc := 27) d_Lg_redoCreate_27 rfl ?_
    refine mv_iload_n (pc := 28) d_Lg_redoCreate_28 rfl ?_
    refine mr_callV2 (pc := 29) d_Lg_redoCreate_29 (d2 := (2, 44)) ok_Wo_addThing li_Lg_64 sv_Wo_addThing hw.1 ⟨by decide, rfl⟩ ⟨by decide, rfl, rfl, Nat.le_of_ble_eq_true rfl, rfl, by decide, by decide⟩ ?_
    refine c_addThing (h := (mm_si (mm_si h y 2 (nI (mm_np lg (p + 1) 2))) y 2 (nI (mm_np lg (mm_np lg (p + 1) 2) 2)))) hw (fun i hi l1 l2 => ?_) (fun hl => ?_)
    · refine mv_iconst (v := -1) (pc := 32) d_Lg_redoCreate_32 (by decide) ?_
      refine mv_ic_eq 40 (pc := 33) d_Lg_redoCreate_33 (by decide) (fun z => absurd z (nI_hm1 hi (by rw [show mm_gi (mm_si (mm_si h y 2 (nI (mm_np lg (p + 1) 2))) y 2 (nI (mm_np lg (mm_np lg (p + 1) 2) 2))) (w + 6 + i) 0 = B 0 i from (((hR.pl hd _).pl hd _).2.1 i hi).1]; exact (hW.1 i hi).2.1))) (fun h33 => ?_)
      refine mv_iconst (v := 1) (pc := 36) d_Lg_redoCreate_36 (by decide) ?_
      refine mv_goto 41 (pc := 37) d_Lg_redoCreate_37 (by decide) ?_
      refine mv_iret (pc := 41) d_Lg_redoCreate_41 rfl rfl ?_
      have c : p + 5 ≤ lg.length := Classical.byContradiction fun z => by
        rw [nv_o2 (p := p + 1) (n := 2) (m := 2) (by omega) (by omega)] at hp1
        exact absurd hp1.2.1 (by decide)
      obtain ⟨e1, e2, e3⟩ := nv_cr c
      rw [e1, e2] at hp1 ⊢
      have lo := a_low0 (A := B) hi (fun j hj => by rw [← (((hR.pl hd _).pl hd _).2.1 j (by omega)).2.1]; exact l1 j hj) (by rw [← (((hR.pl hd _).pl hd _).2.1 i hi).2.1]; exact l2)
      refine hq1 _ (a_set B i (mm_dec lg (p + 1) 2) (mm_dec lg (p + 3) 2)) 5 (by rw [a_en1_y ⟨c, hp1, by omega⟩, lo]) (RC.set (h := h) ((hR.pl hd _).pl hd _) hi _ _) ?_ ?_
      · have n1 : ¬ y = w + 6 + i := by omega
        simp [mm_settle, mm_usi, mm_uwi, mm_u2, mm_g0, mm_gsi, mm_gwi, n1, e3]
      · exact (((((((((((mm_xfr.rfl' (F := mm_gi h)).pl _).pl _).sl hi _ _).sl hi _ _).sl hi _ _).sl hi _ _).sl hi _ _).sl hi _ _).sl hi _ _).sl hi _ _)
    · refine mv_iconst (v := -1) (pc := 32) d_Lg_redoCreate_32 (by decide) ?_
      refine mv_ic_eq 40 (pc := 33) d_Lg_redoCreate_33 (by decide) (fun _ => ?_) (fun z => absurd z (by decide))
      refine mv_iconst (v := 0) (pc := 40) d_Lg_redoCreate_40 (by decide) ?_
      refine mv_iret (pc := 41) d_Lg_redoCreate_41 rfl rfl ?_
      refine hq0 _ (a_en1_n (fun z => ?_)) (((mm_xfr.rfl' (F := mm_gi h)).pl _).pl _)
      have c2 := a_low16 (A := B) (fun j hj => by rw [← (((hR.pl hd _).pl hd _).2.1 j hj).2.1]; exact hl j hj)
      have c3 := z.2.2
      omega
  · refine mv_if_eq 40 (pc := 23) d_Lg_redoCreate_23 (by decide) (fun _ => ?_) (fun z => absurd z (by decide))
    refine mv_iconst (v := 0) (pc := 40) d_Lg_redoCreate_40 (by decide) ?_
    refine mv_iret (pc := 41) d_Lg_redoCreate_41 rfl rfl ?_
    refine hq0 _ (a_en1_n (fun z => ?_)) (((mm_xfr.rfl' (F := mm_gi h)).pl _).pl _)
    obtain ⟨e1, e2, -⟩ := nv_cr z.1
    rw [e1, e2] at hp1
    exact hp1 z.2.1
set_option maxRecDepth 20000 in
theorem c_redoDestroy {G : mm_G} {Q : mm_O → mm_H → Prop} {h : mm_H} {z y N w p : Nat} {B : mm_W} {lg : List Int32} (hz : mm_Hd h z 2 y N) (hw : mm_Wd h w) (hd : y + 1 < w ∨ w + 22 ≤ y) (hN : lg.length ≤ N) (hB : mm_By (mm_gi h) y lg) (hR : RC (mm_gi h) w B) (hW : WF B) (hp : p + 1 ≤ lg.length) (hpl : mm_gi h y 2 = nI (p + 1)) (hq1 : ∀ F' B' n, a_en2 B lg p 2 4 0 0 = some (B', n) → RC F' w B' → F' y 2 = nI (p + n) → mm_xfr y w (mm_gi h) F' → Q (.inl (some (.int 1))) (mm_wi h F')) (hq0 : ∀ F', a_en2 B lg p 2 4 0 0 = none → mm_xfr y w (mm_gi h) F' → Q (.inl (some (.int 0))) (mm_wi h F')) : mm_V G (3, 63) M_Lg_redoDestroy Q 0 (mm_ent 3 [.ref z, .ref w]) [] h := by
  show mm_V G (3, 63) M_Lg_redoDestroy Q 0 [some (.ref z), some (.ref w), none] [] h
  refine mv_aload_n (pc := 0) d_Lg_redoDestroy_0 rfl ?_
  refine mr_getr (pc := 1) d_Lg_redoDestroy_1 fl_Lg_14 hz.1 rfl (by decide) hz.2.1 ?_
  refine mv_iconst (v := 3) (pc := 4) d_Lg_redoDestroy_4 (by decide) ?_
  refine mr_callV1 (pc := 5) d_Lg_redoDestroy_5 (d2 := (1, 21)) ok_By_next li_Lg_36 sv_By_next hz.2.2.1 ⟨by decide, rfl⟩ ⟨by decide, rfl, Nat.le_of_ble_eq_true rfl, rfl, by decide, by decide⟩ ?_
  refine c_nx (h := h) (n := 3) (p := p + 1) hz.2.2 (by omega) hN hB (by first | exact hp | exact mm_np_le _ _ _) hpl ?_
  refine mv_istore_n (pc := 8) d_Lg_redoDestroy_8 (by decide) ?_
  refine mv_aload_n (pc := 9) d_Lg_redoDestroy_9 rfl ?_
  refine mv_iload_n (pc := 10) d_Lg_redoDestroy_10 rfl ?_
  refine mr_callV1 (pc := 11) d_Lg_redoDestroy_11 (d2 := (2, 41)) ok_Wo_isGood li_Lg_68 sv_Wo_isGood hw.1 ⟨by decide, rfl⟩ ⟨by decide, rfl, Nat.le_of_ble_eq_true rfl, rfl, by decide, by decide⟩ ?_
  refine c_isGood (h := (mm_si h y 2 (nI (mm_np lg (p + 1) 3)))) (i := (a_ix (mm_nv lg (p + 1) 3))) hw (a_ix_lt _) (a_ix_eq _) (fun hg => ?_) (fun hg => ?_)
  · refine mv_if_ne 19 (pc := 14) d_Lg_redoDestroy_14 (by decide) (fun _ => ?_) (fun z => absurd z (by decide))
    refine mv_aload_n (pc := 19) d_Lg_redoDestroy_19 rfl ?_
    refine mv_iload_n (pc := 20) d_Lg_redoDestroy_20 rfl ?_
    refine mr_callS1 (pc := 21) d_Lg_redoDestroy_21 (d2 := (0, 0)) ok_Ta_slotNumber li_Lg_72 sv_Ta_slotNumber ⟨by decide, rfl, Nat.le_of_ble_eq_true rfl, rfl, by decide, by decide⟩ ?_
    refine c_slotNumber ?_
    rw [a_ix_eq (mm_nv lg (p + 1) 3)]
    refine mr_callV1 (pc := 24) d_Lg_redoDestroy_24 (d2 := (1, 21)) ok_Wo_removeThing li_Lg_75 sv_Wo_removeThing hw.1 ⟨by decide, rfl⟩ ⟨by decide, rfl, Nat.le_of_ble_eq_true rfl, rfl, by decide, by decide⟩ ?_
    refine c_removeThing (h := (mm_si h y 2 (nI (mm_np lg (p + 1) 3)))) hw (a_ix_lt _) (hR.pl hd _) (fun F2 r2 f2 _ => ?_)
    refine mv_iconst (v := 1) (pc := 27) d_Lg_redoDestroy_27 (by decide) ?_
    refine mv_iret (pc := 28) d_Lg_redoDestroy_28 rfl rfl ?_
    have hg := (((hR.pl hd _)).good (x := (mm_nv lg (p + 1) 3)) (a_ix_lt _)).mp hg
    have c : p + 4 ≤ lg.length := Classical.byContradiction fun z => by
      rw [nv_o1 (p := p + 1) (n := 3) (by omega)] at hg
      exact a_good_m1 hW (a_ix_lt _) hg
    obtain ⟨e1, e3⟩ := nv_de c
    rw [e1] at hg r2
    refine hq1 F2 _ 4 (a_en2_y ⟨c, hg, a_fit2 0 0⟩) r2 ((f2 y 2 (by omega)).trans ?_) ((((mm_xfr.rfl' (F := mm_gi h)).pl _)).wfr f2)
    rw [mm_gss, e3]
  · refine mv_if_ne 19 (pc := 14) d_Lg_redoDestroy_14 (by decide) (fun z => absurd z (by decide)) (fun _ => ?_)
    refine mv_iconst (v := 0) (pc := 17) d_Lg_redoDestroy_17 (by decide) ?_
    refine mv_iret (pc := 18) d_Lg_redoDestroy_18 rfl rfl ?_
    refine hq0 _ (a_en2_n (fun z => ?_)) ((mm_xfr.rfl' (F := mm_gi h)).pl _)
    have e1 := (nv_de z.1).1
    refine hg ((((hR.pl hd _)).good (x := (mm_nv lg (p + 1) 3)) (a_ix_lt _)).mpr ?_)
    rw [e1]; exact z.2.1
set_option maxRecDepth 20000 in
theorem c_redoSpeed {G : mm_G} {Q : mm_O → mm_H → Prop} {h : mm_H} {z y N w p : Nat} {B : mm_W} {lg : List Int32} (hz : mm_Hd h z 2 y N) (hw : mm_Wd h w) (hd : y + 1 < w ∨ w + 22 ≤ y) (hN : lg.length ≤ N) (hB : mm_By (mm_gi h) y lg) (hR : RC (mm_gi h) w B) (hW : WF B) (hp : p + 1 ≤ lg.length) (hpl : mm_gi h y 2 = nI (p + 1)) (hq1 : ∀ F' B' n, a_en2 B lg p 3 6 (mm_dec lg (p + 4) 1 - 128) (mm_dec lg (p + 5) 1 - 128) = some (B', n) → RC F' w B' → F' y 2 = nI (p + n) → mm_xfr y w (mm_gi h) F' → Q (.inl (some (.int 1))) (mm_wi h F')) (hq0 : ∀ F', a_en2 B lg p 3 6 (mm_dec lg (p + 4) 1 - 128) (mm_dec lg (p + 5) 1 - 128) = none → mm_xfr y w (mm_gi h) F' → Q (.inl (some (.int 0))) (mm_wi h F')) : mm_V G (3, 63) M_Lg_redoSpeed Q 0 (mm_ent 5 [.ref z, .ref w]) [] h := by
  show mm_V G (3, 63) M_Lg_redoSpeed Q 0 [some (.ref z), some (.ref w), none, none, none] [] h
  refine mv_aload_n (pc := 0) d_Lg_redoSpeed_0 rfl ?_
  refine mr_getr (pc := 1) d_Lg_redoSpeed_1 fl_Lg_14 hz.1 rfl (by decide) hz.2.1 ?_
  refine mv_iconst (v := 3) (pc := 4) d_Lg_redoSpeed_4 (by decide) ?_
  refine mr_callV1 (pc := 5) d_Lg_redoSpeed_5 (d2 := (1, 21)) ok_By_next li_Lg_36 sv_By_next hz.2.2.1 ⟨by decide, rfl⟩ ⟨by decide, rfl, Nat.le_of_ble_eq_true rfl, rfl, by decide, by decide⟩ ?_
  refine c_nx (h := h) (n := 3) (p := p + 1) hz.2.2 (by omega) hN hB (by first | exact hp | exact mm_np_le _ _ _) hpl ?_
  refine mv_istore_n (pc := 8) d_Lg_redoSpeed_8 (by decide) ?_
  refine mv_aload_n (pc := 9) d_Lg_redoSpeed_9 rfl ?_
  refine mr_getr (pc := 10) d_Lg_redoSpeed_10 fl_Lg_14 hz.1 rfl (by decide) hz.2.1 ?_
  refine mv_iconst (v := 1) (pc := 13) d_Lg_redoSpeed_13 (by decide) ?_
  refine mr_callV1 (pc := 14) d_Lg_redoSpeed_14 (d2 := (1, 21)) ok_By_next li_Lg_36 sv_By_next hz.2.2.1 ⟨by decide, rfl⟩ ⟨by decide, rfl, Nat.le_of_ble_eq_true rfl, rfl, by decide, by decide⟩ ?_
  refine c_nx (h := (mm_si h y 2 (nI (mm_np lg (p + 1) 3)))) (n := 1) (p := (mm_np lg (p + 1) 3)) hz.2.2 (by omega) hN (hB.pl _) (by first | exact hp | exact mm_np_le _ _ _) (mm_gss _ _ _ _) ?_
  refine mv_sipush (v := 128) (pc := 17) d_Lg_redoSpeed_17 (by decide) ?_
  refine mv_isub (pc := 20) d_Lg_redoSpeed_20 ?_
  refine mv_istore_n (pc := 21) d_Lg_redoSpeed_21 (by decide) ?_
  refine mv_aload_n (pc := 22) d_Lg_redoSpeed_22 rfl ?_
  refine mr_getr (pc := 23) d_Lg_redoSpeed_23 fl_Lg_14 hz.1 rfl (by decide) hz.2.1 ?_
  refine mv_iconst (v := 1) (pc := 26) d_Lg_redoSpeed_26 (by decide) ?_
  refine mr_callV1 (pc := 27) d_Lg_redoSpeed_27 (d2 := (1, 21)) ok_By_next li_Lg_36 sv_By_next hz.2.2.1 ⟨by decide, rfl⟩ ⟨by decide, rfl, Nat.le_of_ble_eq_true rfl, rfl, by decide, by decide⟩ ?_
  refine c_nx (h := (mm_si (mm_si h y 2 (nI (mm_np lg (p + 1) 3))) y 2 (nI (mm_np lg (mm_np lg (p + 1) 3) 1)))) (n := 1) (p := (mm_np lg (mm_np lg (p + 1) 3) 1)) hz.2.2 (by omega) hN ((hB.pl _).pl _) (by first | exact hp | exact mm_np_le _ _ _) (mm_gss _ _ _ _) ?_
  refine mv_sipush (v := 128) (pc := 30) d_Lg_redoSpeed_30 (by decide) ?_
  refine mv_isub (pc := 33) d_Lg_redoSpeed_33 ?_
  refine mv_istore (pc := 34) d_Lg_redoSpeed_34 (by decide) ?_
  refine mv_aload_n (pc := 36) d_Lg_redoSpeed_36 rfl ?_
  refine mv_iload_n (pc := 37) d_Lg_redoSpeed_37 rfl ?_
  refine mr_callV1 (pc := 38) d_Lg_redoSpeed_38 (d2 := (2, 41)) ok_Wo_isGood li_Lg_68 sv_Wo_isGood hw.1 ⟨by decide, rfl⟩ ⟨by decide, rfl, Nat.le_of_ble_eq_true rfl, rfl, by decide, by decide⟩ ?_
  refine c_isGood (h := (mm_si (mm_si (mm_si h y 2 (nI (mm_np lg (p + 1) 3))) y 2 (nI (mm_np lg (mm_np lg (p + 1) 3) 1))) y 2 (nI (mm_np lg (mm_np lg (mm_np lg (p + 1) 3) 1) 1)))) (i := (a_ix (mm_nv lg (p + 1) 3))) hw (a_ix_lt _) (a_ix_eq _) (fun hg => ?_) (fun hg => ?_)
  · refine mv_if_eq 53 (pc := 41) d_Lg_redoSpeed_41 (by decide) (fun z => absurd z (by decide)) (fun _ => ?_)
    refine mv_iload_n (pc := 44) d_Lg_redoSpeed_44 rfl ?_
    refine mv_iload (pc := 45) d_Lg_redoSpeed_45 rfl ?_
    refine mr_callS2 (pc := 47) d_Lg_redoSpeed_47 (d2 := (1, 22)) ok_Ta_isSpeed li_Lg_78 sv_Ta_isSpeed ⟨by decide, rfl, rfl, Nat.le_of_ble_eq_true rfl, rfl, by decide, by decide⟩ ?_
    refine c_isSpeed (fun hp1 => ?_) (fun hp1 => ?_)
    · refine mv_if_ne 55 (pc := 50) d_Lg_redoSpeed_50 (by decide) (fun _ => ?_) (fun z => absurd z (by decide))
      refine mv_aload_n (pc := 55) d_Lg_redoSpeed_55 rfl ?_
      refine mv_iload_n (pc := 56) d_Lg_redoSpeed_56 rfl ?_
      refine mr_callV1 (pc := 57) d_Lg_redoSpeed_57 (d2 := (1, 20)) ok_Wo_slotOf li_Lg_81 sv_Wo_slotOf hw.1 ⟨by decide, rfl⟩ ⟨by decide, rfl, Nat.le_of_ble_eq_true rfl, rfl, by decide, by decide⟩ ?_
      refine c_slotOf (h := (mm_si (mm_si (mm_si h y 2 (nI (mm_np lg (p + 1) 3))) y 2 (nI (mm_np lg (mm_np lg (p + 1) 3) 1))) y 2 (nI (mm_np lg (mm_np lg (mm_np lg (p + 1) 3) 1) 1)))) (i := (a_ix (mm_nv lg (p + 1) 3))) hw (a_ix_lt _) (a_ix_eq _) ?_
      refine mv_iload_n (pc := 60) d_Lg_redoSpeed_60 rfl ?_
      refine mv_iload (pc := 61) d_Lg_redoSpeed_61 rfl ?_
      refine mr_callV2 (pc := 63) d_Lg_redoSpeed_63 (d2 := (0, 0)) ok_Sl_setSpeed li_Lg_85 sv_Sl_setSpeed (hw.at_ (a_ix_lt _)) ⟨by decide, rfl⟩ ⟨by decide, rfl, rfl, Nat.le_of_ble_eq_true rfl, rfl, by decide, by decide⟩ ?_
      refine c_setSpeed (h := (mm_si (mm_si (mm_si h y 2 (nI (mm_np lg (p + 1) 3))) y 2 (nI (mm_np lg (mm_np lg (p + 1) 3) 1))) y 2 (nI (mm_np lg (mm_np lg (mm_np lg (p + 1) 3) 1) 1)))) (hw.at_ (a_ix_lt _)) ?_
      refine mv_iconst (v := 1) (pc := 66) d_Lg_redoSpeed_66 (by decide) ?_
      refine mv_iret (pc := 67) d_Lg_redoSpeed_67 rfl rfl ?_
      have hg := (((((hR.pl hd _).pl hd _).pl hd _)).good (x := (mm_nv lg (p + 1) 3)) (a_ix_lt _)).mp hg
      have c : p + 6 ≤ lg.length := Classical.byContradiction fun z => by
        rw [nv_o3 (p := p + 1) (n := 3) (m := 1) (k := 1) (by omega) (by omega)] at hp1
        exact absurd hp1.2.1 (by decide)
      obtain ⟨e1, e2, e3, e4⟩ := nv_sp c
      rw [e2, e3] at hp1
      rw [e1] at hg
      rw [e1, e2, e3]
      refine hq1 _ _ 6 (a_en2_y ⟨c, hg, a_fit3.mpr hp1⟩) (((((((hR.pl hd _).pl hd _).pl hd _)).put (a_ix_lt (mm_dec lg (p + 1) 3)) (f := 4) (by omega) (mm_dec lg (p + 4) 1 - 128)).put (a_ix_lt _) (f := 5) (by omega) (mm_dec lg (p + 5) 1 - 128))) ?_ ((((((mm_xfr.rfl' (F := mm_gi h)).pl _).pl _).pl _).sl (a_ix_lt _) _ _).sl (a_ix_lt _) _ _)
      have n0 := a_ix_lt (mm_dec lg (p + 1) 3)
      have n1 : ¬ y = w + 6 + a_ix (mm_dec lg (p + 1) 3) := by omega
      simp [mm_usi, mm_uwi, mm_u2, mm_g0, mm_gsi, mm_gwi, n1, e4]
    · refine mv_if_ne 55 (pc := 50) d_Lg_redoSpeed_50 (by decide) (fun z => absurd z (by decide)) (fun _ => ?_)
      refine mv_iconst (v := 0) (pc := 53) d_Lg_redoSpeed_53 (by decide) ?_
      refine mv_iret (pc := 54) d_Lg_redoSpeed_54 rfl rfl ?_
      refine hq0 _ (a_en2_n (fun z => ?_)) ((((mm_xfr.rfl' (F := mm_gi h)).pl _).pl _).pl _)
      obtain ⟨e1, e2, e3, e4⟩ := nv_sp z.1
      rw [e2, e3] at hp1
      exact hp1 (a_fit3.mp z.2.2)
  · refine mv_if_eq 53 (pc := 41) d_Lg_redoSpeed_41 (by decide) (fun _ => ?_) (fun z => absurd z (by decide))
    refine mv_iconst (v := 0) (pc := 53) d_Lg_redoSpeed_53 (by decide) ?_
    refine mv_iret (pc := 54) d_Lg_redoSpeed_54 rfl rfl ?_
    refine hq0 _ (a_en2_n (fun z => ?_)) ((((mm_xfr.rfl' (F := mm_gi h)).pl _).pl _).pl _)
    have e1 := (nv_sp z.1).1
    refine hg ((((((hR.pl hd _).pl hd _).pl hd _)).good (x := (mm_nv lg (p + 1) 3)) (a_ix_lt _)).mpr ?_)
    rw [e1]; exact z.2.1
set_option maxRecDepth 20000 in
theorem c_redoShape {G : mm_G} {Q : mm_O → mm_H → Prop} {h : mm_H} {z y N w p : Nat} {B : mm_W} {lg : List Int32} (hz : mm_Hd h z 2 y N) (hw : mm_Wd h w) (hd : y + 1 < w ∨ w + 22 ≤ y) (hN : lg.length ≤ N) (hB : mm_By (mm_gi h) y lg) (hR : RC (mm_gi h) w B) (hW : WF B) (hp : p + 1 ≤ lg.length) (hpl : mm_gi h y 2 = nI (p + 1)) (hq1 : ∀ F' B' n, a_en2 B lg p 4 6 (mm_dec lg (p + 4) 1) (mm_dec lg (p + 5) 1) = some (B', n) → RC F' w B' → F' y 2 = nI (p + n) → mm_xfr y w (mm_gi h) F' → Q (.inl (some (.int 1))) (mm_wi h F')) (hq0 : ∀ F', a_en2 B lg p 4 6 (mm_dec lg (p + 4) 1) (mm_dec lg (p + 5) 1) = none → mm_xfr y w (mm_gi h) F' → Q (.inl (some (.int 0))) (mm_wi h F')) : mm_V G (3, 64) M_Lg_redoShape Q 0 (mm_ent 5 [.ref z, .ref w]) [] h := by
  show mm_V G (3, 64) M_Lg_redoShape Q 0 [some (.ref z), some (.ref w), none, none, none] [] h
  refine mv_aload_n (pc := 0) d_Lg_redoShape_0 rfl ?_
  refine mr_getr (pc := 1) d_Lg_redoShape_1 fl_Lg_14 hz.1 rfl (by decide) hz.2.1 ?_
  refine mv_iconst (v := 3) (pc := 4) d_Lg_redoShape_4 (by decide) ?_
  refine mr_callV1 (pc := 5) d_Lg_redoShape_5 (d2 := (1, 21)) ok_By_next li_Lg_36 sv_By_next hz.2.2.1 ⟨by decide, rfl⟩ ⟨by decide, rfl, Nat.le_of_ble_eq_true rfl, rfl, by decide, by decide⟩ ?_
  refine c_nx (h := h) (n := 3) (p := p + 1) hz.2.2 (by omega) hN hB (by first | exact hp | exact mm_np_le _ _ _) hpl ?_
  refine mv_istore_n (pc := 8) d_Lg_redoShape_8 (by decide) ?_
  refine mv_aload_n (pc := 9) d_Lg_redoShape_9 rfl ?_
  refine mr_getr (pc := 10) d_Lg_redoShape_10 fl_Lg_14 hz.1 rfl (by decide) hz.2.1 ?_
  refine mv_iconst (v := 1) (pc := 13) d_Lg_redoShape_13 (by decide) ?_
  refine mr_callV1 (pc := 14) d_Lg_redoShape_14 (d2 := (1, 21)) ok_By_next li_Lg_36 sv_By_next hz.2.2.1 ⟨by decide, rfl⟩ ⟨by decide, rfl, Nat.le_of_ble_eq_true rfl, rfl, by decide, by decide⟩ ?_
  refine c_nx (h := (mm_si h y 2 (nI (mm_np lg (p + 1) 3)))) (n := 1) (p := (mm_np lg (p + 1) 3)) hz.2.2 (by omega) hN (hB.pl _) (by first | exact hp | exact mm_np_le _ _ _) (mm_gss _ _ _ _) ?_
  refine mv_istore_n (pc := 17) d_Lg_redoShape_17 (by decide) ?_
  refine mv_aload_n (pc := 18) d_Lg_redoShape_18 rfl ?_
  refine mr_getr (pc := 19) d_Lg_redoShape_19 fl_Lg_14 hz.1 rfl (by decide) hz.2.1 ?_
  refine mv_iconst (v := 1) (pc := 22) d_Lg_redoShape_22 (by decide) ?_
  refine mr_callV1 (pc := 23) d_Lg_redoShape_23 (d2 := (1, 21)) ok_By_next li_Lg_36 sv_By_next hz.2.2.1 ⟨by decide, rfl⟩ ⟨by decide, rfl, Nat.le_of_ble_eq_true rfl, rfl, by decide, by decide⟩ ?_
  refine c_nx (h := (mm_si (mm_si h y 2 (nI (mm_np lg (p + 1) 3))) y 2 (nI (mm_np lg (mm_np lg (p + 1) 3) 1)))) (n := 1) (p := (mm_np lg (mm_np lg (p + 1) 3) 1)) hz.2.2 (by omega) hN ((hB.pl _).pl _) (by first | exact hp | exact mm_np_le _ _ _) (mm_gss _ _ _ _) ?_
  refine mv_istore (pc := 26) d_Lg_redoShape_26 (by decide) ?_
  refine mv_aload_n (pc := 28) d_Lg_redoShape_28 rfl ?_
  refine mv_iload_n (pc := 29) d_Lg_redoShape_29 rfl ?_
  refine mr_callV1 (pc := 30) d_Lg_redoShape_30 (d2 := (2, 41)) ok_Wo_isGood li_Lg_68 sv_Wo_isGood hw.1 ⟨by decide, rfl⟩ ⟨by decide, rfl, Nat.le_of_ble_eq_true rfl, rfl, by decide, by decide⟩ ?_
  refine c_isGood (h := (mm_si (mm_si (mm_si h y 2 (nI (mm_np lg (p + 1) 3))) y 2 (nI (mm_np lg (mm_np lg (p + 1) 3) 1))) y 2 (nI (mm_np lg (mm_np lg (mm_np lg (p + 1) 3) 1) 1)))) (i := (a_ix (mm_nv lg (p + 1) 3))) hw (a_ix_lt _) (a_ix_eq _) (fun hg => ?_) (fun hg => ?_)
  · refine mv_if_eq 45 (pc := 33) d_Lg_redoShape_33 (by decide) (fun z => absurd z (by decide)) (fun _ => ?_)
    refine mv_iload_n (pc := 36) d_Lg_redoShape_36 rfl ?_
    refine mv_iload (pc := 37) d_Lg_redoShape_37 rfl ?_
    refine mr_callS2 (pc := 39) d_Lg_redoShape_39 (d2 := (2, 43)) ok_Ta_isShapeOrNone li_Lg_90 sv_Ta_isShapeOrNone ⟨by decide, rfl, rfl, Nat.le_of_ble_eq_true rfl, rfl, by decide, by decide⟩ ?_
    refine c_isShapeOrNone (fun hp1 => ?_) (fun hp1 => ?_)
    · refine mv_if_ne 47 (pc := 42) d_Lg_redoShape_42 (by decide) (fun _ => ?_) (fun z => absurd z (by decide))
      refine mv_aload_n (pc := 47) d_Lg_redoShape_47 rfl ?_
      refine mv_iload_n (pc := 48) d_Lg_redoShape_48 rfl ?_
      refine mr_callV1 (pc := 49) d_Lg_redoShape_49 (d2 := (1, 20)) ok_Wo_slotOf li_Lg_81 sv_Wo_slotOf hw.1 ⟨by decide, rfl⟩ ⟨by decide, rfl, Nat.le_of_ble_eq_true rfl, rfl, by decide, by decide⟩ ?_
      refine c_slotOf (h := (mm_si (mm_si (mm_si h y 2 (nI (mm_np lg (p + 1) 3))) y 2 (nI (mm_np lg (mm_np lg (p + 1) 3) 1))) y 2 (nI (mm_np lg (mm_np lg (mm_np lg (p + 1) 3) 1) 1)))) (i := (a_ix (mm_nv lg (p + 1) 3))) hw (a_ix_lt _) (a_ix_eq _) ?_
      refine mv_iload_n (pc := 52) d_Lg_redoShape_52 rfl ?_
      refine mv_iload (pc := 53) d_Lg_redoShape_53 rfl ?_
      refine mr_callV2 (pc := 55) d_Lg_redoShape_55 (d2 := (0, 0)) ok_Sl_setShape li_Lg_93 sv_Sl_setShape (hw.at_ (a_ix_lt _)) ⟨by decide, rfl⟩ ⟨by decide, rfl, rfl, Nat.le_of_ble_eq_true rfl, rfl, by decide, by decide⟩ ?_
      refine c_setShape (h := (mm_si (mm_si (mm_si h y 2 (nI (mm_np lg (p + 1) 3))) y 2 (nI (mm_np lg (mm_np lg (p + 1) 3) 1))) y 2 (nI (mm_np lg (mm_np lg (mm_np lg (p + 1) 3) 1) 1)))) (hw.at_ (a_ix_lt _)) ?_
      refine mv_iconst (v := 1) (pc := 58) d_Lg_redoShape_58 (by decide) ?_
      refine mv_iret (pc := 59) d_Lg_redoShape_59 rfl rfl ?_
      have hg := (((((hR.pl hd _).pl hd _).pl hd _)).good (x := (mm_nv lg (p + 1) 3)) (a_ix_lt _)).mp hg
      have c : p + 6 ≤ lg.length := Classical.byContradiction fun z => by
        rw [nv_o3 (p := p + 1) (n := 3) (m := 1) (k := 1) (by omega) (by omega)] at hp1
        exact hp1.elim (fun q => absurd q.2 (by decide)) (fun q => absurd q.2.1 (by decide))
      obtain ⟨e1, e2, e3, e4⟩ := nv_sp c
      rw [e2, e3] at hp1
      rw [e1] at hg
      rw [e1, e2, e3]
      refine hq1 _ _ 6 (a_en2_y ⟨c, hg, a_fit4.mpr hp1⟩) (((((((hR.pl hd _).pl hd _).pl hd _)).put (a_ix_lt (mm_dec lg (p + 1) 3)) (f := 6) (by omega) (mm_dec lg (p + 4) 1)).put (a_ix_lt _) (f := 7) (by omega) (mm_dec lg (p + 5) 1))) ?_ ((((((mm_xfr.rfl' (F := mm_gi h)).pl _).pl _).pl _).sl (a_ix_lt _) _ _).sl (a_ix_lt _) _ _)
      have n0 := a_ix_lt (mm_dec lg (p + 1) 3)
      have n1 : ¬ y = w + 6 + a_ix (mm_dec lg (p + 1) 3) := by omega
      simp [mm_usi, mm_uwi, mm_u2, mm_g0, mm_gsi, mm_gwi, n1, e4]
    · refine mv_if_ne 47 (pc := 42) d_Lg_redoShape_42 (by decide) (fun z => absurd z (by decide)) (fun _ => ?_)
      refine mv_iconst (v := 0) (pc := 45) d_Lg_redoShape_45 (by decide) ?_
      refine mv_iret (pc := 46) d_Lg_redoShape_46 rfl rfl ?_
      refine hq0 _ (a_en2_n (fun z => ?_)) ((((mm_xfr.rfl' (F := mm_gi h)).pl _).pl _).pl _)
      obtain ⟨e1, e2, e3, e4⟩ := nv_sp z.1
      rw [e2, e3] at hp1
      exact hp1 (a_fit4.mp z.2.2)
  · refine mv_if_eq 45 (pc := 33) d_Lg_redoShape_33 (by decide) (fun _ => ?_) (fun z => absurd z (by decide))
    refine mv_iconst (v := 0) (pc := 45) d_Lg_redoShape_45 (by decide) ?_
    refine mv_iret (pc := 46) d_Lg_redoShape_46 rfl rfl ?_
    refine hq0 _ (a_en2_n (fun z => ?_)) ((((mm_xfr.rfl' (F := mm_gi h)).pl _).pl _).pl _)
    have e1 := (nv_sp z.1).1
    refine hg ((((((hR.pl hd _).pl hd _).pl hd _)).good (x := (mm_nv lg (p + 1) 3)) (a_ix_lt _)).mpr ?_)
    rw [e1]; exact z.2.1
set_option maxRecDepth 20000 in
theorem c_redoTimer {G : mm_G} {Q : mm_O → mm_H → Prop} {h : mm_H} {z y N w p : Nat} {B : mm_W} {lg : List Int32} (hz : mm_Hd h z 2 y N) (hw : mm_Wd h w) (hd : y + 1 < w ∨ w + 22 ≤ y) (hN : lg.length ≤ N) (hB : mm_By (mm_gi h) y lg) (hR : RC (mm_gi h) w B) (hW : WF B) (hp : p + 1 ≤ lg.length) (hpl : mm_gi h y 2 = nI (p + 1)) (hq1 : ∀ F' B' n, a_en2 B lg p 5 6 (mm_dec lg (p + 4) 2) 0 = some (B', n) → RC F' w B' → F' y 2 = nI (p + n) → mm_xfr y w (mm_gi h) F' → Q (.inl (some (.int 1))) (mm_wi h F')) (hq0 : ∀ F', a_en2 B lg p 5 6 (mm_dec lg (p + 4) 2) 0 = none → mm_xfr y w (mm_gi h) F' → Q (.inl (some (.int 0))) (mm_wi h F')) : mm_V G (3, 63) M_Lg_redoTimer Q 0 (mm_ent 4 [.ref z, .ref w]) [] h := by
  show mm_V G (3, 63) M_Lg_redoTimer Q 0 [some (.ref z), some (.ref w), none, none] [] h
  refine mv_aload_n (pc := 0) d_Lg_redoTimer_0 rfl ?_
  refine mr_getr (pc := 1) d_Lg_redoTimer_1 fl_Lg_14 hz.1 rfl (by decide) hz.2.1 ?_
  refine mv_iconst (v := 3) (pc := 4) d_Lg_redoTimer_4 (by decide) ?_
  refine mr_callV1 (pc := 5) d_Lg_redoTimer_5 (d2 := (1, 21)) ok_By_next li_Lg_36 sv_By_next hz.2.2.1 ⟨by decide, rfl⟩ ⟨by decide, rfl, Nat.le_of_ble_eq_true rfl, rfl, by decide, by decide⟩ ?_
  refine c_nx (h := h) (n := 3) (p := p + 1) hz.2.2 (by omega) hN hB (by first | exact hp | exact mm_np_le _ _ _) hpl ?_
  refine mv_istore_n (pc := 8) d_Lg_redoTimer_8 (by decide) ?_
  refine mv_aload_n (pc := 9) d_Lg_redoTimer_9 rfl ?_
  refine mr_getr (pc := 10) d_Lg_redoTimer_10 fl_Lg_14 hz.1 rfl (by decide) hz.2.1 ?_
  refine mv_iconst (v := 2) (pc := 13) d_Lg_redoTimer_13 (by decide) ?_
  refine mr_callV1 (pc := 14) d_Lg_redoTimer_14 (d2 := (1, 21)) ok_By_next li_Lg_36 sv_By_next hz.2.2.1 ⟨by decide, rfl⟩ ⟨by decide, rfl, Nat.le_of_ble_eq_true rfl, rfl, by decide, by decide⟩ ?_
  refine c_nx (h := (mm_si h y 2 (nI (mm_np lg (p + 1) 3)))) (n := 2) (p := (mm_np lg (p + 1) 3)) hz.2.2 (by omega) hN (hB.pl _) (by first | exact hp | exact mm_np_le _ _ _) (mm_gss _ _ _ _) ?_
  refine mv_istore_n (pc := 17) d_Lg_redoTimer_17 (by decide) ?_
  refine mv_aload_n (pc := 18) d_Lg_redoTimer_18 rfl ?_
  refine mv_iload_n (pc := 19) d_Lg_redoTimer_19 rfl ?_
  refine mr_callV1 (pc := 20) d_Lg_redoTimer_20 (d2 := (2, 41)) ok_Wo_isGood li_Lg_68 sv_Wo_isGood hw.1 ⟨by decide, rfl⟩ ⟨by decide, rfl, Nat.le_of_ble_eq_true rfl, rfl, by decide, by decide⟩ ?_
  refine c_isGood (h := (mm_si (mm_si h y 2 (nI (mm_np lg (p + 1) 3))) y 2 (nI (mm_np lg (mm_np lg (p + 1) 3) 2)))) (i := (a_ix (mm_nv lg (p + 1) 3))) hw (a_ix_lt _) (a_ix_eq _) (fun hg => ?_) (fun hg => ?_)
  · refine mv_if_eq 33 (pc := 23) d_Lg_redoTimer_23 (by decide) (fun z => absurd z (by decide)) (fun _ => ?_)
    refine mv_iload_n (pc := 26) d_Lg_redoTimer_26 rfl ?_
    refine mr_callS1 (pc := 27) d_Lg_redoTimer_27 (d2 := (2, 42)) ok_Ta_isTimerOrNone li_Lg_96 sv_Ta_isTimerOrNone ⟨by decide, rfl, Nat.le_of_ble_eq_true rfl, rfl, by decide, by decide⟩ ?_
    refine c_isTimerOrNone (fun hp1 => ?_) (fun hp1 => ?_)
    · refine mv_if_ne 35 (pc := 30) d_Lg_redoTimer_30 (by decide) (fun _ => ?_) (fun z => absurd z (by decide))
      refine mv_aload_n (pc := 35) d_Lg_redoTimer_35 rfl ?_
      refine mv_iload_n (pc := 36) d_Lg_redoTimer_36 rfl ?_
      refine mr_callV1 (pc := 37) d_Lg_redoTimer_37 (d2 := (1, 20)) ok_Wo_slotOf li_Lg_81 sv_Wo_slotOf hw.1 ⟨by decide, rfl⟩ ⟨by decide, rfl, Nat.le_of_ble_eq_true rfl, rfl, by decide, by decide⟩ ?_
      refine c_slotOf (h := (mm_si (mm_si h y 2 (nI (mm_np lg (p + 1) 3))) y 2 (nI (mm_np lg (mm_np lg (p + 1) 3) 2)))) (i := (a_ix (mm_nv lg (p + 1) 3))) hw (a_ix_lt _) (a_ix_eq _) ?_
      refine mv_iload_n (pc := 40) d_Lg_redoTimer_40 rfl ?_
      refine mr_puti (pc := 41) d_Lg_redoTimer_41 fl_Lg_99 (hw.at_ (a_ix_lt _)) rfl (by decide) ⟨rfl, rfl⟩ ?_
      refine mv_iconst (v := 1) (pc := 44) d_Lg_redoTimer_44 (by decide) ?_
      refine mv_iret (pc := 45) d_Lg_redoTimer_45 rfl rfl ?_
      have hg := ((((hR.pl hd _).pl hd _)).good (x := (mm_nv lg (p + 1) 3)) (a_ix_lt _)).mp hg
      have c : p + 6 ≤ lg.length := Classical.byContradiction fun z => by
        rw [nv_o2 (p := p + 1) (n := 3) (m := 2) (by omega) (by omega)] at hp1
        rcases hp1 with q | q
        · exact absurd q (by decide)
        · exact absurd q.1 (by decide)
      obtain ⟨e1, e2, e3⟩ := nv_tm c
      rw [e2] at hp1
      rw [e1] at hg
      rw [e1, e2]
      refine hq1 _ _ 6 (a_en2_y ⟨c, hg, a_fit5.mpr hp1⟩) ((((hR.pl hd _).pl hd _)).put (a_ix_lt (mm_dec lg (p + 1) 3)) (f := 8) (by omega) (mm_dec lg (p + 4) 2)) ?_ ((((mm_xfr.rfl' (F := mm_gi h)).pl _).pl _).sl (a_ix_lt _) _ _)
      have n0 := a_ix_lt (mm_dec lg (p + 1) 3)
      have n1 : ¬ y = w + 6 + a_ix (mm_dec lg (p + 1) 3) := by omega
      simp [mm_usi, mm_uwi, mm_u2, mm_g0, mm_gsi, mm_gwi, n1, e3]
    · refine mv_if_ne 35 (pc := 30) d_Lg_redoTimer_30 (by decide) (fun z => absurd z (by decide)) (fun _ => ?_)
      refine mv_iconst (v := 0) (pc := 33) d_Lg_redoTimer_33 (by decide) ?_
      refine mv_iret (pc := 34) d_Lg_redoTimer_34 rfl rfl ?_
      refine hq0 _ (a_en2_n (fun z => ?_)) (((mm_xfr.rfl' (F := mm_gi h)).pl _).pl _)
      obtain ⟨e1, e2, e3⟩ := nv_tm z.1
      rw [e2] at hp1
      exact hp1 (a_fit5.mp z.2.2)
  · refine mv_if_eq 33 (pc := 23) d_Lg_redoTimer_23 (by decide) (fun _ => ?_) (fun z => absurd z (by decide))
    refine mv_iconst (v := 0) (pc := 33) d_Lg_redoTimer_33 (by decide) ?_
    refine mv_iret (pc := 34) d_Lg_redoTimer_34 rfl rfl ?_
    refine hq0 _ (a_en2_n (fun z => ?_)) (((mm_xfr.rfl' (F := mm_gi h)).pl _).pl _)
    have e1 := (nv_tm z.1).1
    refine hg (((((hR.pl hd _).pl hd _)).good (x := (mm_nv lg (p + 1) 3)) (a_ix_lt _)).mpr ?_)
    rw [e1]; exact z.2.1
set_option maxRecDepth 20000 in
theorem c_redoEntry {G : mm_G} {Q : mm_O → mm_H → Prop} {h : mm_H} {z y N w p : Nat} {B : mm_W} {lg : List Int32} (hz : mm_Hd h z 2 y N) (hw : mm_Wd h w) (hd : y + 1 < w ∨ w + 22 ≤ y) (hN : lg.length ≤ N) (hB : mm_By (mm_gi h) y lg) (hR : RC (mm_gi h) w B) (hW : WF B) (hp : p + 1 ≤ lg.length) (hpl : mm_gi h y 2 = nI p) (hq1 : ∀ F' B' n, a_ent B lg p = some (B', n) → RC F' w B' → F' y 2 = nI (p + n) → mm_xfr y w (mm_gi h) F' → Q (.inl (some (.int 1))) (mm_wi h F')) (hq0 : ∀ F', a_ent B lg p = none → mm_xfr y w (mm_gi h) F' → Q (.inl (some (.int 0))) (mm_wi h F')) : mm_V G (4, 90) M_Lg_redoEntry Q 0 (mm_ent 2 [.ref z, .ref w]) [] h := by
  show mm_V G (4, 90) M_Lg_redoEntry Q 0 [some (.ref z), some (.ref w)] [] h
  refine mv_aload_n (pc := 0) d_Lg_redoEntry_0 rfl ?_
  refine mr_getr (pc := 1) d_Lg_redoEntry_1 fl_Lg_14 hz.1 rfl (by decide) hz.2.1 ?_
  refine mv_iconst (v := 1) (pc := 4) d_Lg_redoEntry_4 (by decide) ?_
  refine mr_callV1 (pc := 5) d_Lg_redoEntry_5 (d2 := (1, 21)) ok_By_next li_Lg_36 sv_By_next hz.2.2.1 ⟨by decide, rfl⟩ ⟨by decide, rfl, Nat.le_of_ble_eq_true rfl, rfl, by decide, by decide⟩ ?_
  refine c_nx (h := h) (n := 1) (p := p) hz.2.2 (by omega) hN hB (by omega) hpl ?_
  rw [(nv_in (bs := lg) (p := p) (n := 1) hp).1, (nv_in (bs := lg) (p := p) (n := 1) hp).2, mm_d1]
  generalize hK : lg.getD p 0 = K
  by_cases hs1 : K = 1
  · refine mv_tabIn 48 (pc := 8) d_Lg_redoEntry_8 (by rw [hs1]; decide) (by rw [hs1]; decide) (by rw [hs1]; rfl) (by decide) ?_
    refine mv_aload_n (pc := 48) d_Lg_redoEntry_48 rfl ?_
    refine mv_aload_n (pc := 49) d_Lg_redoEntry_49 rfl ?_
    refine mr_callV1 (pc := 50) d_Lg_redoEntry_50 (d2 := (3, 67)) ok_Lg_redoCreate li_Lg_40 sv_Lg_redoCreate hz.1 ⟨by decide, rfl⟩ ⟨by decide, rfl, Nat.le_of_ble_eq_true rfl, rfl, by decide, by decide⟩ ?_
    refine c_redoCreate (h := (mm_si h y 2 (nI (p + 1)))) hz hw hd hN (hB.pl _) (hR.pl hd _) hW hp (mm_gss _ _ _ _) (fun F1 B1 n1 e1 r1 p1 f1 => ?_) (fun F1 e1 f1 => ?_)
    · refine mv_iret (pc := 53) d_Lg_redoEntry_53 rfl rfl ?_
      exact hq1 F1 B1 n1 ((show a_ent B lg p = a_en1 B lg p from (by unfold a_ent; rw [hK, hs1, a_entK1])).trans e1) r1 p1 ((mm_xfr.rfl'.pl _).trans f1)
    · refine mv_iret (pc := 53) d_Lg_redoEntry_53 rfl rfl ?_
      exact hq0 F1 ((show a_ent B lg p = a_en1 B lg p from (by unfold a_ent; rw [hK, hs1, a_entK1])).trans e1) ((mm_xfr.rfl'.pl _).trans f1)
  by_cases hs2 : K = 2
  · refine mv_tabIn 54 (pc := 8) d_Lg_redoEntry_8 (by rw [hs2]; decide) (by rw [hs2]; decide) (by rw [hs2]; rfl) (by decide) ?_
    refine mv_aload_n (pc := 54) d_Lg_redoEntry_54 rfl ?_
    refine mv_aload_n (pc := 55) d_Lg_redoEntry_55 rfl ?_
    refine mr_callV1 (pc := 56) d_Lg_redoEntry_56 (d2 := (3, 63)) ok_Lg_redoDestroy li_Lg_43 sv_Lg_redoDestroy hz.1 ⟨by decide, rfl⟩ ⟨by decide, rfl, Nat.le_of_ble_eq_true rfl, rfl, by decide, by decide⟩ ?_
    refine c_redoDestroy (h := (mm_si h y 2 (nI (p + 1)))) hz hw hd hN (hB.pl _) (hR.pl hd _) hW hp (mm_gss _ _ _ _) (fun F1 B1 n1 e1 r1 p1 f1 => ?_) (fun F1 e1 f1 => ?_)
    · refine mv_iret (pc := 59) d_Lg_redoEntry_59 rfl rfl ?_
      exact hq1 F1 B1 n1 ((show a_ent B lg p = a_en2 B lg p 2 4 0 0 from (by unfold a_ent; rw [hK, hs2, a_entK2])).trans e1) r1 p1 ((mm_xfr.rfl'.pl _).trans f1)
    · refine mv_iret (pc := 59) d_Lg_redoEntry_59 rfl rfl ?_
      exact hq0 F1 ((show a_ent B lg p = a_en2 B lg p 2 4 0 0 from (by unfold a_ent; rw [hK, hs2, a_entK2])).trans e1) ((mm_xfr.rfl'.pl _).trans f1)
  by_cases hs3 : K = 3
  · refine mv_tabIn 60 (pc := 8) d_Lg_redoEntry_8 (by rw [hs3]; decide) (by rw [hs3]; decide) (by rw [hs3]; rfl) (by decide) ?_
    refine mv_aload_n (pc := 60) d_Lg_redoEntry_60 rfl ?_
    refine mv_aload_n (pc := 61) d_Lg_redoEntry_61 rfl ?_
    refine mr_callV1 (pc := 62) d_Lg_redoEntry_62 (d2 := (3, 63)) ok_Lg_redoSpeed li_Lg_46 sv_Lg_redoSpeed hz.1 ⟨by decide, rfl⟩ ⟨by decide, rfl, Nat.le_of_ble_eq_true rfl, rfl, by decide, by decide⟩ ?_
    refine c_redoSpeed (h := (mm_si h y 2 (nI (p + 1)))) hz hw hd hN (hB.pl _) (hR.pl hd _) hW hp (mm_gss _ _ _ _) (fun F1 B1 n1 e1 r1 p1 f1 => ?_) (fun F1 e1 f1 => ?_)
    · refine mv_iret (pc := 65) d_Lg_redoEntry_65 rfl rfl ?_
      exact hq1 F1 B1 n1 ((show a_ent B lg p = a_en2 B lg p 3 6 (mm_dec lg (p + 4) 1 - 128) (mm_dec lg (p + 5) 1 - 128) from (by unfold a_ent; rw [hK, hs3, a_entK3])).trans e1) r1 p1 ((mm_xfr.rfl'.pl _).trans f1)
    · refine mv_iret (pc := 65) d_Lg_redoEntry_65 rfl rfl ?_
      exact hq0 F1 ((show a_ent B lg p = a_en2 B lg p 3 6 (mm_dec lg (p + 4) 1 - 128) (mm_dec lg (p + 5) 1 - 128) from (by unfold a_ent; rw [hK, hs3, a_entK3])).trans e1) ((mm_xfr.rfl'.pl _).trans f1)
  by_cases hs4 : K = 4
  · refine mv_tabIn 66 (pc := 8) d_Lg_redoEntry_8 (by rw [hs4]; decide) (by rw [hs4]; decide) (by rw [hs4]; rfl) (by decide) ?_
    refine mv_aload_n (pc := 66) d_Lg_redoEntry_66 rfl ?_
    refine mv_aload_n (pc := 67) d_Lg_redoEntry_67 rfl ?_
    refine mr_callV1 (pc := 68) d_Lg_redoEntry_68 (d2 := (3, 64)) ok_Lg_redoShape li_Lg_49 sv_Lg_redoShape hz.1 ⟨by decide, rfl⟩ ⟨by decide, rfl, Nat.le_of_ble_eq_true rfl, rfl, by decide, by decide⟩ ?_
    refine c_redoShape (h := (mm_si h y 2 (nI (p + 1)))) hz hw hd hN (hB.pl _) (hR.pl hd _) hW hp (mm_gss _ _ _ _) (fun F1 B1 n1 e1 r1 p1 f1 => ?_) (fun F1 e1 f1 => ?_)
    · refine mv_iret (pc := 71) d_Lg_redoEntry_71 rfl rfl ?_
      exact hq1 F1 B1 n1 ((show a_ent B lg p = a_en2 B lg p 4 6 (mm_dec lg (p + 4) 1) (mm_dec lg (p + 5) 1) from (by unfold a_ent; rw [hK, hs4, a_entK4])).trans e1) r1 p1 ((mm_xfr.rfl'.pl _).trans f1)
    · refine mv_iret (pc := 71) d_Lg_redoEntry_71 rfl rfl ?_
      exact hq0 F1 ((show a_ent B lg p = a_en2 B lg p 4 6 (mm_dec lg (p + 4) 1) (mm_dec lg (p + 5) 1) from (by unfold a_ent; rw [hK, hs4, a_entK4])).trans e1) ((mm_xfr.rfl'.pl _).trans f1)
  by_cases hs5 : K = 5
  · refine mv_tabIn 72 (pc := 8) d_Lg_redoEntry_8 (by rw [hs5]; decide) (by rw [hs5]; decide) (by rw [hs5]; rfl) (by decide) ?_
    refine mv_aload_n (pc := 72) d_Lg_redoEntry_72 rfl ?_
    refine mv_aload_n (pc := 73) d_Lg_redoEntry_73 rfl ?_
    refine mr_callV1 (pc := 74) d_Lg_redoEntry_74 (d2 := (3, 63)) ok_Lg_redoTimer li_Lg_52 sv_Lg_redoTimer hz.1 ⟨by decide, rfl⟩ ⟨by decide, rfl, Nat.le_of_ble_eq_true rfl, rfl, by decide, by decide⟩ ?_
    refine c_redoTimer (h := (mm_si h y 2 (nI (p + 1)))) hz hw hd hN (hB.pl _) (hR.pl hd _) hW hp (mm_gss _ _ _ _) (fun F1 B1 n1 e1 r1 p1 f1 => ?_) (fun F1 e1 f1 => ?_)
    · refine mv_iret (pc := 77) d_Lg_redoEntry_77 rfl rfl ?_
      exact hq1 F1 B1 n1 ((show a_ent B lg p = a_en2 B lg p 5 6 (mm_dec lg (p + 4) 2) 0 from (by unfold a_ent; rw [hK, hs5, a_entK5])).trans e1) r1 p1 ((mm_xfr.rfl'.pl _).trans f1)
    · refine mv_iret (pc := 77) d_Lg_redoEntry_77 rfl rfl ?_
      exact hq0 F1 ((show a_ent B lg p = a_en2 B lg p 5 6 (mm_dec lg (p + 4) 2) 0 from (by unfold a_ent; rw [hK, hs5, a_entK5])).trans e1) ((mm_xfr.rfl'.pl _).trans f1)
  by_cases hs6 : K = 6
  · refine mv_tabIn 78 (pc := 8) d_Lg_redoEntry_8 (by rw [hs6]; decide) (by rw [hs6]; decide) (by rw [hs6]; rfl) (by decide) ?_
    refine mv_aload_n (pc := 78) d_Lg_redoEntry_78 rfl ?_
    refine mr_callV0 (pc := 79) d_Lg_redoEntry_79 (d2 := (3, 66)) ok_Wo_step li_Lg_55 sv_Wo_step hw.1 ⟨by decide, rfl⟩ ⟨by decide, Nat.le_of_ble_eq_true rfl, rfl, by decide, by decide⟩ ?_
    refine c_step (h := (mm_si h y 2 (nI (p + 1)))) hw (hR.pl hd _) (fun F1 r1 _ f1 => ?_)
    refine mv_iconst (v := 1) (pc := 82) d_Lg_redoEntry_82 (by decide) ?_
    refine mv_iret (pc := 83) d_Lg_redoEntry_83 rfl rfl ?_
    exact hq1 F1 _ 1 (by unfold a_ent; rw [hK, hs6, a_entK6]) r1 ((f1 y 2 (by omega)).trans (mm_gss _ _ _ _)) ((mm_xfr.rfl'.pl _).wfr f1)
  refine mv_tabOut 84 (pc := 8) d_Lg_redoEntry_8 (by have t1 : ¬ K.toInt = 1 := fun z => hs1 (Int32.toInt_inj.mp (z.trans (by decide))); have t2 : ¬ K.toInt = 2 := fun z => hs2 (Int32.toInt_inj.mp (z.trans (by decide))); have t3 : ¬ K.toInt = 3 := fun z => hs3 (Int32.toInt_inj.mp (z.trans (by decide))); have t4 : ¬ K.toInt = 4 := fun z => hs4 (Int32.toInt_inj.mp (z.trans (by decide))); have t5 : ¬ K.toInt = 5 := fun z => hs5 (Int32.toInt_inj.mp (z.trans (by decide))); have t6 : ¬ K.toInt = 6 := fun z => hs6 (Int32.toInt_inj.mp (z.trans (by decide))); omega) (by decide) ?_
  refine mv_iconst (v := 0) (pc := 84) d_Lg_redoEntry_84 (by decide) ?_
  refine mv_iret (pc := 85) d_Lg_redoEntry_85 rfl rfl ?_
  exact hq0 _ (by unfold a_ent; rw [hK]; exact a_entKx hs1 hs2 hs3 hs4 hs5 hs6 B lg p) (mm_xfr.rfl'.pl _)
set_option maxRecDepth 20000 in
theorem l_redo {G : mm_G} {Q : mm_O → mm_H → Prop} {h : mm_H} {z y N w : Nat} {lg : List Int32} (hz : mm_Hd h z 2 y N) (hw : mm_Wd h w) (hd : y + 1 < w ∨ w + 22 ≤ y) (hN : lg.length ≤ N) (hlen : lg.length ≤ 400) (F0 : mm_W) (hB : mm_By F0 y lg) :
    ∀ (r : Nat) (B : mm_W) (p : Nat) (F : mm_W), r ≤ 400 → lg.length ≤ p + r → p ≤ lg.length → RC F w B → WF B → mm_xfr y w F0 F → F y 2 = nI p → (∀ C F', a_redo lg r B p = (C, none) → WF C → RC F' w C → mm_xfr y w F0 F' → Q (.inl (some (.int (-1)))) (mm_wi h F')) → (∀ C x F', a_redo lg r B p = (C, some x) → x < lg.length → mm_xfr y w F0 F' → Q (.inl (some (.int (nI x)))) (mm_wi h F')) → mm_V G (5, 111) M_Lg_redoOn Q 10 [some (.ref z), some (.ref w), some (.int (nI (400 - r))), none] [] (mm_wi h F) := by
  intro r
  induction r with
  | zero =>
    intro B p F h4 hle hp hR hW hf hpl hq1 hq2
    refine mv_iload_n (pc := 10) d_Lg_redoOn_10 rfl ?_
    refine mv_sipush (v := 400) (pc := 11) d_Lg_redoOn_11 (by decide) ?_
    refine mv_ic_ge 51 (pc := 14) d_Lg_redoOn_14 (by decide) (fun h14 => ?_) (fun z => absurd z (by decide))
    refine mv_iconst (v := -1) (pc := 51) d_Lg_redoOn_51 (by decide) ?_
    refine mv_iret (pc := 52) d_Lg_redoOn_52 rfl rfl ?_
    exact hq1 B F (a_redo_end (by omega)) hW hR hf
  | succ r ih =>
    intro B p F h4 hle hp hR hW hf hpl hq1 hq2
    refine mv_iload_n (pc := 10) d_Lg_redoOn_10 rfl ?_
    refine mv_sipush (v := 400) (pc := 11) d_Lg_redoOn_11 (by decide) ?_
    refine mv_ic_ge 51 (pc := 14) d_Lg_redoOn_14 (by decide) (fun z => absurd z (nI_ge (b := 400) (by omega) (by omega))) (fun h14 => ?_)
    refine mv_aload_n (pc := 17) d_Lg_redoOn_17 rfl ?_
    refine mr_getr (pc := 18) d_Lg_redoOn_18 fl_Lg_14 hz.1 rfl (by decide) hz.2.1 ?_
    refine mr_callV0 (pc := 21) d_Lg_redoOn_21 (d2 := (0, 0)) ok_By_isAtEnd li_Lg_28 sv_By_isAtEnd hz.2.2.1 ⟨by decide, rfl⟩ ⟨by decide, Nat.le_of_ble_eq_true rfl, rfl, by decide, by decide⟩ ?_
    refine c_byAtEnd (h := mm_wi h F) hz.2.2 (fun ha => ?_) (fun ha => ?_)
    · refine mv_if_ne 51 (pc := 24) d_Lg_redoOn_24 (by decide) (fun _ => ?_) (fun z => absurd z (by decide))
      refine mv_iconst (v := -1) (pc := 51) d_Lg_redoOn_51 (by decide) ?_
      refine mv_iret (pc := 52) d_Lg_redoOn_52 rfl rfl ?_
      exact hq1 B F (a_redo_end ((nI_leI (by omega) (by omega)).mp (by rw [← (hB.xfr hd hf).1, ← hpl]; exact ha))) hW hR hf
    · have hlt : p < lg.length := Nat.not_le.mp fun q => ha (by rw [show mm_gi (mm_wi h F) y 1 = nI lg.length from (hB.xfr hd hf).1, show mm_gi (mm_wi h F) y 2 = nI p from hpl]; exact nI_le q (by omega))
      refine mv_if_ne 51 (pc := 24) d_Lg_redoOn_24 (by decide) (fun z => absurd z (by decide)) (fun _ => ?_)
      refine mv_aload_n (pc := 27) d_Lg_redoOn_27 rfl ?_
      refine mr_getr (pc := 28) d_Lg_redoOn_28 fl_Lg_14 hz.1 rfl (by decide) hz.2.1 ?_
      refine mr_geti (pc := 31) d_Lg_redoOn_31 fl_Lg_24 hz.2.2.1 rfl (by decide) ?_
      rw [show mm_gi (mm_wi h F) y 2 = nI p from hpl]
      refine mv_istore_n (pc := 34) d_Lg_redoOn_34 (by decide) ?_
      refine mv_aload_n (pc := 35) d_Lg_redoOn_35 rfl ?_
      refine mv_aload_n (pc := 36) d_Lg_redoOn_36 rfl ?_
      refine mr_callV1 (pc := 37) d_Lg_redoOn_37 (d2 := (4, 90)) ok_Lg_redoEntry li_Lg_32 sv_Lg_redoEntry hz.1 ⟨by decide, rfl⟩ ⟨by decide, rfl, Nat.le_of_ble_eq_true rfl, rfl, by decide, by decide⟩ ?_
      refine c_redoEntry (h := mm_wi h F) (p := p) hz hw hd hN (hB.xfr hd hf) hR hW (by omega) hpl (fun F1 B1 n1 e1 r1 p1 f1 => ?_) (fun F1 e1 f1 => ?_)
      · refine mv_if_ne 45 (pc := 40) d_Lg_redoOn_40 (by decide) (fun _ => ?_) (fun z => absurd z (by decide))
        refine mv_iinc (pc := 45) d_Lg_redoOn_45 rfl rfl (by decide) ?_
        refine mv_goto 10 (pc := 48) d_Lg_redoOn_48 (by decide) ?_
        have w1 := a_entK_wf hW e1
        have w2 := a_entK_le hlt e1
        refine mm_V_drop 3 ?_
        refine mm_V_ls (ls' := [some (.ref z), some (.ref w), some (.int (nI (400 - r))), none]) (by simp only [List.set]; rw [show 400 - r = (400 - (r + 1)) + 1 by omega, nI_succ]; rfl) (ih B1 (p + n1) F1 (by omega) (by omega) w2 r1 w1.1 (hf.trans f1) p1 (fun C F' e => hq1 C F' ((a_redo_go hlt e1).trans e)) (fun C x F' e => hq2 C x F' ((a_redo_go hlt e1).trans e)))
      · refine mv_if_ne 45 (pc := 40) d_Lg_redoOn_40 (by decide) (fun z => absurd z (by decide)) (fun _ => ?_)
        refine mv_iload_n (pc := 43) d_Lg_redoOn_43 rfl ?_
        refine mv_iret (pc := 44) d_Lg_redoOn_44 rfl rfl ?_
        exact hq2 B p F1 (a_redo_no hlt e1) hlt (hf.trans f1)
set_option maxRecDepth 20000 in
theorem c_redoOn {G : mm_G} {Q : mm_O → mm_H → Prop} {h : mm_H} {z y N w : Nat} {B : mm_W} {lg : List Int32} (hz : mm_Hd h z 2 y N) (hw : mm_Wd h w) (hd : y + 1 < w ∨ w + 22 ≤ y) (hN : lg.length ≤ N) (hB : mm_By (mm_gi h) y lg) (hR : RC (mm_gi h) w B) (hW : WF B) (hlen : lg.length ≤ 400) (hq1 : ∀ F' C, a_redo lg 400 B 0 = (C, none) → WF C → RC F' w C → mm_xfr y w (mm_gi h) F' → Q (.inl (some (.int (-1)))) (mm_wi h F')) (hq2 : ∀ F' C x, a_redo lg 400 B 0 = (C, some x) → x < lg.length → mm_xfr y w (mm_gi h) F' → Q (.inl (some (.int (nI x)))) (mm_wi h F')) : mm_V G (5, 111) M_Lg_redoOn Q 0 (mm_ent 4 [.ref z, .ref w]) [] h := by
  show mm_V G (5, 111) M_Lg_redoOn Q 0 [some (.ref z), some (.ref w), none, none] [] h
  refine mv_aload_n (pc := 0) d_Lg_redoOn_0 rfl ?_
  refine mr_getr (pc := 1) d_Lg_redoOn_1 fl_Lg_14 hz.1 rfl (by decide) hz.2.1 ?_
  refine mv_iconst (v := 0) (pc := 4) d_Lg_redoOn_4 (by decide) ?_
  refine mr_puti (pc := 5) d_Lg_redoOn_5 fl_Lg_24 hz.2.2.1 rfl (by decide) ⟨rfl, rfl⟩ ?_
  refine mv_iconst (v := 0) (pc := 8) d_Lg_redoOn_8 (by decide) ?_
  refine mv_istore_n (pc := 9) d_Lg_redoOn_9 (by decide) ?_
  refine mm_V_ls (ls' := [some (.ref z), some (.ref w), some (.int (nI (400 - 400))), none]) rfl ?_
  exact l_redo (h := h) hz hw hd hN hlen (mm_gi h) hB 400 B 0 (mm_u2 (mm_gi h) y 2 0) (by omega) (by omega) (by omega) (hR.pl hd 0) hW (mm_xfr.rfl'.pl 0) (by simp [mm_u2]; rfl) (fun C F' e w r f => hq1 F' C e w r f) (fun C x F' e q f => hq2 F' C x e q f)
theorem nI_nm400 {c : Nat} (hc : c ≤ 400) : ¬ nI c = -1 := fun z => by
  have h1 : (0 : Int32) ≤ nI c := nI_pos' (by omega)
  rw [z] at h1
  exact absurd h1 (by decide)
set_option maxRecDepth 20000 in
theorem c_replay {G : mm_G} {Q : mm_O → mm_H → Prop} {h : mm_H} {w w2 : Nat} {A : mm_W} {E : mm_E} {sv lg : List Int32} (hG : G.1.stackTraces = false) (hr : mm_rm G h) (hT : mm_Ta h w w2) (hC : CS (mm_gi h) w A E sv lg) {B : mm_W} (hb : a_byt sv) (hB : a_snd sv → WF B ∧ sv = a_encW B) (hq1 : ∀ F', ¬ a_snd sv → CS F' w A E sv lg → mm_cfr (mm_gi h) F' → Q (.inr 1) (mm_exc (mm_wi h F'))) (hq2 : ∀ F' C x, WF B → sv = a_encW B → a_redo lg 400 B 0 = (C, some x) → CS F' w A E sv lg → mm_cfr (mm_gi h) F' → Q (.inl (some (.int (nI x)))) (mm_wi h F')) (hq : ∀ F' C, WF B → sv = a_encW B → a_redo lg 400 B 0 = (C, none) → WF C → CS F' w2 C [] sv lg → mm_cfr (mm_gi h) F' → Q (.inl (some (.int (-1)))) (mm_swp (mm_wi h F') w w2)) : mm_V G (6, 135) M_Ta_replay Q 0 (mm_ent 2 [.ref 1]) [] h := by
  show mm_V G (6, 135) M_Ta_replay Q 0 [some (.ref 1), none] [] h
  refine mv_aload_n (pc := 0) d_Ta_replay_0 rfl ?_
  refine mr_getr (pc := 1) d_Ta_replay_1 fl_Ta_22 hT.1 rfl (by decide) hT.2.2.2.1 ?_
  refine mv_aload_n (pc := 4) d_Ta_replay_4 rfl ?_
  refine mr_getr (pc := 5) d_Ta_replay_5 fl_Ta_16 hT.1 rfl (by decide) hT.2.2.1 ?_
  refine mr_callV1 (pc := 8) d_Ta_replay_8 (d2 := (5, 114)) ok_Sb_readInto li_Ta_200 sv_Sb_readInto hT.2.2.2.2.2.1.1 ⟨by decide, rfl⟩ ⟨by decide, rfl, Nat.le_of_ble_eq_true rfl, rfl, by decide, by decide⟩ ?_
  refine c_readInto hT.2.2.2.2.2.1 hT.2.2.2.2.2.2.2.2.1 (by have := hT.le; omega) hb hC.2.2.2.2.1 hC.2.2.1 (fun F1 B1 w1 e1 r1 f1 => ?_) (fun F1 s1 f1 => ?_)
  · obtain ⟨wB, eB⟩ := hB ⟨B1, w1, e1⟩
    refine mv_if_ne 22 (pc := 11) d_Ta_replay_11 (by decide) (fun _ => ?_) (fun z => absurd z (by decide))
    refine mv_aload_n (pc := 22) d_Ta_replay_22 rfl ?_
    refine mr_getr (pc := 23) d_Ta_replay_23 fl_Ta_29 hT.1 rfl (by decide) hT.2.2.2.2.1 ?_
    refine mv_aload_n (pc := 26) d_Ta_replay_26 rfl ?_
    refine mr_getr (pc := 27) d_Ta_replay_27 fl_Ta_16 hT.1 rfl (by decide) hT.2.2.1 ?_
    refine mr_callV1 (pc := 30) d_Ta_replay_30 (d2 := (5, 111)) ok_Lg_redoOn li_Ta_207 sv_Lg_redoOn hT.2.2.2.2.2.2.1.1 ⟨by decide, rfl⟩ ⟨by decide, rfl, Nat.le_of_ble_eq_true rfl, rfl, by decide, by decide⟩ ?_
    refine c_redoOn (h := mm_wi h F1) hT.2.2.2.2.2.2.1 hT.2.2.2.2.2.2.2.2.1 (by have := hT.le; omega) hC.2.2.2.2.2 (hC.2.2.2.1.off (f1 50 1 (by have := hT.le; omega) (by omega)) (fun k => f1 51 k (by have := hT.le; omega) (by omega))) (r1.like (encW_inj w1 wB (e1.symm.trans eB))) wB hC.2.2.2.2.2 (fun F2 C e2 wC r2 f2 => ?_) (fun F2 C x e2 x2 f2 => ?_)
    · refine mv_istore_n (pc := 33) d_Ta_replay_33 (by decide) ?_
      refine mv_iload_n (pc := 34) d_Ta_replay_34 rfl ?_
      refine mv_iconst (v := -1) (pc := 35) d_Ta_replay_35 (by decide) ?_
      refine mv_ic_ne 43 (pc := 36) d_Ta_replay_36 (by decide) (fun z => absurd z (by decide)) (fun _ => ?_)
      refine mv_aload_n (pc := 39) d_Ta_replay_39 rfl ?_
      refine mr_callV0 (pc := 40) d_Ta_replay_40 (d2 := (1, 20)) ok_Ta_takeSpare li_Ta_204 sv_Ta_takeSpare hT.1 ⟨by decide, rfl⟩ ⟨by decide, Nat.le_of_ble_eq_true rfl, rfl, by decide, by decide⟩ ?_
      refine c_takeSpare (h := mm_wi h F2) hT ?_
      refine mv_iload_n (pc := 43) d_Ta_replay_43 rfl ?_
      refine mv_iret (pc := 44) d_Ta_replay_44 rfl rfl ?_
      have hle := hT.le
      have hww := hT.2.2.2.2.2.2.2.2.2
      have f3 : ∀ a k, (a < w2 ∨ w2 + 22 ≤ a) → ¬ (a = 47 ∧ k = 2) ∧ ¬ (a = 50 ∧ k = 2) → F2 a k = mm_gi h a k := fun a k h1 h2 => (f2 a k (by omega) h2.2).trans (f1 a k (by omega) h2.1)
      refine hq (mm_u2 F2 (w2 + 3) 2 0) C wB eB e2 wC ⟨?_, RE.nil (by simp [mm_u2]), ?_, ?_, hC.2.2.2.2.1, hC.2.2.2.2.2⟩ (fun a k ha => ?_)
      · exact r2.off (fun a k a3 a4 a5 => by simp [mm_u2, a3])
      · have n1 : ¬ (47 = w2 + 3) := by omega
        have n2 : ¬ (48 = w2 + 3) := by omega
        exact hC.2.2.1.off (by simp only [mm_u2, n1, false_and, if_false]; exact f3 47 1 (by omega) (by omega)) (fun k => by simp only [mm_u2, n2, false_and, if_false]; exact f3 48 k (by omega) (by omega))
      · have n1 : ¬ (50 = w2 + 3) := by omega
        have n2 : ¬ (51 = w2 + 3) := by omega
        exact hC.2.2.2.1.off (by simp only [mm_u2, n1, false_and, if_false]; exact f3 50 1 (by omega) (by omega)) (fun k => by simp only [mm_u2, n2, false_and, if_false]; exact f3 51 k (by omega) (by omega))
      · have n1 : ¬ (a = w2 + 3) := by omega
        simp only [mm_u2, n1, false_and, if_false]
        exact f3 a k (by omega) (by omega)
    · refine mv_istore_n (pc := 33) d_Ta_replay_33 (by decide) ?_
      refine mv_iload_n (pc := 34) d_Ta_replay_34 rfl ?_
      refine mv_iconst (v := -1) (pc := 35) d_Ta_replay_35 (by decide) ?_
      refine mv_ic_ne 43 (pc := 36) d_Ta_replay_36 (by decide) (fun h36 => ?_) (fun z => absurd z (nI_nm400 (by have := hC.2.2.2.2.2; omega)))
      refine mv_iload_n (pc := 43) d_Ta_replay_43 rfl ?_
      refine mv_iret (pc := 44) d_Ta_replay_44 rfl rfl ?_
      have hle := hT.le
      have hww := hT.2.2.2.2.2.2.2.2.2
      have f3 : ∀ a k, (a < w2 ∨ w2 + 22 ≤ a) → ¬ (a = 47 ∧ k = 2) ∧ ¬ (a = 50 ∧ k = 2) → F2 a k = mm_gi h a k := fun a k h1 h2 => (f2 a k (by omega) h2.2).trans (f1 a k (by omega) h2.1)
      refine hq2 F2 C x wB eB e2 ⟨hC.1.same9 (fun a k h1 h2 => f3 a k (by omega) (by omega)), hC.2.1.same (fun a k ha => f3 a k (by omega) (by omega)), hC.2.2.1.off (f3 47 1 (by omega) (by omega)) (fun k => f3 48 k (by omega) (by omega)), hC.2.2.2.1.off (f3 50 1 (by omega) (by omega)) (fun k => f3 51 k (by omega) (by omega)), hC.2.2.2.2.1, hC.2.2.2.2.2⟩ (fun a k ha => f3 a k (by omega) (by omega))
  · refine mv_if_ne 22 (pc := 11) d_Ta_replay_11 (by decide) (fun z => absurd z (by decide)) (fun _ => ?_)
    refine mv_throw (pc := 14) hG d_Ta_replay_14 d_Ta_replay_17 d_Ta_replay_18 d_Ta_replay_21 xl_Ta_48 (by decide) rfl (Nat.le_of_ble_eq_true rfl) hr.1 hr.2 ?_
    have hle := hT.le
    have hww := hT.2.2.2.2.2.2.2.2.2
    refine hq1 F1 s1 ⟨hC.1.same9 (fun a k h1 h2 => f1 a k (by omega) (by omega)), hC.2.1.same (fun a k ha => f1 a k (by omega) (by omega)), hC.2.2.1.off (f1 47 1 (by omega) (by omega)) (fun k => f1 48 k (by omega) (by omega)), hC.2.2.2.1.off (f1 50 1 (by omega) (by omega)) (fun k => f1 51 k (by omega) (by omega)), hC.2.2.2.2.1, hC.2.2.2.2.2⟩ (fun a k ha => f1 a k (by omega) (by omega))
