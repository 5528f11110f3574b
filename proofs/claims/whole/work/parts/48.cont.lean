/-! CONTRACTS: StateBytes: reading a slot (rows by program: con_t.py) -/
def mm_nv (bs : List Int32) (p n : Nat) : Int32 := if p + n ≤ bs.length then mm_dec bs p n else -1
def mm_np (bs : List Int32) (p n : Nat) : Nat := if p + n ≤ bs.length then p + n else bs.length
theorem mm_np_le (bs : List Int32) (p n : Nat) : mm_np bs p n ≤ bs.length := by unfold mm_np; split <;> omega
theorem nv_pos {bs : List Int32} (hb : a_byt bs) {p n : Nat} (hn : n ≤ 4) (h : ¬ mm_nv bs p n = -1) : bs.drop p = mm_enc (mm_nv bs p n) n ++ bs.drop (mm_np bs p n) := by
  unfold mm_nv mm_np at *
  by_cases c : p + n ≤ bs.length
  · rw [if_pos c, if_pos c]; exact b_rd hb p n hn c
  · rw [if_neg c] at h; exact absurd rfl h
theorem nv_use {bs r : List Int32} (hb : a_byt bs) {p n : Nat} {g : Int32} (hn : n ≤ 4) (h0 : 0 < n) (hg : g.toBitVec.toNat < 256 ^ n) (e : bs.drop p = mm_enc g n ++ r) : mm_nv bs p n = g ∧ bs.drop (mm_np bs p n) = r := by
  obtain ⟨h1, h2, h3⟩ := b_use hb hn hg e h0
  unfold mm_nv mm_np
  rw [if_pos h1, if_pos h1]
  exact ⟨h2, h3⟩
theorem nv_ge {bs : List Int32} {p n : Nat} {a : Int32} (ha : 0 ≤ a) (h : a ≤ mm_nv bs p n) : ¬ mm_nv bs p n = -1 := fun e => by
  rw [e] at h
  have := Int32.le_trans ha h
  exact absurd this (by decide)
set_option maxRecDepth 20000 in
theorem c_nx {G : mm_G} {Q : mm_O → mm_H → Prop} {h : mm_H} {y N n p : Nat} {bs : List Int32} (hy : mm_Bo h y N) (hn : n ≤ 4) (hN : bs.length ≤ N) (hB : mm_By (mm_gi h) y bs) (hp : p ≤ bs.length) (hpl : mm_gi h y 2 = nI p) (hq : Q (.inl (some (.int (mm_nv bs p n)))) (mm_si h y 2 (nI (mm_np bs p n)))) : mm_V G (1, 21) M_By_next Q 0 (mm_ent 4 [.ref y, .int (nI n)]) [] h := by
  have key : ∀ F' : mm_W, mm_pfr y (mm_gi h) F' → ∀ q, F' y 2 = q → mm_wi h F' = mm_si h y 2 q := fun F' hf q hq2 => by
    have e : F' = mm_u2 (mm_gi h) y 2 q := by
      funext a k
      by_cases c : a = y ∧ k = 2
      · obtain ⟨rfl, rfl⟩ := c; simp [mm_u2, hq2]
      · simp only [mm_u2, c, if_false]; exact hf a k (by grind)
    rw [e]; rfl
  refine c_byNext hy hn hN hB hp hpl (fun c F' hf e => ?_) (fun c F' hf e => ?_)
  · rw [key F' hf _ e]
    simpa only [mm_nv, mm_np, if_pos c] using hq
  · rw [key F' hf _ e]
    simpa only [mm_nv, mm_np, if_neg (show ¬ p + n ≤ bs.length by omega)] using hq
/-- of slot s and the place of y alone -/
def mm_rfr (y s : Nat) (F F' : mm_W) : Prop := ∀ a k, a ≠ s → ¬ (a = y ∧ k = 2) → F' a k = F a k
theorem mm_rfr.rfl' {y s : Nat} {F : mm_W} : mm_rfr y s F F := fun _ _ _ _ => rfl
theorem mm_rfr.trans {y s : Nat} {F F1 F2 : mm_W} (h1 : mm_rfr y s F F1) (h2 : mm_rfr y s F1 F2) : mm_rfr y s F F2 := fun a k ha hb => (h2 a k ha hb).trans (h1 a k ha hb)
theorem mm_By.rfr {F F' : mm_W} {y s : Nat} {bs : List Int32} (h : mm_By F y bs) (f : mm_rfr y s F F') (n1 : s ≠ y) (n2 : s ≠ y + 1) : mm_By F' y bs :=
  ⟨by rw [f y 1 (fun z => n1 z.symm) (by omega)]; exact h.1, fun j hj => by rw [f (y + 1) j (fun z => n2 z.symm) (by omega)]; exact h.2 j hj⟩
theorem mm_By.pl {F : mm_W} {y : Nat} {bs : List Int32} (h : mm_By F y bs) (x : Int32) : mm_By (mm_u2 F y 2 x) y bs :=
  ⟨by simpa [mm_u2] using h.1, fun j hj => by have n1 : ¬ y + 1 = y := (by omega); simpa [mm_u2, n1] using h.2 j hj⟩
theorem mm_By.sl {F : mm_W} {y s k : Nat} {bs : List Int32} (h : mm_By F y bs) (x : Int32) (n1 : s ≠ y) (n2 : s ≠ y + 1) : mm_By (mm_u2 F s k x) y bs :=
  ⟨by have : ¬ y = s := (fun z => n1 z.symm); simpa [mm_u2, this] using h.1, fun j hj => by have : ¬ y + 1 = s := (fun z => n2 z.symm); simpa [mm_u2, this] using h.2 j hj⟩
set_option maxRecDepth 20000 in
theorem c_readThing {G : mm_G} {Q : mm_O → mm_H → Prop} {h : mm_H} {z y N s p : Nat} {bs : List Int32} (hz : mm_Hd h z 4 y N) (hs : mm_at h s 3 9) (n1 : s ≠ y) (n2 : s ≠ y + 1) (hb : a_byt bs) (hN : bs.length ≤ N) (hB : mm_By (mm_gi h) y bs) (hp : p ≤ bs.length) (hpl : mm_gi h y 2 = nI p) (hq1 : ∀ F', (mm_rfr y s (mm_gi h) F' ∧ F' y 2 = nI (mm_np bs (mm_np bs (mm_np bs (mm_np bs p 2) 2) 1) 1) ∧ F' s 0 = mm_gi h s 0 ∧ F' s 1 = 1 ∧ F' s 2 = (mm_nv bs p 2) ∧ F' s 3 = (mm_nv bs (mm_np bs p 2) 2) ∧ F' s 4 = (mm_nv bs (mm_np bs (mm_np bs p 2) 2) 1) - 128 ∧ F' s 5 = (mm_nv bs (mm_np bs (mm_np bs (mm_np bs p 2) 2) 1) 1) - 128 ∧ F' s 6 = 0 ∧ F' s 7 = 0 ∧ F' s 8 = 0) → (((0 ≤ (mm_nv bs p 2) ∧ (mm_nv bs p 2) ≤ 4095) ∧ (0 ≤ (mm_nv bs (mm_np bs p 2) 2) ∧ (mm_nv bs (mm_np bs p 2) 2) ≤ 4095)) ∧ ((-100 ≤ (mm_nv bs (mm_np bs (mm_np bs p 2) 2) 1) - 128 ∧ (mm_nv bs (mm_np bs (mm_np bs p 2) 2) 1) - 128 ≤ 100) ∧ (-100 ≤ (mm_nv bs (mm_np bs (mm_np bs (mm_np bs p 2) 2) 1) 1) - 128 ∧ (mm_nv bs (mm_np bs (mm_np bs (mm_np bs p 2) 2) 1) 1) - 128 ≤ 100))) → Q (.inl (some (.int 1))) (mm_wi h F')) (hq0 : ∀ F', (mm_rfr y s (mm_gi h) F' ∧ F' y 2 = nI (mm_np bs (mm_np bs (mm_np bs (mm_np bs p 2) 2) 1) 1) ∧ F' s 0 = mm_gi h s 0 ∧ F' s 1 = 1 ∧ F' s 2 = (mm_nv bs p 2) ∧ F' s 3 = (mm_nv bs (mm_np bs p 2) 2) ∧ F' s 4 = (mm_nv bs (mm_np bs (mm_np bs p 2) 2) 1) - 128 ∧ F' s 5 = (mm_nv bs (mm_np bs (mm_np bs (mm_np bs p 2) 2) 1) 1) - 128 ∧ F' s 6 = 0 ∧ F' s 7 = 0 ∧ F' s 8 = 0) → ¬ (((0 ≤ (mm_nv bs p 2) ∧ (mm_nv bs p 2) ≤ 4095) ∧ (0 ≤ (mm_nv bs (mm_np bs p 2) 2) ∧ (mm_nv bs (mm_np bs p 2) 2) ≤ 4095)) ∧ ((-100 ≤ (mm_nv bs (mm_np bs (mm_np bs p 2) 2) 1) - 128 ∧ (mm_nv bs (mm_np bs (mm_np bs p 2) 2) 1) - 128 ≤ 100) ∧ (-100 ≤ (mm_nv bs (mm_np bs (mm_np bs (mm_np bs p 2) 2) 1) 1) - 128 ∧ (mm_nv bs (mm_np bs (mm_np bs (mm_np bs p 2) 2) 1) 1) - 128 ≤ 100))) → Q (.inl (some (.int 0))) (mm_wi h F')) : mm_V G (2, 44) M_Sb_readThing Q 0 (mm_ent 6 [.ref z, .ref s]) [] h := by
  show mm_V G (2, 44) M_Sb_readThing Q 0 [some (.ref z), some (.ref s), none, none, none, none] [] h
  refine mv_aload_n (pc := 0) d_Sb_readThing_0 rfl ?_
  refine mr_getr (pc := 1) d_Sb_readThing_1 fl_Sb_14 hz.1 rfl (by decide) hz.2.1 ?_
  refine mv_iconst (v := 2) (pc := 4) d_Sb_readThing_4 (by decide) ?_
  refine mr_callV1 (pc := 5) d_Sb_readThing_5 (d2 := (1, 21)) ok_By_next li_Sb_117 sv_By_next hz.2.2.1 ⟨by decide, rfl⟩ ⟨by decide, rfl, Nat.le_of_ble_eq_true rfl, rfl, by decide, by decide⟩ ?_
  refine c_nx (h := h) (n := 2) (p := p) hz.2.2 (by omega) hN hB (by first | exact hp | exact mm_np_le _ _ _) hpl ?_
  refine mv_istore_n (pc := 8) d_Sb_readThing_8 (by decide) ?_
  refine mv_aload_n (pc := 9) d_Sb_readThing_9 rfl ?_
  refine mr_getr (pc := 10) d_Sb_readThing_10 fl_Sb_14 hz.1 rfl (by decide) hz.2.1 ?_
  refine mv_iconst (v := 2) (pc := 13) d_Sb_readThing_13 (by decide) ?_
  refine mr_callV1 (pc := 14) d_Sb_readThing_14 (d2 := (1, 21)) ok_By_next li_Sb_117 sv_By_next hz.2.2.1 ⟨by decide, rfl⟩ ⟨by decide, rfl, Nat.le_of_ble_eq_true rfl, rfl, by decide, by decide⟩ ?_
  refine c_nx (h := (mm_si h y 2 (nI (mm_np bs p 2)))) (n := 2) (p := (mm_np bs p 2)) hz.2.2 (by omega) hN (hB.pl _) (by first | exact hp | exact mm_np_le _ _ _) (mm_gss _ _ _ _) ?_
  refine mv_istore_n (pc := 17) d_Sb_readThing_17 (by decide) ?_
  refine mv_aload_n (pc := 18) d_Sb_readThing_18 rfl ?_
  refine mv_iload_n (pc := 19) d_Sb_readThing_19 rfl ?_
  refine mv_iload_n (pc := 20) d_Sb_readThing_20 rfl ?_
  refine mr_callV2 (pc := 21) d_Sb_readThing_21 (d2 := (1, 22)) ok_Sl_settle li_Sb_138 sv_Sl_settle hs ⟨by decide, rfl⟩ ⟨by decide, rfl, rfl, Nat.le_of_ble_eq_true rfl, rfl, by decide, by decide⟩ ?_
  refine c_settle hs ?_
  refine mv_aload_n (pc := 24) d_Sb_readThing_24 rfl ?_
  refine mr_getr (pc := 25) d_Sb_readThing_25 fl_Sb_14 hz.1 rfl (by decide) hz.2.1 ?_
  refine mv_iconst (v := 1) (pc := 28) d_Sb_readThing_28 (by decide) ?_
  refine mr_callV1 (pc := 29) d_Sb_readThing_29 (d2 := (1, 21)) ok_By_next li_Sb_117 sv_By_next hz.2.2.1 ⟨by decide, rfl⟩ ⟨by decide, rfl, Nat.le_of_ble_eq_true rfl, rfl, by decide, by decide⟩ ?_
  refine c_nx (h := (mm_settle (mm_si (mm_si h y 2 (nI (mm_np bs p 2))) y 2 (nI (mm_np bs (mm_np bs p 2) 2))) s (mm_nv bs p 2) (mm_nv bs (mm_np bs p 2) 2))) (n := 1) (p := (mm_np bs (mm_np bs p 2) 2)) hz.2.2 (by omega) hN ((((((((((hB.pl _).pl _).sl _ n1 n2).sl _ n1 n2).sl _ n1 n2).sl _ n1 n2).sl _ n1 n2).sl _ n1 n2).sl _ n1 n2).sl _ n1 n2) (by first | exact hp | exact mm_np_le _ _ _) (by simp [mm_settle, mm_gsi, n1, Ne.symm n1]) ?_
  refine mv_sipush (v := 128) (pc := 32) d_Sb_readThing_32 (by decide) ?_
  refine mv_isub (pc := 35) d_Sb_readThing_35 ?_
  refine mv_istore (pc := 36) d_Sb_readThing_36 (by decide) ?_
  refine mv_aload_n (pc := 38) d_Sb_readThing_38 rfl ?_
  refine mr_getr (pc := 39) d_Sb_readThing_39 fl_Sb_14 hz.1 rfl (by decide) hz.2.1 ?_
  refine mv_iconst (v := 1) (pc := 42) d_Sb_readThing_42 (by decide) ?_
  refine mr_callV1 (pc := 43) d_Sb_readThing_43 (d2 := (1, 21)) ok_By_next li_Sb_117 sv_By_next hz.2.2.1 ⟨by decide, rfl⟩ ⟨by decide, rfl, Nat.le_of_ble_eq_true rfl, rfl, by decide, by decide⟩ ?_
  refine c_nx (h := (mm_si (mm_settle (mm_si (mm_si h y 2 (nI (mm_np bs p 2))) y 2 (nI (mm_np bs (mm_np bs p 2) 2))) s (mm_nv bs p 2) (mm_nv bs (mm_np bs p 2) 2)) y 2 (nI (mm_np bs (mm_np bs (mm_np bs p 2) 2) 1)))) (n := 1) (p := (mm_np bs (mm_np bs (mm_np bs p 2) 2) 1)) hz.2.2 (by omega) hN (((((((((((hB.pl _).pl _).sl _ n1 n2).sl _ n1 n2).sl _ n1 n2).sl _ n1 n2).sl _ n1 n2).sl _ n1 n2).sl _ n1 n2).sl _ n1 n2).pl _) (by first | exact hp | exact mm_np_le _ _ _) (mm_gss _ _ _ _) ?_
  refine mv_sipush (v := 128) (pc := 46) d_Sb_readThing_46 (by decide) ?_
  refine mv_isub (pc := 49) d_Sb_readThing_49 ?_
  refine mv_istore (pc := 50) d_Sb_readThing_50 (by decide) ?_
  refine mv_aload_n (pc := 52) d_Sb_readThing_52 rfl ?_
  refine mv_iload (pc := 53) d_Sb_readThing_53 rfl ?_
  refine mv_iload (pc := 55) d_Sb_readThing_55 rfl ?_
  refine mr_callV2 (pc := 57) d_Sb_readThing_57 (d2 := (0, 0)) ok_Sl_setSpeed li_Sb_141 sv_Sl_setSpeed hs ⟨by decide, rfl⟩ ⟨by decide, rfl, rfl, Nat.le_of_ble_eq_true rfl, rfl, by decide, by decide⟩ ?_
  refine c_setSpeed hs ?_
  refine mv_iload_n (pc := 60) d_Sb_readThing_60 rfl ?_
  refine mv_iload_n (pc := 61) d_Sb_readThing_61 rfl ?_
  refine mr_callS2 (pc := 62) d_Sb_readThing_62 (d2 := (1, 22)) ok_Ta_isPlace li_Sb_144 sv_Ta_isPlace ⟨by decide, rfl, rfl, Nat.le_of_ble_eq_true rfl, rfl, by decide, by decide⟩ ?_
  refine c_isPlace (fun hp1 => ?_) (fun hp1 => ?_)
  · refine mv_if_eq 82 (pc := 65) d_Sb_readThing_65 (by decide) (fun z => absurd z (by decide)) (fun _ => ?_)
    refine mv_iload (pc := 68) d_Sb_readThing_68 rfl ?_
    refine mv_iload (pc := 70) d_Sb_readThing_70 rfl ?_
    refine mr_callS2 (pc := 72) d_Sb_readThing_72 (d2 := (1, 22)) ok_Ta_isSpeed li_Sb_148 sv_Ta_isSpeed ⟨by decide, rfl, rfl, Nat.le_of_ble_eq_true rfl, rfl, by decide, by decide⟩ ?_
    refine c_isSpeed (fun hp2 => ?_) (fun hp2 => ?_)
    · refine mv_if_eq 82 (pc := 75) d_Sb_readThing_75 (by decide) (fun z => absurd z (by decide)) (fun _ => ?_)
      refine mv_iconst (v := 1) (pc := 78) d_Sb_readThing_78 (by decide) ?_
      refine mv_goto 83 (pc := 79) d_Sb_readThing_79 (by decide) ?_
      refine mv_iret (pc := 83) d_Sb_readThing_83 rfl rfl ?_
      have ny : ¬ y = s := fun z => n1 z.symm
      refine hq1 _ ⟨fun a k ha hb2 => ?_, ?_, ?_, ?_, ?_, ?_, ?_, ?_, ?_, ?_, ?_⟩ ⟨hp1, hp2⟩
      · have hb3 : ¬ (a = y ∧ k = 2) := hb2
        simp [mm_u2, mm_usi, mm_g0, mm_settle, mm_gsi, ha, hb3]
      · simp [mm_u2, mm_usi, mm_g0, mm_settle, mm_gsi, n1, ny]
      · simp [mm_u2, mm_usi, mm_g0, mm_settle, mm_gsi, n1, ny]
      · simp [mm_u2, mm_usi, mm_g0, mm_settle, mm_gsi, n1, ny]
      · simp [mm_u2, mm_usi, mm_g0, mm_settle, mm_gsi, n1, ny]
      · simp [mm_u2, mm_usi, mm_g0, mm_settle, mm_gsi, n1, ny]
      · simp [mm_u2, mm_usi, mm_g0, mm_settle, mm_gsi, n1, ny]
      · simp [mm_u2, mm_usi, mm_g0, mm_settle, mm_gsi, n1, ny]
      · simp [mm_u2, mm_usi, mm_g0, mm_settle, mm_gsi, n1, ny]
      · simp [mm_u2, mm_usi, mm_g0, mm_settle, mm_gsi, n1, ny]
      · simp [mm_u2, mm_usi, mm_g0, mm_settle, mm_gsi, n1, ny]
    · refine mv_if_eq 82 (pc := 75) d_Sb_readThing_75 (by decide) (fun _ => ?_) (fun z => absurd z (by decide))
      refine mv_iconst (v := 0) (pc := 82) d_Sb_readThing_82 (by decide) ?_
      refine mv_iret (pc := 83) d_Sb_readThing_83 rfl rfl ?_
      have ny : ¬ y = s := fun z => n1 z.symm
      refine hq0 _ ⟨fun a k ha hb2 => ?_, ?_, ?_, ?_, ?_, ?_, ?_, ?_, ?_, ?_, ?_⟩ (fun z => hp2 z.2)
      · have hb3 : ¬ (a = y ∧ k = 2) := hb2
        simp [mm_u2, mm_usi, mm_g0, mm_settle, mm_gsi, ha, hb3]
      · simp [mm_u2, mm_usi, mm_g0, mm_settle, mm_gsi, n1, ny]
      · simp [mm_u2, mm_usi, mm_g0, mm_settle, mm_gsi, n1, ny]
      · simp [mm_u2, mm_usi, mm_g0, mm_settle, mm_gsi, n1, ny]
      · simp [mm_u2, mm_usi, mm_g0, mm_settle, mm_gsi, n1, ny]
      · simp [mm_u2, mm_usi, mm_g0, mm_settle, mm_gsi, n1, ny]
      · simp [mm_u2, mm_usi, mm_g0, mm_settle, mm_gsi, n1, ny]
      · simp [mm_u2, mm_usi, mm_g0, mm_settle, mm_gsi, n1, ny]
      · simp [mm_u2, mm_usi, mm_g0, mm_settle, mm_gsi, n1, ny]
      · simp [mm_u2, mm_usi, mm_g0, mm_settle, mm_gsi, n1, ny]
      · simp [mm_u2, mm_usi, mm_g0, mm_settle, mm_gsi, n1, ny]
  · refine mv_if_eq 82 (pc := 65) d_Sb_readThing_65 (by decide) (fun _ => ?_) (fun z => absurd z (by decide))
    refine mv_iconst (v := 0) (pc := 82) d_Sb_readThing_82 (by decide) ?_
    refine mv_iret (pc := 83) d_Sb_readThing_83 rfl rfl ?_
    have ny : ¬ y = s := fun z => n1 z.symm
    refine hq0 _ ⟨fun a k ha hb2 => ?_, ?_, ?_, ?_, ?_, ?_, ?_, ?_, ?_, ?_, ?_⟩ (fun z => hp1 z.1)
    · have hb3 : ¬ (a = y ∧ k = 2) := hb2
      simp [mm_u2, mm_usi, mm_g0, mm_settle, mm_gsi, ha, hb3]
    · simp [mm_u2, mm_usi, mm_g0, mm_settle, mm_gsi, n1, ny]
    · simp [mm_u2, mm_usi, mm_g0, mm_settle, mm_gsi, n1, ny]
    · simp [mm_u2, mm_usi, mm_g0, mm_settle, mm_gsi, n1, ny]
    · simp [mm_u2, mm_usi, mm_g0, mm_settle, mm_gsi, n1, ny]
    · simp [mm_u2, mm_usi, mm_g0, mm_settle, mm_gsi, n1, ny]
    · simp [mm_u2, mm_usi, mm_g0, mm_settle, mm_gsi, n1, ny]
    · simp [mm_u2, mm_usi, mm_g0, mm_settle, mm_gsi, n1, ny]
    · simp [mm_u2, mm_usi, mm_g0, mm_settle, mm_gsi, n1, ny]
    · simp [mm_u2, mm_usi, mm_g0, mm_settle, mm_gsi, n1, ny]
    · simp [mm_u2, mm_usi, mm_g0, mm_settle, mm_gsi, n1, ny]
set_option maxRecDepth 20000 in
theorem c_readShape {G : mm_G} {Q : mm_O → mm_H → Prop} {h : mm_H} {z y N s p : Nat} {bs : List Int32} (hz : mm_Hd h z 4 y N) (hs : mm_at h s 3 9) (n1 : s ≠ y) (n2 : s ≠ y + 1) (hb : a_byt bs) (hN : bs.length ≤ N) (hB : mm_By (mm_gi h) y bs) (hp : p ≤ bs.length) (hpl : mm_gi h y 2 = nI p) {b : Int32} (hqn : b = 0 → Q (.inl (some (.int 1))) h) (hq1 : ∀ F', ¬ b = 0 → (mm_rfr y s (mm_gi h) F' ∧ F' y 2 = nI (mm_np bs (mm_np bs p 1) 1) ∧ (∀ k, k ≠ 6 → k ≠ 7 → F' s k = mm_gi h s k) ∧ F' s 6 = (mm_nv bs p 1) ∧ F' s 7 = (mm_nv bs (mm_np bs p 1) 1)) → ((1 ≤ (mm_nv bs p 1) ∧ (mm_nv bs p 1) ≤ 200) ∧ (1 ≤ (mm_nv bs (mm_np bs p 1) 1) ∧ (mm_nv bs (mm_np bs p 1) 1) ≤ 200)) → Q (.inl (some (.int 1))) (mm_wi h F')) (hq0 : ∀ F', ¬ b = 0 → (mm_rfr y s (mm_gi h) F' ∧ F' y 2 = nI (mm_np bs (mm_np bs p 1) 1) ∧ (∀ k, k ≠ 6 → k ≠ 7 → F' s k = mm_gi h s k) ∧ F' s 6 = (mm_nv bs p 1) ∧ F' s 7 = (mm_nv bs (mm_np bs p 1) 1)) → ¬ ((1 ≤ (mm_nv bs p 1) ∧ (mm_nv bs p 1) ≤ 200) ∧ (1 ≤ (mm_nv bs (mm_np bs p 1) 1) ∧ (mm_nv bs (mm_np bs p 1) 1) ≤ 200)) → Q (.inl (some (.int 0))) (mm_wi h F')) : mm_V G (2, 44) M_Sb_readShape Q 0 (mm_ent 5 [.ref z, .ref s, .int b]) [] h := by
  show mm_V G (2, 44) M_Sb_readShape Q 0 [some (.ref z), some (.ref s), some (.int b), none, none] [] h
  refine mv_iload_n (pc := 0) d_Sb_readShape_0 rfl ?_
  refine mv_if_ne 6 (pc := 1) d_Sb_readShape_1 (by decide) (fun h1 => ?_) (fun h1 => ?_)
  · refine mv_aload_n (pc := 6) d_Sb_readShape_6 rfl ?_
    refine mr_getr (pc := 7) d_Sb_readShape_7 fl_Sb_14 hz.1 rfl (by decide) hz.2.1 ?_
    refine mv_iconst (v := 1) (pc := 10) d_Sb_readShape_10 (by decide) ?_
    refine mr_callV1 (pc := 11) d_Sb_readShape_11 (d2 := (1, 21)) ok_By_next li_Sb_117 sv_By_next hz.2.2.1 ⟨by decide, rfl⟩ ⟨by decide, rfl, Nat.le_of_ble_eq_true rfl, rfl, by decide, by decide⟩ ?_
    refine c_nx (h := h) (n := 1) (p := p) hz.2.2 (by omega) hN hB (by first | exact hp | exact mm_np_le _ _ _) hpl ?_
    refine mv_istore_n (pc := 14) d_Sb_readShape_14 (by decide) ?_
    refine mv_aload_n (pc := 15) d_Sb_readShape_15 rfl ?_
    refine mr_getr (pc := 16) d_Sb_readShape_16 fl_Sb_14 hz.1 rfl (by decide) hz.2.1 ?_
    refine mv_iconst (v := 1) (pc := 19) d_Sb_readShape_19 (by decide) ?_
    refine mr_callV1 (pc := 20) d_Sb_readShape_20 (d2 := (1, 21)) ok_By_next li_Sb_117 sv_By_next hz.2.2.1 ⟨by decide, rfl⟩ ⟨by decide, rfl, Nat.le_of_ble_eq_true rfl, rfl, by decide, by decide⟩ ?_
    refine c_nx (h := (mm_si h y 2 (nI (mm_np bs p 1)))) (n := 1) (p := (mm_np bs p 1)) hz.2.2 (by omega) hN (hB.pl _) (by first | exact hp | exact mm_np_le _ _ _) (mm_gss _ _ _ _) ?_
    refine mv_istore (pc := 23) d_Sb_readShape_23 (by decide) ?_
    refine mv_aload_n (pc := 25) d_Sb_readShape_25 rfl ?_
    refine mv_iload_n (pc := 26) d_Sb_readShape_26 rfl ?_
    refine mv_iload (pc := 27) d_Sb_readShape_27 rfl ?_
    refine mr_callV2 (pc := 29) d_Sb_readShape_29 (d2 := (0, 0)) ok_Sl_setShape li_Sb_151 sv_Sl_setShape hs ⟨by decide, rfl⟩ ⟨by decide, rfl, rfl, Nat.le_of_ble_eq_true rfl, rfl, by decide, by decide⟩ ?_
    refine c_setShape hs ?_
    refine mv_iload_n (pc := 32) d_Sb_readShape_32 rfl ?_
    refine mv_iload (pc := 33) d_Sb_readShape_33 rfl ?_
    refine mr_callS2 (pc := 35) d_Sb_readShape_35 (d2 := (1, 22)) ok_Ta_isShape li_Sb_154 sv_Ta_isShape ⟨by decide, rfl, rfl, Nat.le_of_ble_eq_true rfl, rfl, by decide, by decide⟩ ?_
    refine c_isShape (fun hp1 => ?_) (fun hp1 => ?_)
    · refine mv_iret (pc := 38) d_Sb_readShape_38 rfl rfl ?_
      have ny : ¬ y = s := fun z => n1 z.symm
      refine hq1 _ h1 ⟨fun a k ha hb2 => ?_, ?_, fun k k1 k2 => ?_, ?_, ?_⟩ hp1
      · simp [mm_u2, mm_usi, mm_g0, mm_gsi, ha, hb2]
      · simp [mm_u2, mm_usi, mm_g0, mm_gsi, n1, ny]
      · simp [mm_u2, mm_usi, mm_g0, mm_gsi, n1, ny, k1, k2]
      · simp [mm_u2, mm_usi, mm_g0, mm_gsi, n1, ny]
      · simp [mm_u2, mm_usi, mm_g0, mm_gsi, n1, ny]
    · refine mv_iret (pc := 38) d_Sb_readShape_38 rfl rfl ?_
      have ny : ¬ y = s := fun z => n1 z.symm
      refine hq0 _ h1 ⟨fun a k ha hb2 => ?_, ?_, fun k k1 k2 => ?_, ?_, ?_⟩ hp1
      · simp [mm_u2, mm_usi, mm_g0, mm_gsi, ha, hb2]
      · simp [mm_u2, mm_usi, mm_g0, mm_gsi, n1, ny]
      · simp [mm_u2, mm_usi, mm_g0, mm_gsi, n1, ny, k1, k2]
      · simp [mm_u2, mm_usi, mm_g0, mm_gsi, n1, ny]
      · simp [mm_u2, mm_usi, mm_g0, mm_gsi, n1, ny]
  · refine mv_iconst (v := 1) (pc := 4) d_Sb_readShape_4 (by decide) ?_
    refine mv_iret (pc := 5) d_Sb_readShape_5 rfl rfl ?_
    exact hqn h1
set_option maxRecDepth 20000 in
theorem c_readTimer {G : mm_G} {Q : mm_O → mm_H → Prop} {h : mm_H} {z y N s p : Nat} {bs : List Int32} (hz : mm_Hd h z 4 y N) (hs : mm_at h s 3 9) (n1 : s ≠ y) (n2 : s ≠ y + 1) (hb : a_byt bs) (hN : bs.length ≤ N) (hB : mm_By (mm_gi h) y bs) (hp : p ≤ bs.length) (hpl : mm_gi h y 2 = nI p) {b : Int32} (hqn : b = 0 → Q (.inl (some (.int 1))) h) (hq1 : ∀ F', ¬ b = 0 → (mm_rfr y s (mm_gi h) F' ∧ F' y 2 = nI (mm_np bs p 2) ∧ (∀ k, k ≠ 8 → F' s k = mm_gi h s k) ∧ F' s 8 = (mm_nv bs p 2)) → (1 ≤ (mm_nv bs p 2) ∧ (mm_nv bs p 2) ≤ 60000) → Q (.inl (some (.int 1))) (mm_wi h F')) (hq0 : ∀ F', ¬ b = 0 → (mm_rfr y s (mm_gi h) F' ∧ F' y 2 = nI (mm_np bs p 2) ∧ (∀ k, k ≠ 8 → F' s k = mm_gi h s k) ∧ F' s 8 = (mm_nv bs p 2)) → ¬ (1 ≤ (mm_nv bs p 2) ∧ (mm_nv bs p 2) ≤ 60000) → Q (.inl (some (.int 0))) (mm_wi h F')) : mm_V G (2, 44) M_Sb_readTimer Q 0 (mm_ent 3 [.ref z, .ref s, .int b]) [] h := by
  show mm_V G (2, 44) M_Sb_readTimer Q 0 [some (.ref z), some (.ref s), some (.int b)] [] h
  refine mv_iload_n (pc := 0) d_Sb_readTimer_0 rfl ?_
  refine mv_if_ne 6 (pc := 1) d_Sb_readTimer_1 (by decide) (fun h1 => ?_) (fun h1 => ?_)
  · refine mv_aload_n (pc := 6) d_Sb_readTimer_6 rfl ?_
    refine mv_aload_n (pc := 7) d_Sb_readTimer_7 rfl ?_
    refine mr_getr (pc := 8) d_Sb_readTimer_8 fl_Sb_14 hz.1 rfl (by decide) hz.2.1 ?_
    refine mv_iconst (v := 2) (pc := 11) d_Sb_readTimer_11 (by decide) ?_
    refine mr_callV1 (pc := 12) d_Sb_readTimer_12 (d2 := (1, 21)) ok_By_next li_Sb_117 sv_By_next hz.2.2.1 ⟨by decide, rfl⟩ ⟨by decide, rfl, Nat.le_of_ble_eq_true rfl, rfl, by decide, by decide⟩ ?_
    refine c_nx (h := h) (n := 2) (p := p) hz.2.2 (by omega) hN hB (by first | exact hp | exact mm_np_le _ _ _) hpl ?_
    refine mr_puti (pc := 15) d_Sb_readTimer_15 fl_Sb_90 hs rfl (by decide) ⟨rfl, rfl⟩ ?_
    refine mv_aload_n (pc := 18) d_Sb_readTimer_18 rfl ?_
    refine mr_geti (pc := 19) d_Sb_readTimer_19 fl_Sb_90 hs rfl (by decide) ?_
    rw [mm_gss]
    refine mr_callS1 (pc := 22) d_Sb_readTimer_22 (d2 := (1, 22)) ok_Ta_isTimer li_Sb_157 sv_Ta_isTimer ⟨by decide, rfl, Nat.le_of_ble_eq_true rfl, rfl, by decide, by decide⟩ ?_
    refine c_isTimer (fun hp1 => ?_) (fun hp1 => ?_)
    · refine mv_iret (pc := 25) d_Sb_readTimer_25 rfl rfl ?_
      have ny : ¬ y = s := fun z => n1 z.symm
      refine hq1 _ h1 ⟨fun a k ha hb2 => ?_, ?_, fun k k1 => ?_, ?_⟩ hp1
      · simp [mm_u2, mm_usi, mm_g0, mm_gsi, ha, hb2]
      · simp [mm_u2, mm_usi, mm_g0, mm_gsi, n1, ny]
      · simp [mm_u2, mm_usi, mm_g0, mm_gsi, n1, ny, k1]
      · simp [mm_u2, mm_usi, mm_g0, mm_gsi, n1, ny]
    · refine mv_iret (pc := 25) d_Sb_readTimer_25 rfl rfl ?_
      have ny : ¬ y = s := fun z => n1 z.symm
      refine hq0 _ h1 ⟨fun a k ha hb2 => ?_, ?_, fun k k1 => ?_, ?_⟩ hp1
      · simp [mm_u2, mm_usi, mm_g0, mm_gsi, ha, hb2]
      · simp [mm_u2, mm_usi, mm_g0, mm_gsi, n1, ny]
      · simp [mm_u2, mm_usi, mm_g0, mm_gsi, n1, ny, k1]
      · simp [mm_u2, mm_usi, mm_g0, mm_gsi, n1, ny]
  · refine mv_iconst (v := 1) (pc := 4) d_Sb_readTimer_4 (by decide) ?_
    refine mv_iret (pc := 5) d_Sb_readTimer_5 rfl rfl ?_
    exact hqn h1
