/-! CONTRACTS: the reference: readThing (rows by program: con_rc.py) -/
set_option maxRecDepth 20000 in
theorem c_mri {G : mm_G} {Q : mm_O → mm_H → Prop} {h : mm_H} {n p : Nat} {a b : Int32} {sv : List Int32} (hM : mm_Mo h) (hn : n ≤ 4) (ha : 0 ≤ a) (hl : sv.length ≤ 336) (hV : SVs (mm_gi h) sv) (hR : MR (mm_gi h) sv p)
    (hq1 : (a ≤ mm_nv sv p n ∧ mm_nv sv p n ≤ b) → ∀ F', MR F' sv (mm_np sv p n) → mm_ffr (mm_gi h) F' → Q (.inl (some (.int (mm_nv sv p n)))) (mm_wi h F')) (hq0 : ¬ (a ≤ mm_nv sv p n ∧ mm_nv sv p n ≤ b) → ∀ F', F' 52 23 = 0 → mm_ffr (mm_gi h) F' → Q (.inl (some (.int a))) (mm_wi h F')) : mm_V G (1, 23) M_Mo_readIn Q 0 (mm_ent 5 [.ref 52, .int (nI n), .int a, .int b]) [] h := by
  refine c_mreadIn hM hn hl hV hR (fun c d F' r f => ?_) (fun F' c r f => hq0 (fun z => ?_) F' r f)
  · have e1 : mm_nv sv p n = mm_dec sv p n := by unfold mm_nv; rw [if_pos c]
    have e2 : mm_np sv p n = p + n := by unfold mm_np; rw [if_pos c]
    rw [e1, e2] at hq1
    exact hq1 d F' r f
  · by_cases d : p + n ≤ sv.length
    · have e1 : mm_nv sv p n = mm_dec sv p n := by unfold mm_nv; rw [if_pos d]
      rw [e1] at z
      exact c ⟨d, z⟩
    · have e1 : mm_nv sv p n = -1 := by unfold mm_nv; rw [if_neg d]
      rw [e1] at z
      exact absurd (Int32.le_trans ha z.1) (by decide)
/-- of slot s (its generation aside), the place and the flag alone; what stands in the slot -/
def TS (F0 F : mm_W) (s : Nat) (g : Nat → Int32) : Prop := (∀ k, k ≤ 8 → F (54 + k) s = g k) ∧ (∀ a k, ¬ (55 ≤ a ∧ a ≤ 62 ∧ k = s) → ¬ (a = 52 ∧ (k = 22 ∨ k = 23)) → F a k = F0 a k)
theorem TS.init (F : mm_W) (s : Nat) : TS F F s (fun k => F (54 + k) s) := ⟨fun _ _ => rfl, fun _ _ _ _ => rfl⟩
theorem TS.ffr {F0 F F' : mm_W} {s : Nat} {g : Nat → Int32} (h : TS F0 F s g) (f : mm_ffr F F') : TS F0 F' s g := ⟨fun k hk => (f _ _ (by omega)).trans (h.1 k hk), fun a k h1 h2 => (f a k h2).trans (h.2 a k h1 h2)⟩
theorem TS.snd {F0 F : mm_W} {s : Nat} {g : Nat → Int32} (h : TS F0 F s g) (x : Int32) : TS F0 (mm_u2 F 52 23 x) s g := h.ffr (mm_ffr.rfl'.put (Or.inr rfl) x)
theorem TS.put {F0 F : mm_W} {s : Nat} {g : Nat → Int32} (h : TS F0 F s g) (m : Nat) (h1 : 1 ≤ m) (h2 : m ≤ 8) (v : Int32) : TS F0 (mm_u2 F (54 + m) s v) s (fun k => if k = m then v else g k) := by
  refine ⟨fun k hk => ?_, fun a k ha hb => ?_⟩
  · by_cases e : k = m
    · subst e; simp [mm_u2]
    · have n1 : ¬ (54 + k = 54 + m) := by omega
      simp only [mm_u2, n1, false_and, if_false, e]
      exact h.1 k hk
  · have n1 : ¬ (a = 54 + m ∧ k = s) := by omega
    simp only [mm_u2, n1, if_false]
    exact h.2 a k ha hb
theorem TS.make {F0 F F' : mm_W} {s : Nat} {g : Nat → Int32} {x y : Int32} (h : TS F0 F s g) (e : ∀ a j, F' a j = if 55 ≤ a ∧ a ≤ 62 ∧ j = s then (if a = 55 then 1 else if a = 56 then x else if a = 57 then y else 0) else F a j) : TS F0 F' s (fun k => if k = 0 then g 0 else if k = 1 then 1 else if k = 2 then x else if k = 3 then y else 0) := by
  refine ⟨fun k hk => ?_, fun a k ha hb => ?_⟩
  · rw [e]
    by_cases c : k = 0
    · subst c; simp; exact h.1 0 (by omega)
    · rw [if_pos ⟨by omega, by omega, rfl⟩]
      have hk2 : k = 1 ∨ k = 2 ∨ k = 3 ∨ k = 4 ∨ k = 5 ∨ k = 6 ∨ k = 7 ∨ k = 8 := by omega
      rcases hk2 with rfl | rfl | rfl | rfl | rfl | rfl | rfl | rfl <;> simp
  · rw [e, if_neg ha]; exact h.2 a k ha hb
theorem SVs.ts {F0 F : mm_W} {sv : List Int32} {s : Nat} {g : Nat → Int32} (h : SVs F0 sv) (t : TS F0 F s g) : SVs F sv := ⟨by rw [t.2 52 16 (by omega) (by omega)]; exact h.1, fun j hj => by rw [t.2 68 j (by omega) (by omega)]; exact h.2 j hj⟩
theorem MR.put {F : mm_W} {sv : List Int32} {p a s : Nat} (h : MR F sv p) (ha : a ≠ 52) (v : Int32) : MR (mm_u2 F a s v) sv p := by
  have n1 : ¬ 52 = a := fun z => ha z.symm
  exact ⟨by simpa [mm_u2, n1] using h.1, by simpa [mm_u2, n1] using h.2.1, h.2.2⟩
theorem MR.snd {F : mm_W} {sv : List Int32} {p : Nat} (h : MR F sv p) : MR (mm_u2 F 52 23 1) sv p := ⟨by simp [mm_u2], by simpa [mm_u2] using h.2.1, h.2.2⟩
/-- the world that stands in the reference's place k -/
def a_m (F : mm_W) (k : Nat) : mm_W := fun f i => if f = 10 then F 53 k else if f = 9 then F 63 (256 * k + i) else F (54 + f) (16 * k + i)
theorem RM_self (F : mm_W) (k : Nat) : RM F k (a_m F k) := ⟨rfl, fun i _ => ⟨rfl, rfl, fun _ f f1 f2 => by have n1 : ¬ f = 10 := (by omega); have n2 : ¬ f = 9 := (by omega); simp [a_m, n1, n2]⟩, fun _ _ => rfl⟩
theorem nv8 {x : Int32} (h : 0 ≤ x ∧ x ≤ 7) : x = 0 ∨ x = 1 ∨ x = 2 ∨ x = 3 ∨ x = 4 ∨ x = 5 ∨ x = 6 ∨ x = 7 := by
  obtain ⟨j, hj, rfl⟩ := nI_of2 (x := x) (M := 7) (n := 7) (by decide) (Int32.not_lt.mpr h.1) h.2
  have : j = 0 ∨ j = 1 ∨ j = 2 ∨ j = 3 ∨ j = 4 ∨ j = 5 ∨ j = 6 ∨ j = 7 := by omega
  rcases this with rfl | rfl | rfl | rfl | rfl | rfl | rfl | rfl <;> decide
theorem f_28 {x : Int32} (h : 28 ≤ x ∧ x ≤ 228) : -100 ≤ x - 128 ∧ x - 128 ≤ 100 := by
  simp only [Int32.le_iff_toInt_le, i_m100, i_100, i_28, i_228] at h ⊢
  have e := i_sub (x := x) (y := 128) (by rw [i_128]; omega) (by rw [i_128]; omega)
  rw [i_128] at e
  omega
theorem f_28i {x : Int32} (h : -100 ≤ x - 128 ∧ x - 128 ≤ 100) (hx : -1 ≤ x ∧ x ≤ 255) : 28 ≤ x ∧ x ≤ 228 := by
  simp only [Int32.le_iff_toInt_le, i_m100, i_100, i_28, i_228, i_255, show (-1 : Int32).toInt = -1 from by decide] at h hx ⊢
  have e := i_sub (x := x) (y := 128) (by rw [i_128]; omega) (by rw [i_128]; omega)
  rw [i_128] at e
  omega
theorem kd_g {g : Nat → Int32} {x : Int32} (e : x = a_kind g) (h : ¬ x = 0) : ¬ g 1 = 0 := fun z => h (by rw [e]; simp [a_kind, z])
set_option maxRecDepth 20000 in
theorem c_mreadThing {G : mm_G} {Q : mm_O → mm_H → Prop} {h : mm_H} {p i : Nat} {sv : List Int32} (hM : mm_Mo h) (hi : i < 16) (hb : a_byt sv) (hl : sv.length ≤ 336) (hV : SVs (mm_gi h) sv) (hR : MR (mm_gi h) sv (mm_np sv p 2)) (hgen : mm_gi h (54 + 0) (16 * 1 + i) = mm_nv sv p 2) (hq1 : ∀ F' q g, TS (mm_gi h) F' (16 * 1 + i) g → MR F' sv q → sv.drop p = a_encR g ++ sv.drop q → WSf g → Q (.inl none) (mm_wi h F')) (hq0 : ∀ F' g', TS (mm_gi h) F' (16 * 1 + i) g' → mm_gi (mm_wi h F') 52 23 = 0 → (∀ g r, WSf g → ¬ sv.drop p = a_encR g ++ r) → Q (.inl none) (mm_wi h F')) : mm_V G (2, 47) M_Mo_readThing Q 0 (mm_ent 3 [.ref 52, .int (nI (16 * 1 + i))]) [] h := by
  show mm_V G (2, 47) M_Mo_readThing Q 0 [some (.ref 52), some (.int (nI (16 * 1 + i))), none] [] h
  refine mv_aload_n (pc := 0) d_Mo_readThing_0 rfl ?_
  refine mv_iconst (v := 1) (pc := 1) d_Mo_readThing_1 (by decide) ?_
  refine mv_iconst (v := 0) (pc := 2) d_Mo_readThing_2 (by decide) ?_
  refine mv_bipush (v := 7) (pc := 3) d_Mo_readThing_3 (by decide) ?_
  refine mr_callV3 (pc := 5) d_Mo_readThing_5 (d2 := (1, 23)) ok_Mo_readIn li_Mo_149 sv_Mo_readIn hM.1 ⟨by decide, rfl⟩ ⟨by decide, rfl, rfl, rfl, Nat.le_of_ble_eq_true rfl, rfl, by decide, by decide⟩ ?_
  refine c_mri (h := h) (n := 1) (p := (mm_np sv p 2)) hM (by omega) (by decide) hl hV hR (fun d1 F1 r1 f1 => ?_) (fun d1 F1 r1 f1 => ?_)
  · rcases nv8 d1 with hkd | hkd | hkd | hkd | hkd | hkd | hkd | hkd
    · rw [hkd]
      refine mv_istore_n (pc := 8) d_Mo_readThing_8 (by decide) ?_
      refine mv_aload_n (pc := 9) d_Mo_readThing_9 rfl ?_
      refine mr_getr (pc := 10) d_Mo_readThing_10 fl_Mo_16 hM.1 rfl (by decide) hM.g_full ?_
      refine mv_iload_n (pc := 13) d_Mo_readThing_13 rfl ?_
      refine mv_iload_n (pc := 14) d_Mo_readThing_14 rfl ?_
      refine mv_if_le 22 (pc := 15) d_Mo_readThing_15 (by decide) (fun _ => ?_) (fun z => absurd z (by decide))
      refine mv_iconst (v := 0) (pc := 22) d_Mo_readThing_22 (by decide) ?_
      refine mr_zast (pc := 23) d_Mo_readThing_23 hM.a_full (mm_inN (by omega) (by decide)) ?_
      rw [mm_cl (n := 16 * 1 + i) (by omega), mm_nar0]
      refine mv_aload_n (pc := 24) d_Mo_readThing_24 rfl ?_
      refine mv_aload_n (pc := 25) d_Mo_readThing_25 rfl ?_
      refine mr_geti (pc := 26) d_Mo_readThing_26 fl_Mo_139 hM.1 rfl (by decide) ?_
      rw [show mm_gi (mm_si (mm_wi h F1) 55 (16 * 1 + i) 0) 52 23 = 1 from r1.1]
      refine mv_if_eq 47 (pc := 29) d_Mo_readThing_29 (by decide) (fun z => absurd z (by decide)) (fun h29 => ?_)
      refine mv_iload_n (pc := 32) d_Mo_readThing_32 rfl ?_
      refine mv_if_eq 43 (pc := 33) d_Mo_readThing_33 (by decide) (fun _ => ?_) (fun z => absurd z (by decide))
      refine mv_iconst (v := 1) (pc := 43) d_Mo_readThing_43 (by decide) ?_
      refine mv_goto 48 (pc := 44) d_Mo_readThing_44 (by decide) ?_
      refine mr_puti (pc := 48) d_Mo_readThing_48 fl_Mo_139 hM.1 rfl (by decide) ⟨rfl, rfl⟩ ?_
      refine mv_iload_n (pc := 51) d_Mo_readThing_51 rfl ?_
      refine mv_if_le 185 (pc := 52) d_Mo_readThing_52 (by decide) (fun _ => ?_) (fun z => absurd z (by decide))
      refine mv_ret (pc := 185) d_Mo_readThing_185 rfl ?_
      obtain ⟨w1, w2⟩ := rs_empty (f := (fun k => if k = 1 then 0 else (fun k => mm_gi h (54 + k) (16 * 1 + i)) k)) hb hkd hgen rfl
      exact hq1 _ _ _ ((((((TS.init (mm_gi h) (16 * 1 + i)).ffr f1)).put 1 (by omega) (by omega) (0))).snd 1) ((((r1).put (by decide) (0))).snd) w1 w2
    · rw [hkd]
      refine mv_istore_n (pc := 8) d_Mo_readThing_8 (by decide) ?_
      refine mv_aload_n (pc := 9) d_Mo_readThing_9 rfl ?_
      refine mr_getr (pc := 10) d_Mo_readThing_10 fl_Mo_16 hM.1 rfl (by decide) hM.g_full ?_
      refine mv_iload_n (pc := 13) d_Mo_readThing_13 rfl ?_
      refine mv_iload_n (pc := 14) d_Mo_readThing_14 rfl ?_
      refine mv_if_le 22 (pc := 15) d_Mo_readThing_15 (by decide) (fun z => absurd z (by decide)) (fun _ => ?_)
      refine mv_iconst (v := 1) (pc := 18) d_Mo_readThing_18 (by decide) ?_
      refine mv_goto 23 (pc := 19) d_Mo_readThing_19 (by decide) ?_
      refine mr_zast (pc := 23) d_Mo_readThing_23 hM.a_full (mm_inN (by omega) (by decide)) ?_
      rw [mm_cl (n := 16 * 1 + i) (by omega), mm_nar1]
      refine mv_aload_n (pc := 24) d_Mo_readThing_24 rfl ?_
      refine mv_aload_n (pc := 25) d_Mo_readThing_25 rfl ?_
      refine mr_geti (pc := 26) d_Mo_readThing_26 fl_Mo_139 hM.1 rfl (by decide) ?_
      rw [show mm_gi (mm_si (mm_wi h F1) 55 (16 * 1 + i) 1) 52 23 = 1 from r1.1]
      refine mv_if_eq 47 (pc := 29) d_Mo_readThing_29 (by decide) (fun z => absurd z (by decide)) (fun h29 => ?_)
      refine mv_iload_n (pc := 32) d_Mo_readThing_32 rfl ?_
      refine mv_if_eq 43 (pc := 33) d_Mo_readThing_33 (by decide) (fun z => absurd z (by decide)) (fun _ => ?_)
      refine mv_iload_n (pc := 36) d_Mo_readThing_36 rfl ?_
      refine mv_iconst (v := 2) (pc := 37) d_Mo_readThing_37 (by decide) ?_
      refine mv_irem (pc := 38) d_Mo_readThing_38 (by decide) ?_
      refine mv_iconst (v := 1) (pc := 39) d_Mo_readThing_39 (by decide) ?_
      refine mv_ic_ne 47 (pc := 40) d_Mo_readThing_40 (by decide) (fun z => absurd z (by decide)) (fun _ => ?_)
      refine mv_iconst (v := 1) (pc := 43) d_Mo_readThing_43 (by decide) ?_
      refine mv_goto 48 (pc := 44) d_Mo_readThing_44 (by decide) ?_
      refine mr_puti (pc := 48) d_Mo_readThing_48 fl_Mo_139 hM.1 rfl (by decide) ⟨rfl, rfl⟩ ?_
      refine mv_iload_n (pc := 51) d_Mo_readThing_51 rfl ?_
      refine mv_if_le 185 (pc := 52) d_Mo_readThing_52 (by decide) (fun z => absurd z (by decide)) (fun _ => ?_)
      refine mv_aload_n (pc := 55) d_Mo_readThing_55 rfl ?_
      refine mv_iload_n (pc := 56) d_Mo_readThing_56 rfl ?_
      refine mv_aload_n (pc := 57) d_Mo_readThing_57 rfl ?_
      refine mv_iconst (v := 2) (pc := 58) d_Mo_readThing_58 (by decide) ?_
      refine mv_iconst (v := 0) (pc := 59) d_Mo_readThing_59 (by decide) ?_
      refine mv_sipush (v := 4095) (pc := 60) d_Mo_readThing_60 (by decide) ?_
      refine mr_callV3 (pc := 63) d_Mo_readThing_63 (d2 := (1, 23)) ok_Mo_readIn li_Mo_149 sv_Mo_readIn hM.1 ⟨by decide, rfl⟩ ⟨by decide, rfl, rfl, rfl, Nat.le_of_ble_eq_true rfl, rfl, by decide, by decide⟩ ?_
      refine c_mri (h := mm_wi h (mm_u2 (mm_u2 F1 55 (16 * 1 + i) (1)) 52 23 1)) (n := 2) (p := (mm_np sv (mm_np sv p 2) 1)) hM (by omega) (by decide) hl (hV.ts ((((((TS.init (mm_gi h) (16 * 1 + i)).ffr f1)).put 1 (by omega) (by omega) (1))).snd 1)) ((((r1).put (by decide) (1))).snd) (fun d2 F2 r2 f2 => ?_) (fun d2 F2 r2 f2 => ?_)
      · have T2 := (((((((TS.init (mm_gi h) (16 * 1 + i)).ffr f1)).put 1 (by omega) (by omega) (1))).snd 1)).ffr f2
        refine mv_iconst (v := 0) (pc := 66) d_Mo_readThing_66 (by decide) ?_
        refine mr_callV3 (pc := 67) d_Mo_readThing_67 (d2 := (0, 0)) ok_Mo_make li_Mo_98 sv_Mo_make hM.1 ⟨by decide, rfl⟩ ⟨by decide, rfl, rfl, rfl, Nat.le_of_ble_eq_true rfl, rfl, by decide, by decide⟩ ?_
        refine c_make (k := 1) (h := mm_wi h F2) (by omega) hM hi (RM_self F2 1) (fun F20 _ _ e20 => ?_)
        have T20 := T2.make e20
        have R20 : MR F20 sv (mm_np sv (mm_np sv (mm_np sv p 2) 1) 2) := ⟨by rw [e20]; simpa [mm_gwi] using r2.1, by rw [e20]; simpa [mm_gwi] using r2.2.1, r2.2.2⟩
        refine mv_aload_n (pc := 70) d_Mo_readThing_70 rfl ?_
        refine mr_getr (pc := 71) d_Mo_readThing_71 fl_Mo_23 hM.1 rfl (by decide) hM.g_py ?_
        refine mv_iload_n (pc := 74) d_Mo_readThing_74 rfl ?_
        refine mv_aload_n (pc := 75) d_Mo_readThing_75 rfl ?_
        refine mv_iconst (v := 2) (pc := 76) d_Mo_readThing_76 (by decide) ?_
        refine mv_iconst (v := 0) (pc := 77) d_Mo_readThing_77 (by decide) ?_
        refine mv_sipush (v := 4095) (pc := 78) d_Mo_readThing_78 (by decide) ?_
        refine mr_callV3 (pc := 81) d_Mo_readThing_81 (d2 := (1, 23)) ok_Mo_readIn li_Mo_149 sv_Mo_readIn hM.1 ⟨by decide, rfl⟩ ⟨by decide, rfl, rfl, rfl, Nat.le_of_ble_eq_true rfl, rfl, by decide, by decide⟩ ?_
        refine c_mri (h := mm_wi h F20) (n := 2) (p := (mm_np sv (mm_np sv (mm_np sv p 2) 1) 2)) hM (by omega) (by decide) hl (hV.ts T20) R20 (fun d3 F3 r3 f3 => ?_) (fun d3 F3 r3 f3 => ?_)
        · have T3 := (T20).ffr f3
          refine mr_iast (pc := 84) d_Mo_readThing_84 hM.a_py (mm_inN (by omega) (by decide)) ?_
          rw [mm_cl (n := 16 * 1 + i) (by omega)]
          refine mv_aload_n (pc := 85) d_Mo_readThing_85 rfl ?_
          refine mr_getr (pc := 86) d_Mo_readThing_86 fl_Mo_26 hM.1 rfl (by decide) hM.g_sx ?_
          refine mv_iload_n (pc := 89) d_Mo_readThing_89 rfl ?_
          refine mv_aload_n (pc := 90) d_Mo_readThing_90 rfl ?_
          refine mv_iconst (v := 1) (pc := 91) d_Mo_readThing_91 (by decide) ?_
          refine mv_bipush (v := 28) (pc := 92) d_Mo_readThing_92 (by decide) ?_
          refine mv_sipush (v := 228) (pc := 94) d_Mo_readThing_94 (by decide) ?_
          refine mr_callV3 (pc := 97) d_Mo_readThing_97 (d2 := (1, 23)) ok_Mo_readIn li_Mo_149 sv_Mo_readIn hM.1 ⟨by decide, rfl⟩ ⟨by decide, rfl, rfl, rfl, Nat.le_of_ble_eq_true rfl, rfl, by decide, by decide⟩ ?_
          refine c_mri (h := mm_wi h (mm_u2 F3 57 (16 * 1 + i) ((mm_nv sv (mm_np sv (mm_np sv (mm_np sv p 2) 1) 2) 2)))) (n := 1) (p := (mm_np sv (mm_np sv (mm_np sv (mm_np sv p 2) 1) 2) 2)) hM (by omega) (by decide) hl (hV.ts ((T3).put 3 (by omega) (by omega) ((mm_nv sv (mm_np sv (mm_np sv (mm_np sv p 2) 1) 2) 2)))) ((r3).put (by decide) ((mm_nv sv (mm_np sv (mm_np sv (mm_np sv p 2) 1) 2) 2))) (fun d4 F4 r4 f4 => ?_) (fun d4 F4 r4 f4 => ?_)
          · have T4 := (((T3).put 3 (by omega) (by omega) ((mm_nv sv (mm_np sv (mm_np sv (mm_np sv p 2) 1) 2) 2)))).ffr f4
            refine mv_sipush (v := 128) (pc := 100) d_Mo_readThing_100 (by decide) ?_
            refine mv_isub (pc := 103) d_Mo_readThing_103 ?_
            refine mr_iast (pc := 104) d_Mo_readThing_104 hM.a_sx (mm_inN (by omega) (by decide)) ?_
            rw [mm_cl (n := 16 * 1 + i) (by omega)]
            refine mv_aload_n (pc := 105) d_Mo_readThing_105 rfl ?_
            refine mr_getr (pc := 106) d_Mo_readThing_106 fl_Mo_29 hM.1 rfl (by decide) hM.g_sy ?_
            refine mv_iload_n (pc := 109) d_Mo_readThing_109 rfl ?_
            refine mv_aload_n (pc := 110) d_Mo_readThing_110 rfl ?_
            refine mv_iconst (v := 1) (pc := 111) d_Mo_readThing_111 (by decide) ?_
            refine mv_bipush (v := 28) (pc := 112) d_Mo_readThing_112 (by decide) ?_
            refine mv_sipush (v := 228) (pc := 114) d_Mo_readThing_114 (by decide) ?_
            refine mr_callV3 (pc := 117) d_Mo_readThing_117 (d2 := (1, 23)) ok_Mo_readIn li_Mo_149 sv_Mo_readIn hM.1 ⟨by decide, rfl⟩ ⟨by decide, rfl, rfl, rfl, Nat.le_of_ble_eq_true rfl, rfl, by decide, by decide⟩ ?_
            refine c_mri (h := mm_wi h (mm_u2 F4 58 (16 * 1 + i) ((mm_nv sv (mm_np sv (mm_np sv (mm_np sv (mm_np sv p 2) 1) 2) 2) 1) - 128))) (n := 1) (p := (mm_np sv (mm_np sv (mm_np sv (mm_np sv (mm_np sv p 2) 1) 2) 2) 1)) hM (by omega) (by decide) hl (hV.ts ((T4).put 4 (by omega) (by omega) ((mm_nv sv (mm_np sv (mm_np sv (mm_np sv (mm_np sv p 2) 1) 2) 2) 1) - 128))) ((r4).put (by decide) ((mm_nv sv (mm_np sv (mm_np sv (mm_np sv (mm_np sv p 2) 1) 2) 2) 1) - 128)) (fun d5 F5 r5 f5 => ?_) (fun d5 F5 r5 f5 => ?_)
            · have T5 := (((T4).put 4 (by omega) (by omega) ((mm_nv sv (mm_np sv (mm_np sv (mm_np sv (mm_np sv p 2) 1) 2) 2) 1) - 128))).ffr f5
              refine mv_sipush (v := 128) (pc := 120) d_Mo_readThing_120 (by decide) ?_
              refine mv_isub (pc := 123) d_Mo_readThing_123 ?_
              refine mr_iast (pc := 124) d_Mo_readThing_124 hM.a_sy (mm_inN (by omega) (by decide)) ?_
              rw [mm_cl (n := 16 * 1 + i) (by omega)]
              refine mv_iload_n (pc := 125) d_Mo_readThing_125 rfl ?_
              refine mv_iconst (v := 2) (pc := 126) d_Mo_readThing_126 (by decide) ?_
              refine mv_idiv (pc := 127) d_Mo_readThing_127 (by decide) ?_
              refine mv_iconst (v := 2) (pc := 128) d_Mo_readThing_128 (by decide) ?_
              refine mv_irem (pc := 129) d_Mo_readThing_129 (by decide) ?_
              refine mv_iconst (v := 1) (pc := 130) d_Mo_readThing_130 (by decide) ?_
              refine mv_ic_ne 164 (pc := 131) d_Mo_readThing_131 (by decide) (fun _ => ?_) (fun z => absurd z (by decide))
              refine mv_iload_n (pc := 164) d_Mo_readThing_164 rfl ?_
              refine mv_iconst (v := 4) (pc := 165) d_Mo_readThing_165 (by decide) ?_
              refine mv_idiv (pc := 166) d_Mo_readThing_166 (by decide) ?_
              refine mv_iconst (v := 1) (pc := 167) d_Mo_readThing_167 (by decide) ?_
              refine mv_ic_ne 185 (pc := 168) d_Mo_readThing_168 (by decide) (fun _ => ?_) (fun z => absurd z (by decide))
              refine mv_ret (pc := 185) d_Mo_readThing_185 rfl ?_
              have er : sv.drop (rT sv (mm_np sv (mm_np sv p 2) 1)) = a_sh (fun k => if k = 5 then (mm_nv sv (mm_np sv (mm_np sv (mm_np sv (mm_np sv (mm_np sv p 2) 1) 2) 2) 1) 1) - 128 else (fun k => if k = 4 then (mm_nv sv (mm_np sv (mm_np sv (mm_np sv (mm_np sv p 2) 1) 2) 2) 1) - 128 else (fun k => if k = 3 then (mm_nv sv (mm_np sv (mm_np sv (mm_np sv p 2) 1) 2) 2) else (fun k => if k = 0 then (fun k => if k = 1 then 1 else (fun k => mm_gi h (54 + k) (16 * 1 + i)) k) 0 else if k = 1 then 1 else if k = 2 then (mm_nv sv (mm_np sv (mm_np sv p 2) 1) 2) else if k = 3 then 0 else 0) k) k) k) ++ (a_ti (fun k => if k = 5 then (mm_nv sv (mm_np sv (mm_np sv (mm_np sv (mm_np sv (mm_np sv p 2) 1) 2) 2) 1) 1) - 128 else (fun k => if k = 4 then (mm_nv sv (mm_np sv (mm_np sv (mm_np sv (mm_np sv p 2) 1) 2) 2) 1) - 128 else (fun k => if k = 3 then (mm_nv sv (mm_np sv (mm_np sv (mm_np sv p 2) 1) 2) 2) else (fun k => if k = 0 then (fun k => if k = 1 then 1 else (fun k => mm_gi h (54 + k) (16 * 1 + i)) k) 0 else if k = 1 then 1 else if k = 2 then (mm_nv sv (mm_np sv (mm_np sv p 2) 1) 2) else if k = 3 then 0 else 0) k) k) k) ++ sv.drop (mm_np sv (mm_np sv (mm_np sv (mm_np sv (mm_np sv (mm_np sv p 2) 1) 2) 2) 1) 1)) := by
                show _ = (if 0 < (0 : Int32) then mm_enc 0 1 ++ mm_enc 0 1 else []) ++ ((if 0 < (0 : Int32) then mm_enc 0 2 else []) ++ _)
                rw [if_neg (by decide), List.nil_append]
                rw [if_neg (by decide), List.nil_append]
                rfl
              obtain ⟨w1, w2⟩ := rs_full (f := (fun k => if k = 5 then (mm_nv sv (mm_np sv (mm_np sv (mm_np sv (mm_np sv (mm_np sv p 2) 1) 2) 2) 1) 1) - 128 else (fun k => if k = 4 then (mm_nv sv (mm_np sv (mm_np sv (mm_np sv (mm_np sv p 2) 1) 2) 2) 1) - 128 else (fun k => if k = 3 then (mm_nv sv (mm_np sv (mm_np sv (mm_np sv p 2) 1) 2) 2) else (fun k => if k = 0 then (fun k => if k = 1 then 1 else (fun k => mm_gi h (54 + k) (16 * 1 + i)) k) 0 else if k = 1 then 1 else if k = 2 then (mm_nv sv (mm_np sv (mm_np sv p 2) 1) 2) else if k = 3 then 0 else 0) k) k) k)) hb hkd.symm ⟨by decide, by decide⟩ ⟨⟨d2, d3⟩, ⟨f_28 d4, f_28 d5⟩⟩ hgen rfl rfl rfl rfl rfl (Or.inl ⟨by decide, rfl, rfl⟩) (Or.inl ⟨by decide, rfl⟩) er
              exact hq1 _ _ _ ((T5).put 5 (by omega) (by omega) ((mm_nv sv (mm_np sv (mm_np sv (mm_np sv (mm_np sv (mm_np sv p 2) 1) 2) 2) 1) 1) - 128)) ((r5).put (by decide) ((mm_nv sv (mm_np sv (mm_np sv (mm_np sv (mm_np sv (mm_np sv p 2) 1) 2) 2) 1) 1) - 128)) w1 w2
            · have T5 := (((T4).put 4 (by omega) (by omega) ((mm_nv sv (mm_np sv (mm_np sv (mm_np sv (mm_np sv p 2) 1) 2) 2) 1) - 128))).ffr f5
              refine mv_sipush (v := 128) (pc := 120) d_Mo_readThing_120 (by decide) ?_
              refine mv_isub (pc := 123) d_Mo_readThing_123 ?_
              refine mr_iast (pc := 124) d_Mo_readThing_124 hM.a_sy (mm_inN (by omega) (by decide)) ?_
              rw [mm_cl (n := 16 * 1 + i) (by omega)]
              refine mv_iload_n (pc := 125) d_Mo_readThing_125 rfl ?_
              refine mv_iconst (v := 2) (pc := 126) d_Mo_readThing_126 (by decide) ?_
              refine mv_idiv (pc := 127) d_Mo_readThing_127 (by decide) ?_
              refine mv_iconst (v := 2) (pc := 128) d_Mo_readThing_128 (by decide) ?_
              refine mv_irem (pc := 129) d_Mo_readThing_129 (by decide) ?_
              refine mv_iconst (v := 1) (pc := 130) d_Mo_readThing_130 (by decide) ?_
              refine mv_ic_ne 164 (pc := 131) d_Mo_readThing_131 (by decide) (fun _ => ?_) (fun z => absurd z (by decide))
              refine mv_iload_n (pc := 164) d_Mo_readThing_164 rfl ?_
              refine mv_iconst (v := 4) (pc := 165) d_Mo_readThing_165 (by decide) ?_
              refine mv_idiv (pc := 166) d_Mo_readThing_166 (by decide) ?_
              refine mv_iconst (v := 1) (pc := 167) d_Mo_readThing_167 (by decide) ?_
              refine mv_ic_ne 185 (pc := 168) d_Mo_readThing_168 (by decide) (fun _ => ?_) (fun z => absurd z (by decide))
              refine mv_ret (pc := 185) d_Mo_readThing_185 rfl ?_
              refine hq0 _ _ ((T5).put 5 (by omega) (by omega) (28 - 128)) (by simp [mm_gwi, mm_u2, mm_uwi, r5]) (fun g r hg e => ?_)
              obtain ⟨u1, u2⟩ := rs_use hb hg e
              rw [hkd] at u1
              have gn := kd_g u1 (by decide)
              exact d5 (f_28i (u2 gn).1.2.2 (nv_rng1 hb _))
          · have T4 := (((T3).put 3 (by omega) (by omega) ((mm_nv sv (mm_np sv (mm_np sv (mm_np sv p 2) 1) 2) 2)))).ffr f4
            refine mv_sipush (v := 128) (pc := 100) d_Mo_readThing_100 (by decide) ?_
            refine mv_isub (pc := 103) d_Mo_readThing_103 ?_
            refine mr_iast (pc := 104) d_Mo_readThing_104 hM.a_sx (mm_inN (by omega) (by decide)) ?_
            rw [mm_cl (n := 16 * 1 + i) (by omega)]
            refine mv_aload_n (pc := 105) d_Mo_readThing_105 rfl ?_
            refine mr_getr (pc := 106) d_Mo_readThing_106 fl_Mo_29 hM.1 rfl (by decide) hM.g_sy ?_
            refine mv_iload_n (pc := 109) d_Mo_readThing_109 rfl ?_
            refine mv_aload_n (pc := 110) d_Mo_readThing_110 rfl ?_
            refine mv_iconst (v := 1) (pc := 111) d_Mo_readThing_111 (by decide) ?_
            refine mv_bipush (v := 28) (pc := 112) d_Mo_readThing_112 (by decide) ?_
            refine mv_sipush (v := 228) (pc := 114) d_Mo_readThing_114 (by decide) ?_
            refine mr_callV3 (pc := 117) d_Mo_readThing_117 (d2 := (1, 23)) ok_Mo_readIn li_Mo_149 sv_Mo_readIn hM.1 ⟨by decide, rfl⟩ ⟨by decide, rfl, rfl, rfl, Nat.le_of_ble_eq_true rfl, rfl, by decide, by decide⟩ ?_
            refine c_mreadIn0 (h := mm_wi h (mm_u2 F4 58 (16 * 1 + i) (28 - 128))) (n := 1) hM (by omega) (by simp [mm_gwi, mm_u2, mm_uwi, r4]) (fun F5 r5 f5 => ?_)
            have T5 := (((T4).put 4 (by omega) (by omega) (28 - 128))).ffr f5
            refine mv_sipush (v := 128) (pc := 120) d_Mo_readThing_120 (by decide) ?_
            refine mv_isub (pc := 123) d_Mo_readThing_123 ?_
            refine mr_iast (pc := 124) d_Mo_readThing_124 hM.a_sy (mm_inN (by omega) (by decide)) ?_
            rw [mm_cl (n := 16 * 1 + i) (by omega)]
            refine mv_iload_n (pc := 125) d_Mo_readThing_125 rfl ?_
            refine mv_iconst (v := 2) (pc := 126) d_Mo_readThing_126 (by decide) ?_
            refine mv_idiv (pc := 127) d_Mo_readThing_127 (by decide) ?_
            refine mv_iconst (v := 2) (pc := 128) d_Mo_readThing_128 (by decide) ?_
            refine mv_irem (pc := 129) d_Mo_readThing_129 (by decide) ?_
            refine mv_iconst (v := 1) (pc := 130) d_Mo_readThing_130 (by decide) ?_
            refine mv_ic_ne 164 (pc := 131) d_Mo_readThing_131 (by decide) (fun _ => ?_) (fun z => absurd z (by decide))
            refine mv_iload_n (pc := 164) d_Mo_readThing_164 rfl ?_
            refine mv_iconst (v := 4) (pc := 165) d_Mo_readThing_165 (by decide) ?_
            refine mv_idiv (pc := 166) d_Mo_readThing_166 (by decide) ?_
            refine mv_iconst (v := 1) (pc := 167) d_Mo_readThing_167 (by decide) ?_
            refine mv_ic_ne 185 (pc := 168) d_Mo_readThing_168 (by decide) (fun _ => ?_) (fun z => absurd z (by decide))
            refine mv_ret (pc := 185) d_Mo_readThing_185 rfl ?_
            refine hq0 _ _ ((T5).put 5 (by omega) (by omega) (28 - 128)) (by simp [mm_gwi, mm_u2, mm_uwi, r5]) (fun g r hg e => ?_)
            obtain ⟨u1, u2⟩ := rs_use hb hg e
            rw [hkd] at u1
            have gn := kd_g u1 (by decide)
            exact d4 (f_28i (u2 gn).1.2.1 (nv_rng1 hb _))
        · have T3 := (T20).ffr f3
          refine mr_iast (pc := 84) d_Mo_readThing_84 hM.a_py (mm_inN (by omega) (by decide)) ?_
          rw [mm_cl (n := 16 * 1 + i) (by omega)]
          refine mv_aload_n (pc := 85) d_Mo_readThing_85 rfl ?_
          refine mr_getr (pc := 86) d_Mo_readThing_86 fl_Mo_26 hM.1 rfl (by decide) hM.g_sx ?_
          refine mv_iload_n (pc := 89) d_Mo_readThing_89 rfl ?_
          refine mv_aload_n (pc := 90) d_Mo_readThing_90 rfl ?_
          refine mv_iconst (v := 1) (pc := 91) d_Mo_readThing_91 (by decide) ?_
          refine mv_bipush (v := 28) (pc := 92) d_Mo_readThing_92 (by decide) ?_
          refine mv_sipush (v := 228) (pc := 94) d_Mo_readThing_94 (by decide) ?_
          refine mr_callV3 (pc := 97) d_Mo_readThing_97 (d2 := (1, 23)) ok_Mo_readIn li_Mo_149 sv_Mo_readIn hM.1 ⟨by decide, rfl⟩ ⟨by decide, rfl, rfl, rfl, Nat.le_of_ble_eq_true rfl, rfl, by decide, by decide⟩ ?_
          refine c_mreadIn0 (h := mm_wi h (mm_u2 F3 57 (16 * 1 + i) (0))) (n := 1) hM (by omega) (by simp [mm_gwi, mm_u2, mm_uwi, r3]) (fun F4 r4 f4 => ?_)
          have T4 := (((T3).put 3 (by omega) (by omega) (0))).ffr f4
          refine mv_sipush (v := 128) (pc := 100) d_Mo_readThing_100 (by decide) ?_
          refine mv_isub (pc := 103) d_Mo_readThing_103 ?_
          refine mr_iast (pc := 104) d_Mo_readThing_104 hM.a_sx (mm_inN (by omega) (by decide)) ?_
          rw [mm_cl (n := 16 * 1 + i) (by omega)]
          refine mv_aload_n (pc := 105) d_Mo_readThing_105 rfl ?_
          refine mr_getr (pc := 106) d_Mo_readThing_106 fl_Mo_29 hM.1 rfl (by decide) hM.g_sy ?_
          refine mv_iload_n (pc := 109) d_Mo_readThing_109 rfl ?_
          refine mv_aload_n (pc := 110) d_Mo_readThing_110 rfl ?_
          refine mv_iconst (v := 1) (pc := 111) d_Mo_readThing_111 (by decide) ?_
          refine mv_bipush (v := 28) (pc := 112) d_Mo_readThing_112 (by decide) ?_
          refine mv_sipush (v := 228) (pc := 114) d_Mo_readThing_114 (by decide) ?_
          refine mr_callV3 (pc := 117) d_Mo_readThing_117 (d2 := (1, 23)) ok_Mo_readIn li_Mo_149 sv_Mo_readIn hM.1 ⟨by decide, rfl⟩ ⟨by decide, rfl, rfl, rfl, Nat.le_of_ble_eq_true rfl, rfl, by decide, by decide⟩ ?_
          refine c_mreadIn0 (h := mm_wi h (mm_u2 F4 58 (16 * 1 + i) (28 - 128))) (n := 1) hM (by omega) (by simp [mm_gwi, mm_u2, mm_uwi, r4]) (fun F5 r5 f5 => ?_)
          have T5 := (((T4).put 4 (by omega) (by omega) (28 - 128))).ffr f5
          refine mv_sipush (v := 128) (pc := 120) d_Mo_readThing_120 (by decide) ?_
          refine mv_isub (pc := 123) d_Mo_readThing_123 ?_
          refine mr_iast (pc := 124) d_Mo_readThing_124 hM.a_sy (mm_inN (by omega) (by decide)) ?_
          rw [mm_cl (n := 16 * 1 + i) (by omega)]
          refine mv_iload_n (pc := 125) d_Mo_readThing_125 rfl ?_
          refine mv_iconst (v := 2) (pc := 126) d_Mo_readThing_126 (by decide) ?_
          refine mv_idiv (pc := 127) d_Mo_readThing_127 (by decide) ?_
          refine mv_iconst (v := 2) (pc := 128) d_Mo_readThing_128 (by decide) ?_
          refine mv_irem (pc := 129) d_Mo_readThing_129 (by decide) ?_
          refine mv_iconst (v := 1) (pc := 130) d_Mo_readThing_130 (by decide) ?_
          refine mv_ic_ne 164 (pc := 131) d_Mo_readThing_131 (by decide) (fun _ => ?_) (fun z => absurd z (by decide))
          refine mv_iload_n (pc := 164) d_Mo_readThing_164 rfl ?_
          refine mv_iconst (v := 4) (pc := 165) d_Mo_readThing_165 (by decide) ?_
          refine mv_idiv (pc := 166) d_Mo_readThing_166 (by decide) ?_
          refine mv_iconst (v := 1) (pc := 167) d_Mo_readThing_167 (by decide) ?_
          refine mv_ic_ne 185 (pc := 168) d_Mo_readThing_168 (by decide) (fun _ => ?_) (fun z => absurd z (by decide))
          refine mv_ret (pc := 185) d_Mo_readThing_185 rfl ?_
          refine hq0 _ _ ((T5).put 5 (by omega) (by omega) (28 - 128)) (by simp [mm_gwi, mm_u2, mm_uwi, r5]) (fun g r hg e => ?_)
          obtain ⟨u1, u2⟩ := rs_use hb hg e
          rw [hkd] at u1
          have gn := kd_g u1 (by decide)
          exact d3 (u2 gn).1.1.2
      · have T2 := (((((((TS.init (mm_gi h) (16 * 1 + i)).ffr f1)).put 1 (by omega) (by omega) (1))).snd 1)).ffr f2
        refine mv_iconst (v := 0) (pc := 66) d_Mo_readThing_66 (by decide) ?_
        refine mr_callV3 (pc := 67) d_Mo_readThing_67 (d2 := (0, 0)) ok_Mo_make li_Mo_98 sv_Mo_make hM.1 ⟨by decide, rfl⟩ ⟨by decide, rfl, rfl, rfl, Nat.le_of_ble_eq_true rfl, rfl, by decide, by decide⟩ ?_
        refine c_make (k := 1) (h := mm_wi h F2) (by omega) hM hi (RM_self F2 1) (fun F20 _ _ e20 => ?_)
        have T20 := T2.make e20
        have z20 : F20 52 23 = 0 := by rw [e20]; simpa [mm_gwi] using r2
        refine mv_aload_n (pc := 70) d_Mo_readThing_70 rfl ?_
        refine mr_getr (pc := 71) d_Mo_readThing_71 fl_Mo_23 hM.1 rfl (by decide) hM.g_py ?_
        refine mv_iload_n (pc := 74) d_Mo_readThing_74 rfl ?_
        refine mv_aload_n (pc := 75) d_Mo_readThing_75 rfl ?_
        refine mv_iconst (v := 2) (pc := 76) d_Mo_readThing_76 (by decide) ?_
        refine mv_iconst (v := 0) (pc := 77) d_Mo_readThing_77 (by decide) ?_
        refine mv_sipush (v := 4095) (pc := 78) d_Mo_readThing_78 (by decide) ?_
        refine mr_callV3 (pc := 81) d_Mo_readThing_81 (d2 := (1, 23)) ok_Mo_readIn li_Mo_149 sv_Mo_readIn hM.1 ⟨by decide, rfl⟩ ⟨by decide, rfl, rfl, rfl, Nat.le_of_ble_eq_true rfl, rfl, by decide, by decide⟩ ?_
        refine c_mreadIn0 (h := mm_wi h F20) (n := 2) hM (by omega) (by simp [mm_gwi, mm_u2, mm_uwi, z20]) (fun F3 r3 f3 => ?_)
        have T3 := (T20).ffr f3
        refine mr_iast (pc := 84) d_Mo_readThing_84 hM.a_py (mm_inN (by omega) (by decide)) ?_
        rw [mm_cl (n := 16 * 1 + i) (by omega)]
        refine mv_aload_n (pc := 85) d_Mo_readThing_85 rfl ?_
        refine mr_getr (pc := 86) d_Mo_readThing_86 fl_Mo_26 hM.1 rfl (by decide) hM.g_sx ?_
        refine mv_iload_n (pc := 89) d_Mo_readThing_89 rfl ?_
        refine mv_aload_n (pc := 90) d_Mo_readThing_90 rfl ?_
        refine mv_iconst (v := 1) (pc := 91) d_Mo_readThing_91 (by decide) ?_
        refine mv_bipush (v := 28) (pc := 92) d_Mo_readThing_92 (by decide) ?_
        refine mv_sipush (v := 228) (pc := 94) d_Mo_readThing_94 (by decide) ?_
        refine mr_callV3 (pc := 97) d_Mo_readThing_97 (d2 := (1, 23)) ok_Mo_readIn li_Mo_149 sv_Mo_readIn hM.1 ⟨by decide, rfl⟩ ⟨by decide, rfl, rfl, rfl, Nat.le_of_ble_eq_true rfl, rfl, by decide, by decide⟩ ?_
        refine c_mreadIn0 (h := mm_wi h (mm_u2 F3 57 (16 * 1 + i) (0))) (n := 1) hM (by omega) (by simp [mm_gwi, mm_u2, mm_uwi, r3]) (fun F4 r4 f4 => ?_)
        have T4 := (((T3).put 3 (by omega) (by omega) (0))).ffr f4
        refine mv_sipush (v := 128) (pc := 100) d_Mo_readThing_100 (by decide) ?_
        refine mv_isub (pc := 103) d_Mo_readThing_103 ?_
        refine mr_iast (pc := 104) d_Mo_readThing_104 hM.a_sx (mm_inN (by omega) (by decide)) ?_
        rw [mm_cl (n := 16 * 1 + i) (by omega)]
        refine mv_aload_n (pc := 105) d_Mo_readThing_105 rfl ?_
        refine mr_getr (pc := 106) d_Mo_readThing_106 fl_Mo_29 hM.1 rfl (by decide) hM.g_sy ?_
        refine mv_iload_n (pc := 109) d_Mo_readThing_109 rfl ?_
        refine mv_aload_n (pc := 110) d_Mo_readThing_110 rfl ?_
        refine mv_iconst (v := 1) (pc := 111) d_Mo_readThing_111 (by decide) ?_
        refine mv_bipush (v := 28) (pc := 112) d_Mo_readThing_112 (by decide) ?_
        refine mv_sipush (v := 228) (pc := 114) d_Mo_readThing_114 (by decide) ?_
        refine mr_callV3 (pc := 117) d_Mo_readThing_117 (d2 := (1, 23)) ok_Mo_readIn li_Mo_149 sv_Mo_readIn hM.1 ⟨by decide, rfl⟩ ⟨by decide, rfl, rfl, rfl, Nat.le_of_ble_eq_true rfl, rfl, by decide, by decide⟩ ?_
        refine c_mreadIn0 (h := mm_wi h (mm_u2 F4 58 (16 * 1 + i) (28 - 128))) (n := 1) hM (by omega) (by simp [mm_gwi, mm_u2, mm_uwi, r4]) (fun F5 r5 f5 => ?_)
        have T5 := (((T4).put 4 (by omega) (by omega) (28 - 128))).ffr f5
        refine mv_sipush (v := 128) (pc := 120) d_Mo_readThing_120 (by decide) ?_
        refine mv_isub (pc := 123) d_Mo_readThing_123 ?_
        refine mr_iast (pc := 124) d_Mo_readThing_124 hM.a_sy (mm_inN (by omega) (by decide)) ?_
        rw [mm_cl (n := 16 * 1 + i) (by omega)]
        refine mv_iload_n (pc := 125) d_Mo_readThing_125 rfl ?_
        refine mv_iconst (v := 2) (pc := 126) d_Mo_readThing_126 (by decide) ?_
        refine mv_idiv (pc := 127) d_Mo_readThing_127 (by decide) ?_
        refine mv_iconst (v := 2) (pc := 128) d_Mo_readThing_128 (by decide) ?_
        refine mv_irem (pc := 129) d_Mo_readThing_129 (by decide) ?_
        refine mv_iconst (v := 1) (pc := 130) d_Mo_readThing_130 (by decide) ?_
        refine mv_ic_ne 164 (pc := 131) d_Mo_readThing_131 (by decide) (fun _ => ?_) (fun z => absurd z (by decide))
        refine mv_iload_n (pc := 164) d_Mo_readThing_164 rfl ?_
        refine mv_iconst (v := 4) (pc := 165) d_Mo_readThing_165 (by decide) ?_
        refine mv_idiv (pc := 166) d_Mo_readThing_166 (by decide) ?_
        refine mv_iconst (v := 1) (pc := 167) d_Mo_readThing_167 (by decide) ?_
        refine mv_ic_ne 185 (pc := 168) d_Mo_readThing_168 (by decide) (fun _ => ?_) (fun z => absurd z (by decide))
        refine mv_ret (pc := 185) d_Mo_readThing_185 rfl ?_
        refine hq0 _ _ ((T5).put 5 (by omega) (by omega) (28 - 128)) (by simp [mm_gwi, mm_u2, mm_uwi, r5]) (fun g r hg e => ?_)
        obtain ⟨u1, u2⟩ := rs_use hb hg e
        rw [hkd] at u1
        have gn := kd_g u1 (by decide)
        exact d2 (u2 gn).1.1.1
    · rw [hkd]
      refine mv_istore_n (pc := 8) d_Mo_readThing_8 (by decide) ?_
      refine mv_aload_n (pc := 9) d_Mo_readThing_9 rfl ?_
      refine mr_getr (pc := 10) d_Mo_readThing_10 fl_Mo_16 hM.1 rfl (by decide) hM.g_full ?_
      refine mv_iload_n (pc := 13) d_Mo_readThing_13 rfl ?_
      refine mv_iload_n (pc := 14) d_Mo_readThing_14 rfl ?_
      refine mv_if_le 22 (pc := 15) d_Mo_readThing_15 (by decide) (fun z => absurd z (by decide)) (fun _ => ?_)
      refine mv_iconst (v := 1) (pc := 18) d_Mo_readThing_18 (by decide) ?_
      refine mv_goto 23 (pc := 19) d_Mo_readThing_19 (by decide) ?_
      refine mr_zast (pc := 23) d_Mo_readThing_23 hM.a_full (mm_inN (by omega) (by decide)) ?_
      rw [mm_cl (n := 16 * 1 + i) (by omega), mm_nar1]
      refine mv_aload_n (pc := 24) d_Mo_readThing_24 rfl ?_
      refine mv_aload_n (pc := 25) d_Mo_readThing_25 rfl ?_
      refine mr_geti (pc := 26) d_Mo_readThing_26 fl_Mo_139 hM.1 rfl (by decide) ?_
      rw [show mm_gi (mm_si (mm_wi h F1) 55 (16 * 1 + i) 1) 52 23 = 1 from r1.1]
      refine mv_if_eq 47 (pc := 29) d_Mo_readThing_29 (by decide) (fun z => absurd z (by decide)) (fun h29 => ?_)
      refine mv_iload_n (pc := 32) d_Mo_readThing_32 rfl ?_
      refine mv_if_eq 43 (pc := 33) d_Mo_readThing_33 (by decide) (fun z => absurd z (by decide)) (fun _ => ?_)
      refine mv_iload_n (pc := 36) d_Mo_readThing_36 rfl ?_
      refine mv_iconst (v := 2) (pc := 37) d_Mo_readThing_37 (by decide) ?_
      refine mv_irem (pc := 38) d_Mo_readThing_38 (by decide) ?_
      refine mv_iconst (v := 1) (pc := 39) d_Mo_readThing_39 (by decide) ?_
      refine mv_ic_ne 47 (pc := 40) d_Mo_readThing_40 (by decide) (fun _ => ?_) (fun z => absurd z (by decide))
      refine mv_iconst (v := 0) (pc := 47) d_Mo_readThing_47 (by decide) ?_
      refine mr_puti (pc := 48) d_Mo_readThing_48 fl_Mo_139 hM.1 rfl (by decide) ⟨rfl, rfl⟩ ?_
      refine mv_iload_n (pc := 51) d_Mo_readThing_51 rfl ?_
      refine mv_if_le 185 (pc := 52) d_Mo_readThing_52 (by decide) (fun z => absurd z (by decide)) (fun _ => ?_)
      refine mv_aload_n (pc := 55) d_Mo_readThing_55 rfl ?_
      refine mv_iload_n (pc := 56) d_Mo_readThing_56 rfl ?_
      refine mv_aload_n (pc := 57) d_Mo_readThing_57 rfl ?_
      refine mv_iconst (v := 2) (pc := 58) d_Mo_readThing_58 (by decide) ?_
      refine mv_iconst (v := 0) (pc := 59) d_Mo_readThing_59 (by decide) ?_
      refine mv_sipush (v := 4095) (pc := 60) d_Mo_readThing_60 (by decide) ?_
      refine mr_callV3 (pc := 63) d_Mo_readThing_63 (d2 := (1, 23)) ok_Mo_readIn li_Mo_149 sv_Mo_readIn hM.1 ⟨by decide, rfl⟩ ⟨by decide, rfl, rfl, rfl, Nat.le_of_ble_eq_true rfl, rfl, by decide, by decide⟩ ?_
      refine c_mreadIn0 (h := mm_wi h (mm_u2 (mm_u2 F1 55 (16 * 1 + i) (1)) 52 23 0)) (n := 2) hM (by omega) (by simp [mm_gwi, mm_u2, mm_uwi]) (fun F2 r2 f2 => ?_)
      have T2 := (((((((TS.init (mm_gi h) (16 * 1 + i)).ffr f1)).put 1 (by omega) (by omega) (1))).snd 0)).ffr f2
      refine mv_iconst (v := 0) (pc := 66) d_Mo_readThing_66 (by decide) ?_
      refine mr_callV3 (pc := 67) d_Mo_readThing_67 (d2 := (0, 0)) ok_Mo_make li_Mo_98 sv_Mo_make hM.1 ⟨by decide, rfl⟩ ⟨by decide, rfl, rfl, rfl, Nat.le_of_ble_eq_true rfl, rfl, by decide, by decide⟩ ?_
      refine c_make (k := 1) (h := mm_wi h F2) (by omega) hM hi (RM_self F2 1) (fun F20 _ _ e20 => ?_)
      have T20 := T2.make e20
      have z20 : F20 52 23 = 0 := by rw [e20]; simpa [mm_gwi] using r2
      refine mv_aload_n (pc := 70) d_Mo_readThing_70 rfl ?_
      refine mr_getr (pc := 71) d_Mo_readThing_71 fl_Mo_23 hM.1 rfl (by decide) hM.g_py ?_
      refine mv_iload_n (pc := 74) d_Mo_readThing_74 rfl ?_
      refine mv_aload_n (pc := 75) d_Mo_readThing_75 rfl ?_
      refine mv_iconst (v := 2) (pc := 76) d_Mo_readThing_76 (by decide) ?_
      refine mv_iconst (v := 0) (pc := 77) d_Mo_readThing_77 (by decide) ?_
      refine mv_sipush (v := 4095) (pc := 78) d_Mo_readThing_78 (by decide) ?_
      refine mr_callV3 (pc := 81) d_Mo_readThing_81 (d2 := (1, 23)) ok_Mo_readIn li_Mo_149 sv_Mo_readIn hM.1 ⟨by decide, rfl⟩ ⟨by decide, rfl, rfl, rfl, Nat.le_of_ble_eq_true rfl, rfl, by decide, by decide⟩ ?_
      refine c_mreadIn0 (h := mm_wi h F20) (n := 2) hM (by omega) (by simp [mm_gwi, mm_u2, mm_uwi, z20]) (fun F3 r3 f3 => ?_)
      have T3 := (T20).ffr f3
      refine mr_iast (pc := 84) d_Mo_readThing_84 hM.a_py (mm_inN (by omega) (by decide)) ?_
      rw [mm_cl (n := 16 * 1 + i) (by omega)]
      refine mv_aload_n (pc := 85) d_Mo_readThing_85 rfl ?_
      refine mr_getr (pc := 86) d_Mo_readThing_86 fl_Mo_26 hM.1 rfl (by decide) hM.g_sx ?_
      refine mv_iload_n (pc := 89) d_Mo_readThing_89 rfl ?_
      refine mv_aload_n (pc := 90) d_Mo_readThing_90 rfl ?_
      refine mv_iconst (v := 1) (pc := 91) d_Mo_readThing_91 (by decide) ?_
      refine mv_bipush (v := 28) (pc := 92) d_Mo_readThing_92 (by decide) ?_
      refine mv_sipush (v := 228) (pc := 94) d_Mo_readThing_94 (by decide) ?_
      refine mr_callV3 (pc := 97) d_Mo_readThing_97 (d2 := (1, 23)) ok_Mo_readIn li_Mo_149 sv_Mo_readIn hM.1 ⟨by decide, rfl⟩ ⟨by decide, rfl, rfl, rfl, Nat.le_of_ble_eq_true rfl, rfl, by decide, by decide⟩ ?_
      refine c_mreadIn0 (h := mm_wi h (mm_u2 F3 57 (16 * 1 + i) (0))) (n := 1) hM (by omega) (by simp [mm_gwi, mm_u2, mm_uwi, r3]) (fun F4 r4 f4 => ?_)
      have T4 := (((T3).put 3 (by omega) (by omega) (0))).ffr f4
      refine mv_sipush (v := 128) (pc := 100) d_Mo_readThing_100 (by decide) ?_
      refine mv_isub (pc := 103) d_Mo_readThing_103 ?_
      refine mr_iast (pc := 104) d_Mo_readThing_104 hM.a_sx (mm_inN (by omega) (by decide)) ?_
      rw [mm_cl (n := 16 * 1 + i) (by omega)]
      refine mv_aload_n (pc := 105) d_Mo_readThing_105 rfl ?_
      refine mr_getr (pc := 106) d_Mo_readThing_106 fl_Mo_29 hM.1 rfl (by decide) hM.g_sy ?_
      refine mv_iload_n (pc := 109) d_Mo_readThing_109 rfl ?_
      refine mv_aload_n (pc := 110) d_Mo_readThing_110 rfl ?_
      refine mv_iconst (v := 1) (pc := 111) d_Mo_readThing_111 (by decide) ?_
      refine mv_bipush (v := 28) (pc := 112) d_Mo_readThing_112 (by decide) ?_
      refine mv_sipush (v := 228) (pc := 114) d_Mo_readThing_114 (by decide) ?_
      refine mr_callV3 (pc := 117) d_Mo_readThing_117 (d2 := (1, 23)) ok_Mo_readIn li_Mo_149 sv_Mo_readIn hM.1 ⟨by decide, rfl⟩ ⟨by decide, rfl, rfl, rfl, Nat.le_of_ble_eq_true rfl, rfl, by decide, by decide⟩ ?_
      refine c_mreadIn0 (h := mm_wi h (mm_u2 F4 58 (16 * 1 + i) (28 - 128))) (n := 1) hM (by omega) (by simp [mm_gwi, mm_u2, mm_uwi, r4]) (fun F5 r5 f5 => ?_)
      have T5 := (((T4).put 4 (by omega) (by omega) (28 - 128))).ffr f5
      refine mv_sipush (v := 128) (pc := 120) d_Mo_readThing_120 (by decide) ?_
      refine mv_isub (pc := 123) d_Mo_readThing_123 ?_
      refine mr_iast (pc := 124) d_Mo_readThing_124 hM.a_sy (mm_inN (by omega) (by decide)) ?_
      rw [mm_cl (n := 16 * 1 + i) (by omega)]
      refine mv_iload_n (pc := 125) d_Mo_readThing_125 rfl ?_
      refine mv_iconst (v := 2) (pc := 126) d_Mo_readThing_126 (by decide) ?_
      refine mv_idiv (pc := 127) d_Mo_readThing_127 (by decide) ?_
      refine mv_iconst (v := 2) (pc := 128) d_Mo_readThing_128 (by decide) ?_
      refine mv_irem (pc := 129) d_Mo_readThing_129 (by decide) ?_
      refine mv_iconst (v := 1) (pc := 130) d_Mo_readThing_130 (by decide) ?_
      refine mv_ic_ne 164 (pc := 131) d_Mo_readThing_131 (by decide) (fun z => absurd z (by decide)) (fun _ => ?_)
      refine mv_aload_n (pc := 134) d_Mo_readThing_134 rfl ?_
      refine mr_getr (pc := 135) d_Mo_readThing_135 fl_Mo_32 hM.1 rfl (by decide) hM.g_wide ?_
      refine mv_iload_n (pc := 138) d_Mo_readThing_138 rfl ?_
      refine mv_aload_n (pc := 139) d_Mo_readThing_139 rfl ?_
      refine mv_iconst (v := 1) (pc := 140) d_Mo_readThing_140 (by decide) ?_
      refine mv_iconst (v := 1) (pc := 141) d_Mo_readThing_141 (by decide) ?_
      refine mv_sipush (v := 200) (pc := 142) d_Mo_readThing_142 (by decide) ?_
      refine mr_callV3 (pc := 145) d_Mo_readThing_145 (d2 := (1, 23)) ok_Mo_readIn li_Mo_149 sv_Mo_readIn hM.1 ⟨by decide, rfl⟩ ⟨by decide, rfl, rfl, rfl, Nat.le_of_ble_eq_true rfl, rfl, by decide, by decide⟩ ?_
      refine c_mreadIn0 (h := mm_wi h (mm_u2 F5 59 (16 * 1 + i) (28 - 128))) (n := 1) hM (by omega) (by simp [mm_gwi, mm_u2, mm_uwi, r5]) (fun F6 r6 f6 => ?_)
      have T6 := (((T5).put 5 (by omega) (by omega) (28 - 128))).ffr f6
      refine mr_iast (pc := 148) d_Mo_readThing_148 hM.a_wide (mm_inN (by omega) (by decide)) ?_
      rw [mm_cl (n := 16 * 1 + i) (by omega)]
      refine mv_aload_n (pc := 149) d_Mo_readThing_149 rfl ?_
      refine mr_getr (pc := 150) d_Mo_readThing_150 fl_Mo_35 hM.1 rfl (by decide) hM.g_high ?_
      refine mv_iload_n (pc := 153) d_Mo_readThing_153 rfl ?_
      refine mv_aload_n (pc := 154) d_Mo_readThing_154 rfl ?_
      refine mv_iconst (v := 1) (pc := 155) d_Mo_readThing_155 (by decide) ?_
      refine mv_iconst (v := 1) (pc := 156) d_Mo_readThing_156 (by decide) ?_
      refine mv_sipush (v := 200) (pc := 157) d_Mo_readThing_157 (by decide) ?_
      refine mr_callV3 (pc := 160) d_Mo_readThing_160 (d2 := (1, 23)) ok_Mo_readIn li_Mo_149 sv_Mo_readIn hM.1 ⟨by decide, rfl⟩ ⟨by decide, rfl, rfl, rfl, Nat.le_of_ble_eq_true rfl, rfl, by decide, by decide⟩ ?_
      refine c_mreadIn0 (h := mm_wi h (mm_u2 F6 60 (16 * 1 + i) (1))) (n := 1) hM (by omega) (by simp [mm_gwi, mm_u2, mm_uwi, r6]) (fun F7 r7 f7 => ?_)
      have T7 := (((T6).put 6 (by omega) (by omega) (1))).ffr f7
      refine mr_iast (pc := 163) d_Mo_readThing_163 hM.a_high (mm_inN (by omega) (by decide)) ?_
      rw [mm_cl (n := 16 * 1 + i) (by omega)]
      refine mv_iload_n (pc := 164) d_Mo_readThing_164 rfl ?_
      refine mv_iconst (v := 4) (pc := 165) d_Mo_readThing_165 (by decide) ?_
      refine mv_idiv (pc := 166) d_Mo_readThing_166 (by decide) ?_
      refine mv_iconst (v := 1) (pc := 167) d_Mo_readThing_167 (by decide) ?_
      refine mv_ic_ne 185 (pc := 168) d_Mo_readThing_168 (by decide) (fun _ => ?_) (fun z => absurd z (by decide))
      refine mv_ret (pc := 185) d_Mo_readThing_185 rfl ?_
      refine hq0 _ _ ((T7).put 7 (by omega) (by omega) (1)) (by simp [mm_gwi, mm_u2, mm_uwi, r7]) (fun g r hg e => ?_)
      obtain ⟨u1, u2⟩ := rs_use hb hg e
      rw [hkd] at u1
      have gn := kd_g u1 (by decide)
      exact (a_kind_bits gn).2.1 (by rw [← u1]; decide)
    · rw [hkd]
      refine mv_istore_n (pc := 8) d_Mo_readThing_8 (by decide) ?_
      refine mv_aload_n (pc := 9) d_Mo_readThing_9 rfl ?_
      refine mr_getr (pc := 10) d_Mo_readThing_10 fl_Mo_16 hM.1 rfl (by decide) hM.g_full ?_
      refine mv_iload_n (pc := 13) d_Mo_readThing_13 rfl ?_
      refine mv_iload_n (pc := 14) d_Mo_readThing_14 rfl ?_
      refine mv_if_le 22 (pc := 15) d_Mo_readThing_15 (by decide) (fun z => absurd z (by decide)) (fun _ => ?_)
      refine mv_iconst (v := 1) (pc := 18) d_Mo_readThing_18 (by decide) ?_
      refine mv_goto 23 (pc := 19) d_Mo_readThing_19 (by decide) ?_
      refine mr_zast (pc := 23) d_Mo_readThing_23 hM.a_full (mm_inN (by omega) (by decide)) ?_
      rw [mm_cl (n := 16 * 1 + i) (by omega), mm_nar1]
      refine mv_aload_n (pc := 24) d_Mo_readThing_24 rfl ?_
      refine mv_aload_n (pc := 25) d_Mo_readThing_25 rfl ?_
      refine mr_geti (pc := 26) d_Mo_readThing_26 fl_Mo_139 hM.1 rfl (by decide) ?_
      rw [show mm_gi (mm_si (mm_wi h F1) 55 (16 * 1 + i) 1) 52 23 = 1 from r1.1]
      refine mv_if_eq 47 (pc := 29) d_Mo_readThing_29 (by decide) (fun z => absurd z (by decide)) (fun h29 => ?_)
      refine mv_iload_n (pc := 32) d_Mo_readThing_32 rfl ?_
      refine mv_if_eq 43 (pc := 33) d_Mo_readThing_33 (by decide) (fun z => absurd z (by decide)) (fun _ => ?_)
      refine mv_iload_n (pc := 36) d_Mo_readThing_36 rfl ?_
      refine mv_iconst (v := 2) (pc := 37) d_Mo_readThing_37 (by decide) ?_
      refine mv_irem (pc := 38) d_Mo_readThing_38 (by decide) ?_
      refine mv_iconst (v := 1) (pc := 39) d_Mo_readThing_39 (by decide) ?_
      refine mv_ic_ne 47 (pc := 40) d_Mo_readThing_40 (by decide) (fun z => absurd z (by decide)) (fun _ => ?_)
      refine mv_iconst (v := 1) (pc := 43) d_Mo_readThing_43 (by decide) ?_
      refine mv_goto 48 (pc := 44) d_Mo_readThing_44 (by decide) ?_
      refine mr_puti (pc := 48) d_Mo_readThing_48 fl_Mo_139 hM.1 rfl (by decide) ⟨rfl, rfl⟩ ?_
      refine mv_iload_n (pc := 51) d_Mo_readThing_51 rfl ?_
      refine mv_if_le 185 (pc := 52) d_Mo_readThing_52 (by decide) (fun z => absurd z (by decide)) (fun _ => ?_)
      refine mv_aload_n (pc := 55) d_Mo_readThing_55 rfl ?_
      refine mv_iload_n (pc := 56) d_Mo_readThing_56 rfl ?_
      refine mv_aload_n (pc := 57) d_Mo_readThing_57 rfl ?_
      refine mv_iconst (v := 2) (pc := 58) d_Mo_readThing_58 (by decide) ?_
      refine mv_iconst (v := 0) (pc := 59) d_Mo_readThing_59 (by decide) ?_
      refine mv_sipush (v := 4095) (pc := 60) d_Mo_readThing_60 (by decide) ?_
      refine mr_callV3 (pc := 63) d_Mo_readThing_63 (d2 := (1, 23)) ok_Mo_readIn li_Mo_149 sv_Mo_readIn hM.1 ⟨by decide, rfl⟩ ⟨by decide, rfl, rfl, rfl, Nat.le_of_ble_eq_true rfl, rfl, by decide, by decide⟩ ?_
      refine c_mri (h := mm_wi h (mm_u2 (mm_u2 F1 55 (16 * 1 + i) (1)) 52 23 1)) (n := 2) (p := (mm_np sv (mm_np sv p 2) 1)) hM (by omega) (by decide) hl (hV.ts ((((((TS.init (mm_gi h) (16 * 1 + i)).ffr f1)).put 1 (by omega) (by omega) (1))).snd 1)) ((((r1).put (by decide) (1))).snd) (fun d2 F2 r2 f2 => ?_) (fun d2 F2 r2 f2 => ?_)
      · have T2 := (((((((TS.init (mm_gi h) (16 * 1 + i)).ffr f1)).put 1 (by omega) (by omega) (1))).snd 1)).ffr f2
        refine mv_iconst (v := 0) (pc := 66) d_Mo_readThing_66 (by decide) ?_
        refine mr_callV3 (pc := 67) d_Mo_readThing_67 (d2 := (0, 0)) ok_Mo_make li_Mo_98 sv_Mo_make hM.1 ⟨by decide, rfl⟩ ⟨by decide, rfl, rfl, rfl, Nat.le_of_ble_eq_true rfl, rfl, by decide, by decide⟩ ?_
        refine c_make (k := 1) (h := mm_wi h F2) (by omega) hM hi (RM_self F2 1) (fun F20 _ _ e20 => ?_)
        have T20 := T2.make e20
        have R20 : MR F20 sv (mm_np sv (mm_np sv (mm_np sv p 2) 1) 2) := ⟨by rw [e20]; simpa [mm_gwi] using r2.1, by rw [e20]; simpa [mm_gwi] using r2.2.1, r2.2.2⟩
        refine mv_aload_n (pc := 70) d_Mo_readThing_70 rfl ?_
        refine mr_getr (pc := 71) d_Mo_readThing_71 fl_Mo_23 hM.1 rfl (by decide) hM.g_py ?_
        refine mv_iload_n (pc := 74) d_Mo_readThing_74 rfl ?_
        refine mv_aload_n (pc := 75) d_Mo_readThing_75 rfl ?_
        refine mv_iconst (v := 2) (pc := 76) d_Mo_readThing_76 (by decide) ?_
        refine mv_iconst (v := 0) (pc := 77) d_Mo_readThing_77 (by decide) ?_
        refine mv_sipush (v := 4095) (pc := 78) d_Mo_readThing_78 (by decide) ?_
        refine mr_callV3 (pc := 81) d_Mo_readThing_81 (d2 := (1, 23)) ok_Mo_readIn li_Mo_149 sv_Mo_readIn hM.1 ⟨by decide, rfl⟩ ⟨by decide, rfl, rfl, rfl, Nat.le_of_ble_eq_true rfl, rfl, by decide, by decide⟩ ?_
        refine c_mri (h := mm_wi h F20) (n := 2) (p := (mm_np sv (mm_np sv (mm_np sv p 2) 1) 2)) hM (by omega) (by decide) hl (hV.ts T20) R20 (fun d3 F3 r3 f3 => ?_) (fun d3 F3 r3 f3 => ?_)
        · have T3 := (T20).ffr f3
          refine mr_iast (pc := 84) d_Mo_readThing_84 hM.a_py (mm_inN (by omega) (by decide)) ?_
          rw [mm_cl (n := 16 * 1 + i) (by omega)]
          refine mv_aload_n (pc := 85) d_Mo_readThing_85 rfl ?_
          refine mr_getr (pc := 86) d_Mo_readThing_86 fl_Mo_26 hM.1 rfl (by decide) hM.g_sx ?_
          refine mv_iload_n (pc := 89) d_Mo_readThing_89 rfl ?_
          refine mv_aload_n (pc := 90) d_Mo_readThing_90 rfl ?_
          refine mv_iconst (v := 1) (pc := 91) d_Mo_readThing_91 (by decide) ?_
          refine mv_bipush (v := 28) (pc := 92) d_Mo_readThing_92 (by decide) ?_
          refine mv_sipush (v := 228) (pc := 94) d_Mo_readThing_94 (by decide) ?_
          refine mr_callV3 (pc := 97) d_Mo_readThing_97 (d2 := (1, 23)) ok_Mo_readIn li_Mo_149 sv_Mo_readIn hM.1 ⟨by decide, rfl⟩ ⟨by decide, rfl, rfl, rfl, Nat.le_of_ble_eq_true rfl, rfl, by decide, by decide⟩ ?_
          refine c_mri (h := mm_wi h (mm_u2 F3 57 (16 * 1 + i) ((mm_nv sv (mm_np sv (mm_np sv (mm_np sv p 2) 1) 2) 2)))) (n := 1) (p := (mm_np sv (mm_np sv (mm_np sv (mm_np sv p 2) 1) 2) 2)) hM (by omega) (by decide) hl (hV.ts ((T3).put 3 (by omega) (by omega) ((mm_nv sv (mm_np sv (mm_np sv (mm_np sv p 2) 1) 2) 2)))) ((r3).put (by decide) ((mm_nv sv (mm_np sv (mm_np sv (mm_np sv p 2) 1) 2) 2))) (fun d4 F4 r4 f4 => ?_) (fun d4 F4 r4 f4 => ?_)
          · have T4 := (((T3).put 3 (by omega) (by omega) ((mm_nv sv (mm_np sv (mm_np sv (mm_np sv p 2) 1) 2) 2)))).ffr f4
            refine mv_sipush (v := 128) (pc := 100) d_Mo_readThing_100 (by decide) ?_
            refine mv_isub (pc := 103) d_Mo_readThing_103 ?_
            refine mr_iast (pc := 104) d_Mo_readThing_104 hM.a_sx (mm_inN (by omega) (by decide)) ?_
            rw [mm_cl (n := 16 * 1 + i) (by omega)]
            refine mv_aload_n (pc := 105) d_Mo_readThing_105 rfl ?_
            refine mr_getr (pc := 106) d_Mo_readThing_106 fl_Mo_29 hM.1 rfl (by decide) hM.g_sy ?_
            refine mv_iload_n (pc := 109) d_Mo_readThing_109 rfl ?_
            refine mv_aload_n (pc := 110) d_Mo_readThing_110 rfl ?_
            refine mv_iconst (v := 1) (pc := 111) d_Mo_readThing_111 (by decide) ?_
            refine mv_bipush (v := 28) (pc := 112) d_Mo_readThing_112 (by decide) ?_
            refine mv_sipush (v := 228) (pc := 114) d_Mo_readThing_114 (by decide) ?_
            refine mr_callV3 (pc := 117) d_Mo_readThing_117 (d2 := (1, 23)) ok_Mo_readIn li_Mo_149 sv_Mo_readIn hM.1 ⟨by decide, rfl⟩ ⟨by decide, rfl, rfl, rfl, Nat.le_of_ble_eq_true rfl, rfl, by decide, by decide⟩ ?_
            refine c_mri (h := mm_wi h (mm_u2 F4 58 (16 * 1 + i) ((mm_nv sv (mm_np sv (mm_np sv (mm_np sv (mm_np sv p 2) 1) 2) 2) 1) - 128))) (n := 1) (p := (mm_np sv (mm_np sv (mm_np sv (mm_np sv (mm_np sv p 2) 1) 2) 2) 1)) hM (by omega) (by decide) hl (hV.ts ((T4).put 4 (by omega) (by omega) ((mm_nv sv (mm_np sv (mm_np sv (mm_np sv (mm_np sv p 2) 1) 2) 2) 1) - 128))) ((r4).put (by decide) ((mm_nv sv (mm_np sv (mm_np sv (mm_np sv (mm_np sv p 2) 1) 2) 2) 1) - 128)) (fun d5 F5 r5 f5 => ?_) (fun d5 F5 r5 f5 => ?_)
            · have T5 := (((T4).put 4 (by omega) (by omega) ((mm_nv sv (mm_np sv (mm_np sv (mm_np sv (mm_np sv p 2) 1) 2) 2) 1) - 128))).ffr f5
              refine mv_sipush (v := 128) (pc := 120) d_Mo_readThing_120 (by decide) ?_
              refine mv_isub (pc := 123) d_Mo_readThing_123 ?_
              refine mr_iast (pc := 124) d_Mo_readThing_124 hM.a_sy (mm_inN (by omega) (by decide)) ?_
              rw [mm_cl (n := 16 * 1 + i) (by omega)]
              refine mv_iload_n (pc := 125) d_Mo_readThing_125 rfl ?_
              refine mv_iconst (v := 2) (pc := 126) d_Mo_readThing_126 (by decide) ?_
              refine mv_idiv (pc := 127) d_Mo_readThing_127 (by decide) ?_
              refine mv_iconst (v := 2) (pc := 128) d_Mo_readThing_128 (by decide) ?_
              refine mv_irem (pc := 129) d_Mo_readThing_129 (by decide) ?_
              refine mv_iconst (v := 1) (pc := 130) d_Mo_readThing_130 (by decide) ?_
              refine mv_ic_ne 164 (pc := 131) d_Mo_readThing_131 (by decide) (fun z => absurd z (by decide)) (fun _ => ?_)
              refine mv_aload_n (pc := 134) d_Mo_readThing_134 rfl ?_
              refine mr_getr (pc := 135) d_Mo_readThing_135 fl_Mo_32 hM.1 rfl (by decide) hM.g_wide ?_
              refine mv_iload_n (pc := 138) d_Mo_readThing_138 rfl ?_
              refine mv_aload_n (pc := 139) d_Mo_readThing_139 rfl ?_
              refine mv_iconst (v := 1) (pc := 140) d_Mo_readThing_140 (by decide) ?_
              refine mv_iconst (v := 1) (pc := 141) d_Mo_readThing_141 (by decide) ?_
              refine mv_sipush (v := 200) (pc := 142) d_Mo_readThing_142 (by decide) ?_
              refine mr_callV3 (pc := 145) d_Mo_readThing_145 (d2 := (1, 23)) ok_Mo_readIn li_Mo_149 sv_Mo_readIn hM.1 ⟨by decide, rfl⟩ ⟨by decide, rfl, rfl, rfl, Nat.le_of_ble_eq_true rfl, rfl, by decide, by decide⟩ ?_
              refine c_mri (h := mm_wi h (mm_u2 F5 59 (16 * 1 + i) ((mm_nv sv (mm_np sv (mm_np sv (mm_np sv (mm_np sv (mm_np sv p 2) 1) 2) 2) 1) 1) - 128))) (n := 1) (p := (mm_np sv (mm_np sv (mm_np sv (mm_np sv (mm_np sv (mm_np sv p 2) 1) 2) 2) 1) 1)) hM (by omega) (by decide) hl (hV.ts ((T5).put 5 (by omega) (by omega) ((mm_nv sv (mm_np sv (mm_np sv (mm_np sv (mm_np sv (mm_np sv p 2) 1) 2) 2) 1) 1) - 128))) ((r5).put (by decide) ((mm_nv sv (mm_np sv (mm_np sv (mm_np sv (mm_np sv (mm_np sv p 2) 1) 2) 2) 1) 1) - 128)) (fun d6 F6 r6 f6 => ?_) (fun d6 F6 r6 f6 => ?_)
              · have T6 := (((T5).put 5 (by omega) (by omega) ((mm_nv sv (mm_np sv (mm_np sv (mm_np sv (mm_np sv (mm_np sv p 2) 1) 2) 2) 1) 1) - 128))).ffr f6
                refine mr_iast (pc := 148) d_Mo_readThing_148 hM.a_wide (mm_inN (by omega) (by decide)) ?_
                rw [mm_cl (n := 16 * 1 + i) (by omega)]
                refine mv_aload_n (pc := 149) d_Mo_readThing_149 rfl ?_
                refine mr_getr (pc := 150) d_Mo_readThing_150 fl_Mo_35 hM.1 rfl (by decide) hM.g_high ?_
                refine mv_iload_n (pc := 153) d_Mo_readThing_153 rfl ?_
                refine mv_aload_n (pc := 154) d_Mo_readThing_154 rfl ?_
                refine mv_iconst (v := 1) (pc := 155) d_Mo_readThing_155 (by decide) ?_
                refine mv_iconst (v := 1) (pc := 156) d_Mo_readThing_156 (by decide) ?_
                refine mv_sipush (v := 200) (pc := 157) d_Mo_readThing_157 (by decide) ?_
                refine mr_callV3 (pc := 160) d_Mo_readThing_160 (d2 := (1, 23)) ok_Mo_readIn li_Mo_149 sv_Mo_readIn hM.1 ⟨by decide, rfl⟩ ⟨by decide, rfl, rfl, rfl, Nat.le_of_ble_eq_true rfl, rfl, by decide, by decide⟩ ?_
                refine c_mri (h := mm_wi h (mm_u2 F6 60 (16 * 1 + i) ((mm_nv sv (mm_np sv (mm_np sv (mm_np sv (mm_np sv (mm_np sv (mm_np sv p 2) 1) 2) 2) 1) 1) 1)))) (n := 1) (p := (mm_np sv (mm_np sv (mm_np sv (mm_np sv (mm_np sv (mm_np sv (mm_np sv p 2) 1) 2) 2) 1) 1) 1)) hM (by omega) (by decide) hl (hV.ts ((T6).put 6 (by omega) (by omega) ((mm_nv sv (mm_np sv (mm_np sv (mm_np sv (mm_np sv (mm_np sv (mm_np sv p 2) 1) 2) 2) 1) 1) 1)))) ((r6).put (by decide) ((mm_nv sv (mm_np sv (mm_np sv (mm_np sv (mm_np sv (mm_np sv (mm_np sv p 2) 1) 2) 2) 1) 1) 1))) (fun d7 F7 r7 f7 => ?_) (fun d7 F7 r7 f7 => ?_)
                · have T7 := (((T6).put 6 (by omega) (by omega) ((mm_nv sv (mm_np sv (mm_np sv (mm_np sv (mm_np sv (mm_np sv (mm_np sv p 2) 1) 2) 2) 1) 1) 1)))).ffr f7
                  refine mr_iast (pc := 163) d_Mo_readThing_163 hM.a_high (mm_inN (by omega) (by decide)) ?_
                  rw [mm_cl (n := 16 * 1 + i) (by omega)]
                  refine mv_iload_n (pc := 164) d_Mo_readThing_164 rfl ?_
                  refine mv_iconst (v := 4) (pc := 165) d_Mo_readThing_165 (by decide) ?_
                  refine mv_idiv (pc := 166) d_Mo_readThing_166 (by decide) ?_
                  refine mv_iconst (v := 1) (pc := 167) d_Mo_readThing_167 (by decide) ?_
                  refine mv_ic_ne 185 (pc := 168) d_Mo_readThing_168 (by decide) (fun _ => ?_) (fun z => absurd z (by decide))
                  refine mv_ret (pc := 185) d_Mo_readThing_185 rfl ?_
                  have er : sv.drop (rT sv (mm_np sv (mm_np sv p 2) 1)) = a_sh (fun k => if k = 7 then (mm_nv sv (mm_np sv (mm_np sv (mm_np sv (mm_np sv (mm_np sv (mm_np sv (mm_np sv p 2) 1) 2) 2) 1) 1) 1) 1) else (fun k => if k = 6 then (mm_nv sv (mm_np sv (mm_np sv (mm_np sv (mm_np sv (mm_np sv (mm_np sv p 2) 1) 2) 2) 1) 1) 1) else (fun k => if k = 5 then (mm_nv sv (mm_np sv (mm_np sv (mm_np sv (mm_np sv (mm_np sv p 2) 1) 2) 2) 1) 1) - 128 else (fun k => if k = 4 then (mm_nv sv (mm_np sv (mm_np sv (mm_np sv (mm_np sv p 2) 1) 2) 2) 1) - 128 else (fun k => if k = 3 then (mm_nv sv (mm_np sv (mm_np sv (mm_np sv p 2) 1) 2) 2) else (fun k => if k = 0 then (fun k => if k = 1 then 1 else (fun k => mm_gi h (54 + k) (16 * 1 + i)) k) 0 else if k = 1 then 1 else if k = 2 then (mm_nv sv (mm_np sv (mm_np sv p 2) 1) 2) else if k = 3 then 0 else 0) k) k) k) k) k) ++ (a_ti (fun k => if k = 7 then (mm_nv sv (mm_np sv (mm_np sv (mm_np sv (mm_np sv (mm_np sv (mm_np sv (mm_np sv p 2) 1) 2) 2) 1) 1) 1) 1) else (fun k => if k = 6 then (mm_nv sv (mm_np sv (mm_np sv (mm_np sv (mm_np sv (mm_np sv (mm_np sv p 2) 1) 2) 2) 1) 1) 1) else (fun k => if k = 5 then (mm_nv sv (mm_np sv (mm_np sv (mm_np sv (mm_np sv (mm_np sv p 2) 1) 2) 2) 1) 1) - 128 else (fun k => if k = 4 then (mm_nv sv (mm_np sv (mm_np sv (mm_np sv (mm_np sv p 2) 1) 2) 2) 1) - 128 else (fun k => if k = 3 then (mm_nv sv (mm_np sv (mm_np sv (mm_np sv p 2) 1) 2) 2) else (fun k => if k = 0 then (fun k => if k = 1 then 1 else (fun k => mm_gi h (54 + k) (16 * 1 + i)) k) 0 else if k = 1 then 1 else if k = 2 then (mm_nv sv (mm_np sv (mm_np sv p 2) 1) 2) else if k = 3 then 0 else 0) k) k) k) k) k) ++ sv.drop (mm_np sv (mm_np sv (mm_np sv (mm_np sv (mm_np sv (mm_np sv (mm_np sv (mm_np sv p 2) 1) 2) 2) 1) 1) 1) 1)) := by
                    show _ = (if 0 < (mm_nv sv (mm_np sv (mm_np sv (mm_np sv (mm_np sv (mm_np sv (mm_np sv p 2) 1) 2) 2) 1) 1) 1) then mm_enc (mm_nv sv (mm_np sv (mm_np sv (mm_np sv (mm_np sv (mm_np sv (mm_np sv p 2) 1) 2) 2) 1) 1) 1) 1 ++ mm_enc (mm_nv sv (mm_np sv (mm_np sv (mm_np sv (mm_np sv (mm_np sv (mm_np sv (mm_np sv p 2) 1) 2) 2) 1) 1) 1) 1) 1 else []) ++ ((if 0 < (0 : Int32) then mm_enc 0 2 else []) ++ _)
                    have e5 := sh_ok hb ⟨d6, d7⟩
                    rw [if_pos (Int32.lt_of_lt_of_le (by decide) d6.1), List.append_assoc]
                    rw [if_neg (by decide), List.nil_append]
                    exact e5
                  obtain ⟨w1, w2⟩ := rs_full (f := (fun k => if k = 7 then (mm_nv sv (mm_np sv (mm_np sv (mm_np sv (mm_np sv (mm_np sv (mm_np sv (mm_np sv p 2) 1) 2) 2) 1) 1) 1) 1) else (fun k => if k = 6 then (mm_nv sv (mm_np sv (mm_np sv (mm_np sv (mm_np sv (mm_np sv (mm_np sv p 2) 1) 2) 2) 1) 1) 1) else (fun k => if k = 5 then (mm_nv sv (mm_np sv (mm_np sv (mm_np sv (mm_np sv (mm_np sv p 2) 1) 2) 2) 1) 1) - 128 else (fun k => if k = 4 then (mm_nv sv (mm_np sv (mm_np sv (mm_np sv (mm_np sv p 2) 1) 2) 2) 1) - 128 else (fun k => if k = 3 then (mm_nv sv (mm_np sv (mm_np sv (mm_np sv p 2) 1) 2) 2) else (fun k => if k = 0 then (fun k => if k = 1 then 1 else (fun k => mm_gi h (54 + k) (16 * 1 + i)) k) 0 else if k = 1 then 1 else if k = 2 then (mm_nv sv (mm_np sv (mm_np sv p 2) 1) 2) else if k = 3 then 0 else 0) k) k) k) k) k)) hb hkd.symm ⟨by decide, by decide⟩ ⟨⟨d2, d3⟩, ⟨f_28 d4, f_28 d5⟩⟩ hgen rfl rfl rfl rfl rfl (Or.inr ⟨by decide, d6, d7⟩) (Or.inl ⟨by decide, rfl⟩) er
                  exact hq1 _ _ _ ((T7).put 7 (by omega) (by omega) ((mm_nv sv (mm_np sv (mm_np sv (mm_np sv (mm_np sv (mm_np sv (mm_np sv (mm_np sv p 2) 1) 2) 2) 1) 1) 1) 1))) ((r7).put (by decide) ((mm_nv sv (mm_np sv (mm_np sv (mm_np sv (mm_np sv (mm_np sv (mm_np sv (mm_np sv p 2) 1) 2) 2) 1) 1) 1) 1))) w1 w2
                · have T7 := (((T6).put 6 (by omega) (by omega) ((mm_nv sv (mm_np sv (mm_np sv (mm_np sv (mm_np sv (mm_np sv (mm_np sv p 2) 1) 2) 2) 1) 1) 1)))).ffr f7
                  refine mr_iast (pc := 163) d_Mo_readThing_163 hM.a_high (mm_inN (by omega) (by decide)) ?_
                  rw [mm_cl (n := 16 * 1 + i) (by omega)]
                  refine mv_iload_n (pc := 164) d_Mo_readThing_164 rfl ?_
                  refine mv_iconst (v := 4) (pc := 165) d_Mo_readThing_165 (by decide) ?_
                  refine mv_idiv (pc := 166) d_Mo_readThing_166 (by decide) ?_
                  refine mv_iconst (v := 1) (pc := 167) d_Mo_readThing_167 (by decide) ?_
                  refine mv_ic_ne 185 (pc := 168) d_Mo_readThing_168 (by decide) (fun _ => ?_) (fun z => absurd z (by decide))
                  refine mv_ret (pc := 185) d_Mo_readThing_185 rfl ?_
                  refine hq0 _ _ ((T7).put 7 (by omega) (by omega) (1)) (by simp [mm_gwi, mm_u2, mm_uwi, r7]) (fun g r hg e => ?_)
                  obtain ⟨u1, u2⟩ := rs_use hb hg e
                  rw [hkd] at u1
                  have gn := kd_g u1 (by decide)
                  have c6 : 0 < g 6 := Classical.not_not.mp fun z => absurd ((a_kind_bits gn).2.2.2.1.mpr z) (by rw [← u1]; decide)
                  exact d7 (sh_use hb hg gn c6 (u2 gn).2).1.2
              · have T6 := (((T5).put 5 (by omega) (by omega) ((mm_nv sv (mm_np sv (mm_np sv (mm_np sv (mm_np sv (mm_np sv p 2) 1) 2) 2) 1) 1) - 128))).ffr f6
                refine mr_iast (pc := 148) d_Mo_readThing_148 hM.a_wide (mm_inN (by omega) (by decide)) ?_
                rw [mm_cl (n := 16 * 1 + i) (by omega)]
                refine mv_aload_n (pc := 149) d_Mo_readThing_149 rfl ?_
                refine mr_getr (pc := 150) d_Mo_readThing_150 fl_Mo_35 hM.1 rfl (by decide) hM.g_high ?_
                refine mv_iload_n (pc := 153) d_Mo_readThing_153 rfl ?_
                refine mv_aload_n (pc := 154) d_Mo_readThing_154 rfl ?_
                refine mv_iconst (v := 1) (pc := 155) d_Mo_readThing_155 (by decide) ?_
                refine mv_iconst (v := 1) (pc := 156) d_Mo_readThing_156 (by decide) ?_
                refine mv_sipush (v := 200) (pc := 157) d_Mo_readThing_157 (by decide) ?_
                refine mr_callV3 (pc := 160) d_Mo_readThing_160 (d2 := (1, 23)) ok_Mo_readIn li_Mo_149 sv_Mo_readIn hM.1 ⟨by decide, rfl⟩ ⟨by decide, rfl, rfl, rfl, Nat.le_of_ble_eq_true rfl, rfl, by decide, by decide⟩ ?_
                refine c_mreadIn0 (h := mm_wi h (mm_u2 F6 60 (16 * 1 + i) (1))) (n := 1) hM (by omega) (by simp [mm_gwi, mm_u2, mm_uwi, r6]) (fun F7 r7 f7 => ?_)
                have T7 := (((T6).put 6 (by omega) (by omega) (1))).ffr f7
                refine mr_iast (pc := 163) d_Mo_readThing_163 hM.a_high (mm_inN (by omega) (by decide)) ?_
                rw [mm_cl (n := 16 * 1 + i) (by omega)]
                refine mv_iload_n (pc := 164) d_Mo_readThing_164 rfl ?_
                refine mv_iconst (v := 4) (pc := 165) d_Mo_readThing_165 (by decide) ?_
                refine mv_idiv (pc := 166) d_Mo_readThing_166 (by decide) ?_
                refine mv_iconst (v := 1) (pc := 167) d_Mo_readThing_167 (by decide) ?_
                refine mv_ic_ne 185 (pc := 168) d_Mo_readThing_168 (by decide) (fun _ => ?_) (fun z => absurd z (by decide))
                refine mv_ret (pc := 185) d_Mo_readThing_185 rfl ?_
                refine hq0 _ _ ((T7).put 7 (by omega) (by omega) (1)) (by simp [mm_gwi, mm_u2, mm_uwi, r7]) (fun g r hg e => ?_)
                obtain ⟨u1, u2⟩ := rs_use hb hg e
                rw [hkd] at u1
                have gn := kd_g u1 (by decide)
                have c6 : 0 < g 6 := Classical.not_not.mp fun z => absurd ((a_kind_bits gn).2.2.2.1.mpr z) (by rw [← u1]; decide)
                exact d6 (sh_use hb hg gn c6 (u2 gn).2).1.1
            · have T5 := (((T4).put 4 (by omega) (by omega) ((mm_nv sv (mm_np sv (mm_np sv (mm_np sv (mm_np sv p 2) 1) 2) 2) 1) - 128))).ffr f5
              refine mv_sipush (v := 128) (pc := 120) d_Mo_readThing_120 (by decide) ?_
              refine mv_isub (pc := 123) d_Mo_readThing_123 ?_
              refine mr_iast (pc := 124) d_Mo_readThing_124 hM.a_sy (mm_inN (by omega) (by decide)) ?_
              rw [mm_cl (n := 16 * 1 + i) (by omega)]
              refine mv_iload_n (pc := 125) d_Mo_readThing_125 rfl ?_
              refine mv_iconst (v := 2) (pc := 126) d_Mo_readThing_126 (by decide) ?_
              refine mv_idiv (pc := 127) d_Mo_readThing_127 (by decide) ?_
              refine mv_iconst (v := 2) (pc := 128) d_Mo_readThing_128 (by decide) ?_
              refine mv_irem (pc := 129) d_Mo_readThing_129 (by decide) ?_
              refine mv_iconst (v := 1) (pc := 130) d_Mo_readThing_130 (by decide) ?_
              refine mv_ic_ne 164 (pc := 131) d_Mo_readThing_131 (by decide) (fun z => absurd z (by decide)) (fun _ => ?_)
              refine mv_aload_n (pc := 134) d_Mo_readThing_134 rfl ?_
              refine mr_getr (pc := 135) d_Mo_readThing_135 fl_Mo_32 hM.1 rfl (by decide) hM.g_wide ?_
              refine mv_iload_n (pc := 138) d_Mo_readThing_138 rfl ?_
              refine mv_aload_n (pc := 139) d_Mo_readThing_139 rfl ?_
              refine mv_iconst (v := 1) (pc := 140) d_Mo_readThing_140 (by decide) ?_
              refine mv_iconst (v := 1) (pc := 141) d_Mo_readThing_141 (by decide) ?_
              refine mv_sipush (v := 200) (pc := 142) d_Mo_readThing_142 (by decide) ?_
              refine mr_callV3 (pc := 145) d_Mo_readThing_145 (d2 := (1, 23)) ok_Mo_readIn li_Mo_149 sv_Mo_readIn hM.1 ⟨by decide, rfl⟩ ⟨by decide, rfl, rfl, rfl, Nat.le_of_ble_eq_true rfl, rfl, by decide, by decide⟩ ?_
              refine c_mreadIn0 (h := mm_wi h (mm_u2 F5 59 (16 * 1 + i) (28 - 128))) (n := 1) hM (by omega) (by simp [mm_gwi, mm_u2, mm_uwi, r5]) (fun F6 r6 f6 => ?_)
              have T6 := (((T5).put 5 (by omega) (by omega) (28 - 128))).ffr f6
              refine mr_iast (pc := 148) d_Mo_readThing_148 hM.a_wide (mm_inN (by omega) (by decide)) ?_
              rw [mm_cl (n := 16 * 1 + i) (by omega)]
              refine mv_aload_n (pc := 149) d_Mo_readThing_149 rfl ?_
              refine mr_getr (pc := 150) d_Mo_readThing_150 fl_Mo_35 hM.1 rfl (by decide) hM.g_high ?_
              refine mv_iload_n (pc := 153) d_Mo_readThing_153 rfl ?_
              refine mv_aload_n (pc := 154) d_Mo_readThing_154 rfl ?_
              refine mv_iconst (v := 1) (pc := 155) d_Mo_readThing_155 (by decide) ?_
              refine mv_iconst (v := 1) (pc := 156) d_Mo_readThing_156 (by decide) ?_
              refine mv_sipush (v := 200) (pc := 157) d_Mo_readThing_157 (by decide) ?_
              refine mr_callV3 (pc := 160) d_Mo_readThing_160 (d2 := (1, 23)) ok_Mo_readIn li_Mo_149 sv_Mo_readIn hM.1 ⟨by decide, rfl⟩ ⟨by decide, rfl, rfl, rfl, Nat.le_of_ble_eq_true rfl, rfl, by decide, by decide⟩ ?_
              refine c_mreadIn0 (h := mm_wi h (mm_u2 F6 60 (16 * 1 + i) (1))) (n := 1) hM (by omega) (by simp [mm_gwi, mm_u2, mm_uwi, r6]) (fun F7 r7 f7 => ?_)
              have T7 := (((T6).put 6 (by omega) (by omega) (1))).ffr f7
              refine mr_iast (pc := 163) d_Mo_readThing_163 hM.a_high (mm_inN (by omega) (by decide)) ?_
              rw [mm_cl (n := 16 * 1 + i) (by omega)]
              refine mv_iload_n (pc := 164) d_Mo_readThing_164 rfl ?_
              refine mv_iconst (v := 4) (pc := 165) d_Mo_readThing_165 (by decide) ?_
              refine mv_idiv (pc := 166) d_Mo_readThing_166 (by decide) ?_
              refine mv_iconst (v := 1) (pc := 167) d_Mo_readThing_167 (by decide) ?_
              refine mv_ic_ne 185 (pc := 168) d_Mo_readThing_168 (by decide) (fun _ => ?_) (fun z => absurd z (by decide))
              refine mv_ret (pc := 185) d_Mo_readThing_185 rfl ?_
              refine hq0 _ _ ((T7).put 7 (by omega) (by omega) (1)) (by simp [mm_gwi, mm_u2, mm_uwi, r7]) (fun g r hg e => ?_)
              obtain ⟨u1, u2⟩ := rs_use hb hg e
              rw [hkd] at u1
              have gn := kd_g u1 (by decide)
              exact d5 (f_28i (u2 gn).1.2.2 (nv_rng1 hb _))
          · have T4 := (((T3).put 3 (by omega) (by omega) ((mm_nv sv (mm_np sv (mm_np sv (mm_np sv p 2) 1) 2) 2)))).ffr f4
            refine mv_sipush (v := 128) (pc := 100) d_Mo_readThing_100 (by decide) ?_
            refine mv_isub (pc := 103) d_Mo_readThing_103 ?_
            refine mr_iast (pc := 104) d_Mo_readThing_104 hM.a_sx (mm_inN (by omega) (by decide)) ?_
            rw [mm_cl (n := 16 * 1 + i) (by omega)]
            refine mv_aload_n (pc := 105) d_Mo_readThing_105 rfl ?_
            refine mr_getr (pc := 106) d_Mo_readThing_106 fl_Mo_29 hM.1 rfl (by decide) hM.g_sy ?_
            refine mv_iload_n (pc := 109) d_Mo_readThing_109 rfl ?_
            refine mv_aload_n (pc := 110) d_Mo_readThing_110 rfl ?_
            refine mv_iconst (v := 1) (pc := 111) d_Mo_readThing_111 (by decide) ?_
            refine mv_bipush (v := 28) (pc := 112) d_Mo_readThing_112 (by decide) ?_
            refine mv_sipush (v := 228) (pc := 114) d_Mo_readThing_114 (by decide) ?_
            refine mr_callV3 (pc := 117) d_Mo_readThing_117 (d2 := (1, 23)) ok_Mo_readIn li_Mo_149 sv_Mo_readIn hM.1 ⟨by decide, rfl⟩ ⟨by decide, rfl, rfl, rfl, Nat.le_of_ble_eq_true rfl, rfl, by decide, by decide⟩ ?_
            refine c_mreadIn0 (h := mm_wi h (mm_u2 F4 58 (16 * 1 + i) (28 - 128))) (n := 1) hM (by omega) (by simp [mm_gwi, mm_u2, mm_uwi, r4]) (fun F5 r5 f5 => ?_)
            have T5 := (((T4).put 4 (by omega) (by omega) (28 - 128))).ffr f5
            refine mv_sipush (v := 128) (pc := 120) d_Mo_readThing_120 (by decide) ?_
            refine mv_isub (pc := 123) d_Mo_readThing_123 ?_
            refine mr_iast (pc := 124) d_Mo_readThing_124 hM.a_sy (mm_inN (by omega) (by decide)) ?_
            rw [mm_cl (n := 16 * 1 + i) (by omega)]
            refine mv_iload_n (pc := 125) d_Mo_readThing_125 rfl ?_
            refine mv_iconst (v := 2) (pc := 126) d_Mo_readThing_126 (by decide) ?_
            refine mv_idiv (pc := 127) d_Mo_readThing_127 (by decide) ?_
            refine mv_iconst (v := 2) (pc := 128) d_Mo_readThing_128 (by decide) ?_
            refine mv_irem (pc := 129) d_Mo_readThing_129 (by decide) ?_
            refine mv_iconst (v := 1) (pc := 130) d_Mo_readThing_130 (by decide) ?_
            refine mv_ic_ne 164 (pc := 131) d_Mo_readThing_131 (by decide) (fun z => absurd z (by decide)) (fun _ => ?_)
            refine mv_aload_n (pc := 134) d_Mo_readThing_134 rfl ?_
            refine mr_getr (pc := 135) d_Mo_readThing_135 fl_Mo_32 hM.1 rfl (by decide) hM.g_wide ?_
            refine mv_iload_n (pc := 138) d_Mo_readThing_138 rfl ?_
            refine mv_aload_n (pc := 139) d_Mo_readThing_139 rfl ?_
            refine mv_iconst (v := 1) (pc := 140) d_Mo_readThing_140 (by decide) ?_
            refine mv_iconst (v := 1) (pc := 141) d_Mo_readThing_141 (by decide) ?_
            refine mv_sipush (v := 200) (pc := 142) d_Mo_readThing_142 (by decide) ?_
            refine mr_callV3 (pc := 145) d_Mo_readThing_145 (d2 := (1, 23)) ok_Mo_readIn li_Mo_149 sv_Mo_readIn hM.1 ⟨by decide, rfl⟩ ⟨by decide, rfl, rfl, rfl, Nat.le_of_ble_eq_true rfl, rfl, by decide, by decide⟩ ?_
            refine c_mreadIn0 (h := mm_wi h (mm_u2 F5 59 (16 * 1 + i) (28 - 128))) (n := 1) hM (by omega) (by simp [mm_gwi, mm_u2, mm_uwi, r5]) (fun F6 r6 f6 => ?_)
            have T6 := (((T5).put 5 (by omega) (by omega) (28 - 128))).ffr f6
            refine mr_iast (pc := 148) d_Mo_readThing_148 hM.a_wide (mm_inN (by omega) (by decide)) ?_
            rw [mm_cl (n := 16 * 1 + i) (by omega)]
            refine mv_aload_n (pc := 149) d_Mo_readThing_149 rfl ?_
            refine mr_getr (pc := 150) d_Mo_readThing_150 fl_Mo_35 hM.1 rfl (by decide) hM.g_high ?_
            refine mv_iload_n (pc := 153) d_Mo_readThing_153 rfl ?_
            refine mv_aload_n (pc := 154) d_Mo_readThing_154 rfl ?_
            refine mv_iconst (v := 1) (pc := 155) d_Mo_readThing_155 (by decide) ?_
            refine mv_iconst (v := 1) (pc := 156) d_Mo_readThing_156 (by decide) ?_
            refine mv_sipush (v := 200) (pc := 157) d_Mo_readThing_157 (by decide) ?_
            refine mr_callV3 (pc := 160) d_Mo_readThing_160 (d2 := (1, 23)) ok_Mo_readIn li_Mo_149 sv_Mo_readIn hM.1 ⟨by decide, rfl⟩ ⟨by decide, rfl, rfl, rfl, Nat.le_of_ble_eq_true rfl, rfl, by decide, by decide⟩ ?_
            refine c_mreadIn0 (h := mm_wi h (mm_u2 F6 60 (16 * 1 + i) (1))) (n := 1) hM (by omega) (by simp [mm_gwi, mm_u2, mm_uwi, r6]) (fun F7 r7 f7 => ?_)
            have T7 := (((T6).put 6 (by omega) (by omega) (1))).ffr f7
            refine mr_iast (pc := 163) d_Mo_readThing_163 hM.a_high (mm_inN (by omega) (by decide)) ?_
            rw [mm_cl (n := 16 * 1 + i) (by omega)]
            refine mv_iload_n (pc := 164) d_Mo_readThing_164 rfl ?_
            refine mv_iconst (v := 4) (pc := 165) d_Mo_readThing_165 (by decide) ?_
            refine mv_idiv (pc := 166) d_Mo_readThing_166 (by decide) ?_
            refine mv_iconst (v := 1) (pc := 167) d_Mo_readThing_167 (by decide) ?_
            refine mv_ic_ne 185 (pc := 168) d_Mo_readThing_168 (by decide) (fun _ => ?_) (fun z => absurd z (by decide))
            refine mv_ret (pc := 185) d_Mo_readThing_185 rfl ?_
            refine hq0 _ _ ((T7).put 7 (by omega) (by omega) (1)) (by simp [mm_gwi, mm_u2, mm_uwi, r7]) (fun g r hg e => ?_)
            obtain ⟨u1, u2⟩ := rs_use hb hg e
            rw [hkd] at u1
            have gn := kd_g u1 (by decide)
            exact d4 (f_28i (u2 gn).1.2.1 (nv_rng1 hb _))
        · have T3 := (T20).ffr f3
          refine mr_iast (pc := 84) d_Mo_readThing_84 hM.a_py (mm_inN (by omega) (by decide)) ?_
          rw [mm_cl (n := 16 * 1 + i) (by omega)]
          refine mv_aload_n (pc := 85) d_Mo_readThing_85 rfl ?_
          refine mr_getr (pc := 86) d_Mo_readThing_86 fl_Mo_26 hM.1 rfl (by decide) hM.g_sx ?_
          refine mv_iload_n (pc := 89) d_Mo_readThing_89 rfl ?_
          refine mv_aload_n (pc := 90) d_Mo_readThing_90 rfl ?_
          refine mv_iconst (v := 1) (pc := 91) d_Mo_readThing_91 (by decide) ?_
          refine mv_bipush (v := 28) (pc := 92) d_Mo_readThing_92 (by decide) ?_
          refine mv_sipush (v := 228) (pc := 94) d_Mo_readThing_94 (by decide) ?_
          refine mr_callV3 (pc := 97) d_Mo_readThing_97 (d2 := (1, 23)) ok_Mo_readIn li_Mo_149 sv_Mo_readIn hM.1 ⟨by decide, rfl⟩ ⟨by decide, rfl, rfl, rfl, Nat.le_of_ble_eq_true rfl, rfl, by decide, by decide⟩ ?_
          refine c_mreadIn0 (h := mm_wi h (mm_u2 F3 57 (16 * 1 + i) (0))) (n := 1) hM (by omega) (by simp [mm_gwi, mm_u2, mm_uwi, r3]) (fun F4 r4 f4 => ?_)
          have T4 := (((T3).put 3 (by omega) (by omega) (0))).ffr f4
          refine mv_sipush (v := 128) (pc := 100) d_Mo_readThing_100 (by decide) ?_
          refine mv_isub (pc := 103) d_Mo_readThing_103 ?_
          refine mr_iast (pc := 104) d_Mo_readThing_104 hM.a_sx (mm_inN (by omega) (by decide)) ?_
          rw [mm_cl (n := 16 * 1 + i) (by omega)]
          refine mv_aload_n (pc := 105) d_Mo_readThing_105 rfl ?_
          refine mr_getr (pc := 106) d_Mo_readThing_106 fl_Mo_29 hM.1 rfl (by decide) hM.g_sy ?_
          refine mv_iload_n (pc := 109) d_Mo_readThing_109 rfl ?_
          refine mv_aload_n (pc := 110) d_Mo_readThing_110 rfl ?_
          refine mv_iconst (v := 1) (pc := 111) d_Mo_readThing_111 (by decide) ?_
          refine mv_bipush (v := 28) (pc := 112) d_Mo_readThing_112 (by decide) ?_
          refine mv_sipush (v := 228) (pc := 114) d_Mo_readThing_114 (by decide) ?_
          refine mr_callV3 (pc := 117) d_Mo_readThing_117 (d2 := (1, 23)) ok_Mo_readIn li_Mo_149 sv_Mo_readIn hM.1 ⟨by decide, rfl⟩ ⟨by decide, rfl, rfl, rfl, Nat.le_of_ble_eq_true rfl, rfl, by decide, by decide⟩ ?_
          refine c_mreadIn0 (h := mm_wi h (mm_u2 F4 58 (16 * 1 + i) (28 - 128))) (n := 1) hM (by omega) (by simp [mm_gwi, mm_u2, mm_uwi, r4]) (fun F5 r5 f5 => ?_)
          have T5 := (((T4).put 4 (by omega) (by omega) (28 - 128))).ffr f5
          refine mv_sipush (v := 128) (pc := 120) d_Mo_readThing_120 (by decide) ?_
          refine mv_isub (pc := 123) d_Mo_readThing_123 ?_
          refine mr_iast (pc := 124) d_Mo_readThing_124 hM.a_sy (mm_inN (by omega) (by decide)) ?_
          rw [mm_cl (n := 16 * 1 + i) (by omega)]
          refine mv_iload_n (pc := 125) d_Mo_readThing_125 rfl ?_
          refine mv_iconst (v := 2) (pc := 126) d_Mo_readThing_126 (by decide) ?_
          refine mv_idiv (pc := 127) d_Mo_readThing_127 (by decide) ?_
          refine mv_iconst (v := 2) (pc := 128) d_Mo_readThing_128 (by decide) ?_
          refine mv_irem (pc := 129) d_Mo_readThing_129 (by decide) ?_
          refine mv_iconst (v := 1) (pc := 130) d_Mo_readThing_130 (by decide) ?_
          refine mv_ic_ne 164 (pc := 131) d_Mo_readThing_131 (by decide) (fun z => absurd z (by decide)) (fun _ => ?_)
          refine mv_aload_n (pc := 134) d_Mo_readThing_134 rfl ?_
          refine mr_getr (pc := 135) d_Mo_readThing_135 fl_Mo_32 hM.1 rfl (by decide) hM.g_wide ?_
          refine mv_iload_n (pc := 138) d_Mo_readThing_138 rfl ?_
          refine mv_aload_n (pc := 139) d_Mo_readThing_139 rfl ?_
          refine mv_iconst (v := 1) (pc := 140) d_Mo_readThing_140 (by decide) ?_
          refine mv_iconst (v := 1) (pc := 141) d_Mo_readThing_141 (by decide) ?_
          refine mv_sipush (v := 200) (pc := 142) d_Mo_readThing_142 (by decide) ?_
          refine mr_callV3 (pc := 145) d_Mo_readThing_145 (d2 := (1, 23)) ok_Mo_readIn li_Mo_149 sv_Mo_readIn hM.1 ⟨by decide, rfl⟩ ⟨by decide, rfl, rfl, rfl, Nat.le_of_ble_eq_true rfl, rfl, by decide, by decide⟩ ?_
          refine c_mreadIn0 (h := mm_wi h (mm_u2 F5 59 (16 * 1 + i) (28 - 128))) (n := 1) hM (by omega) (by simp [mm_gwi, mm_u2, mm_uwi, r5]) (fun F6 r6 f6 => ?_)
          have T6 := (((T5).put 5 (by omega) (by omega) (28 - 128))).ffr f6
          refine mr_iast (pc := 148) d_Mo_readThing_148 hM.a_wide (mm_inN (by omega) (by decide)) ?_
          rw [mm_cl (n := 16 * 1 + i) (by omega)]
          refine mv_aload_n (pc := 149) d_Mo_readThing_149 rfl ?_
          refine mr_getr (pc := 150) d_Mo_readThing_150 fl_Mo_35 hM.1 rfl (by decide) hM.g_high ?_
          refine mv_iload_n (pc := 153) d_Mo_readThing_153 rfl ?_
          refine mv_aload_n (pc := 154) d_Mo_readThing_154 rfl ?_
          refine mv_iconst (v := 1) (pc := 155) d_Mo_readThing_155 (by decide) ?_
          refine mv_iconst (v := 1) (pc := 156) d_Mo_readThing_156 (by decide) ?_
          refine mv_sipush (v := 200) (pc := 157) d_Mo_readThing_157 (by decide) ?_
          refine mr_callV3 (pc := 160) d_Mo_readThing_160 (d2 := (1, 23)) ok_Mo_readIn li_Mo_149 sv_Mo_readIn hM.1 ⟨by decide, rfl⟩ ⟨by decide, rfl, rfl, rfl, Nat.le_of_ble_eq_true rfl, rfl, by decide, by decide⟩ ?_
          refine c_mreadIn0 (h := mm_wi h (mm_u2 F6 60 (16 * 1 + i) (1))) (n := 1) hM (by omega) (by simp [mm_gwi, mm_u2, mm_uwi, r6]) (fun F7 r7 f7 => ?_)
          have T7 := (((T6).put 6 (by omega) (by omega) (1))).ffr f7
          refine mr_iast (pc := 163) d_Mo_readThing_163 hM.a_high (mm_inN (by omega) (by decide)) ?_
          rw [mm_cl (n := 16 * 1 + i) (by omega)]
          refine mv_iload_n (pc := 164) d_Mo_readThing_164 rfl ?_
          refine mv_iconst (v := 4) (pc := 165) d_Mo_readThing_165 (by decide) ?_
          refine mv_idiv (pc := 166) d_Mo_readThing_166 (by decide) ?_
          refine mv_iconst (v := 1) (pc := 167) d_Mo_readThing_167 (by decide) ?_
          refine mv_ic_ne 185 (pc := 168) d_Mo_readThing_168 (by decide) (fun _ => ?_) (fun z => absurd z (by decide))
          refine mv_ret (pc := 185) d_Mo_readThing_185 rfl ?_
          refine hq0 _ _ ((T7).put 7 (by omega) (by omega) (1)) (by simp [mm_gwi, mm_u2, mm_uwi, r7]) (fun g r hg e => ?_)
          obtain ⟨u1, u2⟩ := rs_use hb hg e
          rw [hkd] at u1
          have gn := kd_g u1 (by decide)
          exact d3 (u2 gn).1.1.2
      · have T2 := (((((((TS.init (mm_gi h) (16 * 1 + i)).ffr f1)).put 1 (by omega) (by omega) (1))).snd 1)).ffr f2
        refine mv_iconst (v := 0) (pc := 66) d_Mo_readThing_66 (by decide) ?_
        refine mr_callV3 (pc := 67) d_Mo_readThing_67 (d2 := (0, 0)) ok_Mo_make li_Mo_98 sv_Mo_make hM.1 ⟨by decide, rfl⟩ ⟨by decide, rfl, rfl, rfl, Nat.le_of_ble_eq_true rfl, rfl, by decide, by decide⟩ ?_
        refine c_make (k := 1) (h := mm_wi h F2) (by omega) hM hi (RM_self F2 1) (fun F20 _ _ e20 => ?_)
        have T20 := T2.make e20
        have z20 : F20 52 23 = 0 := by rw [e20]; simpa [mm_gwi] using r2
        refine mv_aload_n (pc := 70) d_Mo_readThing_70 rfl ?_
        refine mr_getr (pc := 71) d_Mo_readThing_71 fl_Mo_23 hM.1 rfl (by decide) hM.g_py ?_
        refine mv_iload_n (pc := 74) d_Mo_readThing_74 rfl ?_
        refine mv_aload_n (pc := 75) d_Mo_readThing_75 rfl ?_
        refine mv_iconst (v := 2) (pc := 76) d_Mo_readThing_76 (by decide) ?_
        refine mv_iconst (v := 0) (pc := 77) d_Mo_readThing_77 (by decide) ?_
        refine mv_sipush (v := 4095) (pc := 78) d_Mo_readThing_78 (by decide) ?_
        refine mr_callV3 (pc := 81) d_Mo_readThing_81 (d2 := (1, 23)) ok_Mo_readIn li_Mo_149 sv_Mo_readIn hM.1 ⟨by decide, rfl⟩ ⟨by decide, rfl, rfl, rfl, Nat.le_of_ble_eq_true rfl, rfl, by decide, by decide⟩ ?_
        refine c_mreadIn0 (h := mm_wi h F20) (n := 2) hM (by omega) (by simp [mm_gwi, mm_u2, mm_uwi, z20]) (fun F3 r3 f3 => ?_)
        have T3 := (T20).ffr f3
        refine mr_iast (pc := 84) d_Mo_readThing_84 hM.a_py (mm_inN (by omega) (by decide)) ?_
        rw [mm_cl (n := 16 * 1 + i) (by omega)]
        refine mv_aload_n (pc := 85) d_Mo_readThing_85 rfl ?_
        refine mr_getr (pc := 86) d_Mo_readThing_86 fl_Mo_26 hM.1 rfl (by decide) hM.g_sx ?_
        refine mv_iload_n (pc := 89) d_Mo_readThing_89 rfl ?_
        refine mv_aload_n (pc := 90) d_Mo_readThing_90 rfl ?_
        refine mv_iconst (v := 1) (pc := 91) d_Mo_readThing_91 (by decide) ?_
        refine mv_bipush (v := 28) (pc := 92) d_Mo_readThing_92 (by decide) ?_
        refine mv_sipush (v := 228) (pc := 94) d_Mo_readThing_94 (by decide) ?_
        refine mr_callV3 (pc := 97) d_Mo_readThing_97 (d2 := (1, 23)) ok_Mo_readIn li_Mo_149 sv_Mo_readIn hM.1 ⟨by decide, rfl⟩ ⟨by decide, rfl, rfl, rfl, Nat.le_of_ble_eq_true rfl, rfl, by decide, by decide⟩ ?_
        refine c_mreadIn0 (h := mm_wi h (mm_u2 F3 57 (16 * 1 + i) (0))) (n := 1) hM (by omega) (by simp [mm_gwi, mm_u2, mm_uwi, r3]) (fun F4 r4 f4 => ?_)
        have T4 := (((T3).put 3 (by omega) (by omega) (0))).ffr f4
        refine mv_sipush (v := 128) (pc := 100) d_Mo_readThing_100 (by decide) ?_
        refine mv_isub (pc := 103) d_Mo_readThing_103 ?_
        refine mr_iast (pc := 104) d_Mo_readThing_104 hM.a_sx (mm_inN (by omega) (by decide)) ?_
        rw [mm_cl (n := 16 * 1 + i) (by omega)]
        refine mv_aload_n (pc := 105) d_Mo_readThing_105 rfl ?_
        refine mr_getr (pc := 106) d_Mo_readThing_106 fl_Mo_29 hM.1 rfl (by decide) hM.g_sy ?_
        refine mv_iload_n (pc := 109) d_Mo_readThing_109 rfl ?_
        refine mv_aload_n (pc := 110) d_Mo_readThing_110 rfl ?_
        refine mv_iconst (v := 1) (pc := 111) d_Mo_readThing_111 (by decide) ?_
        refine mv_bipush (v := 28) (pc := 112) d_Mo_readThing_112 (by decide) ?_
        refine mv_sipush (v := 228) (pc := 114) d_Mo_readThing_114 (by decide) ?_
        refine mr_callV3 (pc := 117) d_Mo_readThing_117 (d2 := (1, 23)) ok_Mo_readIn li_Mo_149 sv_Mo_readIn hM.1 ⟨by decide, rfl⟩ ⟨by decide, rfl, rfl, rfl, Nat.le_of_ble_eq_true rfl, rfl, by decide, by decide⟩ ?_
        refine c_mreadIn0 (h := mm_wi h (mm_u2 F4 58 (16 * 1 + i) (28 - 128))) (n := 1) hM (by omega) (by simp [mm_gwi, mm_u2, mm_uwi, r4]) (fun F5 r5 f5 => ?_)
        have T5 := (((T4).put 4 (by omega) (by omega) (28 - 128))).ffr f5
        refine mv_sipush (v := 128) (pc := 120) d_Mo_readThing_120 (by decide) ?_
        refine mv_isub (pc := 123) d_Mo_readThing_123 ?_
        refine mr_iast (pc := 124) d_Mo_readThing_124 hM.a_sy (mm_inN (by omega) (by decide)) ?_
        rw [mm_cl (n := 16 * 1 + i) (by omega)]
        refine mv_iload_n (pc := 125) d_Mo_readThing_125 rfl ?_
        refine mv_iconst (v := 2) (pc := 126) d_Mo_readThing_126 (by decide) ?_
        refine mv_idiv (pc := 127) d_Mo_readThing_127 (by decide) ?_
        refine mv_iconst (v := 2) (pc := 128) d_Mo_readThing_128 (by decide) ?_
        refine mv_irem (pc := 129) d_Mo_readThing_129 (by decide) ?_
        refine mv_iconst (v := 1) (pc := 130) d_Mo_readThing_130 (by decide) ?_
        refine mv_ic_ne 164 (pc := 131) d_Mo_readThing_131 (by decide) (fun z => absurd z (by decide)) (fun _ => ?_)
        refine mv_aload_n (pc := 134) d_Mo_readThing_134 rfl ?_
        refine mr_getr (pc := 135) d_Mo_readThing_135 fl_Mo_32 hM.1 rfl (by decide) hM.g_wide ?_
        refine mv_iload_n (pc := 138) d_Mo_readThing_138 rfl ?_
        refine mv_aload_n (pc := 139) d_Mo_readThing_139 rfl ?_
        refine mv_iconst (v := 1) (pc := 140) d_Mo_readThing_140 (by decide) ?_
        refine mv_iconst (v := 1) (pc := 141) d_Mo_readThing_141 (by decide) ?_
        refine mv_sipush (v := 200) (pc := 142) d_Mo_readThing_142 (by decide) ?_
        refine mr_callV3 (pc := 145) d_Mo_readThing_145 (d2 := (1, 23)) ok_Mo_readIn li_Mo_149 sv_Mo_readIn hM.1 ⟨by decide, rfl⟩ ⟨by decide, rfl, rfl, rfl, Nat.le_of_ble_eq_true rfl, rfl, by decide, by decide⟩ ?_
        refine c_mreadIn0 (h := mm_wi h (mm_u2 F5 59 (16 * 1 + i) (28 - 128))) (n := 1) hM (by omega) (by simp [mm_gwi, mm_u2, mm_uwi, r5]) (fun F6 r6 f6 => ?_)
        have T6 := (((T5).put 5 (by omega) (by omega) (28 - 128))).ffr f6
        refine mr_iast (pc := 148) d_Mo_readThing_148 hM.a_wide (mm_inN (by omega) (by decide)) ?_
        rw [mm_cl (n := 16 * 1 + i) (by omega)]
        refine mv_aload_n (pc := 149) d_Mo_readThing_149 rfl ?_
        refine mr_getr (pc := 150) d_Mo_readThing_150 fl_Mo_35 hM.1 rfl (by decide) hM.g_high ?_
        refine mv_iload_n (pc := 153) d_Mo_readThing_153 rfl ?_
        refine mv_aload_n (pc := 154) d_Mo_readThing_154 rfl ?_
        refine mv_iconst (v := 1) (pc := 155) d_Mo_readThing_155 (by decide) ?_
        refine mv_iconst (v := 1) (pc := 156) d_Mo_readThing_156 (by decide) ?_
        refine mv_sipush (v := 200) (pc := 157) d_Mo_readThing_157 (by decide) ?_
        refine mr_callV3 (pc := 160) d_Mo_readThing_160 (d2 := (1, 23)) ok_Mo_readIn li_Mo_149 sv_Mo_readIn hM.1 ⟨by decide, rfl⟩ ⟨by decide, rfl, rfl, rfl, Nat.le_of_ble_eq_true rfl, rfl, by decide, by decide⟩ ?_
        refine c_mreadIn0 (h := mm_wi h (mm_u2 F6 60 (16 * 1 + i) (1))) (n := 1) hM (by omega) (by simp [mm_gwi, mm_u2, mm_uwi, r6]) (fun F7 r7 f7 => ?_)
        have T7 := (((T6).put 6 (by omega) (by omega) (1))).ffr f7
        refine mr_iast (pc := 163) d_Mo_readThing_163 hM.a_high (mm_inN (by omega) (by decide)) ?_
        rw [mm_cl (n := 16 * 1 + i) (by omega)]
        refine mv_iload_n (pc := 164) d_Mo_readThing_164 rfl ?_
        refine mv_iconst (v := 4) (pc := 165) d_Mo_readThing_165 (by decide) ?_
        refine mv_idiv (pc := 166) d_Mo_readThing_166 (by decide) ?_
        refine mv_iconst (v := 1) (pc := 167) d_Mo_readThing_167 (by decide) ?_
        refine mv_ic_ne 185 (pc := 168) d_Mo_readThing_168 (by decide) (fun _ => ?_) (fun z => absurd z (by decide))
        refine mv_ret (pc := 185) d_Mo_readThing_185 rfl ?_
        refine hq0 _ _ ((T7).put 7 (by omega) (by omega) (1)) (by simp [mm_gwi, mm_u2, mm_uwi, r7]) (fun g r hg e => ?_)
        obtain ⟨u1, u2⟩ := rs_use hb hg e
        rw [hkd] at u1
        have gn := kd_g u1 (by decide)
        exact d2 (u2 gn).1.1.1
    · rw [hkd]
      refine mv_istore_n (pc := 8) d_Mo_readThing_8 (by decide) ?_
      refine mv_aload_n (pc := 9) d_Mo_readThing_9 rfl ?_
      refine mr_getr (pc := 10) d_Mo_readThing_10 fl_Mo_16 hM.1 rfl (by decide) hM.g_full ?_
      refine mv_iload_n (pc := 13) d_Mo_readThing_13 rfl ?_
      refine mv_iload_n (pc := 14) d_Mo_readThing_14 rfl ?_
      refine mv_if_le 22 (pc := 15) d_Mo_readThing_15 (by decide) (fun z => absurd z (by decide)) (fun _ => ?_)
      refine mv_iconst (v := 1) (pc := 18) d_Mo_readThing_18 (by decide) ?_
      refine mv_goto 23 (pc := 19) d_Mo_readThing_19 (by decide) ?_
      refine mr_zast (pc := 23) d_Mo_readThing_23 hM.a_full (mm_inN (by omega) (by decide)) ?_
      rw [mm_cl (n := 16 * 1 + i) (by omega), mm_nar1]
      refine mv_aload_n (pc := 24) d_Mo_readThing_24 rfl ?_
      refine mv_aload_n (pc := 25) d_Mo_readThing_25 rfl ?_
      refine mr_geti (pc := 26) d_Mo_readThing_26 fl_Mo_139 hM.1 rfl (by decide) ?_
      rw [show mm_gi (mm_si (mm_wi h F1) 55 (16 * 1 + i) 1) 52 23 = 1 from r1.1]
      refine mv_if_eq 47 (pc := 29) d_Mo_readThing_29 (by decide) (fun z => absurd z (by decide)) (fun h29 => ?_)
      refine mv_iload_n (pc := 32) d_Mo_readThing_32 rfl ?_
      refine mv_if_eq 43 (pc := 33) d_Mo_readThing_33 (by decide) (fun z => absurd z (by decide)) (fun _ => ?_)
      refine mv_iload_n (pc := 36) d_Mo_readThing_36 rfl ?_
      refine mv_iconst (v := 2) (pc := 37) d_Mo_readThing_37 (by decide) ?_
      refine mv_irem (pc := 38) d_Mo_readThing_38 (by decide) ?_
      refine mv_iconst (v := 1) (pc := 39) d_Mo_readThing_39 (by decide) ?_
      refine mv_ic_ne 47 (pc := 40) d_Mo_readThing_40 (by decide) (fun _ => ?_) (fun z => absurd z (by decide))
      refine mv_iconst (v := 0) (pc := 47) d_Mo_readThing_47 (by decide) ?_
      refine mr_puti (pc := 48) d_Mo_readThing_48 fl_Mo_139 hM.1 rfl (by decide) ⟨rfl, rfl⟩ ?_
      refine mv_iload_n (pc := 51) d_Mo_readThing_51 rfl ?_
      refine mv_if_le 185 (pc := 52) d_Mo_readThing_52 (by decide) (fun z => absurd z (by decide)) (fun _ => ?_)
      refine mv_aload_n (pc := 55) d_Mo_readThing_55 rfl ?_
      refine mv_iload_n (pc := 56) d_Mo_readThing_56 rfl ?_
      refine mv_aload_n (pc := 57) d_Mo_readThing_57 rfl ?_
      refine mv_iconst (v := 2) (pc := 58) d_Mo_readThing_58 (by decide) ?_
      refine mv_iconst (v := 0) (pc := 59) d_Mo_readThing_59 (by decide) ?_
      refine mv_sipush (v := 4095) (pc := 60) d_Mo_readThing_60 (by decide) ?_
      refine mr_callV3 (pc := 63) d_Mo_readThing_63 (d2 := (1, 23)) ok_Mo_readIn li_Mo_149 sv_Mo_readIn hM.1 ⟨by decide, rfl⟩ ⟨by decide, rfl, rfl, rfl, Nat.le_of_ble_eq_true rfl, rfl, by decide, by decide⟩ ?_
      refine c_mreadIn0 (h := mm_wi h (mm_u2 (mm_u2 F1 55 (16 * 1 + i) (1)) 52 23 0)) (n := 2) hM (by omega) (by simp [mm_gwi, mm_u2, mm_uwi]) (fun F2 r2 f2 => ?_)
      have T2 := (((((((TS.init (mm_gi h) (16 * 1 + i)).ffr f1)).put 1 (by omega) (by omega) (1))).snd 0)).ffr f2
      refine mv_iconst (v := 0) (pc := 66) d_Mo_readThing_66 (by decide) ?_
      refine mr_callV3 (pc := 67) d_Mo_readThing_67 (d2 := (0, 0)) ok_Mo_make li_Mo_98 sv_Mo_make hM.1 ⟨by decide, rfl⟩ ⟨by decide, rfl, rfl, rfl, Nat.le_of_ble_eq_true rfl, rfl, by decide, by decide⟩ ?_
      refine c_make (k := 1) (h := mm_wi h F2) (by omega) hM hi (RM_self F2 1) (fun F20 _ _ e20 => ?_)
      have T20 := T2.make e20
      have z20 : F20 52 23 = 0 := by rw [e20]; simpa [mm_gwi] using r2
      refine mv_aload_n (pc := 70) d_Mo_readThing_70 rfl ?_
      refine mr_getr (pc := 71) d_Mo_readThing_71 fl_Mo_23 hM.1 rfl (by decide) hM.g_py ?_
      refine mv_iload_n (pc := 74) d_Mo_readThing_74 rfl ?_
      refine mv_aload_n (pc := 75) d_Mo_readThing_75 rfl ?_
      refine mv_iconst (v := 2) (pc := 76) d_Mo_readThing_76 (by decide) ?_
      refine mv_iconst (v := 0) (pc := 77) d_Mo_readThing_77 (by decide) ?_
      refine mv_sipush (v := 4095) (pc := 78) d_Mo_readThing_78 (by decide) ?_
      refine mr_callV3 (pc := 81) d_Mo_readThing_81 (d2 := (1, 23)) ok_Mo_readIn li_Mo_149 sv_Mo_readIn hM.1 ⟨by decide, rfl⟩ ⟨by decide, rfl, rfl, rfl, Nat.le_of_ble_eq_true rfl, rfl, by decide, by decide⟩ ?_
      refine c_mreadIn0 (h := mm_wi h F20) (n := 2) hM (by omega) (by simp [mm_gwi, mm_u2, mm_uwi, z20]) (fun F3 r3 f3 => ?_)
      have T3 := (T20).ffr f3
      refine mr_iast (pc := 84) d_Mo_readThing_84 hM.a_py (mm_inN (by omega) (by decide)) ?_
      rw [mm_cl (n := 16 * 1 + i) (by omega)]
      refine mv_aload_n (pc := 85) d_Mo_readThing_85 rfl ?_
      refine mr_getr (pc := 86) d_Mo_readThing_86 fl_Mo_26 hM.1 rfl (by decide) hM.g_sx ?_
      refine mv_iload_n (pc := 89) d_Mo_readThing_89 rfl ?_
      refine mv_aload_n (pc := 90) d_Mo_readThing_90 rfl ?_
      refine mv_iconst (v := 1) (pc := 91) d_Mo_readThing_91 (by decide) ?_
      refine mv_bipush (v := 28) (pc := 92) d_Mo_readThing_92 (by decide) ?_
      refine mv_sipush (v := 228) (pc := 94) d_Mo_readThing_94 (by decide) ?_
      refine mr_callV3 (pc := 97) d_Mo_readThing_97 (d2 := (1, 23)) ok_Mo_readIn li_Mo_149 sv_Mo_readIn hM.1 ⟨by decide, rfl⟩ ⟨by decide, rfl, rfl, rfl, Nat.le_of_ble_eq_true rfl, rfl, by decide, by decide⟩ ?_
      refine c_mreadIn0 (h := mm_wi h (mm_u2 F3 57 (16 * 1 + i) (0))) (n := 1) hM (by omega) (by simp [mm_gwi, mm_u2, mm_uwi, r3]) (fun F4 r4 f4 => ?_)
      have T4 := (((T3).put 3 (by omega) (by omega) (0))).ffr f4
      refine mv_sipush (v := 128) (pc := 100) d_Mo_readThing_100 (by decide) ?_
      refine mv_isub (pc := 103) d_Mo_readThing_103 ?_
      refine mr_iast (pc := 104) d_Mo_readThing_104 hM.a_sx (mm_inN (by omega) (by decide)) ?_
      rw [mm_cl (n := 16 * 1 + i) (by omega)]
      refine mv_aload_n (pc := 105) d_Mo_readThing_105 rfl ?_
      refine mr_getr (pc := 106) d_Mo_readThing_106 fl_Mo_29 hM.1 rfl (by decide) hM.g_sy ?_
      refine mv_iload_n (pc := 109) d_Mo_readThing_109 rfl ?_
      refine mv_aload_n (pc := 110) d_Mo_readThing_110 rfl ?_
      refine mv_iconst (v := 1) (pc := 111) d_Mo_readThing_111 (by decide) ?_
      refine mv_bipush (v := 28) (pc := 112) d_Mo_readThing_112 (by decide) ?_
      refine mv_sipush (v := 228) (pc := 114) d_Mo_readThing_114 (by decide) ?_
      refine mr_callV3 (pc := 117) d_Mo_readThing_117 (d2 := (1, 23)) ok_Mo_readIn li_Mo_149 sv_Mo_readIn hM.1 ⟨by decide, rfl⟩ ⟨by decide, rfl, rfl, rfl, Nat.le_of_ble_eq_true rfl, rfl, by decide, by decide⟩ ?_
      refine c_mreadIn0 (h := mm_wi h (mm_u2 F4 58 (16 * 1 + i) (28 - 128))) (n := 1) hM (by omega) (by simp [mm_gwi, mm_u2, mm_uwi, r4]) (fun F5 r5 f5 => ?_)
      have T5 := (((T4).put 4 (by omega) (by omega) (28 - 128))).ffr f5
      refine mv_sipush (v := 128) (pc := 120) d_Mo_readThing_120 (by decide) ?_
      refine mv_isub (pc := 123) d_Mo_readThing_123 ?_
      refine mr_iast (pc := 124) d_Mo_readThing_124 hM.a_sy (mm_inN (by omega) (by decide)) ?_
      rw [mm_cl (n := 16 * 1 + i) (by omega)]
      refine mv_iload_n (pc := 125) d_Mo_readThing_125 rfl ?_
      refine mv_iconst (v := 2) (pc := 126) d_Mo_readThing_126 (by decide) ?_
      refine mv_idiv (pc := 127) d_Mo_readThing_127 (by decide) ?_
      refine mv_iconst (v := 2) (pc := 128) d_Mo_readThing_128 (by decide) ?_
      refine mv_irem (pc := 129) d_Mo_readThing_129 (by decide) ?_
      refine mv_iconst (v := 1) (pc := 130) d_Mo_readThing_130 (by decide) ?_
      refine mv_ic_ne 164 (pc := 131) d_Mo_readThing_131 (by decide) (fun _ => ?_) (fun z => absurd z (by decide))
      refine mv_iload_n (pc := 164) d_Mo_readThing_164 rfl ?_
      refine mv_iconst (v := 4) (pc := 165) d_Mo_readThing_165 (by decide) ?_
      refine mv_idiv (pc := 166) d_Mo_readThing_166 (by decide) ?_
      refine mv_iconst (v := 1) (pc := 167) d_Mo_readThing_167 (by decide) ?_
      refine mv_ic_ne 185 (pc := 168) d_Mo_readThing_168 (by decide) (fun z => absurd z (by decide)) (fun _ => ?_)
      refine mv_aload_n (pc := 171) d_Mo_readThing_171 rfl ?_
      refine mr_getr (pc := 172) d_Mo_readThing_172 fl_Mo_38 hM.1 rfl (by decide) hM.g_left ?_
      refine mv_iload_n (pc := 175) d_Mo_readThing_175 rfl ?_
      refine mv_aload_n (pc := 176) d_Mo_readThing_176 rfl ?_
      refine mv_iconst (v := 2) (pc := 177) d_Mo_readThing_177 (by decide) ?_
      refine mv_iconst (v := 1) (pc := 178) d_Mo_readThing_178 (by decide) ?_
      refine mv_ldc (pc := 179) d_Mo_readThing_179 lc_Mo_109 ?_
      refine mr_callV3 (pc := 181) d_Mo_readThing_181 (d2 := (1, 23)) ok_Mo_readIn li_Mo_149 sv_Mo_readIn hM.1 ⟨by decide, rfl⟩ ⟨by decide, rfl, rfl, rfl, Nat.le_of_ble_eq_true rfl, rfl, by decide, by decide⟩ ?_
      refine c_mreadIn0 (h := mm_wi h (mm_u2 F5 59 (16 * 1 + i) (28 - 128))) (n := 2) hM (by omega) (by simp [mm_gwi, mm_u2, mm_uwi, r5]) (fun F6 r6 f6 => ?_)
      have T6 := (((T5).put 5 (by omega) (by omega) (28 - 128))).ffr f6
      refine mr_iast (pc := 184) d_Mo_readThing_184 hM.a_left (mm_inN (by omega) (by decide)) ?_
      rw [mm_cl (n := 16 * 1 + i) (by omega)]
      refine mv_ret (pc := 185) d_Mo_readThing_185 rfl ?_
      refine hq0 _ _ ((T6).put 8 (by omega) (by omega) (1)) (by simp [mm_gwi, mm_u2, mm_uwi, r6]) (fun g r hg e => ?_)
      obtain ⟨u1, u2⟩ := rs_use hb hg e
      rw [hkd] at u1
      have gn := kd_g u1 (by decide)
      exact (a_kind_bits gn).2.1 (by rw [← u1]; decide)
    · rw [hkd]
      refine mv_istore_n (pc := 8) d_Mo_readThing_8 (by decide) ?_
      refine mv_aload_n (pc := 9) d_Mo_readThing_9 rfl ?_
      refine mr_getr (pc := 10) d_Mo_readThing_10 fl_Mo_16 hM.1 rfl (by decide) hM.g_full ?_
      refine mv_iload_n (pc := 13) d_Mo_readThing_13 rfl ?_
      refine mv_iload_n (pc := 14) d_Mo_readThing_14 rfl ?_
      refine mv_if_le 22 (pc := 15) d_Mo_readThing_15 (by decide) (fun z => absurd z (by decide)) (fun _ => ?_)
      refine mv_iconst (v := 1) (pc := 18) d_Mo_readThing_18 (by decide) ?_
      refine mv_goto 23 (pc := 19) d_Mo_readThing_19 (by decide) ?_
      refine mr_zast (pc := 23) d_Mo_readThing_23 hM.a_full (mm_inN (by omega) (by decide)) ?_
      rw [mm_cl (n := 16 * 1 + i) (by omega), mm_nar1]
      refine mv_aload_n (pc := 24) d_Mo_readThing_24 rfl ?_
      refine mv_aload_n (pc := 25) d_Mo_readThing_25 rfl ?_
      refine mr_geti (pc := 26) d_Mo_readThing_26 fl_Mo_139 hM.1 rfl (by decide) ?_
      rw [show mm_gi (mm_si (mm_wi h F1) 55 (16 * 1 + i) 1) 52 23 = 1 from r1.1]
      refine mv_if_eq 47 (pc := 29) d_Mo_readThing_29 (by decide) (fun z => absurd z (by decide)) (fun h29 => ?_)
      refine mv_iload_n (pc := 32) d_Mo_readThing_32 rfl ?_
      refine mv_if_eq 43 (pc := 33) d_Mo_readThing_33 (by decide) (fun z => absurd z (by decide)) (fun _ => ?_)
      refine mv_iload_n (pc := 36) d_Mo_readThing_36 rfl ?_
      refine mv_iconst (v := 2) (pc := 37) d_Mo_readThing_37 (by decide) ?_
      refine mv_irem (pc := 38) d_Mo_readThing_38 (by decide) ?_
      refine mv_iconst (v := 1) (pc := 39) d_Mo_readThing_39 (by decide) ?_
      refine mv_ic_ne 47 (pc := 40) d_Mo_readThing_40 (by decide) (fun z => absurd z (by decide)) (fun _ => ?_)
      refine mv_iconst (v := 1) (pc := 43) d_Mo_readThing_43 (by decide) ?_
      refine mv_goto 48 (pc := 44) d_Mo_readThing_44 (by decide) ?_
      refine mr_puti (pc := 48) d_Mo_readThing_48 fl_Mo_139 hM.1 rfl (by decide) ⟨rfl, rfl⟩ ?_
      refine mv_iload_n (pc := 51) d_Mo_readThing_51 rfl ?_
      refine mv_if_le 185 (pc := 52) d_Mo_readThing_52 (by decide) (fun z => absurd z (by decide)) (fun _ => ?_)
      refine mv_aload_n (pc := 55) d_Mo_readThing_55 rfl ?_
      refine mv_iload_n (pc := 56) d_Mo_readThing_56 rfl ?_
      refine mv_aload_n (pc := 57) d_Mo_readThing_57 rfl ?_
      refine mv_iconst (v := 2) (pc := 58) d_Mo_readThing_58 (by decide) ?_
      refine mv_iconst (v := 0) (pc := 59) d_Mo_readThing_59 (by decide) ?_
      refine mv_sipush (v := 4095) (pc := 60) d_Mo_readThing_60 (by decide) ?_
      refine mr_callV3 (pc := 63) d_Mo_readThing_63 (d2 := (1, 23)) ok_Mo_readIn li_Mo_149 sv_Mo_readIn hM.1 ⟨by decide, rfl⟩ ⟨by decide, rfl, rfl, rfl, Nat.le_of_ble_eq_true rfl, rfl, by decide, by decide⟩ ?_
      refine c_mri (h := mm_wi h (mm_u2 (mm_u2 F1 55 (16 * 1 + i) (1)) 52 23 1)) (n := 2) (p := (mm_np sv (mm_np sv p 2) 1)) hM (by omega) (by decide) hl (hV.ts ((((((TS.init (mm_gi h) (16 * 1 + i)).ffr f1)).put 1 (by omega) (by omega) (1))).snd 1)) ((((r1).put (by decide) (1))).snd) (fun d2 F2 r2 f2 => ?_) (fun d2 F2 r2 f2 => ?_)
      · have T2 := (((((((TS.init (mm_gi h) (16 * 1 + i)).ffr f1)).put 1 (by omega) (by omega) (1))).snd 1)).ffr f2
        refine mv_iconst (v := 0) (pc := 66) d_Mo_readThing_66 (by decide) ?_
        refine mr_callV3 (pc := 67) d_Mo_readThing_67 (d2 := (0, 0)) ok_Mo_make li_Mo_98 sv_Mo_make hM.1 ⟨by decide, rfl⟩ ⟨by decide, rfl, rfl, rfl, Nat.le_of_ble_eq_true rfl, rfl, by decide, by decide⟩ ?_
        refine c_make (k := 1) (h := mm_wi h F2) (by omega) hM hi (RM_self F2 1) (fun F20 _ _ e20 => ?_)
        have T20 := T2.make e20
        have R20 : MR F20 sv (mm_np sv (mm_np sv (mm_np sv p 2) 1) 2) := ⟨by rw [e20]; simpa [mm_gwi] using r2.1, by rw [e20]; simpa [mm_gwi] using r2.2.1, r2.2.2⟩
        refine mv_aload_n (pc := 70) d_Mo_readThing_70 rfl ?_
        refine mr_getr (pc := 71) d_Mo_readThing_71 fl_Mo_23 hM.1 rfl (by decide) hM.g_py ?_
        refine mv_iload_n (pc := 74) d_Mo_readThing_74 rfl ?_
        refine mv_aload_n (pc := 75) d_Mo_readThing_75 rfl ?_
        refine mv_iconst (v := 2) (pc := 76) d_Mo_readThing_76 (by decide) ?_
        refine mv_iconst (v := 0) (pc := 77) d_Mo_readThing_77 (by decide) ?_
        refine mv_sipush (v := 4095) (pc := 78) d_Mo_readThing_78 (by decide) ?_
        refine mr_callV3 (pc := 81) d_Mo_readThing_81 (d2 := (1, 23)) ok_Mo_readIn li_Mo_149 sv_Mo_readIn hM.1 ⟨by decide, rfl⟩ ⟨by decide, rfl, rfl, rfl, Nat.le_of_ble_eq_true rfl, rfl, by decide, by decide⟩ ?_
        refine c_mri (h := mm_wi h F20) (n := 2) (p := (mm_np sv (mm_np sv (mm_np sv p 2) 1) 2)) hM (by omega) (by decide) hl (hV.ts T20) R20 (fun d3 F3 r3 f3 => ?_) (fun d3 F3 r3 f3 => ?_)
        · have T3 := (T20).ffr f3
          refine mr_iast (pc := 84) d_Mo_readThing_84 hM.a_py (mm_inN (by omega) (by decide)) ?_
          rw [mm_cl (n := 16 * 1 + i) (by omega)]
          refine mv_aload_n (pc := 85) d_Mo_readThing_85 rfl ?_
          refine mr_getr (pc := 86) d_Mo_readThing_86 fl_Mo_26 hM.1 rfl (by decide) hM.g_sx ?_
          refine mv_iload_n (pc := 89) d_Mo_readThing_89 rfl ?_
          refine mv_aload_n (pc := 90) d_Mo_readThing_90 rfl ?_
          refine mv_iconst (v := 1) (pc := 91) d_Mo_readThing_91 (by decide) ?_
          refine mv_bipush (v := 28) (pc := 92) d_Mo_readThing_92 (by decide) ?_
          refine mv_sipush (v := 228) (pc := 94) d_Mo_readThing_94 (by decide) ?_
          refine mr_callV3 (pc := 97) d_Mo_readThing_97 (d2 := (1, 23)) ok_Mo_readIn li_Mo_149 sv_Mo_readIn hM.1 ⟨by decide, rfl⟩ ⟨by decide, rfl, rfl, rfl, Nat.le_of_ble_eq_true rfl, rfl, by decide, by decide⟩ ?_
          refine c_mri (h := mm_wi h (mm_u2 F3 57 (16 * 1 + i) ((mm_nv sv (mm_np sv (mm_np sv (mm_np sv p 2) 1) 2) 2)))) (n := 1) (p := (mm_np sv (mm_np sv (mm_np sv (mm_np sv p 2) 1) 2) 2)) hM (by omega) (by decide) hl (hV.ts ((T3).put 3 (by omega) (by omega) ((mm_nv sv (mm_np sv (mm_np sv (mm_np sv p 2) 1) 2) 2)))) ((r3).put (by decide) ((mm_nv sv (mm_np sv (mm_np sv (mm_np sv p 2) 1) 2) 2))) (fun d4 F4 r4 f4 => ?_) (fun d4 F4 r4 f4 => ?_)
          · have T4 := (((T3).put 3 (by omega) (by omega) ((mm_nv sv (mm_np sv (mm_np sv (mm_np sv p 2) 1) 2) 2)))).ffr f4
            refine mv_sipush (v := 128) (pc := 100) d_Mo_readThing_100 (by decide) ?_
            refine mv_isub (pc := 103) d_Mo_readThing_103 ?_
            refine mr_iast (pc := 104) d_Mo_readThing_104 hM.a_sx (mm_inN (by omega) (by decide)) ?_
            rw [mm_cl (n := 16 * 1 + i) (by omega)]
            refine mv_aload_n (pc := 105) d_Mo_readThing_105 rfl ?_
            refine mr_getr (pc := 106) d_Mo_readThing_106 fl_Mo_29 hM.1 rfl (by decide) hM.g_sy ?_
            refine mv_iload_n (pc := 109) d_Mo_readThing_109 rfl ?_
            refine mv_aload_n (pc := 110) d_Mo_readThing_110 rfl ?_
            refine mv_iconst (v := 1) (pc := 111) d_Mo_readThing_111 (by decide) ?_
            refine mv_bipush (v := 28) (pc := 112) d_Mo_readThing_112 (by decide) ?_
            refine mv_sipush (v := 228) (pc := 114) d_Mo_readThing_114 (by decide) ?_
            refine mr_callV3 (pc := 117) d_Mo_readThing_117 (d2 := (1, 23)) ok_Mo_readIn li_Mo_149 sv_Mo_readIn hM.1 ⟨by decide, rfl⟩ ⟨by decide, rfl, rfl, rfl, Nat.le_of_ble_eq_true rfl, rfl, by decide, by decide⟩ ?_
            refine c_mri (h := mm_wi h (mm_u2 F4 58 (16 * 1 + i) ((mm_nv sv (mm_np sv (mm_np sv (mm_np sv (mm_np sv p 2) 1) 2) 2) 1) - 128))) (n := 1) (p := (mm_np sv (mm_np sv (mm_np sv (mm_np sv (mm_np sv p 2) 1) 2) 2) 1)) hM (by omega) (by decide) hl (hV.ts ((T4).put 4 (by omega) (by omega) ((mm_nv sv (mm_np sv (mm_np sv (mm_np sv (mm_np sv p 2) 1) 2) 2) 1) - 128))) ((r4).put (by decide) ((mm_nv sv (mm_np sv (mm_np sv (mm_np sv (mm_np sv p 2) 1) 2) 2) 1) - 128)) (fun d5 F5 r5 f5 => ?_) (fun d5 F5 r5 f5 => ?_)
            · have T5 := (((T4).put 4 (by omega) (by omega) ((mm_nv sv (mm_np sv (mm_np sv (mm_np sv (mm_np sv p 2) 1) 2) 2) 1) - 128))).ffr f5
              refine mv_sipush (v := 128) (pc := 120) d_Mo_readThing_120 (by decide) ?_
              refine mv_isub (pc := 123) d_Mo_readThing_123 ?_
              refine mr_iast (pc := 124) d_Mo_readThing_124 hM.a_sy (mm_inN (by omega) (by decide)) ?_
              rw [mm_cl (n := 16 * 1 + i) (by omega)]
              refine mv_iload_n (pc := 125) d_Mo_readThing_125 rfl ?_
              refine mv_iconst (v := 2) (pc := 126) d_Mo_readThing_126 (by decide) ?_
              refine mv_idiv (pc := 127) d_Mo_readThing_127 (by decide) ?_
              refine mv_iconst (v := 2) (pc := 128) d_Mo_readThing_128 (by decide) ?_
              refine mv_irem (pc := 129) d_Mo_readThing_129 (by decide) ?_
              refine mv_iconst (v := 1) (pc := 130) d_Mo_readThing_130 (by decide) ?_
              refine mv_ic_ne 164 (pc := 131) d_Mo_readThing_131 (by decide) (fun _ => ?_) (fun z => absurd z (by decide))
              refine mv_iload_n (pc := 164) d_Mo_readThing_164 rfl ?_
              refine mv_iconst (v := 4) (pc := 165) d_Mo_readThing_165 (by decide) ?_
              refine mv_idiv (pc := 166) d_Mo_readThing_166 (by decide) ?_
              refine mv_iconst (v := 1) (pc := 167) d_Mo_readThing_167 (by decide) ?_
              refine mv_ic_ne 185 (pc := 168) d_Mo_readThing_168 (by decide) (fun z => absurd z (by decide)) (fun _ => ?_)
              refine mv_aload_n (pc := 171) d_Mo_readThing_171 rfl ?_
              refine mr_getr (pc := 172) d_Mo_readThing_172 fl_Mo_38 hM.1 rfl (by decide) hM.g_left ?_
              refine mv_iload_n (pc := 175) d_Mo_readThing_175 rfl ?_
              refine mv_aload_n (pc := 176) d_Mo_readThing_176 rfl ?_
              refine mv_iconst (v := 2) (pc := 177) d_Mo_readThing_177 (by decide) ?_
              refine mv_iconst (v := 1) (pc := 178) d_Mo_readThing_178 (by decide) ?_
              refine mv_ldc (pc := 179) d_Mo_readThing_179 lc_Mo_109 ?_
              refine mr_callV3 (pc := 181) d_Mo_readThing_181 (d2 := (1, 23)) ok_Mo_readIn li_Mo_149 sv_Mo_readIn hM.1 ⟨by decide, rfl⟩ ⟨by decide, rfl, rfl, rfl, Nat.le_of_ble_eq_true rfl, rfl, by decide, by decide⟩ ?_
              refine c_mri (h := mm_wi h (mm_u2 F5 59 (16 * 1 + i) ((mm_nv sv (mm_np sv (mm_np sv (mm_np sv (mm_np sv (mm_np sv p 2) 1) 2) 2) 1) 1) - 128))) (n := 2) (p := (mm_np sv (mm_np sv (mm_np sv (mm_np sv (mm_np sv (mm_np sv p 2) 1) 2) 2) 1) 1)) hM (by omega) (by decide) hl (hV.ts ((T5).put 5 (by omega) (by omega) ((mm_nv sv (mm_np sv (mm_np sv (mm_np sv (mm_np sv (mm_np sv p 2) 1) 2) 2) 1) 1) - 128))) ((r5).put (by decide) ((mm_nv sv (mm_np sv (mm_np sv (mm_np sv (mm_np sv (mm_np sv p 2) 1) 2) 2) 1) 1) - 128)) (fun d6 F6 r6 f6 => ?_) (fun d6 F6 r6 f6 => ?_)
              · have T6 := (((T5).put 5 (by omega) (by omega) ((mm_nv sv (mm_np sv (mm_np sv (mm_np sv (mm_np sv (mm_np sv p 2) 1) 2) 2) 1) 1) - 128))).ffr f6
                refine mr_iast (pc := 184) d_Mo_readThing_184 hM.a_left (mm_inN (by omega) (by decide)) ?_
                rw [mm_cl (n := 16 * 1 + i) (by omega)]
                refine mv_ret (pc := 185) d_Mo_readThing_185 rfl ?_
                have er : sv.drop (rT sv (mm_np sv (mm_np sv p 2) 1)) = a_sh (fun k => if k = 8 then (mm_nv sv (mm_np sv (mm_np sv (mm_np sv (mm_np sv (mm_np sv (mm_np sv p 2) 1) 2) 2) 1) 1) 2) else (fun k => if k = 5 then (mm_nv sv (mm_np sv (mm_np sv (mm_np sv (mm_np sv (mm_np sv p 2) 1) 2) 2) 1) 1) - 128 else (fun k => if k = 4 then (mm_nv sv (mm_np sv (mm_np sv (mm_np sv (mm_np sv p 2) 1) 2) 2) 1) - 128 else (fun k => if k = 3 then (mm_nv sv (mm_np sv (mm_np sv (mm_np sv p 2) 1) 2) 2) else (fun k => if k = 0 then (fun k => if k = 1 then 1 else (fun k => mm_gi h (54 + k) (16 * 1 + i)) k) 0 else if k = 1 then 1 else if k = 2 then (mm_nv sv (mm_np sv (mm_np sv p 2) 1) 2) else if k = 3 then 0 else 0) k) k) k) k) ++ (a_ti (fun k => if k = 8 then (mm_nv sv (mm_np sv (mm_np sv (mm_np sv (mm_np sv (mm_np sv (mm_np sv p 2) 1) 2) 2) 1) 1) 2) else (fun k => if k = 5 then (mm_nv sv (mm_np sv (mm_np sv (mm_np sv (mm_np sv (mm_np sv p 2) 1) 2) 2) 1) 1) - 128 else (fun k => if k = 4 then (mm_nv sv (mm_np sv (mm_np sv (mm_np sv (mm_np sv p 2) 1) 2) 2) 1) - 128 else (fun k => if k = 3 then (mm_nv sv (mm_np sv (mm_np sv (mm_np sv p 2) 1) 2) 2) else (fun k => if k = 0 then (fun k => if k = 1 then 1 else (fun k => mm_gi h (54 + k) (16 * 1 + i)) k) 0 else if k = 1 then 1 else if k = 2 then (mm_nv sv (mm_np sv (mm_np sv p 2) 1) 2) else if k = 3 then 0 else 0) k) k) k) k) ++ sv.drop (mm_np sv (mm_np sv (mm_np sv (mm_np sv (mm_np sv (mm_np sv (mm_np sv p 2) 1) 2) 2) 1) 1) 2)) := by
                  show _ = (if 0 < (0 : Int32) then mm_enc 0 1 ++ mm_enc 0 1 else []) ++ ((if 0 < (mm_nv sv (mm_np sv (mm_np sv (mm_np sv (mm_np sv (mm_np sv (mm_np sv p 2) 1) 2) 2) 1) 1) 2) then mm_enc (mm_nv sv (mm_np sv (mm_np sv (mm_np sv (mm_np sv (mm_np sv (mm_np sv p 2) 1) 2) 2) 1) 1) 2) 2 else []) ++ _)
                  rw [if_neg (by decide), List.nil_append]
                  have e6 := nv_pos hb (n := 2) (by omega) (nv_ge (a := 1) (by decide) d6.1)
                  rw [if_pos (Int32.lt_of_lt_of_le (by decide) d6.1), ← e6]
                  rfl
                obtain ⟨w1, w2⟩ := rs_full (f := (fun k => if k = 8 then (mm_nv sv (mm_np sv (mm_np sv (mm_np sv (mm_np sv (mm_np sv (mm_np sv p 2) 1) 2) 2) 1) 1) 2) else (fun k => if k = 5 then (mm_nv sv (mm_np sv (mm_np sv (mm_np sv (mm_np sv (mm_np sv p 2) 1) 2) 2) 1) 1) - 128 else (fun k => if k = 4 then (mm_nv sv (mm_np sv (mm_np sv (mm_np sv (mm_np sv p 2) 1) 2) 2) 1) - 128 else (fun k => if k = 3 then (mm_nv sv (mm_np sv (mm_np sv (mm_np sv p 2) 1) 2) 2) else (fun k => if k = 0 then (fun k => if k = 1 then 1 else (fun k => mm_gi h (54 + k) (16 * 1 + i)) k) 0 else if k = 1 then 1 else if k = 2 then (mm_nv sv (mm_np sv (mm_np sv p 2) 1) 2) else if k = 3 then 0 else 0) k) k) k) k)) hb hkd.symm ⟨by decide, by decide⟩ ⟨⟨d2, d3⟩, ⟨f_28 d4, f_28 d5⟩⟩ hgen rfl rfl rfl rfl rfl (Or.inl ⟨by decide, rfl, rfl⟩) (Or.inr ⟨by decide, d6⟩) er
                exact hq1 _ _ _ ((T6).put 8 (by omega) (by omega) ((mm_nv sv (mm_np sv (mm_np sv (mm_np sv (mm_np sv (mm_np sv (mm_np sv p 2) 1) 2) 2) 1) 1) 2))) ((r6).put (by decide) ((mm_nv sv (mm_np sv (mm_np sv (mm_np sv (mm_np sv (mm_np sv (mm_np sv p 2) 1) 2) 2) 1) 1) 2))) w1 w2
              · have T6 := (((T5).put 5 (by omega) (by omega) ((mm_nv sv (mm_np sv (mm_np sv (mm_np sv (mm_np sv (mm_np sv p 2) 1) 2) 2) 1) 1) - 128))).ffr f6
                refine mr_iast (pc := 184) d_Mo_readThing_184 hM.a_left (mm_inN (by omega) (by decide)) ?_
                rw [mm_cl (n := 16 * 1 + i) (by omega)]
                refine mv_ret (pc := 185) d_Mo_readThing_185 rfl ?_
                refine hq0 _ _ ((T6).put 8 (by omega) (by omega) (1)) (by simp [mm_gwi, mm_u2, mm_uwi, r6]) (fun g r hg e => ?_)
                obtain ⟨u1, u2⟩ := rs_use hb hg e
                rw [hkd] at u1
                have gn := kd_g u1 (by decide)
                have c8 : 0 < g 8 := Classical.not_not.mp fun z => absurd ((a_kind_bits gn).2.2.2.2.mpr z) (by rw [← u1]; decide)
                have c6 : ¬ 0 < g 6 := (a_kind_bits gn).2.2.2.1.mp (by rw [← u1]; decide)
                have e6 := (u2 gn).2
                rw [a_sh, if_neg c6, List.nil_append] at e6
                exact d6 (ti_use hb hg gn c8 e6)
            · have T5 := (((T4).put 4 (by omega) (by omega) ((mm_nv sv (mm_np sv (mm_np sv (mm_np sv (mm_np sv p 2) 1) 2) 2) 1) - 128))).ffr f5
              refine mv_sipush (v := 128) (pc := 120) d_Mo_readThing_120 (by decide) ?_
              refine mv_isub (pc := 123) d_Mo_readThing_123 ?_
              refine mr_iast (pc := 124) d_Mo_readThing_124 hM.a_sy (mm_inN (by omega) (by decide)) ?_
              rw [mm_cl (n := 16 * 1 + i) (by omega)]
              refine mv_iload_n (pc := 125) d_Mo_readThing_125 rfl ?_
              refine mv_iconst (v := 2) (pc := 126) d_Mo_readThing_126 (by decide) ?_
              refine mv_idiv (pc := 127) d_Mo_readThing_127 (by decide) ?_
              refine mv_iconst (v := 2) (pc := 128) d_Mo_readThing_128 (by decide) ?_
              refine mv_irem (pc := 129) d_Mo_readThing_129 (by decide) ?_
              refine mv_iconst (v := 1) (pc := 130) d_Mo_readThing_130 (by decide) ?_
              refine mv_ic_ne 164 (pc := 131) d_Mo_readThing_131 (by decide) (fun _ => ?_) (fun z => absurd z (by decide))
              refine mv_iload_n (pc := 164) d_Mo_readThing_164 rfl ?_
              refine mv_iconst (v := 4) (pc := 165) d_Mo_readThing_165 (by decide) ?_
              refine mv_idiv (pc := 166) d_Mo_readThing_166 (by decide) ?_
              refine mv_iconst (v := 1) (pc := 167) d_Mo_readThing_167 (by decide) ?_
              refine mv_ic_ne 185 (pc := 168) d_Mo_readThing_168 (by decide) (fun z => absurd z (by decide)) (fun _ => ?_)
              refine mv_aload_n (pc := 171) d_Mo_readThing_171 rfl ?_
              refine mr_getr (pc := 172) d_Mo_readThing_172 fl_Mo_38 hM.1 rfl (by decide) hM.g_left ?_
              refine mv_iload_n (pc := 175) d_Mo_readThing_175 rfl ?_
              refine mv_aload_n (pc := 176) d_Mo_readThing_176 rfl ?_
              refine mv_iconst (v := 2) (pc := 177) d_Mo_readThing_177 (by decide) ?_
              refine mv_iconst (v := 1) (pc := 178) d_Mo_readThing_178 (by decide) ?_
              refine mv_ldc (pc := 179) d_Mo_readThing_179 lc_Mo_109 ?_
              refine mr_callV3 (pc := 181) d_Mo_readThing_181 (d2 := (1, 23)) ok_Mo_readIn li_Mo_149 sv_Mo_readIn hM.1 ⟨by decide, rfl⟩ ⟨by decide, rfl, rfl, rfl, Nat.le_of_ble_eq_true rfl, rfl, by decide, by decide⟩ ?_
              refine c_mreadIn0 (h := mm_wi h (mm_u2 F5 59 (16 * 1 + i) (28 - 128))) (n := 2) hM (by omega) (by simp [mm_gwi, mm_u2, mm_uwi, r5]) (fun F6 r6 f6 => ?_)
              have T6 := (((T5).put 5 (by omega) (by omega) (28 - 128))).ffr f6
              refine mr_iast (pc := 184) d_Mo_readThing_184 hM.a_left (mm_inN (by omega) (by decide)) ?_
              rw [mm_cl (n := 16 * 1 + i) (by omega)]
              refine mv_ret (pc := 185) d_Mo_readThing_185 rfl ?_
              refine hq0 _ _ ((T6).put 8 (by omega) (by omega) (1)) (by simp [mm_gwi, mm_u2, mm_uwi, r6]) (fun g r hg e => ?_)
              obtain ⟨u1, u2⟩ := rs_use hb hg e
              rw [hkd] at u1
              have gn := kd_g u1 (by decide)
              exact d5 (f_28i (u2 gn).1.2.2 (nv_rng1 hb _))
          · have T4 := (((T3).put 3 (by omega) (by omega) ((mm_nv sv (mm_np sv (mm_np sv (mm_np sv p 2) 1) 2) 2)))).ffr f4
            refine mv_sipush (v := 128) (pc := 100) d_Mo_readThing_100 (by decide) ?_
            refine mv_isub (pc := 103) d_Mo_readThing_103 ?_
            refine mr_iast (pc := 104) d_Mo_readThing_104 hM.a_sx (mm_inN (by omega) (by decide)) ?_
            rw [mm_cl (n := 16 * 1 + i) (by omega)]
            refine mv_aload_n (pc := 105) d_Mo_readThing_105 rfl ?_
            refine mr_getr (pc := 106) d_Mo_readThing_106 fl_Mo_29 hM.1 rfl (by decide) hM.g_sy ?_
            refine mv_iload_n (pc := 109) d_Mo_readThing_109 rfl ?_
            refine mv_aload_n (pc := 110) d_Mo_readThing_110 rfl ?_
            refine mv_iconst (v := 1) (pc := 111) d_Mo_readThing_111 (by decide) ?_
            refine mv_bipush (v := 28) (pc := 112) d_Mo_readThing_112 (by decide) ?_
            refine mv_sipush (v := 228) (pc := 114) d_Mo_readThing_114 (by decide) ?_
            refine mr_callV3 (pc := 117) d_Mo_readThing_117 (d2 := (1, 23)) ok_Mo_readIn li_Mo_149 sv_Mo_readIn hM.1 ⟨by decide, rfl⟩ ⟨by decide, rfl, rfl, rfl, Nat.le_of_ble_eq_true rfl, rfl, by decide, by decide⟩ ?_
            refine c_mreadIn0 (h := mm_wi h (mm_u2 F4 58 (16 * 1 + i) (28 - 128))) (n := 1) hM (by omega) (by simp [mm_gwi, mm_u2, mm_uwi, r4]) (fun F5 r5 f5 => ?_)
            have T5 := (((T4).put 4 (by omega) (by omega) (28 - 128))).ffr f5
            refine mv_sipush (v := 128) (pc := 120) d_Mo_readThing_120 (by decide) ?_
            refine mv_isub (pc := 123) d_Mo_readThing_123 ?_
            refine mr_iast (pc := 124) d_Mo_readThing_124 hM.a_sy (mm_inN (by omega) (by decide)) ?_
            rw [mm_cl (n := 16 * 1 + i) (by omega)]
            refine mv_iload_n (pc := 125) d_Mo_readThing_125 rfl ?_
            refine mv_iconst (v := 2) (pc := 126) d_Mo_readThing_126 (by decide) ?_
            refine mv_idiv (pc := 127) d_Mo_readThing_127 (by decide) ?_
            refine mv_iconst (v := 2) (pc := 128) d_Mo_readThing_128 (by decide) ?_
            refine mv_irem (pc := 129) d_Mo_readThing_129 (by decide) ?_
            refine mv_iconst (v := 1) (pc := 130) d_Mo_readThing_130 (by decide) ?_
            refine mv_ic_ne 164 (pc := 131) d_Mo_readThing_131 (by decide) (fun _ => ?_) (fun z => absurd z (by decide))
            refine mv_iload_n (pc := 164) d_Mo_readThing_164 rfl ?_
            refine mv_iconst (v := 4) (pc := 165) d_Mo_readThing_165 (by decide) ?_
            refine mv_idiv (pc := 166) d_Mo_readThing_166 (by decide) ?_
            refine mv_iconst (v := 1) (pc := 167) d_Mo_readThing_167 (by decide) ?_
            refine mv_ic_ne 185 (pc := 168) d_Mo_readThing_168 (by decide) (fun z => absurd z (by decide)) (fun _ => ?_)
            refine mv_aload_n (pc := 171) d_Mo_readThing_171 rfl ?_
            refine mr_getr (pc := 172) d_Mo_readThing_172 fl_Mo_38 hM.1 rfl (by decide) hM.g_left ?_
            refine mv_iload_n (pc := 175) d_Mo_readThing_175 rfl ?_
            refine mv_aload_n (pc := 176) d_Mo_readThing_176 rfl ?_
            refine mv_iconst (v := 2) (pc := 177) d_Mo_readThing_177 (by decide) ?_
            refine mv_iconst (v := 1) (pc := 178) d_Mo_readThing_178 (by decide) ?_
            refine mv_ldc (pc := 179) d_Mo_readThing_179 lc_Mo_109 ?_
            refine mr_callV3 (pc := 181) d_Mo_readThing_181 (d2 := (1, 23)) ok_Mo_readIn li_Mo_149 sv_Mo_readIn hM.1 ⟨by decide, rfl⟩ ⟨by decide, rfl, rfl, rfl, Nat.le_of_ble_eq_true rfl, rfl, by decide, by decide⟩ ?_
            refine c_mreadIn0 (h := mm_wi h (mm_u2 F5 59 (16 * 1 + i) (28 - 128))) (n := 2) hM (by omega) (by simp [mm_gwi, mm_u2, mm_uwi, r5]) (fun F6 r6 f6 => ?_)
            have T6 := (((T5).put 5 (by omega) (by omega) (28 - 128))).ffr f6
            refine mr_iast (pc := 184) d_Mo_readThing_184 hM.a_left (mm_inN (by omega) (by decide)) ?_
            rw [mm_cl (n := 16 * 1 + i) (by omega)]
            refine mv_ret (pc := 185) d_Mo_readThing_185 rfl ?_
            refine hq0 _ _ ((T6).put 8 (by omega) (by omega) (1)) (by simp [mm_gwi, mm_u2, mm_uwi, r6]) (fun g r hg e => ?_)
            obtain ⟨u1, u2⟩ := rs_use hb hg e
            rw [hkd] at u1
            have gn := kd_g u1 (by decide)
            exact d4 (f_28i (u2 gn).1.2.1 (nv_rng1 hb _))
        · have T3 := (T20).ffr f3
          refine mr_iast (pc := 84) d_Mo_readThing_84 hM.a_py (mm_inN (by omega) (by decide)) ?_
          rw [mm_cl (n := 16 * 1 + i) (by omega)]
          refine mv_aload_n (pc := 85) d_Mo_readThing_85 rfl ?_
          refine mr_getr (pc := 86) d_Mo_readThing_86 fl_Mo_26 hM.1 rfl (by decide) hM.g_sx ?_
          refine mv_iload_n (pc := 89) d_Mo_readThing_89 rfl ?_
          refine mv_aload_n (pc := 90) d_Mo_readThing_90 rfl ?_
          refine mv_iconst (v := 1) (pc := 91) d_Mo_readThing_91 (by decide) ?_
          refine mv_bipush (v := 28) (pc := 92) d_Mo_readThing_92 (by decide) ?_
          refine mv_sipush (v := 228) (pc := 94) d_Mo_readThing_94 (by decide) ?_
          refine mr_callV3 (pc := 97) d_Mo_readThing_97 (d2 := (1, 23)) ok_Mo_readIn li_Mo_149 sv_Mo_readIn hM.1 ⟨by decide, rfl⟩ ⟨by decide, rfl, rfl, rfl, Nat.le_of_ble_eq_true rfl, rfl, by decide, by decide⟩ ?_
          refine c_mreadIn0 (h := mm_wi h (mm_u2 F3 57 (16 * 1 + i) (0))) (n := 1) hM (by omega) (by simp [mm_gwi, mm_u2, mm_uwi, r3]) (fun F4 r4 f4 => ?_)
          have T4 := (((T3).put 3 (by omega) (by omega) (0))).ffr f4
          refine mv_sipush (v := 128) (pc := 100) d_Mo_readThing_100 (by decide) ?_
          refine mv_isub (pc := 103) d_Mo_readThing_103 ?_
          refine mr_iast (pc := 104) d_Mo_readThing_104 hM.a_sx (mm_inN (by omega) (by decide)) ?_
          rw [mm_cl (n := 16 * 1 + i) (by omega)]
          refine mv_aload_n (pc := 105) d_Mo_readThing_105 rfl ?_
          refine mr_getr (pc := 106) d_Mo_readThing_106 fl_Mo_29 hM.1 rfl (by decide) hM.g_sy ?_
          refine mv_iload_n (pc := 109) d_Mo_readThing_109 rfl ?_
          refine mv_aload_n (pc := 110) d_Mo_readThing_110 rfl ?_
          refine mv_iconst (v := 1) (pc := 111) d_Mo_readThing_111 (by decide) ?_
          refine mv_bipush (v := 28) (pc := 112) d_Mo_readThing_112 (by decide) ?_
          refine mv_sipush (v := 228) (pc := 114) d_Mo_readThing_114 (by decide) ?_
          refine mr_callV3 (pc := 117) d_Mo_readThing_117 (d2 := (1, 23)) ok_Mo_readIn li_Mo_149 sv_Mo_readIn hM.1 ⟨by decide, rfl⟩ ⟨by decide, rfl, rfl, rfl, Nat.le_of_ble_eq_true rfl, rfl, by decide, by decide⟩ ?_
          refine c_mreadIn0 (h := mm_wi h (mm_u2 F4 58 (16 * 1 + i) (28 - 128))) (n := 1) hM (by omega) (by simp [mm_gwi, mm_u2, mm_uwi, r4]) (fun F5 r5 f5 => ?_)
          have T5 := (((T4).put 4 (by omega) (by omega) (28 - 128))).ffr f5
          refine mv_sipush (v := 128) (pc := 120) d_Mo_readThing_120 (by decide) ?_
          refine mv_isub (pc := 123) d_Mo_readThing_123 ?_
          refine mr_iast (pc := 124) d_Mo_readThing_124 hM.a_sy (mm_inN (by omega) (by decide)) ?_
          rw [mm_cl (n := 16 * 1 + i) (by omega)]
          refine mv_iload_n (pc := 125) d_Mo_readThing_125 rfl ?_
          refine mv_iconst (v := 2) (pc := 126) d_Mo_readThing_126 (by decide) ?_
          refine mv_idiv (pc := 127) d_Mo_readThing_127 (by decide) ?_
          refine mv_iconst (v := 2) (pc := 128) d_Mo_readThing_128 (by decide) ?_
          refine mv_irem (pc := 129) d_Mo_readThing_129 (by decide) ?_
          refine mv_iconst (v := 1) (pc := 130) d_Mo_readThing_130 (by decide) ?_
          refine mv_ic_ne 164 (pc := 131) d_Mo_readThing_131 (by decide) (fun _ => ?_) (fun z => absurd z (by decide))
          refine mv_iload_n (pc := 164) d_Mo_readThing_164 rfl ?_
          refine mv_iconst (v := 4) (pc := 165) d_Mo_readThing_165 (by decide) ?_
          refine mv_idiv (pc := 166) d_Mo_readThing_166 (by decide) ?_
          refine mv_iconst (v := 1) (pc := 167) d_Mo_readThing_167 (by decide) ?_
          refine mv_ic_ne 185 (pc := 168) d_Mo_readThing_168 (by decide) (fun z => absurd z (by decide)) (fun _ => ?_)
          refine mv_aload_n (pc := 171) d_Mo_readThing_171 rfl ?_
          refine mr_getr (pc := 172) d_Mo_readThing_172 fl_Mo_38 hM.1 rfl (by decide) hM.g_left ?_
          refine mv_iload_n (pc := 175) d_Mo_readThing_175 rfl ?_
          refine mv_aload_n (pc := 176) d_Mo_readThing_176 rfl ?_
          refine mv_iconst (v := 2) (pc := 177) d_Mo_readThing_177 (by decide) ?_
          refine mv_iconst (v := 1) (pc := 178) d_Mo_readThing_178 (by decide) ?_
          refine mv_ldc (pc := 179) d_Mo_readThing_179 lc_Mo_109 ?_
          refine mr_callV3 (pc := 181) d_Mo_readThing_181 (d2 := (1, 23)) ok_Mo_readIn li_Mo_149 sv_Mo_readIn hM.1 ⟨by decide, rfl⟩ ⟨by decide, rfl, rfl, rfl, Nat.le_of_ble_eq_true rfl, rfl, by decide, by decide⟩ ?_
          refine c_mreadIn0 (h := mm_wi h (mm_u2 F5 59 (16 * 1 + i) (28 - 128))) (n := 2) hM (by omega) (by simp [mm_gwi, mm_u2, mm_uwi, r5]) (fun F6 r6 f6 => ?_)
          have T6 := (((T5).put 5 (by omega) (by omega) (28 - 128))).ffr f6
          refine mr_iast (pc := 184) d_Mo_readThing_184 hM.a_left (mm_inN (by omega) (by decide)) ?_
          rw [mm_cl (n := 16 * 1 + i) (by omega)]
          refine mv_ret (pc := 185) d_Mo_readThing_185 rfl ?_
          refine hq0 _ _ ((T6).put 8 (by omega) (by omega) (1)) (by simp [mm_gwi, mm_u2, mm_uwi, r6]) (fun g r hg e => ?_)
          obtain ⟨u1, u2⟩ := rs_use hb hg e
          rw [hkd] at u1
          have gn := kd_g u1 (by decide)
          exact d3 (u2 gn).1.1.2
      · have T2 := (((((((TS.init (mm_gi h) (16 * 1 + i)).ffr f1)).put 1 (by omega) (by omega) (1))).snd 1)).ffr f2
        refine mv_iconst (v := 0) (pc := 66) d_Mo_readThing_66 (by decide) ?_
        refine mr_callV3 (pc := 67) d_Mo_readThing_67 (d2 := (0, 0)) ok_Mo_make li_Mo_98 sv_Mo_make hM.1 ⟨by decide, rfl⟩ ⟨by decide, rfl, rfl, rfl, Nat.le_of_ble_eq_true rfl, rfl, by decide, by decide⟩ ?_
        refine c_make (k := 1) (h := mm_wi h F2) (by omega) hM hi (RM_self F2 1) (fun F20 _ _ e20 => ?_)
        have T20 := T2.make e20
        have z20 : F20 52 23 = 0 := by rw [e20]; simpa [mm_gwi] using r2
        refine mv_aload_n (pc := 70) d_Mo_readThing_70 rfl ?_
        refine mr_getr (pc := 71) d_Mo_readThing_71 fl_Mo_23 hM.1 rfl (by decide) hM.g_py ?_
        refine mv_iload_n (pc := 74) d_Mo_readThing_74 rfl ?_
        refine mv_aload_n (pc := 75) d_Mo_readThing_75 rfl ?_
        refine mv_iconst (v := 2) (pc := 76) d_Mo_readThing_76 (by decide) ?_
        refine mv_iconst (v := 0) (pc := 77) d_Mo_readThing_77 (by decide) ?_
        refine mv_sipush (v := 4095) (pc := 78) d_Mo_readThing_78 (by decide) ?_
        refine mr_callV3 (pc := 81) d_Mo_readThing_81 (d2 := (1, 23)) ok_Mo_readIn li_Mo_149 sv_Mo_readIn hM.1 ⟨by decide, rfl⟩ ⟨by decide, rfl, rfl, rfl, Nat.le_of_ble_eq_true rfl, rfl, by decide, by decide⟩ ?_
        refine c_mreadIn0 (h := mm_wi h F20) (n := 2) hM (by omega) (by simp [mm_gwi, mm_u2, mm_uwi, z20]) (fun F3 r3 f3 => ?_)
        have T3 := (T20).ffr f3
        refine mr_iast (pc := 84) d_Mo_readThing_84 hM.a_py (mm_inN (by omega) (by decide)) ?_
        rw [mm_cl (n := 16 * 1 + i) (by omega)]
        refine mv_aload_n (pc := 85) d_Mo_readThing_85 rfl ?_
        refine mr_getr (pc := 86) d_Mo_readThing_86 fl_Mo_26 hM.1 rfl (by decide) hM.g_sx ?_
        refine mv_iload_n (pc := 89) d_Mo_readThing_89 rfl ?_
        refine mv_aload_n (pc := 90) d_Mo_readThing_90 rfl ?_
        refine mv_iconst (v := 1) (pc := 91) d_Mo_readThing_91 (by decide) ?_
        refine mv_bipush (v := 28) (pc := 92) d_Mo_readThing_92 (by decide) ?_
        refine mv_sipush (v := 228) (pc := 94) d_Mo_readThing_94 (by decide) ?_
        refine mr_callV3 (pc := 97) d_Mo_readThing_97 (d2 := (1, 23)) ok_Mo_readIn li_Mo_149 sv_Mo_readIn hM.1 ⟨by decide, rfl⟩ ⟨by decide, rfl, rfl, rfl, Nat.le_of_ble_eq_true rfl, rfl, by decide, by decide⟩ ?_
        refine c_mreadIn0 (h := mm_wi h (mm_u2 F3 57 (16 * 1 + i) (0))) (n := 1) hM (by omega) (by simp [mm_gwi, mm_u2, mm_uwi, r3]) (fun F4 r4 f4 => ?_)
        have T4 := (((T3).put 3 (by omega) (by omega) (0))).ffr f4
        refine mv_sipush (v := 128) (pc := 100) d_Mo_readThing_100 (by decide) ?_
        refine mv_isub (pc := 103) d_Mo_readThing_103 ?_
        refine mr_iast (pc := 104) d_Mo_readThing_104 hM.a_sx (mm_inN (by omega) (by decide)) ?_
        rw [mm_cl (n := 16 * 1 + i) (by omega)]
        refine mv_aload_n (pc := 105) d_Mo_readThing_105 rfl ?_
        refine mr_getr (pc := 106) d_Mo_readThing_106 fl_Mo_29 hM.1 rfl (by decide) hM.g_sy ?_
        refine mv_iload_n (pc := 109) d_Mo_readThing_109 rfl ?_
        refine mv_aload_n (pc := 110) d_Mo_readThing_110 rfl ?_
        refine mv_iconst (v := 1) (pc := 111) d_Mo_readThing_111 (by decide) ?_
        refine mv_bipush (v := 28) (pc := 112) d_Mo_readThing_112 (by decide) ?_
        refine mv_sipush (v := 228) (pc := 114) d_Mo_readThing_114 (by decide) ?_
        refine mr_callV3 (pc := 117) d_Mo_readThing_117 (d2 := (1, 23)) ok_Mo_readIn li_Mo_149 sv_Mo_readIn hM.1 ⟨by decide, rfl⟩ ⟨by decide, rfl, rfl, rfl, Nat.le_of_ble_eq_true rfl, rfl, by decide, by decide⟩ ?_
        refine c_mreadIn0 (h := mm_wi h (mm_u2 F4 58 (16 * 1 + i) (28 - 128))) (n := 1) hM (by omega) (by simp [mm_gwi, mm_u2, mm_uwi, r4]) (fun F5 r5 f5 => ?_)
        have T5 := (((T4).put 4 (by omega) (by omega) (28 - 128))).ffr f5
        refine mv_sipush (v := 128) (pc := 120) d_Mo_readThing_120 (by decide) ?_
        refine mv_isub (pc := 123) d_Mo_readThing_123 ?_
        refine mr_iast (pc := 124) d_Mo_readThing_124 hM.a_sy (mm_inN (by omega) (by decide)) ?_
        rw [mm_cl (n := 16 * 1 + i) (by omega)]
        refine mv_iload_n (pc := 125) d_Mo_readThing_125 rfl ?_
        refine mv_iconst (v := 2) (pc := 126) d_Mo_readThing_126 (by decide) ?_
        refine mv_idiv (pc := 127) d_Mo_readThing_127 (by decide) ?_
        refine mv_iconst (v := 2) (pc := 128) d_Mo_readThing_128 (by decide) ?_
        refine mv_irem (pc := 129) d_Mo_readThing_129 (by decide) ?_
        refine mv_iconst (v := 1) (pc := 130) d_Mo_readThing_130 (by decide) ?_
        refine mv_ic_ne 164 (pc := 131) d_Mo_readThing_131 (by decide) (fun _ => ?_) (fun z => absurd z (by decide))
        refine mv_iload_n (pc := 164) d_Mo_readThing_164 rfl ?_
        refine mv_iconst (v := 4) (pc := 165) d_Mo_readThing_165 (by decide) ?_
        refine mv_idiv (pc := 166) d_Mo_readThing_166 (by decide) ?_
        refine mv_iconst (v := 1) (pc := 167) d_Mo_readThing_167 (by decide) ?_
        refine mv_ic_ne 185 (pc := 168) d_Mo_readThing_168 (by decide) (fun z => absurd z (by decide)) (fun _ => ?_)
        refine mv_aload_n (pc := 171) d_Mo_readThing_171 rfl ?_
        refine mr_getr (pc := 172) d_Mo_readThing_172 fl_Mo_38 hM.1 rfl (by decide) hM.g_left ?_
        refine mv_iload_n (pc := 175) d_Mo_readThing_175 rfl ?_
        refine mv_aload_n (pc := 176) d_Mo_readThing_176 rfl ?_
        refine mv_iconst (v := 2) (pc := 177) d_Mo_readThing_177 (by decide) ?_
        refine mv_iconst (v := 1) (pc := 178) d_Mo_readThing_178 (by decide) ?_
        refine mv_ldc (pc := 179) d_Mo_readThing_179 lc_Mo_109 ?_
        refine mr_callV3 (pc := 181) d_Mo_readThing_181 (d2 := (1, 23)) ok_Mo_readIn li_Mo_149 sv_Mo_readIn hM.1 ⟨by decide, rfl⟩ ⟨by decide, rfl, rfl, rfl, Nat.le_of_ble_eq_true rfl, rfl, by decide, by decide⟩ ?_
        refine c_mreadIn0 (h := mm_wi h (mm_u2 F5 59 (16 * 1 + i) (28 - 128))) (n := 2) hM (by omega) (by simp [mm_gwi, mm_u2, mm_uwi, r5]) (fun F6 r6 f6 => ?_)
        have T6 := (((T5).put 5 (by omega) (by omega) (28 - 128))).ffr f6
        refine mr_iast (pc := 184) d_Mo_readThing_184 hM.a_left (mm_inN (by omega) (by decide)) ?_
        rw [mm_cl (n := 16 * 1 + i) (by omega)]
        refine mv_ret (pc := 185) d_Mo_readThing_185 rfl ?_
        refine hq0 _ _ ((T6).put 8 (by omega) (by omega) (1)) (by simp [mm_gwi, mm_u2, mm_uwi, r6]) (fun g r hg e => ?_)
        obtain ⟨u1, u2⟩ := rs_use hb hg e
        rw [hkd] at u1
        have gn := kd_g u1 (by decide)
        exact d2 (u2 gn).1.1.1
    · rw [hkd]
      refine mv_istore_n (pc := 8) d_Mo_readThing_8 (by decide) ?_
      refine mv_aload_n (pc := 9) d_Mo_readThing_9 rfl ?_
      refine mr_getr (pc := 10) d_Mo_readThing_10 fl_Mo_16 hM.1 rfl (by decide) hM.g_full ?_
      refine mv_iload_n (pc := 13) d_Mo_readThing_13 rfl ?_
      refine mv_iload_n (pc := 14) d_Mo_readThing_14 rfl ?_
      refine mv_if_le 22 (pc := 15) d_Mo_readThing_15 (by decide) (fun z => absurd z (by decide)) (fun _ => ?_)
      refine mv_iconst (v := 1) (pc := 18) d_Mo_readThing_18 (by decide) ?_
      refine mv_goto 23 (pc := 19) d_Mo_readThing_19 (by decide) ?_
      refine mr_zast (pc := 23) d_Mo_readThing_23 hM.a_full (mm_inN (by omega) (by decide)) ?_
      rw [mm_cl (n := 16 * 1 + i) (by omega), mm_nar1]
      refine mv_aload_n (pc := 24) d_Mo_readThing_24 rfl ?_
      refine mv_aload_n (pc := 25) d_Mo_readThing_25 rfl ?_
      refine mr_geti (pc := 26) d_Mo_readThing_26 fl_Mo_139 hM.1 rfl (by decide) ?_
      rw [show mm_gi (mm_si (mm_wi h F1) 55 (16 * 1 + i) 1) 52 23 = 1 from r1.1]
      refine mv_if_eq 47 (pc := 29) d_Mo_readThing_29 (by decide) (fun z => absurd z (by decide)) (fun h29 => ?_)
      refine mv_iload_n (pc := 32) d_Mo_readThing_32 rfl ?_
      refine mv_if_eq 43 (pc := 33) d_Mo_readThing_33 (by decide) (fun z => absurd z (by decide)) (fun _ => ?_)
      refine mv_iload_n (pc := 36) d_Mo_readThing_36 rfl ?_
      refine mv_iconst (v := 2) (pc := 37) d_Mo_readThing_37 (by decide) ?_
      refine mv_irem (pc := 38) d_Mo_readThing_38 (by decide) ?_
      refine mv_iconst (v := 1) (pc := 39) d_Mo_readThing_39 (by decide) ?_
      refine mv_ic_ne 47 (pc := 40) d_Mo_readThing_40 (by decide) (fun _ => ?_) (fun z => absurd z (by decide))
      refine mv_iconst (v := 0) (pc := 47) d_Mo_readThing_47 (by decide) ?_
      refine mr_puti (pc := 48) d_Mo_readThing_48 fl_Mo_139 hM.1 rfl (by decide) ⟨rfl, rfl⟩ ?_
      refine mv_iload_n (pc := 51) d_Mo_readThing_51 rfl ?_
      refine mv_if_le 185 (pc := 52) d_Mo_readThing_52 (by decide) (fun z => absurd z (by decide)) (fun _ => ?_)
      refine mv_aload_n (pc := 55) d_Mo_readThing_55 rfl ?_
      refine mv_iload_n (pc := 56) d_Mo_readThing_56 rfl ?_
      refine mv_aload_n (pc := 57) d_Mo_readThing_57 rfl ?_
      refine mv_iconst (v := 2) (pc := 58) d_Mo_readThing_58 (by decide) ?_
      refine mv_iconst (v := 0) (pc := 59) d_Mo_readThing_59 (by decide) ?_
      refine mv_sipush (v := 4095) (pc := 60) d_Mo_readThing_60 (by decide) ?_
      refine mr_callV3 (pc := 63) d_Mo_readThing_63 (d2 := (1, 23)) ok_Mo_readIn li_Mo_149 sv_Mo_readIn hM.1 ⟨by decide, rfl⟩ ⟨by decide, rfl, rfl, rfl, Nat.le_of_ble_eq_true rfl, rfl, by decide, by decide⟩ ?_
      refine c_mreadIn0 (h := mm_wi h (mm_u2 (mm_u2 F1 55 (16 * 1 + i) (1)) 52 23 0)) (n := 2) hM (by omega) (by simp [mm_gwi, mm_u2, mm_uwi]) (fun F2 r2 f2 => ?_)
      have T2 := (((((((TS.init (mm_gi h) (16 * 1 + i)).ffr f1)).put 1 (by omega) (by omega) (1))).snd 0)).ffr f2
      refine mv_iconst (v := 0) (pc := 66) d_Mo_readThing_66 (by decide) ?_
      refine mr_callV3 (pc := 67) d_Mo_readThing_67 (d2 := (0, 0)) ok_Mo_make li_Mo_98 sv_Mo_make hM.1 ⟨by decide, rfl⟩ ⟨by decide, rfl, rfl, rfl, Nat.le_of_ble_eq_true rfl, rfl, by decide, by decide⟩ ?_
      refine c_make (k := 1) (h := mm_wi h F2) (by omega) hM hi (RM_self F2 1) (fun F20 _ _ e20 => ?_)
      have T20 := T2.make e20
      have z20 : F20 52 23 = 0 := by rw [e20]; simpa [mm_gwi] using r2
      refine mv_aload_n (pc := 70) d_Mo_readThing_70 rfl ?_
      refine mr_getr (pc := 71) d_Mo_readThing_71 fl_Mo_23 hM.1 rfl (by decide) hM.g_py ?_
      refine mv_iload_n (pc := 74) d_Mo_readThing_74 rfl ?_
      refine mv_aload_n (pc := 75) d_Mo_readThing_75 rfl ?_
      refine mv_iconst (v := 2) (pc := 76) d_Mo_readThing_76 (by decide) ?_
      refine mv_iconst (v := 0) (pc := 77) d_Mo_readThing_77 (by decide) ?_
      refine mv_sipush (v := 4095) (pc := 78) d_Mo_readThing_78 (by decide) ?_
      refine mr_callV3 (pc := 81) d_Mo_readThing_81 (d2 := (1, 23)) ok_Mo_readIn li_Mo_149 sv_Mo_readIn hM.1 ⟨by decide, rfl⟩ ⟨by decide, rfl, rfl, rfl, Nat.le_of_ble_eq_true rfl, rfl, by decide, by decide⟩ ?_
      refine c_mreadIn0 (h := mm_wi h F20) (n := 2) hM (by omega) (by simp [mm_gwi, mm_u2, mm_uwi, z20]) (fun F3 r3 f3 => ?_)
      have T3 := (T20).ffr f3
      refine mr_iast (pc := 84) d_Mo_readThing_84 hM.a_py (mm_inN (by omega) (by decide)) ?_
      rw [mm_cl (n := 16 * 1 + i) (by omega)]
      refine mv_aload_n (pc := 85) d_Mo_readThing_85 rfl ?_
      refine mr_getr (pc := 86) d_Mo_readThing_86 fl_Mo_26 hM.1 rfl (by decide) hM.g_sx ?_
      refine mv_iload_n (pc := 89) d_Mo_readThing_89 rfl ?_
      refine mv_aload_n (pc := 90) d_Mo_readThing_90 rfl ?_
      refine mv_iconst (v := 1) (pc := 91) d_Mo_readThing_91 (by decide) ?_
      refine mv_bipush (v := 28) (pc := 92) d_Mo_readThing_92 (by decide) ?_
      refine mv_sipush (v := 228) (pc := 94) d_Mo_readThing_94 (by decide) ?_
      refine mr_callV3 (pc := 97) d_Mo_readThing_97 (d2 := (1, 23)) ok_Mo_readIn li_Mo_149 sv_Mo_readIn hM.1 ⟨by decide, rfl⟩ ⟨by decide, rfl, rfl, rfl, Nat.le_of_ble_eq_true rfl, rfl, by decide, by decide⟩ ?_
      refine c_mreadIn0 (h := mm_wi h (mm_u2 F3 57 (16 * 1 + i) (0))) (n := 1) hM (by omega) (by simp [mm_gwi, mm_u2, mm_uwi, r3]) (fun F4 r4 f4 => ?_)
      have T4 := (((T3).put 3 (by omega) (by omega) (0))).ffr f4
      refine mv_sipush (v := 128) (pc := 100) d_Mo_readThing_100 (by decide) ?_
      refine mv_isub (pc := 103) d_Mo_readThing_103 ?_
      refine mr_iast (pc := 104) d_Mo_readThing_104 hM.a_sx (mm_inN (by omega) (by decide)) ?_
      rw [mm_cl (n := 16 * 1 + i) (by omega)]
      refine mv_aload_n (pc := 105) d_Mo_readThing_105 rfl ?_
      refine mr_getr (pc := 106) d_Mo_readThing_106 fl_Mo_29 hM.1 rfl (by decide) hM.g_sy ?_
      refine mv_iload_n (pc := 109) d_Mo_readThing_109 rfl ?_
      refine mv_aload_n (pc := 110) d_Mo_readThing_110 rfl ?_
      refine mv_iconst (v := 1) (pc := 111) d_Mo_readThing_111 (by decide) ?_
      refine mv_bipush (v := 28) (pc := 112) d_Mo_readThing_112 (by decide) ?_
      refine mv_sipush (v := 228) (pc := 114) d_Mo_readThing_114 (by decide) ?_
      refine mr_callV3 (pc := 117) d_Mo_readThing_117 (d2 := (1, 23)) ok_Mo_readIn li_Mo_149 sv_Mo_readIn hM.1 ⟨by decide, rfl⟩ ⟨by decide, rfl, rfl, rfl, Nat.le_of_ble_eq_true rfl, rfl, by decide, by decide⟩ ?_
      refine c_mreadIn0 (h := mm_wi h (mm_u2 F4 58 (16 * 1 + i) (28 - 128))) (n := 1) hM (by omega) (by simp [mm_gwi, mm_u2, mm_uwi, r4]) (fun F5 r5 f5 => ?_)
      have T5 := (((T4).put 4 (by omega) (by omega) (28 - 128))).ffr f5
      refine mv_sipush (v := 128) (pc := 120) d_Mo_readThing_120 (by decide) ?_
      refine mv_isub (pc := 123) d_Mo_readThing_123 ?_
      refine mr_iast (pc := 124) d_Mo_readThing_124 hM.a_sy (mm_inN (by omega) (by decide)) ?_
      rw [mm_cl (n := 16 * 1 + i) (by omega)]
      refine mv_iload_n (pc := 125) d_Mo_readThing_125 rfl ?_
      refine mv_iconst (v := 2) (pc := 126) d_Mo_readThing_126 (by decide) ?_
      refine mv_idiv (pc := 127) d_Mo_readThing_127 (by decide) ?_
      refine mv_iconst (v := 2) (pc := 128) d_Mo_readThing_128 (by decide) ?_
      refine mv_irem (pc := 129) d_Mo_readThing_129 (by decide) ?_
      refine mv_iconst (v := 1) (pc := 130) d_Mo_readThing_130 (by decide) ?_
      refine mv_ic_ne 164 (pc := 131) d_Mo_readThing_131 (by decide) (fun z => absurd z (by decide)) (fun _ => ?_)
      refine mv_aload_n (pc := 134) d_Mo_readThing_134 rfl ?_
      refine mr_getr (pc := 135) d_Mo_readThing_135 fl_Mo_32 hM.1 rfl (by decide) hM.g_wide ?_
      refine mv_iload_n (pc := 138) d_Mo_readThing_138 rfl ?_
      refine mv_aload_n (pc := 139) d_Mo_readThing_139 rfl ?_
      refine mv_iconst (v := 1) (pc := 140) d_Mo_readThing_140 (by decide) ?_
      refine mv_iconst (v := 1) (pc := 141) d_Mo_readThing_141 (by decide) ?_
      refine mv_sipush (v := 200) (pc := 142) d_Mo_readThing_142 (by decide) ?_
      refine mr_callV3 (pc := 145) d_Mo_readThing_145 (d2 := (1, 23)) ok_Mo_readIn li_Mo_149 sv_Mo_readIn hM.1 ⟨by decide, rfl⟩ ⟨by decide, rfl, rfl, rfl, Nat.le_of_ble_eq_true rfl, rfl, by decide, by decide⟩ ?_
      refine c_mreadIn0 (h := mm_wi h (mm_u2 F5 59 (16 * 1 + i) (28 - 128))) (n := 1) hM (by omega) (by simp [mm_gwi, mm_u2, mm_uwi, r5]) (fun F6 r6 f6 => ?_)
      have T6 := (((T5).put 5 (by omega) (by omega) (28 - 128))).ffr f6
      refine mr_iast (pc := 148) d_Mo_readThing_148 hM.a_wide (mm_inN (by omega) (by decide)) ?_
      rw [mm_cl (n := 16 * 1 + i) (by omega)]
      refine mv_aload_n (pc := 149) d_Mo_readThing_149 rfl ?_
      refine mr_getr (pc := 150) d_Mo_readThing_150 fl_Mo_35 hM.1 rfl (by decide) hM.g_high ?_
      refine mv_iload_n (pc := 153) d_Mo_readThing_153 rfl ?_
      refine mv_aload_n (pc := 154) d_Mo_readThing_154 rfl ?_
      refine mv_iconst (v := 1) (pc := 155) d_Mo_readThing_155 (by decide) ?_
      refine mv_iconst (v := 1) (pc := 156) d_Mo_readThing_156 (by decide) ?_
      refine mv_sipush (v := 200) (pc := 157) d_Mo_readThing_157 (by decide) ?_
      refine mr_callV3 (pc := 160) d_Mo_readThing_160 (d2 := (1, 23)) ok_Mo_readIn li_Mo_149 sv_Mo_readIn hM.1 ⟨by decide, rfl⟩ ⟨by decide, rfl, rfl, rfl, Nat.le_of_ble_eq_true rfl, rfl, by decide, by decide⟩ ?_
      refine c_mreadIn0 (h := mm_wi h (mm_u2 F6 60 (16 * 1 + i) (1))) (n := 1) hM (by omega) (by simp [mm_gwi, mm_u2, mm_uwi, r6]) (fun F7 r7 f7 => ?_)
      have T7 := (((T6).put 6 (by omega) (by omega) (1))).ffr f7
      refine mr_iast (pc := 163) d_Mo_readThing_163 hM.a_high (mm_inN (by omega) (by decide)) ?_
      rw [mm_cl (n := 16 * 1 + i) (by omega)]
      refine mv_iload_n (pc := 164) d_Mo_readThing_164 rfl ?_
      refine mv_iconst (v := 4) (pc := 165) d_Mo_readThing_165 (by decide) ?_
      refine mv_idiv (pc := 166) d_Mo_readThing_166 (by decide) ?_
      refine mv_iconst (v := 1) (pc := 167) d_Mo_readThing_167 (by decide) ?_
      refine mv_ic_ne 185 (pc := 168) d_Mo_readThing_168 (by decide) (fun z => absurd z (by decide)) (fun _ => ?_)
      refine mv_aload_n (pc := 171) d_Mo_readThing_171 rfl ?_
      refine mr_getr (pc := 172) d_Mo_readThing_172 fl_Mo_38 hM.1 rfl (by decide) hM.g_left ?_
      refine mv_iload_n (pc := 175) d_Mo_readThing_175 rfl ?_
      refine mv_aload_n (pc := 176) d_Mo_readThing_176 rfl ?_
      refine mv_iconst (v := 2) (pc := 177) d_Mo_readThing_177 (by decide) ?_
      refine mv_iconst (v := 1) (pc := 178) d_Mo_readThing_178 (by decide) ?_
      refine mv_ldc (pc := 179) d_Mo_readThing_179 lc_Mo_109 ?_
      refine mr_callV3 (pc := 181) d_Mo_readThing_181 (d2 := (1, 23)) ok_Mo_readIn li_Mo_149 sv_Mo_readIn hM.1 ⟨by decide, rfl⟩ ⟨by decide, rfl, rfl, rfl, Nat.le_of_ble_eq_true rfl, rfl, by decide, by decide⟩ ?_
      refine c_mreadIn0 (h := mm_wi h (mm_u2 F7 61 (16 * 1 + i) (1))) (n := 2) hM (by omega) (by simp [mm_gwi, mm_u2, mm_uwi, r7]) (fun F8 r8 f8 => ?_)
      have T8 := (((T7).put 7 (by omega) (by omega) (1))).ffr f8
      refine mr_iast (pc := 184) d_Mo_readThing_184 hM.a_left (mm_inN (by omega) (by decide)) ?_
      rw [mm_cl (n := 16 * 1 + i) (by omega)]
      refine mv_ret (pc := 185) d_Mo_readThing_185 rfl ?_
      refine hq0 _ _ ((T8).put 8 (by omega) (by omega) (1)) (by simp [mm_gwi, mm_u2, mm_uwi, r8]) (fun g r hg e => ?_)
      obtain ⟨u1, u2⟩ := rs_use hb hg e
      rw [hkd] at u1
      have gn := kd_g u1 (by decide)
      exact (a_kind_bits gn).2.1 (by rw [← u1]; decide)
    · rw [hkd]
      refine mv_istore_n (pc := 8) d_Mo_readThing_8 (by decide) ?_
      refine mv_aload_n (pc := 9) d_Mo_readThing_9 rfl ?_
      refine mr_getr (pc := 10) d_Mo_readThing_10 fl_Mo_16 hM.1 rfl (by decide) hM.g_full ?_
      refine mv_iload_n (pc := 13) d_Mo_readThing_13 rfl ?_
      refine mv_iload_n (pc := 14) d_Mo_readThing_14 rfl ?_
      refine mv_if_le 22 (pc := 15) d_Mo_readThing_15 (by decide) (fun z => absurd z (by decide)) (fun _ => ?_)
      refine mv_iconst (v := 1) (pc := 18) d_Mo_readThing_18 (by decide) ?_
      refine mv_goto 23 (pc := 19) d_Mo_readThing_19 (by decide) ?_
      refine mr_zast (pc := 23) d_Mo_readThing_23 hM.a_full (mm_inN (by omega) (by decide)) ?_
      rw [mm_cl (n := 16 * 1 + i) (by omega), mm_nar1]
      refine mv_aload_n (pc := 24) d_Mo_readThing_24 rfl ?_
      refine mv_aload_n (pc := 25) d_Mo_readThing_25 rfl ?_
      refine mr_geti (pc := 26) d_Mo_readThing_26 fl_Mo_139 hM.1 rfl (by decide) ?_
      rw [show mm_gi (mm_si (mm_wi h F1) 55 (16 * 1 + i) 1) 52 23 = 1 from r1.1]
      refine mv_if_eq 47 (pc := 29) d_Mo_readThing_29 (by decide) (fun z => absurd z (by decide)) (fun h29 => ?_)
      refine mv_iload_n (pc := 32) d_Mo_readThing_32 rfl ?_
      refine mv_if_eq 43 (pc := 33) d_Mo_readThing_33 (by decide) (fun z => absurd z (by decide)) (fun _ => ?_)
      refine mv_iload_n (pc := 36) d_Mo_readThing_36 rfl ?_
      refine mv_iconst (v := 2) (pc := 37) d_Mo_readThing_37 (by decide) ?_
      refine mv_irem (pc := 38) d_Mo_readThing_38 (by decide) ?_
      refine mv_iconst (v := 1) (pc := 39) d_Mo_readThing_39 (by decide) ?_
      refine mv_ic_ne 47 (pc := 40) d_Mo_readThing_40 (by decide) (fun z => absurd z (by decide)) (fun _ => ?_)
      refine mv_iconst (v := 1) (pc := 43) d_Mo_readThing_43 (by decide) ?_
      refine mv_goto 48 (pc := 44) d_Mo_readThing_44 (by decide) ?_
      refine mr_puti (pc := 48) d_Mo_readThing_48 fl_Mo_139 hM.1 rfl (by decide) ⟨rfl, rfl⟩ ?_
      refine mv_iload_n (pc := 51) d_Mo_readThing_51 rfl ?_
      refine mv_if_le 185 (pc := 52) d_Mo_readThing_52 (by decide) (fun z => absurd z (by decide)) (fun _ => ?_)
      refine mv_aload_n (pc := 55) d_Mo_readThing_55 rfl ?_
      refine mv_iload_n (pc := 56) d_Mo_readThing_56 rfl ?_
      refine mv_aload_n (pc := 57) d_Mo_readThing_57 rfl ?_
      refine mv_iconst (v := 2) (pc := 58) d_Mo_readThing_58 (by decide) ?_
      refine mv_iconst (v := 0) (pc := 59) d_Mo_readThing_59 (by decide) ?_
      refine mv_sipush (v := 4095) (pc := 60) d_Mo_readThing_60 (by decide) ?_
      refine mr_callV3 (pc := 63) d_Mo_readThing_63 (d2 := (1, 23)) ok_Mo_readIn li_Mo_149 sv_Mo_readIn hM.1 ⟨by decide, rfl⟩ ⟨by decide, rfl, rfl, rfl, Nat.le_of_ble_eq_true rfl, rfl, by decide, by decide⟩ ?_
      refine c_mri (h := mm_wi h (mm_u2 (mm_u2 F1 55 (16 * 1 + i) (1)) 52 23 1)) (n := 2) (p := (mm_np sv (mm_np sv p 2) 1)) hM (by omega) (by decide) hl (hV.ts ((((((TS.init (mm_gi h) (16 * 1 + i)).ffr f1)).put 1 (by omega) (by omega) (1))).snd 1)) ((((r1).put (by decide) (1))).snd) (fun d2 F2 r2 f2 => ?_) (fun d2 F2 r2 f2 => ?_)
      · have T2 := (((((((TS.init (mm_gi h) (16 * 1 + i)).ffr f1)).put 1 (by omega) (by omega) (1))).snd 1)).ffr f2
        refine mv_iconst (v := 0) (pc := 66) d_Mo_readThing_66 (by decide) ?_
        refine mr_callV3 (pc := 67) d_Mo_readThing_67 (d2 := (0, 0)) ok_Mo_make li_Mo_98 sv_Mo_make hM.1 ⟨by decide, rfl⟩ ⟨by decide, rfl, rfl, rfl, Nat.le_of_ble_eq_true rfl, rfl, by decide, by decide⟩ ?_
        refine c_make (k := 1) (h := mm_wi h F2) (by omega) hM hi (RM_self F2 1) (fun F20 _ _ e20 => ?_)
        have T20 := T2.make e20
        have R20 : MR F20 sv (mm_np sv (mm_np sv (mm_np sv p 2) 1) 2) := ⟨by rw [e20]; simpa [mm_gwi] using r2.1, by rw [e20]; simpa [mm_gwi] using r2.2.1, r2.2.2⟩
        refine mv_aload_n (pc := 70) d_Mo_readThing_70 rfl ?_
        refine mr_getr (pc := 71) d_Mo_readThing_71 fl_Mo_23 hM.1 rfl (by decide) hM.g_py ?_
        refine mv_iload_n (pc := 74) d_Mo_readThing_74 rfl ?_
        refine mv_aload_n (pc := 75) d_Mo_readThing_75 rfl ?_
        refine mv_iconst (v := 2) (pc := 76) d_Mo_readThing_76 (by decide) ?_
        refine mv_iconst (v := 0) (pc := 77) d_Mo_readThing_77 (by decide) ?_
        refine mv_sipush (v := 4095) (pc := 78) d_Mo_readThing_78 (by decide) ?_
        refine mr_callV3 (pc := 81) d_Mo_readThing_81 (d2 := (1, 23)) ok_Mo_readIn li_Mo_149 sv_Mo_readIn hM.1 ⟨by decide, rfl⟩ ⟨by decide, rfl, rfl, rfl, Nat.le_of_ble_eq_true rfl, rfl, by decide, by decide⟩ ?_
        refine c_mri (h := mm_wi h F20) (n := 2) (p := (mm_np sv (mm_np sv (mm_np sv p 2) 1) 2)) hM (by omega) (by decide) hl (hV.ts T20) R20 (fun d3 F3 r3 f3 => ?_) (fun d3 F3 r3 f3 => ?_)
        · have T3 := (T20).ffr f3
          refine mr_iast (pc := 84) d_Mo_readThing_84 hM.a_py (mm_inN (by omega) (by decide)) ?_
          rw [mm_cl (n := 16 * 1 + i) (by omega)]
          refine mv_aload_n (pc := 85) d_Mo_readThing_85 rfl ?_
          refine mr_getr (pc := 86) d_Mo_readThing_86 fl_Mo_26 hM.1 rfl (by decide) hM.g_sx ?_
          refine mv_iload_n (pc := 89) d_Mo_readThing_89 rfl ?_
          refine mv_aload_n (pc := 90) d_Mo_readThing_90 rfl ?_
          refine mv_iconst (v := 1) (pc := 91) d_Mo_readThing_91 (by decide) ?_
          refine mv_bipush (v := 28) (pc := 92) d_Mo_readThing_92 (by decide) ?_
          refine mv_sipush (v := 228) (pc := 94) d_Mo_readThing_94 (by decide) ?_
          refine mr_callV3 (pc := 97) d_Mo_readThing_97 (d2 := (1, 23)) ok_Mo_readIn li_Mo_149 sv_Mo_readIn hM.1 ⟨by decide, rfl⟩ ⟨by decide, rfl, rfl, rfl, Nat.le_of_ble_eq_true rfl, rfl, by decide, by decide⟩ ?_
          refine c_mri (h := mm_wi h (mm_u2 F3 57 (16 * 1 + i) ((mm_nv sv (mm_np sv (mm_np sv (mm_np sv p 2) 1) 2) 2)))) (n := 1) (p := (mm_np sv (mm_np sv (mm_np sv (mm_np sv p 2) 1) 2) 2)) hM (by omega) (by decide) hl (hV.ts ((T3).put 3 (by omega) (by omega) ((mm_nv sv (mm_np sv (mm_np sv (mm_np sv p 2) 1) 2) 2)))) ((r3).put (by decide) ((mm_nv sv (mm_np sv (mm_np sv (mm_np sv p 2) 1) 2) 2))) (fun d4 F4 r4 f4 => ?_) (fun d4 F4 r4 f4 => ?_)
          · have T4 := (((T3).put 3 (by omega) (by omega) ((mm_nv sv (mm_np sv (mm_np sv (mm_np sv p 2) 1) 2) 2)))).ffr f4
            refine mv_sipush (v := 128) (pc := 100) d_Mo_readThing_100 (by decide) ?_
            refine mv_isub (pc := 103) d_Mo_readThing_103 ?_
            refine mr_iast (pc := 104) d_Mo_readThing_104 hM.a_sx (mm_inN (by omega) (by decide)) ?_
            rw [mm_cl (n := 16 * 1 + i) (by omega)]
            refine mv_aload_n (pc := 105) d_Mo_readThing_105 rfl ?_
            refine mr_getr (pc := 106) d_Mo_readThing_106 fl_Mo_29 hM.1 rfl (by decide) hM.g_sy ?_
            refine mv_iload_n (pc := 109) d_Mo_readThing_109 rfl ?_
            refine mv_aload_n (pc := 110) d_Mo_readThing_110 rfl ?_
            refine mv_iconst (v := 1) (pc := 111) d_Mo_readThing_111 (by decide) ?_
            refine mv_bipush (v := 28) (pc := 112) d_Mo_readThing_112 (by decide) ?_
            refine mv_sipush (v := 228) (pc := 114) d_Mo_readThing_114 (by decide) ?_
            refine mr_callV3 (pc := 117) d_Mo_readThing_117 (d2 := (1, 23)) ok_Mo_readIn li_Mo_149 sv_Mo_readIn hM.1 ⟨by decide, rfl⟩ ⟨by decide, rfl, rfl, rfl, Nat.le_of_ble_eq_true rfl, rfl, by decide, by decide⟩ ?_
            refine c_mri (h := mm_wi h (mm_u2 F4 58 (16 * 1 + i) ((mm_nv sv (mm_np sv (mm_np sv (mm_np sv (mm_np sv p 2) 1) 2) 2) 1) - 128))) (n := 1) (p := (mm_np sv (mm_np sv (mm_np sv (mm_np sv (mm_np sv p 2) 1) 2) 2) 1)) hM (by omega) (by decide) hl (hV.ts ((T4).put 4 (by omega) (by omega) ((mm_nv sv (mm_np sv (mm_np sv (mm_np sv (mm_np sv p 2) 1) 2) 2) 1) - 128))) ((r4).put (by decide) ((mm_nv sv (mm_np sv (mm_np sv (mm_np sv (mm_np sv p 2) 1) 2) 2) 1) - 128)) (fun d5 F5 r5 f5 => ?_) (fun d5 F5 r5 f5 => ?_)
            · have T5 := (((T4).put 4 (by omega) (by omega) ((mm_nv sv (mm_np sv (mm_np sv (mm_np sv (mm_np sv p 2) 1) 2) 2) 1) - 128))).ffr f5
              refine mv_sipush (v := 128) (pc := 120) d_Mo_readThing_120 (by decide) ?_
              refine mv_isub (pc := 123) d_Mo_readThing_123 ?_
              refine mr_iast (pc := 124) d_Mo_readThing_124 hM.a_sy (mm_inN (by omega) (by decide)) ?_
              rw [mm_cl (n := 16 * 1 + i) (by omega)]
              refine mv_iload_n (pc := 125) d_Mo_readThing_125 rfl ?_
              refine mv_iconst (v := 2) (pc := 126) d_Mo_readThing_126 (by decide) ?_
              refine mv_idiv (pc := 127) d_Mo_readThing_127 (by decide) ?_
              refine mv_iconst (v := 2) (pc := 128) d_Mo_readThing_128 (by decide) ?_
              refine mv_irem (pc := 129) d_Mo_readThing_129 (by decide) ?_
              refine mv_iconst (v := 1) (pc := 130) d_Mo_readThing_130 (by decide) ?_
              refine mv_ic_ne 164 (pc := 131) d_Mo_readThing_131 (by decide) (fun z => absurd z (by decide)) (fun _ => ?_)
              refine mv_aload_n (pc := 134) d_Mo_readThing_134 rfl ?_
              refine mr_getr (pc := 135) d_Mo_readThing_135 fl_Mo_32 hM.1 rfl (by decide) hM.g_wide ?_
              refine mv_iload_n (pc := 138) d_Mo_readThing_138 rfl ?_
              refine mv_aload_n (pc := 139) d_Mo_readThing_139 rfl ?_
              refine mv_iconst (v := 1) (pc := 140) d_Mo_readThing_140 (by decide) ?_
              refine mv_iconst (v := 1) (pc := 141) d_Mo_readThing_141 (by decide) ?_
              refine mv_sipush (v := 200) (pc := 142) d_Mo_readThing_142 (by decide) ?_
              refine mr_callV3 (pc := 145) d_Mo_readThing_145 (d2 := (1, 23)) ok_Mo_readIn li_Mo_149 sv_Mo_readIn hM.1 ⟨by decide, rfl⟩ ⟨by decide, rfl, rfl, rfl, Nat.le_of_ble_eq_true rfl, rfl, by decide, by decide⟩ ?_
              refine c_mri (h := mm_wi h (mm_u2 F5 59 (16 * 1 + i) ((mm_nv sv (mm_np sv (mm_np sv (mm_np sv (mm_np sv (mm_np sv p 2) 1) 2) 2) 1) 1) - 128))) (n := 1) (p := (mm_np sv (mm_np sv (mm_np sv (mm_np sv (mm_np sv (mm_np sv p 2) 1) 2) 2) 1) 1)) hM (by omega) (by decide) hl (hV.ts ((T5).put 5 (by omega) (by omega) ((mm_nv sv (mm_np sv (mm_np sv (mm_np sv (mm_np sv (mm_np sv p 2) 1) 2) 2) 1) 1) - 128))) ((r5).put (by decide) ((mm_nv sv (mm_np sv (mm_np sv (mm_np sv (mm_np sv (mm_np sv p 2) 1) 2) 2) 1) 1) - 128)) (fun d6 F6 r6 f6 => ?_) (fun d6 F6 r6 f6 => ?_)
              · have T6 := (((T5).put 5 (by omega) (by omega) ((mm_nv sv (mm_np sv (mm_np sv (mm_np sv (mm_np sv (mm_np sv p 2) 1) 2) 2) 1) 1) - 128))).ffr f6
                refine mr_iast (pc := 148) d_Mo_readThing_148 hM.a_wide (mm_inN (by omega) (by decide)) ?_
                rw [mm_cl (n := 16 * 1 + i) (by omega)]
                refine mv_aload_n (pc := 149) d_Mo_readThing_149 rfl ?_
                refine mr_getr (pc := 150) d_Mo_readThing_150 fl_Mo_35 hM.1 rfl (by decide) hM.g_high ?_
                refine mv_iload_n (pc := 153) d_Mo_readThing_153 rfl ?_
                refine mv_aload_n (pc := 154) d_Mo_readThing_154 rfl ?_
                refine mv_iconst (v := 1) (pc := 155) d_Mo_readThing_155 (by decide) ?_
                refine mv_iconst (v := 1) (pc := 156) d_Mo_readThing_156 (by decide) ?_
                refine mv_sipush (v := 200) (pc := 157) d_Mo_readThing_157 (by decide) ?_
                refine mr_callV3 (pc := 160) d_Mo_readThing_160 (d2 := (1, 23)) ok_Mo_readIn li_Mo_149 sv_Mo_readIn hM.1 ⟨by decide, rfl⟩ ⟨by decide, rfl, rfl, rfl, Nat.le_of_ble_eq_true rfl, rfl, by decide, by decide⟩ ?_
                refine c_mri (h := mm_wi h (mm_u2 F6 60 (16 * 1 + i) ((mm_nv sv (mm_np sv (mm_np sv (mm_np sv (mm_np sv (mm_np sv (mm_np sv p 2) 1) 2) 2) 1) 1) 1)))) (n := 1) (p := (mm_np sv (mm_np sv (mm_np sv (mm_np sv (mm_np sv (mm_np sv (mm_np sv p 2) 1) 2) 2) 1) 1) 1)) hM (by omega) (by decide) hl (hV.ts ((T6).put 6 (by omega) (by omega) ((mm_nv sv (mm_np sv (mm_np sv (mm_np sv (mm_np sv (mm_np sv (mm_np sv p 2) 1) 2) 2) 1) 1) 1)))) ((r6).put (by decide) ((mm_nv sv (mm_np sv (mm_np sv (mm_np sv (mm_np sv (mm_np sv (mm_np sv p 2) 1) 2) 2) 1) 1) 1))) (fun d7 F7 r7 f7 => ?_) (fun d7 F7 r7 f7 => ?_)
                · have T7 := (((T6).put 6 (by omega) (by omega) ((mm_nv sv (mm_np sv (mm_np sv (mm_np sv (mm_np sv (mm_np sv (mm_np sv p 2) 1) 2) 2) 1) 1) 1)))).ffr f7
                  refine mr_iast (pc := 163) d_Mo_readThing_163 hM.a_high (mm_inN (by omega) (by decide)) ?_
                  rw [mm_cl (n := 16 * 1 + i) (by omega)]
                  refine mv_iload_n (pc := 164) d_Mo_readThing_164 rfl ?_
                  refine mv_iconst (v := 4) (pc := 165) d_Mo_readThing_165 (by decide) ?_
                  refine mv_idiv (pc := 166) d_Mo_readThing_166 (by decide) ?_
                  refine mv_iconst (v := 1) (pc := 167) d_Mo_readThing_167 (by decide) ?_
                  refine mv_ic_ne 185 (pc := 168) d_Mo_readThing_168 (by decide) (fun z => absurd z (by decide)) (fun _ => ?_)
                  refine mv_aload_n (pc := 171) d_Mo_readThing_171 rfl ?_
                  refine mr_getr (pc := 172) d_Mo_readThing_172 fl_Mo_38 hM.1 rfl (by decide) hM.g_left ?_
                  refine mv_iload_n (pc := 175) d_Mo_readThing_175 rfl ?_
                  refine mv_aload_n (pc := 176) d_Mo_readThing_176 rfl ?_
                  refine mv_iconst (v := 2) (pc := 177) d_Mo_readThing_177 (by decide) ?_
                  refine mv_iconst (v := 1) (pc := 178) d_Mo_readThing_178 (by decide) ?_
                  refine mv_ldc (pc := 179) d_Mo_readThing_179 lc_Mo_109 ?_
                  refine mr_callV3 (pc := 181) d_Mo_readThing_181 (d2 := (1, 23)) ok_Mo_readIn li_Mo_149 sv_Mo_readIn hM.1 ⟨by decide, rfl⟩ ⟨by decide, rfl, rfl, rfl, Nat.le_of_ble_eq_true rfl, rfl, by decide, by decide⟩ ?_
                  refine c_mri (h := mm_wi h (mm_u2 F7 61 (16 * 1 + i) ((mm_nv sv (mm_np sv (mm_np sv (mm_np sv (mm_np sv (mm_np sv (mm_np sv (mm_np sv p 2) 1) 2) 2) 1) 1) 1) 1)))) (n := 2) (p := (mm_np sv (mm_np sv (mm_np sv (mm_np sv (mm_np sv (mm_np sv (mm_np sv (mm_np sv p 2) 1) 2) 2) 1) 1) 1) 1)) hM (by omega) (by decide) hl (hV.ts ((T7).put 7 (by omega) (by omega) ((mm_nv sv (mm_np sv (mm_np sv (mm_np sv (mm_np sv (mm_np sv (mm_np sv (mm_np sv p 2) 1) 2) 2) 1) 1) 1) 1)))) ((r7).put (by decide) ((mm_nv sv (mm_np sv (mm_np sv (mm_np sv (mm_np sv (mm_np sv (mm_np sv (mm_np sv p 2) 1) 2) 2) 1) 1) 1) 1))) (fun d8 F8 r8 f8 => ?_) (fun d8 F8 r8 f8 => ?_)
                  · have T8 := (((T7).put 7 (by omega) (by omega) ((mm_nv sv (mm_np sv (mm_np sv (mm_np sv (mm_np sv (mm_np sv (mm_np sv (mm_np sv p 2) 1) 2) 2) 1) 1) 1) 1)))).ffr f8
                    refine mr_iast (pc := 184) d_Mo_readThing_184 hM.a_left (mm_inN (by omega) (by decide)) ?_
                    rw [mm_cl (n := 16 * 1 + i) (by omega)]
                    refine mv_ret (pc := 185) d_Mo_readThing_185 rfl ?_
                    have er : sv.drop (rT sv (mm_np sv (mm_np sv p 2) 1)) = a_sh (fun k => if k = 8 then (mm_nv sv (mm_np sv (mm_np sv (mm_np sv (mm_np sv (mm_np sv (mm_np sv (mm_np sv (mm_np sv p 2) 1) 2) 2) 1) 1) 1) 1) 2) else (fun k => if k = 7 then (mm_nv sv (mm_np sv (mm_np sv (mm_np sv (mm_np sv (mm_np sv (mm_np sv (mm_np sv p 2) 1) 2) 2) 1) 1) 1) 1) else (fun k => if k = 6 then (mm_nv sv (mm_np sv (mm_np sv (mm_np sv (mm_np sv (mm_np sv (mm_np sv p 2) 1) 2) 2) 1) 1) 1) else (fun k => if k = 5 then (mm_nv sv (mm_np sv (mm_np sv (mm_np sv (mm_np sv (mm_np sv p 2) 1) 2) 2) 1) 1) - 128 else (fun k => if k = 4 then (mm_nv sv (mm_np sv (mm_np sv (mm_np sv (mm_np sv p 2) 1) 2) 2) 1) - 128 else (fun k => if k = 3 then (mm_nv sv (mm_np sv (mm_np sv (mm_np sv p 2) 1) 2) 2) else (fun k => if k = 0 then (fun k => if k = 1 then 1 else (fun k => mm_gi h (54 + k) (16 * 1 + i)) k) 0 else if k = 1 then 1 else if k = 2 then (mm_nv sv (mm_np sv (mm_np sv p 2) 1) 2) else if k = 3 then 0 else 0) k) k) k) k) k) k) ++ (a_ti (fun k => if k = 8 then (mm_nv sv (mm_np sv (mm_np sv (mm_np sv (mm_np sv (mm_np sv (mm_np sv (mm_np sv (mm_np sv p 2) 1) 2) 2) 1) 1) 1) 1) 2) else (fun k => if k = 7 then (mm_nv sv (mm_np sv (mm_np sv (mm_np sv (mm_np sv (mm_np sv (mm_np sv (mm_np sv p 2) 1) 2) 2) 1) 1) 1) 1) else (fun k => if k = 6 then (mm_nv sv (mm_np sv (mm_np sv (mm_np sv (mm_np sv (mm_np sv (mm_np sv p 2) 1) 2) 2) 1) 1) 1) else (fun k => if k = 5 then (mm_nv sv (mm_np sv (mm_np sv (mm_np sv (mm_np sv (mm_np sv p 2) 1) 2) 2) 1) 1) - 128 else (fun k => if k = 4 then (mm_nv sv (mm_np sv (mm_np sv (mm_np sv (mm_np sv p 2) 1) 2) 2) 1) - 128 else (fun k => if k = 3 then (mm_nv sv (mm_np sv (mm_np sv (mm_np sv p 2) 1) 2) 2) else (fun k => if k = 0 then (fun k => if k = 1 then 1 else (fun k => mm_gi h (54 + k) (16 * 1 + i)) k) 0 else if k = 1 then 1 else if k = 2 then (mm_nv sv (mm_np sv (mm_np sv p 2) 1) 2) else if k = 3 then 0 else 0) k) k) k) k) k) k) ++ sv.drop (mm_np sv (mm_np sv (mm_np sv (mm_np sv (mm_np sv (mm_np sv (mm_np sv (mm_np sv (mm_np sv p 2) 1) 2) 2) 1) 1) 1) 1) 2)) := by
                      show _ = (if 0 < (mm_nv sv (mm_np sv (mm_np sv (mm_np sv (mm_np sv (mm_np sv (mm_np sv p 2) 1) 2) 2) 1) 1) 1) then mm_enc (mm_nv sv (mm_np sv (mm_np sv (mm_np sv (mm_np sv (mm_np sv (mm_np sv p 2) 1) 2) 2) 1) 1) 1) 1 ++ mm_enc (mm_nv sv (mm_np sv (mm_np sv (mm_np sv (mm_np sv (mm_np sv (mm_np sv (mm_np sv p 2) 1) 2) 2) 1) 1) 1) 1) 1 else []) ++ ((if 0 < (mm_nv sv (mm_np sv (mm_np sv (mm_np sv (mm_np sv (mm_np sv (mm_np sv (mm_np sv (mm_np sv p 2) 1) 2) 2) 1) 1) 1) 1) 2) then mm_enc (mm_nv sv (mm_np sv (mm_np sv (mm_np sv (mm_np sv (mm_np sv (mm_np sv (mm_np sv (mm_np sv p 2) 1) 2) 2) 1) 1) 1) 1) 2) 2 else []) ++ _)
                      have e5 := sh_ok hb ⟨d6, d7⟩
                      rw [if_pos (Int32.lt_of_lt_of_le (by decide) d6.1), List.append_assoc]
                      have e6 := nv_pos hb (n := 2) (by omega) (nv_ge (a := 1) (by decide) d8.1)
                      rw [if_pos (Int32.lt_of_lt_of_le (by decide) d8.1), ← e6]
                      exact e5
                    obtain ⟨w1, w2⟩ := rs_full (f := (fun k => if k = 8 then (mm_nv sv (mm_np sv (mm_np sv (mm_np sv (mm_np sv (mm_np sv (mm_np sv (mm_np sv (mm_np sv p 2) 1) 2) 2) 1) 1) 1) 1) 2) else (fun k => if k = 7 then (mm_nv sv (mm_np sv (mm_np sv (mm_np sv (mm_np sv (mm_np sv (mm_np sv (mm_np sv p 2) 1) 2) 2) 1) 1) 1) 1) else (fun k => if k = 6 then (mm_nv sv (mm_np sv (mm_np sv (mm_np sv (mm_np sv (mm_np sv (mm_np sv p 2) 1) 2) 2) 1) 1) 1) else (fun k => if k = 5 then (mm_nv sv (mm_np sv (mm_np sv (mm_np sv (mm_np sv (mm_np sv p 2) 1) 2) 2) 1) 1) - 128 else (fun k => if k = 4 then (mm_nv sv (mm_np sv (mm_np sv (mm_np sv (mm_np sv p 2) 1) 2) 2) 1) - 128 else (fun k => if k = 3 then (mm_nv sv (mm_np sv (mm_np sv (mm_np sv p 2) 1) 2) 2) else (fun k => if k = 0 then (fun k => if k = 1 then 1 else (fun k => mm_gi h (54 + k) (16 * 1 + i)) k) 0 else if k = 1 then 1 else if k = 2 then (mm_nv sv (mm_np sv (mm_np sv p 2) 1) 2) else if k = 3 then 0 else 0) k) k) k) k) k) k)) hb hkd.symm ⟨by decide, by decide⟩ ⟨⟨d2, d3⟩, ⟨f_28 d4, f_28 d5⟩⟩ hgen rfl rfl rfl rfl rfl (Or.inr ⟨by decide, d6, d7⟩) (Or.inr ⟨by decide, d8⟩) er
                    exact hq1 _ _ _ ((T8).put 8 (by omega) (by omega) ((mm_nv sv (mm_np sv (mm_np sv (mm_np sv (mm_np sv (mm_np sv (mm_np sv (mm_np sv (mm_np sv p 2) 1) 2) 2) 1) 1) 1) 1) 2))) ((r8).put (by decide) ((mm_nv sv (mm_np sv (mm_np sv (mm_np sv (mm_np sv (mm_np sv (mm_np sv (mm_np sv (mm_np sv p 2) 1) 2) 2) 1) 1) 1) 1) 2))) w1 w2
                  · have T8 := (((T7).put 7 (by omega) (by omega) ((mm_nv sv (mm_np sv (mm_np sv (mm_np sv (mm_np sv (mm_np sv (mm_np sv (mm_np sv p 2) 1) 2) 2) 1) 1) 1) 1)))).ffr f8
                    refine mr_iast (pc := 184) d_Mo_readThing_184 hM.a_left (mm_inN (by omega) (by decide)) ?_
                    rw [mm_cl (n := 16 * 1 + i) (by omega)]
                    refine mv_ret (pc := 185) d_Mo_readThing_185 rfl ?_
                    refine hq0 _ _ ((T8).put 8 (by omega) (by omega) (1)) (by simp [mm_gwi, mm_u2, mm_uwi, r8]) (fun g r hg e => ?_)
                    obtain ⟨u1, u2⟩ := rs_use hb hg e
                    rw [hkd] at u1
                    have gn := kd_g u1 (by decide)
                    have c8 : 0 < g 8 := Classical.not_not.mp fun z => absurd ((a_kind_bits gn).2.2.2.2.mpr z) (by rw [← u1]; decide)
                    have c6 : 0 < g 6 := Classical.not_not.mp fun z => absurd ((a_kind_bits gn).2.2.2.1.mpr z) (by rw [← u1]; decide)
                    exact d8 (ti_use hb hg gn c8 (sh_use hb hg gn c6 (u2 gn).2).2)
                · have T7 := (((T6).put 6 (by omega) (by omega) ((mm_nv sv (mm_np sv (mm_np sv (mm_np sv (mm_np sv (mm_np sv (mm_np sv p 2) 1) 2) 2) 1) 1) 1)))).ffr f7
                  refine mr_iast (pc := 163) d_Mo_readThing_163 hM.a_high (mm_inN (by omega) (by decide)) ?_
                  rw [mm_cl (n := 16 * 1 + i) (by omega)]
                  refine mv_iload_n (pc := 164) d_Mo_readThing_164 rfl ?_
                  refine mv_iconst (v := 4) (pc := 165) d_Mo_readThing_165 (by decide) ?_
                  refine mv_idiv (pc := 166) d_Mo_readThing_166 (by decide) ?_
                  refine mv_iconst (v := 1) (pc := 167) d_Mo_readThing_167 (by decide) ?_
                  refine mv_ic_ne 185 (pc := 168) d_Mo_readThing_168 (by decide) (fun z => absurd z (by decide)) (fun _ => ?_)
                  refine mv_aload_n (pc := 171) d_Mo_readThing_171 rfl ?_
                  refine mr_getr (pc := 172) d_Mo_readThing_172 fl_Mo_38 hM.1 rfl (by decide) hM.g_left ?_
                  refine mv_iload_n (pc := 175) d_Mo_readThing_175 rfl ?_
                  refine mv_aload_n (pc := 176) d_Mo_readThing_176 rfl ?_
                  refine mv_iconst (v := 2) (pc := 177) d_Mo_readThing_177 (by decide) ?_
                  refine mv_iconst (v := 1) (pc := 178) d_Mo_readThing_178 (by decide) ?_
                  refine mv_ldc (pc := 179) d_Mo_readThing_179 lc_Mo_109 ?_
                  refine mr_callV3 (pc := 181) d_Mo_readThing_181 (d2 := (1, 23)) ok_Mo_readIn li_Mo_149 sv_Mo_readIn hM.1 ⟨by decide, rfl⟩ ⟨by decide, rfl, rfl, rfl, Nat.le_of_ble_eq_true rfl, rfl, by decide, by decide⟩ ?_
                  refine c_mreadIn0 (h := mm_wi h (mm_u2 F7 61 (16 * 1 + i) (1))) (n := 2) hM (by omega) (by simp [mm_gwi, mm_u2, mm_uwi, r7]) (fun F8 r8 f8 => ?_)
                  have T8 := (((T7).put 7 (by omega) (by omega) (1))).ffr f8
                  refine mr_iast (pc := 184) d_Mo_readThing_184 hM.a_left (mm_inN (by omega) (by decide)) ?_
                  rw [mm_cl (n := 16 * 1 + i) (by omega)]
                  refine mv_ret (pc := 185) d_Mo_readThing_185 rfl ?_
                  refine hq0 _ _ ((T8).put 8 (by omega) (by omega) (1)) (by simp [mm_gwi, mm_u2, mm_uwi, r8]) (fun g r hg e => ?_)
                  obtain ⟨u1, u2⟩ := rs_use hb hg e
                  rw [hkd] at u1
                  have gn := kd_g u1 (by decide)
                  have c6 : 0 < g 6 := Classical.not_not.mp fun z => absurd ((a_kind_bits gn).2.2.2.1.mpr z) (by rw [← u1]; decide)
                  exact d7 (sh_use hb hg gn c6 (u2 gn).2).1.2
              · have T6 := (((T5).put 5 (by omega) (by omega) ((mm_nv sv (mm_np sv (mm_np sv (mm_np sv (mm_np sv (mm_np sv p 2) 1) 2) 2) 1) 1) - 128))).ffr f6
                refine mr_iast (pc := 148) d_Mo_readThing_148 hM.a_wide (mm_inN (by omega) (by decide)) ?_
                rw [mm_cl (n := 16 * 1 + i) (by omega)]
                refine mv_aload_n (pc := 149) d_Mo_readThing_149 rfl ?_
                refine mr_getr (pc := 150) d_Mo_readThing_150 fl_Mo_35 hM.1 rfl (by decide) hM.g_high ?_
                refine mv_iload_n (pc := 153) d_Mo_readThing_153 rfl ?_
                refine mv_aload_n (pc := 154) d_Mo_readThing_154 rfl ?_
                refine mv_iconst (v := 1) (pc := 155) d_Mo_readThing_155 (by decide) ?_
                refine mv_iconst (v := 1) (pc := 156) d_Mo_readThing_156 (by decide) ?_
                refine mv_sipush (v := 200) (pc := 157) d_Mo_readThing_157 (by decide) ?_
                refine mr_callV3 (pc := 160) d_Mo_readThing_160 (d2 := (1, 23)) ok_Mo_readIn li_Mo_149 sv_Mo_readIn hM.1 ⟨by decide, rfl⟩ ⟨by decide, rfl, rfl, rfl, Nat.le_of_ble_eq_true rfl, rfl, by decide, by decide⟩ ?_
                refine c_mreadIn0 (h := mm_wi h (mm_u2 F6 60 (16 * 1 + i) (1))) (n := 1) hM (by omega) (by simp [mm_gwi, mm_u2, mm_uwi, r6]) (fun F7 r7 f7 => ?_)
                have T7 := (((T6).put 6 (by omega) (by omega) (1))).ffr f7
                refine mr_iast (pc := 163) d_Mo_readThing_163 hM.a_high (mm_inN (by omega) (by decide)) ?_
                rw [mm_cl (n := 16 * 1 + i) (by omega)]
                refine mv_iload_n (pc := 164) d_Mo_readThing_164 rfl ?_
                refine mv_iconst (v := 4) (pc := 165) d_Mo_readThing_165 (by decide) ?_
                refine mv_idiv (pc := 166) d_Mo_readThing_166 (by decide) ?_
                refine mv_iconst (v := 1) (pc := 167) d_Mo_readThing_167 (by decide) ?_
                refine mv_ic_ne 185 (pc := 168) d_Mo_readThing_168 (by decide) (fun z => absurd z (by decide)) (fun _ => ?_)
                refine mv_aload_n (pc := 171) d_Mo_readThing_171 rfl ?_
                refine mr_getr (pc := 172) d_Mo_readThing_172 fl_Mo_38 hM.1 rfl (by decide) hM.g_left ?_
                refine mv_iload_n (pc := 175) d_Mo_readThing_175 rfl ?_
                refine mv_aload_n (pc := 176) d_Mo_readThing_176 rfl ?_
                refine mv_iconst (v := 2) (pc := 177) d_Mo_readThing_177 (by decide) ?_
                refine mv_iconst (v := 1) (pc := 178) d_Mo_readThing_178 (by decide) ?_
                refine mv_ldc (pc := 179) d_Mo_readThing_179 lc_Mo_109 ?_
                refine mr_callV3 (pc := 181) d_Mo_readThing_181 (d2 := (1, 23)) ok_Mo_readIn li_Mo_149 sv_Mo_readIn hM.1 ⟨by decide, rfl⟩ ⟨by decide, rfl, rfl, rfl, Nat.le_of_ble_eq_true rfl, rfl, by decide, by decide⟩ ?_
                refine c_mreadIn0 (h := mm_wi h (mm_u2 F7 61 (16 * 1 + i) (1))) (n := 2) hM (by omega) (by simp [mm_gwi, mm_u2, mm_uwi, r7]) (fun F8 r8 f8 => ?_)
                have T8 := (((T7).put 7 (by omega) (by omega) (1))).ffr f8
                refine mr_iast (pc := 184) d_Mo_readThing_184 hM.a_left (mm_inN (by omega) (by decide)) ?_
                rw [mm_cl (n := 16 * 1 + i) (by omega)]
                refine mv_ret (pc := 185) d_Mo_readThing_185 rfl ?_
                refine hq0 _ _ ((T8).put 8 (by omega) (by omega) (1)) (by simp [mm_gwi, mm_u2, mm_uwi, r8]) (fun g r hg e => ?_)
                obtain ⟨u1, u2⟩ := rs_use hb hg e
                rw [hkd] at u1
                have gn := kd_g u1 (by decide)
                have c6 : 0 < g 6 := Classical.not_not.mp fun z => absurd ((a_kind_bits gn).2.2.2.1.mpr z) (by rw [← u1]; decide)
                exact d6 (sh_use hb hg gn c6 (u2 gn).2).1.1
            · have T5 := (((T4).put 4 (by omega) (by omega) ((mm_nv sv (mm_np sv (mm_np sv (mm_np sv (mm_np sv p 2) 1) 2) 2) 1) - 128))).ffr f5
              refine mv_sipush (v := 128) (pc := 120) d_Mo_readThing_120 (by decide) ?_
              refine mv_isub (pc := 123) d_Mo_readThing_123 ?_
              refine mr_iast (pc := 124) d_Mo_readThing_124 hM.a_sy (mm_inN (by omega) (by decide)) ?_
              rw [mm_cl (n := 16 * 1 + i) (by omega)]
              refine mv_iload_n (pc := 125) d_Mo_readThing_125 rfl ?_
              refine mv_iconst (v := 2) (pc := 126) d_Mo_readThing_126 (by decide) ?_
              refine mv_idiv (pc := 127) d_Mo_readThing_127 (by decide) ?_
              refine mv_iconst (v := 2) (pc := 128) d_Mo_readThing_128 (by decide) ?_
              refine mv_irem (pc := 129) d_Mo_readThing_129 (by decide) ?_
              refine mv_iconst (v := 1) (pc := 130) d_Mo_readThing_130 (by decide) ?_
              refine mv_ic_ne 164 (pc := 131) d_Mo_readThing_131 (by decide) (fun z => absurd z (by decide)) (fun _ => ?_)
              refine mv_aload_n (pc := 134) d_Mo_readThing_134 rfl ?_
              refine mr_getr (pc := 135) d_Mo_readThing_135 fl_Mo_32 hM.1 rfl (by decide) hM.g_wide ?_
              refine mv_iload_n (pc := 138) d_Mo_readThing_138 rfl ?_
              refine mv_aload_n (pc := 139) d_Mo_readThing_139 rfl ?_
              refine mv_iconst (v := 1) (pc := 140) d_Mo_readThing_140 (by decide) ?_
              refine mv_iconst (v := 1) (pc := 141) d_Mo_readThing_141 (by decide) ?_
              refine mv_sipush (v := 200) (pc := 142) d_Mo_readThing_142 (by decide) ?_
              refine mr_callV3 (pc := 145) d_Mo_readThing_145 (d2 := (1, 23)) ok_Mo_readIn li_Mo_149 sv_Mo_readIn hM.1 ⟨by decide, rfl⟩ ⟨by decide, rfl, rfl, rfl, Nat.le_of_ble_eq_true rfl, rfl, by decide, by decide⟩ ?_
              refine c_mreadIn0 (h := mm_wi h (mm_u2 F5 59 (16 * 1 + i) (28 - 128))) (n := 1) hM (by omega) (by simp [mm_gwi, mm_u2, mm_uwi, r5]) (fun F6 r6 f6 => ?_)
              have T6 := (((T5).put 5 (by omega) (by omega) (28 - 128))).ffr f6
              refine mr_iast (pc := 148) d_Mo_readThing_148 hM.a_wide (mm_inN (by omega) (by decide)) ?_
              rw [mm_cl (n := 16 * 1 + i) (by omega)]
              refine mv_aload_n (pc := 149) d_Mo_readThing_149 rfl ?_
              refine mr_getr (pc := 150) d_Mo_readThing_150 fl_Mo_35 hM.1 rfl (by decide) hM.g_high ?_
              refine mv_iload_n (pc := 153) d_Mo_readThing_153 rfl ?_
              refine mv_aload_n (pc := 154) d_Mo_readThing_154 rfl ?_
              refine mv_iconst (v := 1) (pc := 155) d_Mo_readThing_155 (by decide) ?_
              refine mv_iconst (v := 1) (pc := 156) d_Mo_readThing_156 (by decide) ?_
              refine mv_sipush (v := 200) (pc := 157) d_Mo_readThing_157 (by decide) ?_
              refine mr_callV3 (pc := 160) d_Mo_readThing_160 (d2 := (1, 23)) ok_Mo_readIn li_Mo_149 sv_Mo_readIn hM.1 ⟨by decide, rfl⟩ ⟨by decide, rfl, rfl, rfl, Nat.le_of_ble_eq_true rfl, rfl, by decide, by decide⟩ ?_
              refine c_mreadIn0 (h := mm_wi h (mm_u2 F6 60 (16 * 1 + i) (1))) (n := 1) hM (by omega) (by simp [mm_gwi, mm_u2, mm_uwi, r6]) (fun F7 r7 f7 => ?_)
              have T7 := (((T6).put 6 (by omega) (by omega) (1))).ffr f7
              refine mr_iast (pc := 163) d_Mo_readThing_163 hM.a_high (mm_inN (by omega) (by decide)) ?_
              rw [mm_cl (n := 16 * 1 + i) (by omega)]
              refine mv_iload_n (pc := 164) d_Mo_readThing_164 rfl ?_
              refine mv_iconst (v := 4) (pc := 165) d_Mo_readThing_165 (by decide) ?_
              refine mv_idiv (pc := 166) d_Mo_readThing_166 (by decide) ?_
              refine mv_iconst (v := 1) (pc := 167) d_Mo_readThing_167 (by decide) ?_
              refine mv_ic_ne 185 (pc := 168) d_Mo_readThing_168 (by decide) (fun z => absurd z (by decide)) (fun _ => ?_)
              refine mv_aload_n (pc := 171) d_Mo_readThing_171 rfl ?_
              refine mr_getr (pc := 172) d_Mo_readThing_172 fl_Mo_38 hM.1 rfl (by decide) hM.g_left ?_
              refine mv_iload_n (pc := 175) d_Mo_readThing_175 rfl ?_
              refine mv_aload_n (pc := 176) d_Mo_readThing_176 rfl ?_
              refine mv_iconst (v := 2) (pc := 177) d_Mo_readThing_177 (by decide) ?_
              refine mv_iconst (v := 1) (pc := 178) d_Mo_readThing_178 (by decide) ?_
              refine mv_ldc (pc := 179) d_Mo_readThing_179 lc_Mo_109 ?_
              refine mr_callV3 (pc := 181) d_Mo_readThing_181 (d2 := (1, 23)) ok_Mo_readIn li_Mo_149 sv_Mo_readIn hM.1 ⟨by decide, rfl⟩ ⟨by decide, rfl, rfl, rfl, Nat.le_of_ble_eq_true rfl, rfl, by decide, by decide⟩ ?_
              refine c_mreadIn0 (h := mm_wi h (mm_u2 F7 61 (16 * 1 + i) (1))) (n := 2) hM (by omega) (by simp [mm_gwi, mm_u2, mm_uwi, r7]) (fun F8 r8 f8 => ?_)
              have T8 := (((T7).put 7 (by omega) (by omega) (1))).ffr f8
              refine mr_iast (pc := 184) d_Mo_readThing_184 hM.a_left (mm_inN (by omega) (by decide)) ?_
              rw [mm_cl (n := 16 * 1 + i) (by omega)]
              refine mv_ret (pc := 185) d_Mo_readThing_185 rfl ?_
              refine hq0 _ _ ((T8).put 8 (by omega) (by omega) (1)) (by simp [mm_gwi, mm_u2, mm_uwi, r8]) (fun g r hg e => ?_)
              obtain ⟨u1, u2⟩ := rs_use hb hg e
              rw [hkd] at u1
              have gn := kd_g u1 (by decide)
              exact d5 (f_28i (u2 gn).1.2.2 (nv_rng1 hb _))
          · have T4 := (((T3).put 3 (by omega) (by omega) ((mm_nv sv (mm_np sv (mm_np sv (mm_np sv p 2) 1) 2) 2)))).ffr f4
            refine mv_sipush (v := 128) (pc := 100) d_Mo_readThing_100 (by decide) ?_
            refine mv_isub (pc := 103) d_Mo_readThing_103 ?_
            refine mr_iast (pc := 104) d_Mo_readThing_104 hM.a_sx (mm_inN (by omega) (by decide)) ?_
            rw [mm_cl (n := 16 * 1 + i) (by omega)]
            refine mv_aload_n (pc := 105) d_Mo_readThing_105 rfl ?_
            refine mr_getr (pc := 106) d_Mo_readThing_106 fl_Mo_29 hM.1 rfl (by decide) hM.g_sy ?_
            refine mv_iload_n (pc := 109) d_Mo_readThing_109 rfl ?_
            refine mv_aload_n (pc := 110) d_Mo_readThing_110 rfl ?_
            refine mv_iconst (v := 1) (pc := 111) d_Mo_readThing_111 (by decide) ?_
            refine mv_bipush (v := 28) (pc := 112) d_Mo_readThing_112 (by decide) ?_
            refine mv_sipush (v := 228) (pc := 114) d_Mo_readThing_114 (by decide) ?_
            refine mr_callV3 (pc := 117) d_Mo_readThing_117 (d2 := (1, 23)) ok_Mo_readIn li_Mo_149 sv_Mo_readIn hM.1 ⟨by decide, rfl⟩ ⟨by decide, rfl, rfl, rfl, Nat.le_of_ble_eq_true rfl, rfl, by decide, by decide⟩ ?_
            refine c_mreadIn0 (h := mm_wi h (mm_u2 F4 58 (16 * 1 + i) (28 - 128))) (n := 1) hM (by omega) (by simp [mm_gwi, mm_u2, mm_uwi, r4]) (fun F5 r5 f5 => ?_)
            have T5 := (((T4).put 4 (by omega) (by omega) (28 - 128))).ffr f5
            refine mv_sipush (v := 128) (pc := 120) d_Mo_readThing_120 (by decide) ?_
            refine mv_isub (pc := 123) d_Mo_readThing_123 ?_
            refine mr_iast (pc := 124) d_Mo_readThing_124 hM.a_sy (mm_inN (by omega) (by decide)) ?_
            rw [mm_cl (n := 16 * 1 + i) (by omega)]
            refine mv_iload_n (pc := 125) d_Mo_readThing_125 rfl ?_
            refine mv_iconst (v := 2) (pc := 126) d_Mo_readThing_126 (by decide) ?_
            refine mv_idiv (pc := 127) d_Mo_readThing_127 (by decide) ?_
            refine mv_iconst (v := 2) (pc := 128) d_Mo_readThing_128 (by decide) ?_
            refine mv_irem (pc := 129) d_Mo_readThing_129 (by decide) ?_
            refine mv_iconst (v := 1) (pc := 130) d_Mo_readThing_130 (by decide) ?_
            refine mv_ic_ne 164 (pc := 131) d_Mo_readThing_131 (by decide) (fun z => absurd z (by decide)) (fun _ => ?_)
            refine mv_aload_n (pc := 134) d_Mo_readThing_134 rfl ?_
            refine mr_getr (pc := 135) d_Mo_readThing_135 fl_Mo_32 hM.1 rfl (by decide) hM.g_wide ?_
            refine mv_iload_n (pc := 138) d_Mo_readThing_138 rfl ?_
            refine mv_aload_n (pc := 139) d_Mo_readThing_139 rfl ?_
            refine mv_iconst (v := 1) (pc := 140) d_Mo_readThing_140 (by decide) ?_
            refine mv_iconst (v := 1) (pc := 141) d_Mo_readThing_141 (by decide) ?_
            refine mv_sipush (v := 200) (pc := 142) d_Mo_readThing_142 (by decide) ?_
            refine mr_callV3 (pc := 145) d_Mo_readThing_145 (d2 := (1, 23)) ok_Mo_readIn li_Mo_149 sv_Mo_readIn hM.1 ⟨by decide, rfl⟩ ⟨by decide, rfl, rfl, rfl, Nat.le_of_ble_eq_true rfl, rfl, by decide, by decide⟩ ?_
            refine c_mreadIn0 (h := mm_wi h (mm_u2 F5 59 (16 * 1 + i) (28 - 128))) (n := 1) hM (by omega) (by simp [mm_gwi, mm_u2, mm_uwi, r5]) (fun F6 r6 f6 => ?_)
            have T6 := (((T5).put 5 (by omega) (by omega) (28 - 128))).ffr f6
            refine mr_iast (pc := 148) d_Mo_readThing_148 hM.a_wide (mm_inN (by omega) (by decide)) ?_
            rw [mm_cl (n := 16 * 1 + i) (by omega)]
            refine mv_aload_n (pc := 149) d_Mo_readThing_149 rfl ?_
            refine mr_getr (pc := 150) d_Mo_readThing_150 fl_Mo_35 hM.1 rfl (by decide) hM.g_high ?_
            refine mv_iload_n (pc := 153) d_Mo_readThing_153 rfl ?_
            refine mv_aload_n (pc := 154) d_Mo_readThing_154 rfl ?_
            refine mv_iconst (v := 1) (pc := 155) d_Mo_readThing_155 (by decide) ?_
            refine mv_iconst (v := 1) (pc := 156) d_Mo_readThing_156 (by decide) ?_
            refine mv_sipush (v := 200) (pc := 157) d_Mo_readThing_157 (by decide) ?_
            refine mr_callV3 (pc := 160) d_Mo_readThing_160 (d2 := (1, 23)) ok_Mo_readIn li_Mo_149 sv_Mo_readIn hM.1 ⟨by decide, rfl⟩ ⟨by decide, rfl, rfl, rfl, Nat.le_of_ble_eq_true rfl, rfl, by decide, by decide⟩ ?_
            refine c_mreadIn0 (h := mm_wi h (mm_u2 F6 60 (16 * 1 + i) (1))) (n := 1) hM (by omega) (by simp [mm_gwi, mm_u2, mm_uwi, r6]) (fun F7 r7 f7 => ?_)
            have T7 := (((T6).put 6 (by omega) (by omega) (1))).ffr f7
            refine mr_iast (pc := 163) d_Mo_readThing_163 hM.a_high (mm_inN (by omega) (by decide)) ?_
            rw [mm_cl (n := 16 * 1 + i) (by omega)]
            refine mv_iload_n (pc := 164) d_Mo_readThing_164 rfl ?_
            refine mv_iconst (v := 4) (pc := 165) d_Mo_readThing_165 (by decide) ?_
            refine mv_idiv (pc := 166) d_Mo_readThing_166 (by decide) ?_
            refine mv_iconst (v := 1) (pc := 167) d_Mo_readThing_167 (by decide) ?_
            refine mv_ic_ne 185 (pc := 168) d_Mo_readThing_168 (by decide) (fun z => absurd z (by decide)) (fun _ => ?_)
            refine mv_aload_n (pc := 171) d_Mo_readThing_171 rfl ?_
            refine mr_getr (pc := 172) d_Mo_readThing_172 fl_Mo_38 hM.1 rfl (by decide) hM.g_left ?_
            refine mv_iload_n (pc := 175) d_Mo_readThing_175 rfl ?_
            refine mv_aload_n (pc := 176) d_Mo_readThing_176 rfl ?_
            refine mv_iconst (v := 2) (pc := 177) d_Mo_readThing_177 (by decide) ?_
            refine mv_iconst (v := 1) (pc := 178) d_Mo_readThing_178 (by decide) ?_
            refine mv_ldc (pc := 179) d_Mo_readThing_179 lc_Mo_109 ?_
            refine mr_callV3 (pc := 181) d_Mo_readThing_181 (d2 := (1, 23)) ok_Mo_readIn li_Mo_149 sv_Mo_readIn hM.1 ⟨by decide, rfl⟩ ⟨by decide, rfl, rfl, rfl, Nat.le_of_ble_eq_true rfl, rfl, by decide, by decide⟩ ?_
            refine c_mreadIn0 (h := mm_wi h (mm_u2 F7 61 (16 * 1 + i) (1))) (n := 2) hM (by omega) (by simp [mm_gwi, mm_u2, mm_uwi, r7]) (fun F8 r8 f8 => ?_)
            have T8 := (((T7).put 7 (by omega) (by omega) (1))).ffr f8
            refine mr_iast (pc := 184) d_Mo_readThing_184 hM.a_left (mm_inN (by omega) (by decide)) ?_
            rw [mm_cl (n := 16 * 1 + i) (by omega)]
            refine mv_ret (pc := 185) d_Mo_readThing_185 rfl ?_
            refine hq0 _ _ ((T8).put 8 (by omega) (by omega) (1)) (by simp [mm_gwi, mm_u2, mm_uwi, r8]) (fun g r hg e => ?_)
            obtain ⟨u1, u2⟩ := rs_use hb hg e
            rw [hkd] at u1
            have gn := kd_g u1 (by decide)
            exact d4 (f_28i (u2 gn).1.2.1 (nv_rng1 hb _))
        · have T3 := (T20).ffr f3
          refine mr_iast (pc := 84) d_Mo_readThing_84 hM.a_py (mm_inN (by omega) (by decide)) ?_
          rw [mm_cl (n := 16 * 1 + i) (by omega)]
          refine mv_aload_n (pc := 85) d_Mo_readThing_85 rfl ?_
          refine mr_getr (pc := 86) d_Mo_readThing_86 fl_Mo_26 hM.1 rfl (by decide) hM.g_sx ?_
          refine mv_iload_n (pc := 89) d_Mo_readThing_89 rfl ?_
          refine mv_aload_n (pc := 90) d_Mo_readThing_90 rfl ?_
          refine mv_iconst (v := 1) (pc := 91) d_Mo_readThing_91 (by decide) ?_
          refine mv_bipush (v := 28) (pc := 92) d_Mo_readThing_92 (by decide) ?_
          refine mv_sipush (v := 228) (pc := 94) d_Mo_readThing_94 (by decide) ?_
          refine mr_callV3 (pc := 97) d_Mo_readThing_97 (d2 := (1, 23)) ok_Mo_readIn li_Mo_149 sv_Mo_readIn hM.1 ⟨by decide, rfl⟩ ⟨by decide, rfl, rfl, rfl, Nat.le_of_ble_eq_true rfl, rfl, by decide, by decide⟩ ?_
          refine c_mreadIn0 (h := mm_wi h (mm_u2 F3 57 (16 * 1 + i) (0))) (n := 1) hM (by omega) (by simp [mm_gwi, mm_u2, mm_uwi, r3]) (fun F4 r4 f4 => ?_)
          have T4 := (((T3).put 3 (by omega) (by omega) (0))).ffr f4
          refine mv_sipush (v := 128) (pc := 100) d_Mo_readThing_100 (by decide) ?_
          refine mv_isub (pc := 103) d_Mo_readThing_103 ?_
          refine mr_iast (pc := 104) d_Mo_readThing_104 hM.a_sx (mm_inN (by omega) (by decide)) ?_
          rw [mm_cl (n := 16 * 1 + i) (by omega)]
          refine mv_aload_n (pc := 105) d_Mo_readThing_105 rfl ?_
          refine mr_getr (pc := 106) d_Mo_readThing_106 fl_Mo_29 hM.1 rfl (by decide) hM.g_sy ?_
          refine mv_iload_n (pc := 109) d_Mo_readThing_109 rfl ?_
          refine mv_aload_n (pc := 110) d_Mo_readThing_110 rfl ?_
          refine mv_iconst (v := 1) (pc := 111) d_Mo_readThing_111 (by decide) ?_
          refine mv_bipush (v := 28) (pc := 112) d_Mo_readThing_112 (by decide) ?_
          refine mv_sipush (v := 228) (pc := 114) d_Mo_readThing_114 (by decide) ?_
          refine mr_callV3 (pc := 117) d_Mo_readThing_117 (d2 := (1, 23)) ok_Mo_readIn li_Mo_149 sv_Mo_readIn hM.1 ⟨by decide, rfl⟩ ⟨by decide, rfl, rfl, rfl, Nat.le_of_ble_eq_true rfl, rfl, by decide, by decide⟩ ?_
          refine c_mreadIn0 (h := mm_wi h (mm_u2 F4 58 (16 * 1 + i) (28 - 128))) (n := 1) hM (by omega) (by simp [mm_gwi, mm_u2, mm_uwi, r4]) (fun F5 r5 f5 => ?_)
          have T5 := (((T4).put 4 (by omega) (by omega) (28 - 128))).ffr f5
          refine mv_sipush (v := 128) (pc := 120) d_Mo_readThing_120 (by decide) ?_
          refine mv_isub (pc := 123) d_Mo_readThing_123 ?_
          refine mr_iast (pc := 124) d_Mo_readThing_124 hM.a_sy (mm_inN (by omega) (by decide)) ?_
          rw [mm_cl (n := 16 * 1 + i) (by omega)]
          refine mv_iload_n (pc := 125) d_Mo_readThing_125 rfl ?_
          refine mv_iconst (v := 2) (pc := 126) d_Mo_readThing_126 (by decide) ?_
          refine mv_idiv (pc := 127) d_Mo_readThing_127 (by decide) ?_
          refine mv_iconst (v := 2) (pc := 128) d_Mo_readThing_128 (by decide) ?_
          refine mv_irem (pc := 129) d_Mo_readThing_129 (by decide) ?_
          refine mv_iconst (v := 1) (pc := 130) d_Mo_readThing_130 (by decide) ?_
          refine mv_ic_ne 164 (pc := 131) d_Mo_readThing_131 (by decide) (fun z => absurd z (by decide)) (fun _ => ?_)
          refine mv_aload_n (pc := 134) d_Mo_readThing_134 rfl ?_
          refine mr_getr (pc := 135) d_Mo_readThing_135 fl_Mo_32 hM.1 rfl (by decide) hM.g_wide ?_
          refine mv_iload_n (pc := 138) d_Mo_readThing_138 rfl ?_
          refine mv_aload_n (pc := 139) d_Mo_readThing_139 rfl ?_
          refine mv_iconst (v := 1) (pc := 140) d_Mo_readThing_140 (by decide) ?_
          refine mv_iconst (v := 1) (pc := 141) d_Mo_readThing_141 (by decide) ?_
          refine mv_sipush (v := 200) (pc := 142) d_Mo_readThing_142 (by decide) ?_
          refine mr_callV3 (pc := 145) d_Mo_readThing_145 (d2 := (1, 23)) ok_Mo_readIn li_Mo_149 sv_Mo_readIn hM.1 ⟨by decide, rfl⟩ ⟨by decide, rfl, rfl, rfl, Nat.le_of_ble_eq_true rfl, rfl, by decide, by decide⟩ ?_
          refine c_mreadIn0 (h := mm_wi h (mm_u2 F5 59 (16 * 1 + i) (28 - 128))) (n := 1) hM (by omega) (by simp [mm_gwi, mm_u2, mm_uwi, r5]) (fun F6 r6 f6 => ?_)
          have T6 := (((T5).put 5 (by omega) (by omega) (28 - 128))).ffr f6
          refine mr_iast (pc := 148) d_Mo_readThing_148 hM.a_wide (mm_inN (by omega) (by decide)) ?_
          rw [mm_cl (n := 16 * 1 + i) (by omega)]
          refine mv_aload_n (pc := 149) d_Mo_readThing_149 rfl ?_
          refine mr_getr (pc := 150) d_Mo_readThing_150 fl_Mo_35 hM.1 rfl (by decide) hM.g_high ?_
          refine mv_iload_n (pc := 153) d_Mo_readThing_153 rfl ?_
          refine mv_aload_n (pc := 154) d_Mo_readThing_154 rfl ?_
          refine mv_iconst (v := 1) (pc := 155) d_Mo_readThing_155 (by decide) ?_
          refine mv_iconst (v := 1) (pc := 156) d_Mo_readThing_156 (by decide) ?_
          refine mv_sipush (v := 200) (pc := 157) d_Mo_readThing_157 (by decide) ?_
          refine mr_callV3 (pc := 160) d_Mo_readThing_160 (d2 := (1, 23)) ok_Mo_readIn li_Mo_149 sv_Mo_readIn hM.1 ⟨by decide, rfl⟩ ⟨by decide, rfl, rfl, rfl, Nat.le_of_ble_eq_true rfl, rfl, by decide, by decide⟩ ?_
          refine c_mreadIn0 (h := mm_wi h (mm_u2 F6 60 (16 * 1 + i) (1))) (n := 1) hM (by omega) (by simp [mm_gwi, mm_u2, mm_uwi, r6]) (fun F7 r7 f7 => ?_)
          have T7 := (((T6).put 6 (by omega) (by omega) (1))).ffr f7
          refine mr_iast (pc := 163) d_Mo_readThing_163 hM.a_high (mm_inN (by omega) (by decide)) ?_
          rw [mm_cl (n := 16 * 1 + i) (by omega)]
          refine mv_iload_n (pc := 164) d_Mo_readThing_164 rfl ?_
          refine mv_iconst (v := 4) (pc := 165) d_Mo_readThing_165 (by decide) ?_
          refine mv_idiv (pc := 166) d_Mo_readThing_166 (by decide) ?_
          refine mv_iconst (v := 1) (pc := 167) d_Mo_readThing_167 (by decide) ?_
          refine mv_ic_ne 185 (pc := 168) d_Mo_readThing_168 (by decide) (fun z => absurd z (by decide)) (fun _ => ?_)
          refine mv_aload_n (pc := 171) d_Mo_readThing_171 rfl ?_
          refine mr_getr (pc := 172) d_Mo_readThing_172 fl_Mo_38 hM.1 rfl (by decide) hM.g_left ?_
          refine mv_iload_n (pc := 175) d_Mo_readThing_175 rfl ?_
          refine mv_aload_n (pc := 176) d_Mo_readThing_176 rfl ?_
          refine mv_iconst (v := 2) (pc := 177) d_Mo_readThing_177 (by decide) ?_
          refine mv_iconst (v := 1) (pc := 178) d_Mo_readThing_178 (by decide) ?_
          refine mv_ldc (pc := 179) d_Mo_readThing_179 lc_Mo_109 ?_
          refine mr_callV3 (pc := 181) d_Mo_readThing_181 (d2 := (1, 23)) ok_Mo_readIn li_Mo_149 sv_Mo_readIn hM.1 ⟨by decide, rfl⟩ ⟨by decide, rfl, rfl, rfl, Nat.le_of_ble_eq_true rfl, rfl, by decide, by decide⟩ ?_
          refine c_mreadIn0 (h := mm_wi h (mm_u2 F7 61 (16 * 1 + i) (1))) (n := 2) hM (by omega) (by simp [mm_gwi, mm_u2, mm_uwi, r7]) (fun F8 r8 f8 => ?_)
          have T8 := (((T7).put 7 (by omega) (by omega) (1))).ffr f8
          refine mr_iast (pc := 184) d_Mo_readThing_184 hM.a_left (mm_inN (by omega) (by decide)) ?_
          rw [mm_cl (n := 16 * 1 + i) (by omega)]
          refine mv_ret (pc := 185) d_Mo_readThing_185 rfl ?_
          refine hq0 _ _ ((T8).put 8 (by omega) (by omega) (1)) (by simp [mm_gwi, mm_u2, mm_uwi, r8]) (fun g r hg e => ?_)
          obtain ⟨u1, u2⟩ := rs_use hb hg e
          rw [hkd] at u1
          have gn := kd_g u1 (by decide)
          exact d3 (u2 gn).1.1.2
      · have T2 := (((((((TS.init (mm_gi h) (16 * 1 + i)).ffr f1)).put 1 (by omega) (by omega) (1))).snd 1)).ffr f2
        refine mv_iconst (v := 0) (pc := 66) d_Mo_readThing_66 (by decide) ?_
        refine mr_callV3 (pc := 67) d_Mo_readThing_67 (d2 := (0, 0)) ok_Mo_make li_Mo_98 sv_Mo_make hM.1 ⟨by decide, rfl⟩ ⟨by decide, rfl, rfl, rfl, Nat.le_of_ble_eq_true rfl, rfl, by decide, by decide⟩ ?_
        refine c_make (k := 1) (h := mm_wi h F2) (by omega) hM hi (RM_self F2 1) (fun F20 _ _ e20 => ?_)
        have T20 := T2.make e20
        have z20 : F20 52 23 = 0 := by rw [e20]; simpa [mm_gwi] using r2
        refine mv_aload_n (pc := 70) d_Mo_readThing_70 rfl ?_
        refine mr_getr (pc := 71) d_Mo_readThing_71 fl_Mo_23 hM.1 rfl (by decide) hM.g_py ?_
        refine mv_iload_n (pc := 74) d_Mo_readThing_74 rfl ?_
        refine mv_aload_n (pc := 75) d_Mo_readThing_75 rfl ?_
        refine mv_iconst (v := 2) (pc := 76) d_Mo_readThing_76 (by decide) ?_
        refine mv_iconst (v := 0) (pc := 77) d_Mo_readThing_77 (by decide) ?_
        refine mv_sipush (v := 4095) (pc := 78) d_Mo_readThing_78 (by decide) ?_
        refine mr_callV3 (pc := 81) d_Mo_readThing_81 (d2 := (1, 23)) ok_Mo_readIn li_Mo_149 sv_Mo_readIn hM.1 ⟨by decide, rfl⟩ ⟨by decide, rfl, rfl, rfl, Nat.le_of_ble_eq_true rfl, rfl, by decide, by decide⟩ ?_
        refine c_mreadIn0 (h := mm_wi h F20) (n := 2) hM (by omega) (by simp [mm_gwi, mm_u2, mm_uwi, z20]) (fun F3 r3 f3 => ?_)
        have T3 := (T20).ffr f3
        refine mr_iast (pc := 84) d_Mo_readThing_84 hM.a_py (mm_inN (by omega) (by decide)) ?_
        rw [mm_cl (n := 16 * 1 + i) (by omega)]
        refine mv_aload_n (pc := 85) d_Mo_readThing_85 rfl ?_
        refine mr_getr (pc := 86) d_Mo_readThing_86 fl_Mo_26 hM.1 rfl (by decide) hM.g_sx ?_
        refine mv_iload_n (pc := 89) d_Mo_readThing_89 rfl ?_
        refine mv_aload_n (pc := 90) d_Mo_readThing_90 rfl ?_
        refine mv_iconst (v := 1) (pc := 91) d_Mo_readThing_91 (by decide) ?_
        refine mv_bipush (v := 28) (pc := 92) d_Mo_readThing_92 (by decide) ?_
        refine mv_sipush (v := 228) (pc := 94) d_Mo_readThing_94 (by decide) ?_
        refine mr_callV3 (pc := 97) d_Mo_readThing_97 (d2 := (1, 23)) ok_Mo_readIn li_Mo_149 sv_Mo_readIn hM.1 ⟨by decide, rfl⟩ ⟨by decide, rfl, rfl, rfl, Nat.le_of_ble_eq_true rfl, rfl, by decide, by decide⟩ ?_
        refine c_mreadIn0 (h := mm_wi h (mm_u2 F3 57 (16 * 1 + i) (0))) (n := 1) hM (by omega) (by simp [mm_gwi, mm_u2, mm_uwi, r3]) (fun F4 r4 f4 => ?_)
        have T4 := (((T3).put 3 (by omega) (by omega) (0))).ffr f4
        refine mv_sipush (v := 128) (pc := 100) d_Mo_readThing_100 (by decide) ?_
        refine mv_isub (pc := 103) d_Mo_readThing_103 ?_
        refine mr_iast (pc := 104) d_Mo_readThing_104 hM.a_sx (mm_inN (by omega) (by decide)) ?_
        rw [mm_cl (n := 16 * 1 + i) (by omega)]
        refine mv_aload_n (pc := 105) d_Mo_readThing_105 rfl ?_
        refine mr_getr (pc := 106) d_Mo_readThing_106 fl_Mo_29 hM.1 rfl (by decide) hM.g_sy ?_
        refine mv_iload_n (pc := 109) d_Mo_readThing_109 rfl ?_
        refine mv_aload_n (pc := 110) d_Mo_readThing_110 rfl ?_
        refine mv_iconst (v := 1) (pc := 111) d_Mo_readThing_111 (by decide) ?_
        refine mv_bipush (v := 28) (pc := 112) d_Mo_readThing_112 (by decide) ?_
        refine mv_sipush (v := 228) (pc := 114) d_Mo_readThing_114 (by decide) ?_
        refine mr_callV3 (pc := 117) d_Mo_readThing_117 (d2 := (1, 23)) ok_Mo_readIn li_Mo_149 sv_Mo_readIn hM.1 ⟨by decide, rfl⟩ ⟨by decide, rfl, rfl, rfl, Nat.le_of_ble_eq_true rfl, rfl, by decide, by decide⟩ ?_
        refine c_mreadIn0 (h := mm_wi h (mm_u2 F4 58 (16 * 1 + i) (28 - 128))) (n := 1) hM (by omega) (by simp [mm_gwi, mm_u2, mm_uwi, r4]) (fun F5 r5 f5 => ?_)
        have T5 := (((T4).put 4 (by omega) (by omega) (28 - 128))).ffr f5
        refine mv_sipush (v := 128) (pc := 120) d_Mo_readThing_120 (by decide) ?_
        refine mv_isub (pc := 123) d_Mo_readThing_123 ?_
        refine mr_iast (pc := 124) d_Mo_readThing_124 hM.a_sy (mm_inN (by omega) (by decide)) ?_
        rw [mm_cl (n := 16 * 1 + i) (by omega)]
        refine mv_iload_n (pc := 125) d_Mo_readThing_125 rfl ?_
        refine mv_iconst (v := 2) (pc := 126) d_Mo_readThing_126 (by decide) ?_
        refine mv_idiv (pc := 127) d_Mo_readThing_127 (by decide) ?_
        refine mv_iconst (v := 2) (pc := 128) d_Mo_readThing_128 (by decide) ?_
        refine mv_irem (pc := 129) d_Mo_readThing_129 (by decide) ?_
        refine mv_iconst (v := 1) (pc := 130) d_Mo_readThing_130 (by decide) ?_
        refine mv_ic_ne 164 (pc := 131) d_Mo_readThing_131 (by decide) (fun z => absurd z (by decide)) (fun _ => ?_)
        refine mv_aload_n (pc := 134) d_Mo_readThing_134 rfl ?_
        refine mr_getr (pc := 135) d_Mo_readThing_135 fl_Mo_32 hM.1 rfl (by decide) hM.g_wide ?_
        refine mv_iload_n (pc := 138) d_Mo_readThing_138 rfl ?_
        refine mv_aload_n (pc := 139) d_Mo_readThing_139 rfl ?_
        refine mv_iconst (v := 1) (pc := 140) d_Mo_readThing_140 (by decide) ?_
        refine mv_iconst (v := 1) (pc := 141) d_Mo_readThing_141 (by decide) ?_
        refine mv_sipush (v := 200) (pc := 142) d_Mo_readThing_142 (by decide) ?_
        refine mr_callV3 (pc := 145) d_Mo_readThing_145 (d2 := (1, 23)) ok_Mo_readIn li_Mo_149 sv_Mo_readIn hM.1 ⟨by decide, rfl⟩ ⟨by decide, rfl, rfl, rfl, Nat.le_of_ble_eq_true rfl, rfl, by decide, by decide⟩ ?_
        refine c_mreadIn0 (h := mm_wi h (mm_u2 F5 59 (16 * 1 + i) (28 - 128))) (n := 1) hM (by omega) (by simp [mm_gwi, mm_u2, mm_uwi, r5]) (fun F6 r6 f6 => ?_)
        have T6 := (((T5).put 5 (by omega) (by omega) (28 - 128))).ffr f6
        refine mr_iast (pc := 148) d_Mo_readThing_148 hM.a_wide (mm_inN (by omega) (by decide)) ?_
        rw [mm_cl (n := 16 * 1 + i) (by omega)]
        refine mv_aload_n (pc := 149) d_Mo_readThing_149 rfl ?_
        refine mr_getr (pc := 150) d_Mo_readThing_150 fl_Mo_35 hM.1 rfl (by decide) hM.g_high ?_
        refine mv_iload_n (pc := 153) d_Mo_readThing_153 rfl ?_
        refine mv_aload_n (pc := 154) d_Mo_readThing_154 rfl ?_
        refine mv_iconst (v := 1) (pc := 155) d_Mo_readThing_155 (by decide) ?_
        refine mv_iconst (v := 1) (pc := 156) d_Mo_readThing_156 (by decide) ?_
        refine mv_sipush (v := 200) (pc := 157) d_Mo_readThing_157 (by decide) ?_
        refine mr_callV3 (pc := 160) d_Mo_readThing_160 (d2 := (1, 23)) ok_Mo_readIn li_Mo_149 sv_Mo_readIn hM.1 ⟨by decide, rfl⟩ ⟨by decide, rfl, rfl, rfl, Nat.le_of_ble_eq_true rfl, rfl, by decide, by decide⟩ ?_
        refine c_mreadIn0 (h := mm_wi h (mm_u2 F6 60 (16 * 1 + i) (1))) (n := 1) hM (by omega) (by simp [mm_gwi, mm_u2, mm_uwi, r6]) (fun F7 r7 f7 => ?_)
        have T7 := (((T6).put 6 (by omega) (by omega) (1))).ffr f7
        refine mr_iast (pc := 163) d_Mo_readThing_163 hM.a_high (mm_inN (by omega) (by decide)) ?_
        rw [mm_cl (n := 16 * 1 + i) (by omega)]
        refine mv_iload_n (pc := 164) d_Mo_readThing_164 rfl ?_
        refine mv_iconst (v := 4) (pc := 165) d_Mo_readThing_165 (by decide) ?_
        refine mv_idiv (pc := 166) d_Mo_readThing_166 (by decide) ?_
        refine mv_iconst (v := 1) (pc := 167) d_Mo_readThing_167 (by decide) ?_
        refine mv_ic_ne 185 (pc := 168) d_Mo_readThing_168 (by decide) (fun z => absurd z (by decide)) (fun _ => ?_)
        refine mv_aload_n (pc := 171) d_Mo_readThing_171 rfl ?_
        refine mr_getr (pc := 172) d_Mo_readThing_172 fl_Mo_38 hM.1 rfl (by decide) hM.g_left ?_
        refine mv_iload_n (pc := 175) d_Mo_readThing_175 rfl ?_
        refine mv_aload_n (pc := 176) d_Mo_readThing_176 rfl ?_
        refine mv_iconst (v := 2) (pc := 177) d_Mo_readThing_177 (by decide) ?_
        refine mv_iconst (v := 1) (pc := 178) d_Mo_readThing_178 (by decide) ?_
        refine mv_ldc (pc := 179) d_Mo_readThing_179 lc_Mo_109 ?_
        refine mr_callV3 (pc := 181) d_Mo_readThing_181 (d2 := (1, 23)) ok_Mo_readIn li_Mo_149 sv_Mo_readIn hM.1 ⟨by decide, rfl⟩ ⟨by decide, rfl, rfl, rfl, Nat.le_of_ble_eq_true rfl, rfl, by decide, by decide⟩ ?_
        refine c_mreadIn0 (h := mm_wi h (mm_u2 F7 61 (16 * 1 + i) (1))) (n := 2) hM (by omega) (by simp [mm_gwi, mm_u2, mm_uwi, r7]) (fun F8 r8 f8 => ?_)
        have T8 := (((T7).put 7 (by omega) (by omega) (1))).ffr f8
        refine mr_iast (pc := 184) d_Mo_readThing_184 hM.a_left (mm_inN (by omega) (by decide)) ?_
        rw [mm_cl (n := 16 * 1 + i) (by omega)]
        refine mv_ret (pc := 185) d_Mo_readThing_185 rfl ?_
        refine hq0 _ _ ((T8).put 8 (by omega) (by omega) (1)) (by simp [mm_gwi, mm_u2, mm_uwi, r8]) (fun g r hg e => ?_)
        obtain ⟨u1, u2⟩ := rs_use hb hg e
        rw [hkd] at u1
        have gn := kd_g u1 (by decide)
        exact d2 (u2 gn).1.1.1
  · refine mv_istore_n (pc := 8) d_Mo_readThing_8 (by decide) ?_
    refine mv_aload_n (pc := 9) d_Mo_readThing_9 rfl ?_
    refine mr_getr (pc := 10) d_Mo_readThing_10 fl_Mo_16 hM.1 rfl (by decide) hM.g_full ?_
    refine mv_iload_n (pc := 13) d_Mo_readThing_13 rfl ?_
    refine mv_iload_n (pc := 14) d_Mo_readThing_14 rfl ?_
    refine mv_if_le 22 (pc := 15) d_Mo_readThing_15 (by decide) (fun _ => ?_) (fun z => absurd z (by decide))
    refine mv_iconst (v := 0) (pc := 22) d_Mo_readThing_22 (by decide) ?_
    refine mr_zast (pc := 23) d_Mo_readThing_23 hM.a_full (mm_inN (by omega) (by decide)) ?_
    rw [mm_cl (n := 16 * 1 + i) (by omega), mm_nar0]
    refine mv_aload_n (pc := 24) d_Mo_readThing_24 rfl ?_
    refine mv_aload_n (pc := 25) d_Mo_readThing_25 rfl ?_
    refine mr_geti (pc := 26) d_Mo_readThing_26 fl_Mo_139 hM.1 rfl (by decide) ?_
    rw [show mm_gi (mm_si (mm_wi h F1) 55 (16 * 1 + i) 0) 52 23 = 0 from r1]
    refine mv_if_eq 47 (pc := 29) d_Mo_readThing_29 (by decide) (fun h29 => ?_) (fun z => absurd z (fun z => z rfl))
    refine mv_iconst (v := 0) (pc := 47) d_Mo_readThing_47 (by decide) ?_
    refine mr_puti (pc := 48) d_Mo_readThing_48 fl_Mo_139 hM.1 rfl (by decide) ⟨rfl, rfl⟩ ?_
    refine mv_iload_n (pc := 51) d_Mo_readThing_51 rfl ?_
    refine mv_if_le 185 (pc := 52) d_Mo_readThing_52 (by decide) (fun _ => ?_) (fun z => absurd z (by decide))
    refine mv_ret (pc := 185) d_Mo_readThing_185 rfl ?_
    refine hq0 _ _ ((((TS.init (mm_gi h) (16 * 1 + i)).ffr f1).put 1 (by omega) (by omega) 0).snd 0) (by simp [mm_gwi, mm_u2, mm_uwi]) (fun g r hg e => ?_)
    exact d1 (by rw [(rs_use hb hg e).1]; exact a_kind_rng g)
