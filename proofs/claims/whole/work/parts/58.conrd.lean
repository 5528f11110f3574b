/-! CONTRACTS: the reference: readThing when it is not sound any more; restore: the slots (rows by program: con_rd.py) -/
theorem encR_len2 {g : Nat → Int32} {bs r : List Int32} {p : Nat} (e : bs.drop p = a_encR g ++ r) : p + 2 ≤ bs.length := by
  have h := congrArg List.length e
  have h2 : 2 ≤ (a_encR g).length := by
    unfold a_encR
    simp only [List.length_append, mm_enc_len]
    omega
  rw [List.length_drop, List.length_append] at h
  omega
set_option maxRecDepth 20000 in
theorem c_mreadThing0 {G : mm_G} {Q : mm_O → mm_H → Prop} {h : mm_H} {i : Nat} (hM : mm_Mo h) (hi : i < 16) (h0 : mm_gi h 52 23 = 0) (hq : ∀ F' g', TS (mm_gi h) F' (16 * 1 + i) g' → F' 52 23 = 0 → Q (.inl none) (mm_wi h F')) : mm_V G (2, 47) M_Mo_readThing Q 0 (mm_ent 3 [.ref 52, .int (nI (16 * 1 + i))]) [] h := by
  show mm_V G (2, 47) M_Mo_readThing Q 0 [some (.ref 52), some (.int (nI (16 * 1 + i))), none] [] h
  refine mv_aload_n (pc := 0) d_Mo_readThing_0 rfl ?_
  refine mv_iconst (v := 1) (pc := 1) d_Mo_readThing_1 (by decide) ?_
  refine mv_iconst (v := 0) (pc := 2) d_Mo_readThing_2 (by decide) ?_
  refine mv_bipush (v := 7) (pc := 3) d_Mo_readThing_3 (by decide) ?_
  refine mr_callV3 (pc := 5) d_Mo_readThing_5 (d2 := (1, 23)) ok_Mo_readIn li_Mo_149 sv_Mo_readIn hM.1 ⟨by decide, rfl⟩ ⟨by decide, rfl, rfl, rfl, Nat.le_of_ble_eq_true rfl, rfl, by decide, by decide⟩ ?_
  refine c_mreadIn0 (n := 1) hM (by omega) h0 (fun F1 r1 f1 => ?_)
  refine mv_istore_n (pc := 8) d_Mo_readThing_8 (by decide) ?_
  refine mv_aload_n (pc := 9) d_Mo_readThing_9 rfl ?_
  refine mr_getr (pc := 10) d_Mo_readThing_10 fl_Mo_16 hM.1 rfl (by decide) hM.g_full ?_
  refine mv_iload_n (pc := 13) d_Mo_readThing_13 rfl ?_
  refine mv_iload_n (pc := 14) d_Mo_readThing_14 rfl ?_
  refine mv_if_le 22 (pc := 15) d_Mo_readThing_15 (by decide) (fun _ => ?_) (fun z => absurd z (by decide))
  refine mv_iconst (v := 0) (pc := 22) d_Mo_readThing_22 (by decide) ?_
  refine mr_zast (pc := 23) d_Mo_readThing_23 hM.a_full (mm_inN (by omega) (by decide)) ?_
  rw [mm_cl (n := 16 * 1 + i) (by omega), mm_nar0]
  refine mv_aload_n (pc := 24) d_Mo_readThing_24 rfl ?_
  refine mv_aload_n (pc := 25) d_Mo_readThing_25 rfl ?_
  refine mr_geti (pc := 26) d_Mo_readThing_26 fl_Mo_139 hM.1 rfl (by decide) ?_
  rw [show mm_gi (mm_si (mm_wi h F1) 55 (16 * 1 + i) 0) 52 23 = 0 from r1]
  refine mv_if_eq 47 (pc := 29) d_Mo_readThing_29 (by decide) (fun h29 => ?_) (fun z => absurd z (fun z => z rfl))
  refine mv_iconst (v := 0) (pc := 47) d_Mo_readThing_47 (by decide) ?_
  refine mr_puti (pc := 48) d_Mo_readThing_48 fl_Mo_139 hM.1 rfl (by decide) ⟨rfl, rfl⟩ ?_
  refine mv_iload_n (pc := 51) d_Mo_readThing_51 rfl ?_
  refine mv_if_le 185 (pc := 52) d_Mo_readThing_52 (by decide) (fun _ => ?_) (fun z => absurd z (by decide))
  refine mv_ret (pc := 185) d_Mo_readThing_185 rfl ?_
  exact hq _ _ ((((TS.init (mm_gi h) (16 * 1 + i)).ffr f1).put 1 (by omega) (by omega) 0).snd 0) (by simp [mm_u2])
/-- of the second world's slots, the place and the flag alone -/
def mm_zfr (F F' : mm_W) : Prop := ∀ a k, ¬ (54 ≤ a ∧ a ≤ 62 ∧ 16 ≤ k) → ¬ (a = 52 ∧ (k = 22 ∨ k = 23)) → F' a k = F a k
theorem mm_zfr.ffr {F0 F F' : mm_W} (h : mm_zfr F0 F) (f : mm_ffr F F') : mm_zfr F0 F' := fun a k h1 h2 => (f a k h2).trans (h a k h1 h2)
theorem mm_zfr.gen {F0 F : mm_W} (h : mm_zfr F0 F) (i : Nat) (v : Int32) : mm_zfr F0 (mm_u2 F 54 (16 * 1 + i) v) := fun a k h1 h2 => by
  have n1 : ¬ (a = 54 ∧ k = 16 * 1 + i) := by omega
  simp only [mm_u2, n1, if_false]
  exact h a k h1 h2
theorem mm_zfr.ts {F0 F F' : mm_W} {i : Nat} {g : Nat → Int32} (h : mm_zfr F0 F) (t : TS F F' (16 * 1 + i) g) : mm_zfr F0 F' := fun a k h1 h2 => (t.2 a k (by omega) h2).trans (h a k h1 h2)
theorem SVs.zfr {F F' : mm_W} {sv : List Int32} (h : SVs F sv) (f : mm_zfr F F') : SVs F' sv := ⟨by rw [f 52 16 (by omega) (by omega)]; exact h.1, fun j hj => by rw [f 68 j (by omega) (by omega)]; exact h.2 j hj⟩
set_option maxRecDepth 20000 in
theorem l_rst0 {G : mm_G} {Q : mm_O → mm_H → Prop} {h : mm_H} {q9 : Int32} (hM : mm_Mo h) (F0 : mm_W) (hq : ∀ F', F' 52 23 = 0 → mm_zfr F0 F' → mm_V G (3, 69) M_Mo_restore Q 65 [some (.ref 52), some (.int q9), some (.int (nI (16 * 1 + 16))), none, none] [] (mm_wi h F')) :
    ∀ (i : Nat) (F : mm_W), i ≤ 16 → F 52 23 = 0 ∧ mm_zfr F0 F → mm_V G (3, 69) M_Mo_restore Q 37 [some (.ref 52), some (.int q9), some (.int (nI (16 * 1 + i))), none, none] [] (mm_wi h F) := by
  refine mr_loop _ _ 16 (fun F hI => ?_) (fun i F hi hI ih => ?_)
  · refine mv_iload_n (pc := 37) d_Mo_restore_37 rfl ?_
    refine mv_bipush (v := 32) (pc := 38) d_Mo_restore_38 (by decide) ?_
    rw [show (32 : Int32) = nI (16 * 1 + 16) from rfl]
    refine mv_ic_ge 65 (pc := 40) d_Mo_restore_40 (by decide) (fun h40 => ?_) (fun z => absurd z (fun z => z (nI_le (by omega) (by omega))))
    exact hq F hI.1 hI.2
  · refine mv_iload_n (pc := 37) d_Mo_restore_37 rfl ?_
    refine mv_bipush (v := 32) (pc := 38) d_Mo_restore_38 (by decide) ?_
    rw [show (32 : Int32) = nI (16 * 1 + 16) from rfl]
    refine mv_ic_ge 65 (pc := 40) d_Mo_restore_40 (by decide) (fun z => absurd z (nI_ge (by omega) (by omega))) (fun h40 => ?_)
    refine mv_aload_n (pc := 43) d_Mo_restore_43 rfl ?_
    refine mr_getr (pc := 44) d_Mo_restore_44 fl_Mo_13 hM.1 rfl (by decide) hM.g_generation ?_
    refine mv_iload_n (pc := 47) d_Mo_restore_47 rfl ?_
    refine mv_aload_n (pc := 48) d_Mo_restore_48 rfl ?_
    refine mv_iconst (v := 2) (pc := 49) d_Mo_restore_49 (by decide) ?_
    refine mr_callV1 (pc := 50) d_Mo_restore_50 (d2 := (0, 0)) ok_Mo_read li_Mo_146 sv_Mo_read hM.1 ⟨by decide, rfl⟩ ⟨by decide, rfl, Nat.le_of_ble_eq_true rfl, rfl, by decide, by decide⟩ ?_
    refine c_mread0 (h := mm_wi h F) (n := 2) hM (by omega) hI.1 (fun v F1 _ r1 f1 => ?_)
    refine mr_iast (pc := 53) d_Mo_restore_53 hM.a_generation (mm_inN (by omega) (by decide)) ?_
    rw [mm_cl (n := 16 * 1 + i) (by omega)]
    refine mv_aload_n (pc := 54) d_Mo_restore_54 rfl ?_
    refine mv_iload_n (pc := 55) d_Mo_restore_55 rfl ?_
    refine mr_callV1 (pc := 56) d_Mo_restore_56 (d2 := (2, 47)) ok_Mo_readThing li_Mo_153 sv_Mo_readThing hM.1 ⟨by decide, rfl⟩ ⟨by decide, rfl, Nat.le_of_ble_eq_true rfl, rfl, by decide, by decide⟩ ?_
    refine c_mreadThing0 (h := mm_wi h (mm_u2 F1 54 (16 * 1 + i) v)) hM hi (by simp [mm_gwi, mm_u2, r1]) (fun F2 g t2 r2 => ?_)
    refine mv_iinc (pc := 59) d_Mo_restore_59 rfl rfl (by decide) ?_
    refine mv_goto 37 (pc := 62) d_Mo_restore_62 (by decide) ?_
    refine mm_V_ls (ls' := [some (.ref 52), some (.int q9), some (.int (nI (16 * 1 + (i + 1)))), none, none]) (by simp only [List.set]; rw [← Nat.add_assoc, nI_succ]; rfl) (ih F2 ⟨r2, ((hI.2.ffr f1).gen i v).ts t2⟩)
set_option maxRecDepth 20000 in
theorem l_rst1 {G : mm_G} {Q : mm_O → mm_H → Prop} {h : mm_H} {q9 : Int32} {p : Nat} {sv : List Int32} (hM : mm_Mo h) (hb : a_byt sv) (hl : sv.length ≤ 336) (F0 : mm_W) (hV : SVs F0 sv) (hq1 : ∀ F' q, mm_zfr F0 F' → (∀ j, j < 16 → WSf (fun k => a_m F' 1 k j)) → MR F' sv q → sv.drop p = a_sls (a_m F' 1) 16 ++ sv.drop q → mm_V G (3, 69) M_Mo_restore Q 65 [some (.ref 52), some (.int q9), some (.int (nI (16 * 1 + 16))), none, none] [] (mm_wi h F')) (hq0 : ∀ F', (∀ (A : mm_W) r, (∀ i, i < 16 → WSf (fun k => A k i)) → ¬ sv.drop p = a_sls A 16 ++ r) → F' 52 23 = 0 → mm_zfr F0 F' → mm_V G (3, 69) M_Mo_restore Q 65 [some (.ref 52), some (.int q9), some (.int (nI (16 * 1 + 16))), none, none] [] (mm_wi h F')) :
    ∀ (i : Nat) (F : mm_W), i ≤ 16 → (mm_zfr F0 F ∧ (∀ j, j < i → WSf (fun k => a_m F 1 k j)) ∧ ∃ q, MR F sv q ∧ sv.drop p = a_sls (a_m F 1) i ++ sv.drop q) → mm_V G (3, 69) M_Mo_restore Q 37 [some (.ref 52), some (.int q9), some (.int (nI (16 * 1 + i))), none, none] [] (mm_wi h F) := by
  refine mr_loop _ _ 16 (fun F hI => ?_) (fun i F hi hI ih => ?_)
  · obtain ⟨i1, i2, q, i3, i4⟩ := hI
    refine mv_iload_n (pc := 37) d_Mo_restore_37 rfl ?_
    refine mv_bipush (v := 32) (pc := 38) d_Mo_restore_38 (by decide) ?_
    rw [show (32 : Int32) = nI (16 * 1 + 16) from rfl]
    refine mv_ic_ge 65 (pc := 40) d_Mo_restore_40 (by decide) (fun h40 => ?_) (fun z => absurd z (fun z => z (nI_le (by omega) (by omega))))
    exact hq1 F q i1 i2 i3 i4
  · obtain ⟨i1, i2, q, i3, i4⟩ := hI
    refine mv_iload_n (pc := 37) d_Mo_restore_37 rfl ?_
    refine mv_bipush (v := 32) (pc := 38) d_Mo_restore_38 (by decide) ?_
    rw [show (32 : Int32) = nI (16 * 1 + 16) from rfl]
    refine mv_ic_ge 65 (pc := 40) d_Mo_restore_40 (by decide) (fun z => absurd z (nI_ge (by omega) (by omega))) (fun h40 => ?_)
    refine mv_aload_n (pc := 43) d_Mo_restore_43 rfl ?_
    refine mr_getr (pc := 44) d_Mo_restore_44 fl_Mo_13 hM.1 rfl (by decide) hM.g_generation ?_
    refine mv_iload_n (pc := 47) d_Mo_restore_47 rfl ?_
    refine mv_aload_n (pc := 48) d_Mo_restore_48 rfl ?_
    refine mv_iconst (v := 2) (pc := 49) d_Mo_restore_49 (by decide) ?_
    refine mr_callV1 (pc := 50) d_Mo_restore_50 (d2 := (0, 0)) ok_Mo_read li_Mo_146 sv_Mo_read hM.1 ⟨by decide, rfl⟩ ⟨by decide, rfl, Nat.le_of_ble_eq_true rfl, rfl, by decide, by decide⟩ ?_
    refine c_mread (h := mm_wi h F) (n := 2) (p := q) hM (by omega) hl (hV.zfr i1) i3 (fun c1 F1 r1 f1 => ?_) (fun c1 v F1 _ r1 f1 => ?_)
    · refine mr_iast (pc := 53) d_Mo_restore_53 hM.a_generation (mm_inN (by omega) (by decide)) ?_
      rw [mm_cl (n := 16 * 1 + i) (by omega)]
      refine mv_aload_n (pc := 54) d_Mo_restore_54 rfl ?_
      refine mv_iload_n (pc := 55) d_Mo_restore_55 rfl ?_
      refine mr_callV1 (pc := 56) d_Mo_restore_56 (d2 := (2, 47)) ok_Mo_readThing li_Mo_153 sv_Mo_readThing hM.1 ⟨by decide, rfl⟩ ⟨by decide, rfl, Nat.le_of_ble_eq_true rfl, rfl, by decide, by decide⟩ ?_
      refine c_mreadThing (h := mm_wi h (mm_u2 F1 54 (16 * 1 + i) (mm_dec sv q 2))) (p := q) hM hi hb hl (hV.zfr ((i1.ffr f1).gen i _)) (by rw [show mm_np sv q 2 = q + 2 by unfold mm_np; rw [if_pos c1]]; exact r1.put (by decide) _) (by rw [show mm_nv sv q 2 = mm_dec sv q 2 by unfold mm_nv; rw [if_pos c1]]; simp [mm_gwi, mm_u2]) (fun F2 q2 g t2 r2 c2 c3 => ?_) (fun F2 g t2 r2 c2 => ?_)
      · refine mv_iinc (pc := 59) d_Mo_restore_59 rfl rfl (by decide) ?_
        refine mv_goto 37 (pc := 62) d_Mo_restore_62 (by decide) ?_
        have old : ∀ j, j < i → ∀ k, k ≤ 8 → a_m F2 1 k j = a_m F 1 k j := fun j hj k hk => by
          have n1 : ¬ k = 10 := by omega
          have n2 : ¬ k = 9 := by omega
          simp only [a_m, n1, n2, if_false]
          rw [t2.2 (54 + k) (16 * 1 + j) (by omega) (by omega)]
          have n3 : ¬ (54 + k = 54 ∧ 16 * 1 + j = 16 * 1 + i) := by omega
          simp only [mm_gwi, mm_u2, n3, if_false]
          exact f1 _ _ (by omega)
        have new : ∀ k, k ≤ 8 → a_m F2 1 k i = g k := fun k hk => by
          have n1 : ¬ k = 10 := by omega
          have n2 : ¬ k = 9 := by omega
          simp only [a_m, n1, n2, if_false]
          exact t2.1 k hk
        refine mm_V_ls (ls' := [some (.ref 52), some (.int q9), some (.int (nI (16 * 1 + (i + 1)))), none, none]) (by simp only [List.set]; rw [← Nat.add_assoc, nI_succ]; rfl) (ih F2 ⟨((i1.ffr f1).gen i _).ts t2, fun j hj => ?_, q2, r2, ?_⟩)
        · by_cases c : j = i
          · subst c
            exact WS.same (A := fun k _ => g k) (i := 0) c3 (fun k hk => new k hk)
          · exact WS.same (A := fun k _ => a_m F 1 k j) (i := 0) (i2 j (by omega)) (fun k hk => old j (by omega) k hk)
        · rw [i4, c2]
          show _ = (a_sls (a_m F2 1) i ++ a_encR (fun k => a_m F2 1 k i)) ++ _
          rw [a_sls_eqR (A := a_m F2 1) (B := a_m F 1) i (fun j hj k hk => old j hj k hk), a_encR_eq (f := fun k => a_m F2 1 k i) (g := g) (new 0 (by omega)) (new 1 (by omega)) (fun _ k k1 k2 => new k k2), List.append_assoc]
      · refine mv_iinc (pc := 59) d_Mo_restore_59 rfl rfl (by decide) ?_
        refine mv_goto 37 (pc := 62) d_Mo_restore_62 (by decide) ?_
        have rej : (∀ (A : mm_W) r, (∀ i, i < 16 → WSf (fun k => A k i)) → ¬ sv.drop p = a_sls A 16 ++ r) := fun A r hA e => by
          obtain ⟨r9, e9⟩ := a_sls_split A hi
          rw [i4, e9, List.append_assoc, List.append_assoc] at e
          obtain ⟨e1, -⟩ := sls_inj (u := []) (v := []) i i2 (fun j hj => hA j (by omega)) _ _ e
          exact c2 _ _ (hA i hi) e1
        refine mm_V_ls (ls' := [some (.ref 52), some (.int q9), some (.int (nI (16 * 1 + (i + 1)))), none, none]) (by simp only [List.set]; rw [← Nat.add_assoc, nI_succ]; rfl) (l_rst0 hM F0 (fun F' a b => hq0 F' rej a b) (i + 1) F2 (by omega) ⟨r2, ((i1.ffr f1).gen i _).ts t2⟩)
    · refine mr_iast (pc := 53) d_Mo_restore_53 hM.a_generation (mm_inN (by omega) (by decide)) ?_
      rw [mm_cl (n := 16 * 1 + i) (by omega)]
      refine mv_aload_n (pc := 54) d_Mo_restore_54 rfl ?_
      refine mv_iload_n (pc := 55) d_Mo_restore_55 rfl ?_
      refine mr_callV1 (pc := 56) d_Mo_restore_56 (d2 := (2, 47)) ok_Mo_readThing li_Mo_153 sv_Mo_readThing hM.1 ⟨by decide, rfl⟩ ⟨by decide, rfl, Nat.le_of_ble_eq_true rfl, rfl, by decide, by decide⟩ ?_
      refine c_mreadThing0 (h := mm_wi h (mm_u2 F1 54 (16 * 1 + i) v)) hM hi (by simp [mm_gwi, mm_u2, r1]) (fun F2 g t2 r2 => ?_)
      refine mv_iinc (pc := 59) d_Mo_restore_59 rfl rfl (by decide) ?_
      refine mv_goto 37 (pc := 62) d_Mo_restore_62 (by decide) ?_
      have rej : (∀ (A : mm_W) r, (∀ i, i < 16 → WSf (fun k => A k i)) → ¬ sv.drop p = a_sls A 16 ++ r) := fun A r hA e => by
        obtain ⟨r9, e9⟩ := a_sls_split A hi
        rw [i4, e9, List.append_assoc, List.append_assoc] at e
        obtain ⟨e1, -⟩ := sls_inj (u := []) (v := []) i i2 (fun j hj => hA j (by omega)) _ _ e
        have := encR_len2 e1
        omega
      refine mm_V_ls (ls' := [some (.ref 52), some (.int q9), some (.int (nI (16 * 1 + (i + 1)))), none, none]) (by simp only [List.set]; rw [← Nat.add_assoc, nI_succ]; rfl) (l_rst0 hM F0 (fun F' a b => hq0 F' rej a b) (i + 1) F2 (by omega) ⟨r2, ((i1.ffr f1).gen i v).ts t2⟩)
