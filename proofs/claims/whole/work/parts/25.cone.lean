/-! CONTRACTS: World: makeEvents, step (rows by program: con_e.py) -/
theorem mm_V_drop {G : mm_G} {d : Nat × Nat} {M : mm_M} {Q : mm_O → mm_H → Prop} {pc : Nat} {ls : List (Option Value)} {st : List Value} {h : mm_H} (k : Nat) (hv : mm_V G d M Q pc (ls.set k none) st h) : mm_V G d M Q pc ls st h := by
  intro p e R s m args below meth c n0 c0 s0 H locs cells slots lr C I L
  refine hv p e R s m args below meth c n0 c0 s0 H locs cells slots lr C I ⟨by rw [List.length_set]; exact L.1, L.2.1, L.2.2.1, fun i v hi => ?_⟩
  rw [List.getElem?_set] at hi
  by_cases hk : k = i
  · rw [if_pos hk] at hi
    split at hi <;> cases hi
  · rw [if_neg hk] at hi
    exact L.2.2.2 i v hi
theorem a_mtE_len (E : mm_E) (t : Int32) (p : Nat) (b : Int32) : (a_mtE E t p b).length ≤ E.length + 1 := by
  unfold a_mtE
  split
  · simp
  · split
    · simp
    · omega
theorem a_row_len (a : Nat) (s : mm_E × mm_W) : ∀ n, (a_row a s n).1.length ≤ s.1.length + n
  | 0 => Nat.le_refl _
  | n + 1 => by
    have h1 := a_row_len a s n
    have h2 := a_mtE_len (a_row a s n).1 ((a_row a s n).2 9 (a * 16 + (a + 1 + n))) (a * 16 + (a + 1 + n)) (a_b (a_ov (a_row a s n).2 a (a + 1 + n)))
    show (a_mt (a_row a s n) a (a + 1 + n)).1.length ≤ _
    unfold a_mt
    dsimp only
    omega
def a_tri : Nat → Nat
  | 0 => 0
  | n + 1 => a_tri n + (15 - n)
theorem a_tri_le : ∀ n, n < 17 → a_tri n ≤ 120 := by decide
theorem a_all_len (s : mm_E × mm_W) : ∀ n, (a_all s n).1.length ≤ s.1.length + a_tri n
  | 0 => Nat.le_refl _
  | n + 1 => by
    have h1 := a_all_len s n
    have h2 := a_row_len n (a_all s n) (15 - n)
    show (a_row n (a_all s n) (15 - n)).1.length ≤ s.1.length + (a_tri n + (15 - n))
    omega
theorem RC.ov {F B : mm_W} {w a b : Nat} (h : RC F w B) (ha : a < 16) (hb : b < 16) :
    ((¬ F (w + 6 + a) 1 = 0 ∧ 0 < F (w + 6 + a) 6) ∧ (¬ F (w + 6 + b) 1 = 0 ∧ 0 < F (w + 6 + b) 6) ∧ (F (w + 6 + a) 2 - F (w + 6 + b) 2 < F (w + 6 + a) 6 + F (w + 6 + b) 6 ∧ F (w + 6 + b) 2 - F (w + 6 + a) 2 < F (w + 6 + a) 6 + F (w + 6 + b) 6) ∧ (F (w + 6 + a) 3 - F (w + 6 + b) 3 < F (w + 6 + a) 7 + F (w + 6 + b) 7 ∧ F (w + 6 + b) 3 - F (w + 6 + a) 3 < F (w + 6 + a) 7 + F (w + 6 + b) 7)) ↔ a_ov B a b := by
  obtain ⟨-, a1, a2⟩ := h.2.1 a ha
  obtain ⟨-, b1, b2⟩ := h.2.1 b hb
  unfold a_ov
  rw [a1, b1]
  by_cases ta : B 1 a = 0
  · simp [ta]
  · by_cases tb : B 1 b = 0
    · simp [tb]
    · rw [a2 ta 2 (by omega) (by omega), a2 ta 3 (by omega) (by omega), a2 ta 6 (by omega) (by omega), a2 ta 7 (by omega) (by omega), b2 tb 2 (by omega) (by omega), b2 tb 3 (by omega) (by omega), b2 tb 6 (by omega) (by omega), b2 tb 7 (by omega) (by omega)]
theorem RC.clk {F A : mm_W} {w : Nat} (h : RC F w A) (x : Int32) : RC (mm_u2 F w 3 x) w (a_put A 10 0 x) := by
  refine ⟨by simp [mm_u2, a_put], fun i hi => ?_, fun p hp => ?_⟩
  · have hne : ¬ (w + 6 + i = w) := by omega
    obtain ⟨q0, q1, q2⟩ := h.2.1 i hi
    refine ⟨by simp [mm_u2, a_put, hne, q0], by simp [mm_u2, a_put, hne, q1], fun z k k1 k2 => ?_⟩
    have z' : ¬ A 1 i = 0 := by simpa [a_put] using z
    have hk : ¬ k = 10 := by omega
    simp [mm_u2, a_put, hne, hk, q2 z' k k1 k2]
  · have hne : ¬ (w + 2 = w) := by omega
    simp [mm_u2, a_put, hne, h.2.2 p hp]
theorem RC.off {F F' A : mm_W} {w : Nat} (h : RC F w A) (ho : ∀ a k, a ≠ w + 3 → a ≠ w + 4 → a ≠ w + 5 → F' a k = F a k) : RC F' w A := by
  refine ⟨by rw [ho w 3 (by omega) (by omega) (by omega)]; exact h.1, fun i hi => ?_, fun p hp => by rw [ho _ p (by omega) (by omega) (by omega)]; exact h.2.2 p hp⟩
  obtain ⟨q0, q1, q2⟩ := h.2.1 i hi
  exact ⟨by rw [ho _ 0 (by omega) (by omega) (by omega)]; exact q0, by rw [ho _ 1 (by omega) (by omega) (by omega)]; exact q1, fun z k k1 k2 => by rw [ho _ k (by omega) (by omega) (by omega)]; exact q2 z k k1 k2⟩
theorem RE.nil {F : mm_W} {w : Nat} (h : F (w + 3) 2 = 0) : RE F w [] := ⟨h, fun j hj => absurd hj (by simp)⟩
set_option maxRecDepth 20000 in
theorem l_evIn {G : mm_G} {Q : mm_O → mm_H → Prop} {h : mm_H} {w a : Nat} {S : mm_E × mm_W} (hw : mm_Wd h w) (ha : a < 16) (hS : S.1.length + (15 - a) ≤ 120) (F0 : mm_W) (hq : ∀ F', RC F' w (a_row a S (15 - a)).2 → RE F' w (a_row a S (15 - a)).1 → mm_wfr w F0 F' → mm_V G (2, 44) M_Wo_makeEvents Q 55 [some (.ref w), some (.int (nI a)), some (.int (nI (a + 1 + (15 - a))))] [] (mm_wi h F')) :
    ∀ (k : Nat) (F : mm_W), k ≤ 15 - a → RC F w (a_row a S k).2 ∧ RE F w (a_row a S k).1 ∧ mm_wfr w F0 F → mm_V G (2, 44) M_Wo_makeEvents Q 19 [some (.ref w), some (.int (nI a)), some (.int (nI (a + 1 + k)))] [] (mm_wi h F) := by
  refine mr_loop _ _ (15 - a) (fun F hI => ?_) (fun k F hk hI ih => ?_)
  · refine mv_iload_n (pc := 19) d_Wo_makeEvents_19 rfl ?_
    refine mv_bipush (v := 16) (pc := 20) d_Wo_makeEvents_20 (by decide) ?_
    refine mv_ic_ge 55 (pc := 22) d_Wo_makeEvents_22 (by decide) (fun h22 => ?_) (fun z => absurd z (by rw [show a + 1 + (15 - a) = 16 by omega]; exact mm_ge16))
    exact hq F hI.1 hI.2.1 hI.2.2
  · obtain ⟨hR, hE, hwf⟩ := hI
    have hb : a + 1 + k < 16 := by omega
    have hlen : (a_row a S k).1.length < 120 := by
      have := a_row_len a S k
      omega
    have hp : a * 16 + (a + 1 + k) < 256 := by omega
    refine mv_iload_n (pc := 19) d_Wo_makeEvents_19 rfl ?_
    refine mv_bipush (v := 16) (pc := 20) d_Wo_makeEvents_20 (by decide) ?_
    refine mv_ic_ge 55 (pc := 22) d_Wo_makeEvents_22 (by decide) (fun z => absurd z (mm_lt16 hb)) (fun h22 => ?_)
    refine mv_aload_n (pc := 25) d_Wo_makeEvents_25 rfl ?_
    refine mv_iload_n (pc := 26) d_Wo_makeEvents_26 rfl ?_
    refine mv_iload_n (pc := 27) d_Wo_makeEvents_27 rfl ?_
    refine mr_callS2 (pc := 28) d_Wo_makeEvents_28 (d2 := (0, 0)) ok_Ta_pairOf li_Wo_59 sv_Ta_pairOf ⟨by decide, rfl, rfl, Nat.le_of_ble_eq_true rfl, rfl, by decide, by decide⟩ ?_
    refine c_pairOf ?_
    rw [mm_pair]
    refine mv_aload_n (pc := 31) d_Wo_makeEvents_31 rfl ?_
    refine mr_getr (pc := 32) d_Wo_makeEvents_32 fl_Wo_11 hw.1 rfl (by decide) hw.2.2.2.2.2.1 ?_
    refine mv_iload_n (pc := 35) d_Wo_makeEvents_35 rfl ?_
    refine mr_aald (pc := 36) d_Wo_makeEvents_36 hw.2.1 (mm_in16 ha) (hw.sl ha) ?_
    refine mv_aload_n (pc := 37) d_Wo_makeEvents_37 rfl ?_
    refine mr_getr (pc := 38) d_Wo_makeEvents_38 fl_Wo_11 hw.1 rfl (by decide) hw.2.2.2.2.2.1 ?_
    refine mv_iload_n (pc := 41) d_Wo_makeEvents_41 rfl ?_
    refine mr_aald (pc := 42) d_Wo_makeEvents_42 hw.2.1 (mm_in16 hb) (hw.sl hb) ?_
    refine mr_callV1 (pc := 43) d_Wo_makeEvents_43 (d2 := (1, 22)) ok_Sl_overlaps li_Wo_97 sv_Sl_overlaps (hw.at_ ha) ⟨by decide, rfl⟩ ⟨by decide, rfl, Nat.le_of_ble_eq_true rfl, rfl, by decide, by decide⟩ ?_
    refine c_overlaps (hw.at_ ha) (hw.at_ hb) (fun hc43 => ?_) (fun hc43 => ?_)
    · refine mr_callV2 (pc := 46) d_Wo_makeEvents_46 (d2 := (1, 22)) ok_Wo_meet li_Wo_101 sv_Wo_meet hw.1 ⟨by decide, rfl⟩ ⟨by decide, rfl, rfl, Nat.le_of_ble_eq_true rfl, rfl, by decide, by decide⟩ ?_
      refine c_meet hw hR hE hlen hp (Or.inr rfl) (fun F' r1 r2 r3 => ?_)
      refine mv_iinc (pc := 49) d_Wo_makeEvents_49 rfl rfl (by decide) ?_
      refine mv_goto 19 (pc := 52) d_Wo_makeEvents_52 (by decide) ?_
      refine mm_V_ls (ls' := [some (.ref w), some (.int (nI a)), some (.int (nI (a + 1 + (k + 1))))]) (by simp only [List.set]; rw [show a + 1 + (k + 1) = a + 1 + k + 1 by omega, nI_succ]; rfl) ?_
      have e : a_b (a_ov (a_row a S k).2 a (a + 1 + k)) = 1 := a_b1 ((hR.ov ha hb).mp hc43)
      refine ih F' ⟨?_, ?_, hwf.trans r3⟩
      · show RC F' w (a_put (a_row a S k).2 9 (a * 16 + (a + 1 + k)) (a_b (a_ov (a_row a S k).2 a (a + 1 + k))))
        rw [e]; exact r1
      · show RE F' w (a_mtE (a_row a S k).1 ((a_row a S k).2 9 (a * 16 + (a + 1 + k))) (a * 16 + (a + 1 + k)) (a_b (a_ov (a_row a S k).2 a (a + 1 + k))))
        rw [e]; exact r2
    · refine mr_callV2 (pc := 46) d_Wo_makeEvents_46 (d2 := (1, 22)) ok_Wo_meet li_Wo_101 sv_Wo_meet hw.1 ⟨by decide, rfl⟩ ⟨by decide, rfl, rfl, Nat.le_of_ble_eq_true rfl, rfl, by decide, by decide⟩ ?_
      refine c_meet hw hR hE hlen hp (Or.inl rfl) (fun F' r1 r2 r3 => ?_)
      refine mv_iinc (pc := 49) d_Wo_makeEvents_49 rfl rfl (by decide) ?_
      refine mv_goto 19 (pc := 52) d_Wo_makeEvents_52 (by decide) ?_
      refine mm_V_ls (ls' := [some (.ref w), some (.int (nI a)), some (.int (nI (a + 1 + (k + 1))))]) (by simp only [List.set]; rw [show a + 1 + (k + 1) = a + 1 + k + 1 by omega, nI_succ]; rfl) ?_
      have e : a_b (a_ov (a_row a S k).2 a (a + 1 + k)) = 0 := a_b0 (fun z => hc43 ((hR.ov ha hb).mpr z))
      refine ih F' ⟨?_, ?_, hwf.trans r3⟩
      · show RC F' w (a_put (a_row a S k).2 9 (a * 16 + (a + 1 + k)) (a_b (a_ov (a_row a S k).2 a (a + 1 + k))))
        rw [e]; exact r1
      · show RE F' w (a_mtE (a_row a S k).1 ((a_row a S k).2 9 (a * 16 + (a + 1 + k))) (a * 16 + (a + 1 + k)) (a_b (a_ov (a_row a S k).2 a (a + 1 + k))))
        rw [e]; exact r2
set_option maxRecDepth 20000 in
theorem l_evOut {G : mm_G} {Q : mm_O → mm_H → Prop} {h : mm_H} {w : Nat} {A : mm_W} (hw : mm_Wd h w) (F0 : mm_W) (hq : ∀ F', RC F' w (a_all ([], A) 16).2 → RE F' w (a_all ([], A) 16).1 → mm_wfr w F0 F' → Q (.inl none) (mm_wi h F')) :
    ∀ (a : Nat) (F : mm_W), a ≤ 16 → RC F w (a_all ([], A) a).2 ∧ RE F w (a_all ([], A) a).1 ∧ mm_wfr w F0 F → mm_V G (2, 44) M_Wo_makeEvents Q 9 [some (.ref w), some (.int (nI a)), none] [] (mm_wi h F) := by
  refine mr_loop _ _ 16 (fun F hI => ?_) (fun a F ha hI ih => ?_)
  · refine mv_iload_n (pc := 9) d_Wo_makeEvents_9 rfl ?_
    refine mv_bipush (v := 16) (pc := 10) d_Wo_makeEvents_10 (by decide) ?_
    refine mv_ic_ge 61 (pc := 12) d_Wo_makeEvents_12 (by decide) (fun h12 => ?_) (fun z => absurd z (mm_ge16))
    refine mv_ret (pc := 61) d_Wo_makeEvents_61 rfl ?_
    exact hq F hI.1 hI.2.1 hI.2.2
  · have hS : (a_all ([], A) a).1.length + (15 - a) ≤ 120 := by
      have h1 := a_all_len ([], A) a
      have h2 := a_tri_le (a + 1) (by omega)
      have h3 : a_tri (a + 1) = a_tri a + (15 - a) := rfl
      simp only [List.length_nil] at h1
      omega
    refine mv_iload_n (pc := 9) d_Wo_makeEvents_9 rfl ?_
    refine mv_bipush (v := 16) (pc := 10) d_Wo_makeEvents_10 (by decide) ?_
    refine mv_ic_ge 61 (pc := 12) d_Wo_makeEvents_12 (by decide) (fun z => absurd z (mm_lt16 ha)) (fun h12 => ?_)
    refine mv_iload_n (pc := 15) d_Wo_makeEvents_15 rfl ?_
    refine mv_iconst (v := 1) (pc := 16) d_Wo_makeEvents_16 (by decide) ?_
    refine mv_iadd (pc := 17) d_Wo_makeEvents_17 ?_
    refine mv_istore_n (pc := 18) d_Wo_makeEvents_18 (by decide) ?_
    refine mm_V_ls (ls' := [some (.ref w), some (.int (nI a)), some (.int (nI (a + 1 + 0)))]) (by simp only [List.set]; rw [show a + 1 + 0 = a + 1 by omega, nI_succ]) ?_
    refine l_evIn hw ha hS F0 (fun F' r1 r2 r3 => ?_) 0 F (by omega) hI
    refine mv_iinc (pc := 55) d_Wo_makeEvents_55 rfl rfl (by decide) ?_
    refine mv_goto 9 (pc := 58) d_Wo_makeEvents_58 (by decide) ?_
    refine mm_V_drop 2 ?_
    refine mm_V_ls (ls' := [some (.ref w), some (.int (nI (a + 1))), none]) (by simp only [List.set]; rw [nI_succ]; rfl) (ih F' ⟨r1, r2, r3⟩)
set_option maxRecDepth 20000 in
theorem c_makeEvents {G : mm_G} {Q : mm_O → mm_H → Prop} {h : mm_H} {w : Nat} {A : mm_W} (hw : mm_Wd h w) (hR : RC (mm_gi h) w A) (hq : ∀ F', RC F' w (a_all ([], A) 16).2 → RE F' w (a_all ([], A) 16).1 → mm_wfr w (mm_gi h) F' → Q (.inl none) (mm_wi h F')) : mm_V G (2, 44) M_Wo_makeEvents Q 0 (mm_ent 3 [.ref w]) [] h := by
  show mm_V G (2, 44) M_Wo_makeEvents Q 0 [some (.ref w), none, none] [] h
  refine mv_aload_n (pc := 0) d_Wo_makeEvents_0 rfl ?_
  refine mr_getr (pc := 1) d_Wo_makeEvents_1 fl_Wo_24 hw.1 rfl (by decide) hw.2.2.2.2.2.2.2.1 ?_
  refine mr_callV0 (pc := 4) d_Wo_makeEvents_4 (d2 := (0, 0)) ok_Ev_clear li_Wo_94 sv_Ev_clear hw.2.2.2.1.1 ⟨by decide, rfl⟩ ⟨by decide, Nat.le_of_ble_eq_true rfl, rfl, by decide, by decide⟩ ?_
  refine c_evClear hw.2.2.2.1 ?_
  refine mv_iconst (v := 0) (pc := 7) d_Wo_makeEvents_7 (by decide) ?_
  refine mv_istore_n (pc := 8) d_Wo_makeEvents_8 (by decide) ?_
  refine l_evOut hw (mm_gi h) hq 0 _ (by omega) ⟨?_, RE.nil ?_, fun a k ha => ?_⟩
  · exact hR.off (fun a k a3 a4 a5 => by simp [mm_u2, mm_g0, a3])
  · simp [mm_usi, mm_u2]
  · have hne : ¬ (a = w + 3) := by omega
    simp [mm_usi, mm_u2, mm_g0, hne]
set_option maxRecDepth 20000 in
theorem c_step {G : mm_G} {Q : mm_O → mm_H → Prop} {h : mm_H} {w : Nat} {A : mm_W} (hw : mm_Wd h w) (hR : RC (mm_gi h) w A) (hq : ∀ F', RC F' w (a_step A).2 → RE F' w (a_step A).1 → mm_wfr w (mm_gi h) F' → Q (.inl none) (mm_wi h F')) : mm_V G (3, 66) M_Wo_step Q 0 (mm_ent 1 [.ref w]) [] h := by
  show mm_V G (3, 66) M_Wo_step Q 0 [some (.ref w)] [] h
  refine mv_aload_n (pc := 0) d_Wo_step_0 rfl ?_
  refine mr_geti (pc := 1) d_Wo_step_1 fl_Wo_67 hw.1 rfl (by decide) ?_
  refine mv_ldc (pc := 4) d_Wo_step_4 lc_Wo_70 ?_
  refine mv_ic_ge 19 (pc := 6) d_Wo_step_6 (by decide) (fun h6 => ?_) (fun h6 => ?_)
  · have hR1 : RC (mm_gi h) w (a_put A 10 0 (if A 10 0 < 2147483647 then A 10 0 + 1 else A 10 0)) := by
      rw [hR.1] at h6
      rw [if_neg (Int32.not_lt.mpr h6)]
      have e : a_put A 10 0 (A 10 0) = A := by funext k j; unfold a_put; grind
      rw [e]; exact hR
    have hwf1 : mm_wfr w (mm_gi h) (mm_gi h) := mm_wfr.rfl'
    refine mv_aload_n (pc := 19) d_Wo_step_19 rfl ?_
    refine mr_callV0 (pc := 20) d_Wo_step_20 (d2 := (2, 43)) ok_Wo_countDown li_Wo_71 sv_Wo_countDown hw.1 ⟨by decide, rfl⟩ ⟨by decide, Nat.le_of_ble_eq_true rfl, rfl, by decide, by decide⟩ ?_
    refine c_countDown hw hR1 (fun F1 r1 w1 e1 => ?_)
    refine mv_aload_n (pc := 23) d_Wo_step_23 rfl ?_
    refine mr_callV0 (pc := 24) d_Wo_step_24 (d2 := (2, 42)) ok_Wo_moveAll li_Wo_74 sv_Wo_moveAll hw.1 ⟨by decide, rfl⟩ ⟨by decide, Nat.le_of_ble_eq_true rfl, rfl, by decide, by decide⟩ ?_
    refine c_moveAll hw r1 (fun F2 r2 w2 e2 => ?_)
    refine mv_aload_n (pc := 27) d_Wo_step_27 rfl ?_
    refine mr_callV0 (pc := 28) d_Wo_step_28 (d2 := (2, 44)) ok_Wo_makeEvents li_Wo_77 sv_Wo_makeEvents hw.1 ⟨by decide, rfl⟩ ⟨by decide, Nat.le_of_ble_eq_true rfl, rfl, by decide, by decide⟩ ?_
    refine c_makeEvents hw r2 (fun F3 r3 e3 w3 => ?_)
    refine mv_ret (pc := 31) d_Wo_step_31 rfl ?_
    exact hq F3 r3 e3 (((hwf1.trans w1).trans w2).trans w3)
  · refine mv_aload_n (pc := 9) d_Wo_step_9 rfl ?_
    refine mv_dup (pc := 10) d_Wo_step_10 rfl ?_
    refine mr_geti (pc := 11) d_Wo_step_11 fl_Wo_67 hw.1 rfl (by decide) ?_
    refine mv_iconst (v := 1) (pc := 14) d_Wo_step_14 (by decide) ?_
    refine mv_iadd (pc := 15) d_Wo_step_15 ?_
    refine mr_puti (pc := 16) d_Wo_step_16 fl_Wo_67 hw.1 rfl (by decide) ⟨rfl, rfl⟩ ?_
    have hR1 : RC (mm_gi (mm_si h w 3 (mm_gi h w 3 + 1))) w (a_put A 10 0 (if A 10 0 < 2147483647 then A 10 0 + 1 else A 10 0)) := by
      have e := hR.1
      rw [e] at h6
      rw [if_pos (Int32.not_le.mp h6), e]
      exact hR.clk _
    have hwf1 : mm_wfr w (mm_gi h) (mm_gi (mm_si h w 3 (mm_gi h w 3 + 1))) := fun a k ha => by
      have hne : ¬ (a = w) := by omega
      simp [mm_gsi, hne]
    refine mv_aload_n (pc := 19) d_Wo_step_19 rfl ?_
    refine mr_callV0 (pc := 20) d_Wo_step_20 (d2 := (2, 43)) ok_Wo_countDown li_Wo_71 sv_Wo_countDown hw.1 ⟨by decide, rfl⟩ ⟨by decide, Nat.le_of_ble_eq_true rfl, rfl, by decide, by decide⟩ ?_
    refine c_countDown hw hR1 (fun F1 r1 w1 e1 => ?_)
    refine mv_aload_n (pc := 23) d_Wo_step_23 rfl ?_
    refine mr_callV0 (pc := 24) d_Wo_step_24 (d2 := (2, 42)) ok_Wo_moveAll li_Wo_74 sv_Wo_moveAll hw.1 ⟨by decide, rfl⟩ ⟨by decide, Nat.le_of_ble_eq_true rfl, rfl, by decide, by decide⟩ ?_
    refine c_moveAll hw r1 (fun F2 r2 w2 e2 => ?_)
    refine mv_aload_n (pc := 27) d_Wo_step_27 rfl ?_
    refine mr_callV0 (pc := 28) d_Wo_step_28 (d2 := (2, 44)) ok_Wo_makeEvents li_Wo_77 sv_Wo_makeEvents hw.1 ⟨by decide, rfl⟩ ⟨by decide, Nat.le_of_ble_eq_true rfl, rfl, by decide, by decide⟩ ?_
    refine c_makeEvents hw r2 (fun F3 r3 e3 w3 => ?_)
    refine mv_ret (pc := 31) d_Wo_step_31 rfl ?_
    exact hq F3 r3 e3 (((hwf1.trans w1).trans w2).trans w3)
