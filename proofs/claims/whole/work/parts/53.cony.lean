/-! CONTRACTS: TickArena: takeSpare, load (rows by program: con_y.py) -/
def mm_swp (h : mm_H) (w w2 : Nat) : mm_H := mm_sr (mm_sr h 1 0 (some w2)) 1 1 (some w)
theorem mm_swp_gr {h : mm_H} {w w2 a k : Nat} (ha : a ≠ 1) : mm_gr (mm_swp h w w2) a k = mm_gr h a k := by
  simp [mm_gr, mm_swp, mm_sr, mm_u2, ha]
theorem mm_Wd.swp {h : mm_H} {v w w2 : Nat} (hw : mm_Wd h v) (hv : 2 ≤ v) : mm_Wd (mm_swp h w w2) v := by
  obtain ⟨a1, a2, a3, ⟨b1, b2, b3, b4, b5⟩, a5, a6, a7, a8, a9⟩ := hw
  exact ⟨a1, a2, a3, ⟨b1, b2, b3, by rw [mm_swp_gr (by omega)]; exact b4, by rw [mm_swp_gr (by omega)]; exact b5⟩, a5, by rw [mm_swp_gr (by omega)]; exact a6, by rw [mm_swp_gr (by omega)]; exact a7, by rw [mm_swp_gr (by omega)]; exact a8, fun i hi => by rw [mm_swp_gr (by omega)]; exact a9 i hi⟩
theorem mm_Hd.swp {h : mm_H} {z kd y N w w2 : Nat} (hz : mm_Hd h z kd y N) (h1 : 2 ≤ z) (h2 : 2 ≤ y) : mm_Hd (mm_swp h w w2) z kd y N := by
  obtain ⟨a1, a2, b1, b2, b3, b4⟩ := hz
  exact ⟨a1, by rw [mm_swp_gr (by omega)]; exact a2, b1, b2, by rw [mm_swp_gr (by omega)]; exact b3, b4⟩
theorem mm_Ta.swp {h : mm_H} {w w2 : Nat} (hT : mm_Ta h w w2) : mm_Ta (mm_swp h w w2) w2 w := by
  have hle := hT.le
  obtain ⟨a1, a2, a3, a4, a5, a6, a7, a8, a9, a10⟩ := hT
  exact ⟨a1, by simp [mm_gr, mm_swp, mm_sr, mm_u2], by simp [mm_gr, mm_swp, mm_sr, mm_u2], by simpa [mm_gr, mm_swp, mm_sr, mm_u2] using a4, by simpa [mm_gr, mm_swp, mm_sr, mm_u2] using a5, a6.swp (by omega) (by omega), a7.swp (by omega) (by omega), a9.swp (by omega), a8.swp (by omega), by omega⟩
set_option maxRecDepth 20000 in
theorem c_takeSpare {G : mm_G} {Q : mm_O → mm_H → Prop} {h : mm_H} {w w2 : Nat} (hT : mm_Ta h w w2) (hq : Q (.inl none) (mm_si (mm_swp h w w2) (w2 + 3) 2 0)) : mm_V G (1, 20) M_Ta_takeSpare Q 0 (mm_ent 2 [.ref 1]) [] h := by
  show mm_V G (1, 20) M_Ta_takeSpare Q 0 [some (.ref 1), none] [] h
  refine mv_aload_n (pc := 0) d_Ta_takeSpare_0 rfl ?_
  refine mr_getr (pc := 1) d_Ta_takeSpare_1 fl_Ta_10 hT.1 rfl (by decide) hT.2.1 ?_
  refine mv_astore_n (pc := 4) d_Ta_takeSpare_4 (by decide) ?_
  refine mv_aload_n (pc := 5) d_Ta_takeSpare_5 rfl ?_
  refine mv_aload_n (pc := 6) d_Ta_takeSpare_6 rfl ?_
  refine mr_getr (pc := 7) d_Ta_takeSpare_7 fl_Ta_16 hT.1 rfl (by decide) hT.2.2.1 ?_
  refine mr_putr (pc := 10) d_Ta_takeSpare_10 fl_Ta_10 hT.1 rfl (by decide) (fun _ => ⟨rfl, rfl⟩) ?_
  refine mv_aload_n (pc := 13) d_Ta_takeSpare_13 rfl ?_
  refine mv_aload_n (pc := 14) d_Ta_takeSpare_14 rfl ?_
  refine mr_putr (pc := 15) d_Ta_takeSpare_15 fl_Ta_16 hT.1 rfl (by decide) (fun _ => ⟨rfl, rfl⟩) ?_
  refine mv_aload_n (pc := 18) d_Ta_takeSpare_18 rfl ?_
  show mm_V G (1, 20) M_Ta_takeSpare Q 19 _ _ (mm_swp h w w2)
  refine mr_getr (pc := 19) d_Ta_takeSpare_19 fl_Ta_10 hT.swp.1 rfl (by decide) hT.swp.2.1 ?_
  refine mr_getr (pc := 22) d_Ta_takeSpare_22 fl_Ta_122 hT.swp.2.2.2.2.2.2.2.1.1 rfl (by decide) hT.swp.2.2.2.2.2.2.2.1.2.2.2.2.2.2.2.1 ?_
  refine mr_callV0 (pc := 25) d_Ta_takeSpare_25 (d2 := (0, 0)) ok_Ev_clear li_Ta_197 sv_Ev_clear hT.swp.2.2.2.2.2.2.2.1.2.2.2.1.1 ⟨by decide, rfl⟩ ⟨by decide, Nat.le_of_ble_eq_true rfl, rfl, by decide, by decide⟩ ?_
  refine c_evClear (h := mm_swp h w w2) hT.swp.2.2.2.2.2.2.2.1.2.2.2.1 ?_
  refine mv_ret (pc := 28) d_Ta_takeSpare_28 rfl ?_
  exact hq
set_option maxRecDepth 20000 in
theorem c_load {G : mm_G} {Q : mm_O → mm_H → Prop} {h : mm_H} {w w2 : Nat} {A : mm_W} {E : mm_E} {sv lg : List Int32} (hG : G.1.stackTraces = false) (hr : mm_rm G h) (hT : mm_Ta h w w2) (hC : CS (mm_gi h) w A E sv lg) (hb : a_byt sv) (hq1 : ∀ F', ¬ a_snd sv → CS F' w A E sv lg → mm_cfr (mm_gi h) F' → Q (.inr 1) (mm_exc (mm_wi h F'))) (hq : ∀ F' B, WF B → sv = a_encW B → CS F' w2 B [] sv [] → mm_cfr (mm_gi h) F' → Q (.inl none) (mm_swp (mm_wi h F') w w2)) : mm_V G (6, 135) M_Ta_load Q 0 (mm_ent 1 [.ref 1]) [] h := by
  show mm_V G (6, 135) M_Ta_load Q 0 [some (.ref 1)] [] h
  refine mv_aload_n (pc := 0) d_Ta_load_0 rfl ?_
  refine mr_getr (pc := 1) d_Ta_load_1 fl_Ta_22 hT.1 rfl (by decide) hT.2.2.2.1 ?_
  refine mv_aload_n (pc := 4) d_Ta_load_4 rfl ?_
  refine mr_getr (pc := 5) d_Ta_load_5 fl_Ta_16 hT.1 rfl (by decide) hT.2.2.1 ?_
  refine mr_callV1 (pc := 8) d_Ta_load_8 (d2 := (5, 114)) ok_Sb_readInto li_Ta_200 sv_Sb_readInto hT.2.2.2.2.2.1.1 ⟨by decide, rfl⟩ ⟨by decide, rfl, Nat.le_of_ble_eq_true rfl, rfl, by decide, by decide⟩ ?_
  refine c_readInto hT.2.2.2.2.2.1 hT.2.2.2.2.2.2.2.2.1 (by have := hT.le; omega) hb hC.2.2.2.2.1 hC.2.2.1 (fun F1 B hB1 hB2 hB3 f1 => ?_) (fun F1 s1 f1 => ?_)
  · refine mv_if_ne 22 (pc := 11) d_Ta_load_11 (by decide) (fun _ => ?_) (fun z => absurd z (by decide))
    refine mv_aload_n (pc := 22) d_Ta_load_22 rfl ?_
    refine mr_getr (pc := 23) d_Ta_load_23 fl_Ta_29 hT.1 rfl (by decide) hT.2.2.2.2.1 ?_
    refine mr_getr (pc := 26) d_Ta_load_26 fl_Ta_188 hT.2.2.2.2.2.2.1.1 rfl (by decide) hT.2.2.2.2.2.2.1.2.1 ?_
    refine mr_callV0 (pc := 29) d_Ta_load_29 (d2 := (0, 0)) ok_By_clear li_Ta_192 sv_By_clear hT.2.2.2.2.2.2.1.2.2.1 ⟨by decide, rfl⟩ ⟨by decide, Nat.le_of_ble_eq_true rfl, rfl, by decide, by decide⟩ ?_
    refine c_byClear (h := mm_wi h F1) hT.2.2.2.2.2.2.1.2.2 ?_
    refine mv_aload_n (pc := 32) d_Ta_load_32 rfl ?_
    refine mr_callV0 (pc := 33) d_Ta_load_33 (d2 := (1, 20)) ok_Ta_takeSpare li_Ta_204 sv_Ta_takeSpare hT.1 ⟨by decide, rfl⟩ ⟨by decide, Nat.le_of_ble_eq_true rfl, rfl, by decide, by decide⟩ ?_
    refine c_takeSpare (h := mm_wi h (mm_u2 F1 50 1 0)) hT ?_
    refine mv_ret (pc := 36) d_Ta_load_36 rfl ?_
    have hle := hT.le
    refine hq (mm_u2 (mm_u2 F1 50 1 0) (w2 + 3) 2 0) B hB1 hB2 ⟨?_, RE.nil (by simp [mm_u2]), ?_, ⟨?_, fun j hj => absurd hj (by simp)⟩, hC.2.2.2.2.1, by simp⟩ (fun a k ha => ?_)
    · exact (hB3.same9 (fun a k h1 h2 => by have n1 : ¬ a = 50 := (by omega); simp [mm_u2, n1])).off (F := mm_u2 F1 50 1 0) (fun a k a3 a4 a5 => by simp [mm_u2, a3])
    · have n1 : ¬ (47 = w2 + 3) := by omega
      have n2 : ¬ (48 = w2 + 3) := by omega
      exact hC.2.2.1.off (by simp only [mm_u2, n1, false_and, if_false]; exact f1 47 1 (by omega) (by omega)) (fun k => by simp only [mm_u2, n2, false_and, if_false]; exact f1 48 k (by omega) (by omega))
    · have n1 : ¬ (50 = w2 + 3) := by omega
      simp [mm_u2, n1]; rfl
    · have n1 : ¬ (a = w2 + 3) := by omega
      have n2 : ¬ a = 50 := by omega
      simp only [mm_u2, n1, n2, false_and, if_false]
      exact f1 a k (by omega) (by omega)
  · refine mv_if_ne 22 (pc := 11) d_Ta_load_11 (by decide) (fun z => absurd z (by decide)) (fun _ => ?_)
    refine mv_throw (pc := 14) hG d_Ta_load_14 d_Ta_load_17 d_Ta_load_18 d_Ta_load_21 xl_Ta_48 (by decide) rfl (Nat.le_of_ble_eq_true rfl) hr.1 hr.2 ?_
    have hle := hT.le
    have hww := hT.2.2.2.2.2.2.2.2.2
    refine hq1 F1 s1 ⟨hC.1.same9 (fun a k h1 h2 => f1 a k (by omega) (by omega)), hC.2.1.same (fun a k ha => f1 a k (by omega) (by omega)), ?_, hC.2.2.2.1.off (f1 50 1 (by omega) (by omega)) (fun k => f1 51 k (by omega) (by omega)), hC.2.2.2.2.1, hC.2.2.2.2.2⟩ (fun a k ha => f1 a k (by omega) (by omega))
    exact hC.2.2.1.off (f1 47 1 (by omega) (by omega)) (fun k => f1 48 k (by omega) (by omega))
