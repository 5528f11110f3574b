/-! CONTRACTS: the reference: load, logged, entry, replay (rows by program: con_ri.py) -/
/-- what replay leaves as it was, until it takes the second world -/
def mm_hfr (F F' : mm_W) : Prop := ∀ a k, ¬ (a = 52 ∧ (k = 20 ∨ k = 22 ∨ k = 23)) → ¬ (a = 53 ∧ k = 1) → ¬ (54 ≤ a ∧ a ≤ 62 ∧ 16 ≤ k) → ¬ (a = 63 ∧ 256 ≤ k) → ¬ (a = 64 ∧ k = 1) → ¬ (65 ≤ a ∧ a ≤ 67 ∧ 120 ≤ k) → a ≠ 70 → F' a k = F a k
theorem mm_hfr.rfl' {F : mm_W} : mm_hfr F F := fun _ _ _ _ _ _ _ _ _ => rfl
theorem mm_hfr.sfr {F0 F F' : mm_W} (h : mm_hfr F0 F) (f : mm_sfr 1 F F') : mm_hfr F0 F' := fun a k h1 h2 h3 h4 h5 h6 h7 => (f a k ⟨by omega, by omega⟩).trans (h a k h1 h2 h3 h4 h5 h6 h7)
theorem mm_hfr.o {F F' : mm_W} (h : mm_hfr F F') : mm_ofr F F' := fun a j ha => h a j (by omega) (by omega) (by omega) (by omega) (by omega) (by omega) (by omega)
theorem mm_mfr.o {k : Nat} {F F' : mm_W} (h : mm_mfr k F F') : mm_ofr F F' := fun a j ha => h a j (by omega)
theorem mm_ofr.ev {F F' : mm_W} (h : mm_ofr F F') (k : Nat) (x : Int32) : mm_ofr F (mm_u2 F' 64 k x) := fun a j ha => by
  have n1 : ¬ a = 64 := by omega
  simp only [mm_u2, n1, false_and, if_false]
  exact h a j ha
theorem MS.hfr {F F' A : mm_W} {E : mm_E} {sv lg : List Int32} (h : MS F A E sv lg) (hE : E.length ≤ 120) (g : mm_hfr F F') : MS F' A E sv lg := by
  obtain ⟨⟨a1, a2, a3⟩, ⟨b1, b2⟩, ⟨c1, c2⟩, ⟨d1, d2⟩, e1, e2⟩ := h
  refine ⟨⟨(g 53 0 (by omega) (by omega) (by omega) (by omega) (by omega) (by omega) (by omega)).trans a1, fun i hi => ?_, fun p hp => (g 63 _ (by omega) (by omega) (by omega) (by omega) (by omega) (by omega) (by omega)).trans (a3 p hp)⟩, ⟨(g 64 0 (by omega) (by omega) (by omega) (by omega) (by omega) (by omega) (by omega)).trans b1, fun j hj => ?_⟩, ⟨(g 52 16 (by omega) (by omega) (by omega) (by omega) (by omega) (by omega) (by omega)).trans c1, fun j hj => (g 68 j (by omega) (by omega) (by omega) (by omega) (by omega) (by omega) (by omega)).trans (c2 j hj)⟩, ⟨(g 52 18 (by omega) (by omega) (by omega) (by omega) (by omega) (by omega) (by omega)).trans d1, fun j hj => (g 69 j (by omega) (by omega) (by omega) (by omega) (by omega) (by omega) (by omega)).trans (d2 j hj)⟩, e1, e2⟩
  · obtain ⟨u1, u2, u3⟩ := a2 i hi
    exact ⟨(g 54 _ (by omega) (by omega) (by omega) (by omega) (by omega) (by omega) (by omega)).trans u1, (g 55 _ (by omega) (by omega) (by omega) (by omega) (by omega) (by omega) (by omega)).trans u2, fun z f f1 f2 => (g (54 + f) _ (by omega) (by omega) (by omega) (by omega) (by omega) (by omega) (by omega)).trans (u3 z f f1 f2)⟩
  · obtain ⟨u1, u2, u3⟩ := b2 j hj
    exact ⟨(g 65 _ (by omega) (by omega) (by omega) (by omega) (by omega) (by omega) (by omega)).trans u1, (g 66 _ (by omega) (by omega) (by omega) (by omega) (by omega) (by omega) (by omega)).trans u2, (g 67 _ (by omega) (by omega) (by omega) (by omega) (by omega) (by omega) (by omega)).trans u3⟩
theorem MS.take {F F' A B : mm_W} {E : mm_E} {sv lg : List Int32} (h : MS F A E sv lg) (r : RM F' 0 B) (f : mm_mfr 0 F F') : MS F' B E sv lg := h.world r (h.2.1.off (fun a j h1 h2 => f a j (by omega))) (fun j => f 52 j (by omega)) (fun a j h1 => f a j (by omega))
theorem MS.clr {F A : mm_W} {E : mm_E} {sv lg : List Int32} (h : MS F A E sv lg) : MS (mm_u2 F 52 18 0) A E sv [] := by
  refine ⟨h.1.same (fun a j h1 h2 => ?_), h.2.1.off (fun a j h1 h2 => ?_), ⟨by simpa [mm_u2] using h.2.2.1.1, fun j hj => ?_⟩, ⟨by simp [mm_u2]; rfl, fun j hj => absurd hj (by simp)⟩, h.2.2.2.2.1, by simp⟩
  · have n1 : ¬ a = 52 := by omega
    simp [mm_u2, n1]
  · have n1 : ¬ a = 52 := by omega
    simp [mm_u2, n1]
  · simp only [mm_u2]; simp only [show ¬ (68 : Nat) = 52 by decide, false_and, if_false]; exact h.2.2.1.2 j hj
theorem MS.ev0 {F A : mm_W} {E : mm_E} {sv lg : List Int32} (h : MS F A E sv lg) : MS (mm_u2 F 64 0 0) A [] sv lg := by
  refine h.world (h.1.same (fun a j h1 h2 => ?_)) ⟨by simp [mm_u2]; rfl, fun j hj => absurd hj (by simp)⟩ (fun j => ?_) (fun a j h1 => ?_)
  · have n1 : ¬ a = 64 := by omega
    simp [mm_u2, n1]
  · simp [mm_u2]
  · have n1 : ¬ a = 64 := by omega
    simp [mm_u2, n1]
theorem RM.cd {F A : mm_W} {k : Nat} (h : RM F k A) (f : Nat) (x : Int32) : RM (mm_u2 F 52 f x) k A := h.same (fun a j h1 h2 => by have n1 : ¬ a = 52 := (by omega); simp [mm_u2, n1])
set_option maxRecDepth 20000 in
theorem c_mload {G : mm_G} {Q : mm_O → mm_H → Prop} {h : mm_H} {A : mm_W} {E : mm_E} {sv lg : List Int32} (hM : mm_Mo h) (hS : MS (mm_gi h) A E sv lg) (hb : a_byt sv) (hq1 : ∀ F', ¬ a_snd sv → MS F' A E sv lg → F' 52 0 = 1 → mm_ofr (mm_gi h) F' → Q (.inl none) (mm_wi h F')) (hq : ∀ F' B, WF B → sv = a_encW B → MS F' B [] sv [] → F' 52 0 = 0 → mm_ofr (mm_gi h) F' → Q (.inl none) (mm_wi h F')) : mm_V G (4, 93) M_Mo_load Q 0 (mm_ent 1 [.ref 52]) [] h := by
  show mm_V G (4, 93) M_Mo_load Q 0 [some (.ref 52)] [] h
  refine mv_aload_n (pc := 0) d_Mo_load_0 rfl ?_
  refine mv_aload_n (pc := 1) d_Mo_load_1 rfl ?_
  refine mr_callV0 (pc := 2) d_Mo_load_2 (d2 := (3, 69)) ok_Mo_restore li_Mo_156 sv_Mo_restore hM.1 ⟨by decide, rfl⟩ ⟨by decide, Nat.le_of_ble_eq_true rfl, rfl, by decide, by decide⟩ ?_
  refine c_restore hM hS hb (fun F1 B1 w1 e1 r1 g1 => ?_) (fun F1 n1 g1 => ?_)
  · refine mv_if_eq 12 (pc := 5) d_Mo_load_5 (by decide) (fun z => absurd z (by decide)) (fun _ => ?_)
    refine mv_iconst (v := 0) (pc := 8) d_Mo_load_8 (by decide) ?_
    refine mv_goto 13 (pc := 9) d_Mo_load_9 (by decide) ?_
    refine mr_puti (pc := 13) d_Mo_load_13 fl_Mo_69 hM.1 rfl (by decide) ⟨rfl, rfl⟩ ?_
    refine mv_aload_n (pc := 16) d_Mo_load_16 rfl ?_
    refine mr_geti (pc := 17) d_Mo_load_17 fl_Mo_69 hM.1 rfl (by decide) ?_
    rw [mm_gss]
    refine mv_if_le 24 (pc := 20) d_Mo_load_20 (by decide) (fun _ => ?_) (fun z => absurd z (by decide))
    refine mv_aload_n (pc := 24) d_Mo_load_24 rfl ?_
    refine mr_callV0 (pc := 25) d_Mo_load_25 (d2 := (0, 0)) ok_Mo_take li_Mo_160 sv_Mo_take hM.1 ⟨by decide, rfl⟩ ⟨by decide, Nat.le_of_ble_eq_true rfl, rfl, by decide, by decide⟩ ?_
    refine c_take (h := mm_wi h (mm_u2 F1 52 0 0)) hM (r1.cd 0 0) w1 (fun F2 r2 f2 => ?_)
    refine mv_aload_n (pc := 28) d_Mo_load_28 rfl ?_
    refine mv_iconst (v := 0) (pc := 29) d_Mo_load_29 (by decide) ?_
    refine mr_puti (pc := 30) d_Mo_load_30 fl_Mo_110 hM.1 rfl (by decide) ⟨rfl, rfl⟩ ?_
    refine mv_aload_n (pc := 33) d_Mo_load_33 rfl ?_
    refine mr_getr (pc := 34) d_Mo_load_34 fl_Mo_44 hM.1 rfl (by decide) hM.g_events ?_
    refine mv_iconst (v := 0) (pc := 37) d_Mo_load_37 (by decide) ?_
    refine mv_iconst (v := 0) (pc := 38) d_Mo_load_38 (by decide) ?_
    refine mr_iast (pc := 39) d_Mo_load_39 hM.a_events (mm_inN (n := 0) (by omega) (by decide)) ?_
    rw [show (0 : Int32).toNatClampNeg = 0 from rfl]
    refine mv_ret (pc := 40) d_Mo_load_40 rfl ?_
    refine hq (mm_u2 (mm_u2 F2 52 18 0) 64 0 0) B1 w1 e1 (((hS.gfr g1).code 0).take r2 f2).clr.ev0 ?_ (((((g1.o.cd 0 0).trans f2.o).cd 18 0).ev 0 0))
    simp only [mm_u2]; simp
    rw [f2 52 0 (by omega)]; simp [mm_gwi, mm_u2]
  · refine mv_if_eq 12 (pc := 5) d_Mo_load_5 (by decide) (fun _ => ?_) (fun z => absurd z (by decide))
    refine mv_iconst (v := 1) (pc := 12) d_Mo_load_12 (by decide) ?_
    refine mr_puti (pc := 13) d_Mo_load_13 fl_Mo_69 hM.1 rfl (by decide) ⟨rfl, rfl⟩ ?_
    refine mv_aload_n (pc := 16) d_Mo_load_16 rfl ?_
    refine mr_geti (pc := 17) d_Mo_load_17 fl_Mo_69 hM.1 rfl (by decide) ?_
    rw [mm_gss]
    refine mv_if_le 24 (pc := 20) d_Mo_load_20 (by decide) (fun z => absurd z (by decide)) (fun _ => ?_)
    refine mv_ret (pc := 23) d_Mo_load_23 rfl ?_
    exact hq1 (mm_u2 F1 52 0 1) n1 ((hS.gfr g1).code 1) (by simp [mm_u2]) (g1.o.cd 0 1)
set_option maxRecDepth 20000 in
theorem l_mlog {G : mm_G} {Q : mm_O → mm_H → Prop} {h : mm_H} {q n : Nat} {lg : List Int32} (hM : mm_Mo h) (hlen : lg.length ≤ 400) (hL : ∀ j, j < lg.length → mm_gi h 69 j = lg.getD j 0) (hle : q + n ≤ lg.length) (hq : Q (.inl (some (.int (mm_dec lg q n)))) h) :
    ∀ (i : Nat) (_ : Unit), i ≤ n → True → mm_V G (0, 0) M_Mo_logged Q 5 [some (.ref 52), some (.int (nI q)), some (.int (nI n)), some (.int (mm_dec lg q i)), some (.int (nI i))] [] h := by
  refine mr_loop _ _ n (fun _ hI => ?_) (fun i _ hi hI ih => ?_)
  · refine mv_iload (pc := 5) d_Mo_logged_5 rfl ?_
    refine mv_iload_n (pc := 7) d_Mo_logged_7 rfl ?_
    refine mv_ic_ge 32 (pc := 8) d_Mo_logged_8 (by decide) (fun h8 => ?_) (fun z => absurd z (fun z => z (nI_le (by omega) (by omega))))
    refine mv_iload_n (pc := 32) d_Mo_logged_32 rfl ?_
    refine mv_iret (pc := 33) d_Mo_logged_33 rfl rfl ?_
    exact hq
  · refine mv_iload (pc := 5) d_Mo_logged_5 rfl ?_
    refine mv_iload_n (pc := 7) d_Mo_logged_7 rfl ?_
    refine mv_ic_ge 32 (pc := 8) d_Mo_logged_8 (by decide) (fun z => absurd z (nI_ge (by omega) (by omega))) (fun h8 => ?_)
    refine mv_iload_n (pc := 11) d_Mo_logged_11 rfl ?_
    refine mv_bipush (v := 8) (pc := 12) d_Mo_logged_12 (by decide) ?_
    refine mv_ishl (pc := 14) d_Mo_logged_14 ?_
    refine mv_aload_n (pc := 15) d_Mo_logged_15 rfl ?_
    refine mr_getr (pc := 16) d_Mo_logged_16 fl_Mo_59 hM.1 rfl (by decide) hM.g_log ?_
    refine mv_iload_n (pc := 19) d_Mo_logged_19 rfl ?_
    refine mv_iload (pc := 20) d_Mo_logged_20 rfl ?_
    refine mv_iadd (pc := 22) d_Mo_logged_22 ?_
    rw [nI_add]
    refine mr_iald (pc := 23) d_Mo_logged_23 hM.a_log (mm_inN (by omega) (by decide)) ?_
    rw [mm_cl (by omega), show mm_gi h 69 (q + i) = lg.getD (q + i) 0 from hL _ (by omega)]
    refine mv_ior (pc := 24) d_Mo_logged_24 ?_
    refine mv_istore_n (pc := 25) d_Mo_logged_25 (by decide) ?_
    refine mv_iinc (pc := 26) d_Mo_logged_26 rfl rfl (by decide) ?_
    refine mv_goto 5 (pc := 29) d_Mo_logged_29 (by decide) ?_
    refine mm_V_ls (ls' := [some (.ref 52), some (.int (nI q)), some (.int (nI n)), some (.int (mm_dec lg q (i + 1))), some (.int (nI (i + 1)))]) (by simp only [List.set]; rw [nI_succ]; rfl) (ih () trivial)
set_option maxRecDepth 20000 in
theorem c_logged {G : mm_G} {Q : mm_O → mm_H → Prop} {h : mm_H} {q n : Nat} {lg : List Int32} (hM : mm_Mo h) (hlen : lg.length ≤ 400) (hL : ∀ j, j < lg.length → mm_gi h 69 j = lg.getD j 0) (hle : q + n ≤ lg.length) (hq : Q (.inl (some (.int (mm_dec lg q n)))) h) : mm_V G (0, 0) M_Mo_logged Q 0 (mm_ent 5 [.ref 52, .int (nI q), .int (nI n)]) [] h := by
  show mm_V G (0, 0) M_Mo_logged Q 0 [some (.ref 52), some (.int (nI q)), some (.int (nI n)), none, none] [] h
  refine mv_iconst (v := 0) (pc := 0) d_Mo_logged_0 (by decide) ?_
  refine mv_istore_n (pc := 1) d_Mo_logged_1 (by decide) ?_
  refine mv_iconst (v := 0) (pc := 2) d_Mo_logged_2 (by decide) ?_
  refine mv_istore (pc := 3) d_Mo_logged_3 (by decide) ?_
  exact l_mlog hM hlen hL hle hq 0 () (by omega) trivial
theorem mm_g5 {x : Int32} (h : ¬ x < 3) (h3 : ¬ x = 3) (h4 : ¬ x = 4) (h5 : ¬ x = 5) : ¬ ¬ 5 < x := by
  simp only [Int32.lt_iff_toInt_lt, ← Int32.toInt_inj, show (3 : Int32).toInt = 3 from by decide, show (4 : Int32).toInt = 4 from by decide, show (5 : Int32).toInt = 5 from by decide] at *
  omega
set_option maxRecDepth 20000 in
theorem c_entry {G : mm_G} {Q : mm_O → mm_H → Prop} {h : mm_H} {p : Nat} {B : mm_W} {lg : List Int32} (hR : RM (mm_gi h) 1 B) (hW : WF B) (hM : mm_Mo h) (hlen : lg.length ≤ 400) (hL : ∀ j, j < lg.length → mm_gi h 69 j = lg.getD j 0) (hL1 : mm_gi h 52 18 = nI lg.length) (hp : p < lg.length) (hq0 : a_ent B lg p = none → Q (.inl (some (.int 0))) h) (hq : ∀ F' B' n, a_ent B lg p = some (B', n) → RM F' 1 B' → mm_sfr 1 (mm_gi h) F' → Q (.inl (some (.int (nI n)))) (mm_wi h F')) : mm_V G (4, 97) M_Mo_entry Q 0 (mm_ent 7 [.ref 52, .int (nI p)]) [] h := by
  show mm_V G (4, 97) M_Mo_entry Q 0 [some (.ref 52), some (.int (nI p)), none, none, none, none, none] [] h
  refine mv_aload_n (pc := 0) d_Mo_entry_0 rfl ?_
  refine mr_getr (pc := 1) d_Mo_entry_1 fl_Mo_59 hM.1 rfl (by decide) hM.g_log ?_
  refine mv_iload_n (pc := 4) d_Mo_entry_4 rfl ?_
  refine mr_iald (pc := 5) d_Mo_entry_5 hM.a_log (mm_inN (by omega) (by decide)) ?_
  rw [mm_cl (n := p) (by omega), show mm_gi h 69 p = lg.getD p 0 from hL p hp]
  refine mv_istore_n (pc := 6) d_Mo_entry_6 (by decide) ?_
  by_cases e1 : lg.getD p 0 = 1
  · have ee : a_ent B lg p = a_en1 B lg p := by unfold a_ent; rw [e1, a_entK1]
    rw [e1]
    refine mv_iload_n (pc := 7) d_Mo_entry_7 rfl ?_
    refine mv_iconst (v := 1) (pc := 8) d_Mo_entry_8 (by decide) ?_
    refine mv_ic_ne 16 (pc := 9) d_Mo_entry_9 (by decide) (fun z => absurd z (by decide)) (fun _ => ?_)
    refine mv_iconst (v := 5) (pc := 12) d_Mo_entry_12 (by decide) ?_
    refine mv_goto 51 (pc := 13) d_Mo_entry_13 (by decide) ?_
    refine mv_istore_n (pc := 51) d_Mo_entry_51 (by decide) ?_
    refine mv_iload_n (pc := 52) d_Mo_entry_52 rfl ?_
    refine mv_if_eq 66 (pc := 53) d_Mo_entry_53 (by decide) (fun z => absurd z (by decide)) (fun _ => ?_)
    refine mv_iload_n (pc := 56) d_Mo_entry_56 rfl ?_
    refine mv_iload_n (pc := 57) d_Mo_entry_57 rfl ?_
    refine mv_iadd (pc := 58) d_Mo_entry_58 ?_
    rw [show nI p + 5 = nI (p + 5) from nI_add p 5]
    refine mv_aload_n (pc := 59) d_Mo_entry_59 rfl ?_
    refine mr_geti (pc := 60) d_Mo_entry_60 fl_Mo_110 hM.1 rfl (by decide) ?_
    rw [show mm_gi h 52 18 = nI lg.length from hL1]
    refine mv_ic_le 68 (pc := 63) d_Mo_entry_63 (by decide) (fun h63 => ?_) (fun h63 => ?_)
    · have hle : p + 5 ≤ lg.length := (nI_leI (by omega) (by omega)).mp h63
      refine mv_iload_n (pc := 68) d_Mo_entry_68 rfl ?_
      refine mv_iconst (v := 1) (pc := 69) d_Mo_entry_69 (by decide) ?_
      refine mv_ic_ne 84 (pc := 70) d_Mo_entry_70 (by decide) (fun z => absurd z (by decide)) (fun _ => ?_)
      refine mv_aload_n (pc := 73) d_Mo_entry_73 rfl ?_
      refine mv_iload_n (pc := 74) d_Mo_entry_74 rfl ?_
      refine mv_iconst (v := 1) (pc := 75) d_Mo_entry_75 (by decide) ?_
      refine mv_iadd (pc := 76) d_Mo_entry_76 ?_
      rw [show nI p + 1 = nI (p + 1) from nI_add p 1]
      refine mv_iconst (v := 2) (pc := 77) d_Mo_entry_77 (by decide) ?_
      refine mr_callV2 (pc := 78) d_Mo_entry_78 (d2 := (0, 0)) ok_Mo_logged li_Mo_163 sv_Mo_logged hM.1 ⟨by decide, rfl⟩ ⟨by decide, rfl, rfl, Nat.le_of_ble_eq_true rfl, rfl, by decide, by decide⟩ ?_
      refine c_logged (q := p + 1) (n := 2) hM hlen hL (by omega) ?_
      refine mv_goto 102 (pc := 81) d_Mo_entry_81 (by decide) ?_
      refine mv_istore (pc := 102) d_Mo_entry_102 (by decide) ?_
      refine mv_iload_n (pc := 104) d_Mo_entry_104 rfl ?_
      refine mv_iconst (v := 1) (pc := 105) d_Mo_entry_105 (by decide) ?_
      refine mv_ic_ne 120 (pc := 106) d_Mo_entry_106 (by decide) (fun z => absurd z (by decide)) (fun _ => ?_)
      refine mv_aload_n (pc := 109) d_Mo_entry_109 rfl ?_
      refine mv_iload_n (pc := 110) d_Mo_entry_110 rfl ?_
      refine mv_iconst (v := 3) (pc := 111) d_Mo_entry_111 (by decide) ?_
      refine mv_iadd (pc := 112) d_Mo_entry_112 ?_
      rw [show nI p + 3 = nI (p + 3) from nI_add p 3]
      refine mv_iconst (v := 2) (pc := 113) d_Mo_entry_113 (by decide) ?_
      refine mr_callV2 (pc := 114) d_Mo_entry_114 (d2 := (0, 0)) ok_Mo_logged li_Mo_163 sv_Mo_logged hM.1 ⟨by decide, rfl⟩ ⟨by decide, rfl, rfl, Nat.le_of_ble_eq_true rfl, rfl, by decide, by decide⟩ ?_
      refine c_logged (q := p + 3) (n := 2) hM hlen hL (by omega) ?_
      refine mv_goto 173 (pc := 117) d_Mo_entry_117 (by decide) ?_
      refine mv_istore (pc := 173) d_Mo_entry_173 (by decide) ?_
      refine mv_iload_n (pc := 175) d_Mo_entry_175 rfl ?_
      refine mv_iconst (v := 3) (pc := 176) d_Mo_entry_176 (by decide) ?_
      refine mv_ic_ne 195 (pc := 177) d_Mo_entry_177 (by decide) (fun _ => ?_) (fun z => absurd z (by decide))
      refine mv_iload_n (pc := 195) d_Mo_entry_195 rfl ?_
      refine mv_iconst (v := 4) (pc := 196) d_Mo_entry_196 (by decide) ?_
      refine mv_ic_ne 211 (pc := 197) d_Mo_entry_197 (by decide) (fun _ => ?_) (fun z => absurd z (by decide))
      refine mv_iconst (v := 0) (pc := 211) d_Mo_entry_211 (by decide) ?_
      refine mv_istore (pc := 212) d_Mo_entry_212 (by decide) ?_
      refine mv_aload_n (pc := 214) d_Mo_entry_214 rfl ?_
      refine mv_iconst (v := 1) (pc := 215) d_Mo_entry_215 (by decide) ?_
      refine mv_iload_n (pc := 216) d_Mo_entry_216 rfl ?_
      refine mv_iload (pc := 217) d_Mo_entry_217 rfl ?_
      refine mv_iload (pc := 219) d_Mo_entry_219 rfl ?_
      refine mv_iload (pc := 221) d_Mo_entry_221 rfl ?_
      refine mr_callV5 (pc := 223) d_Mo_entry_223 (d2 := (3, 70)) ok_Mo_act li_Mo_119 sv_Mo_act hM.1 ⟨by decide, rfl⟩ ⟨by decide, rfl, rfl, rfl, rfl, rfl, Nat.le_of_ble_eq_true rfl, rfl, by decide, by decide⟩ ?_
      refine c_act1 (k := 1) (by omega) hM hR (fun hn => ?_) (fun i F1 g1 hi l1 l2 r1 f1 => ?_)
      · refine mv_if_eq 233 (pc := 226) d_Mo_entry_226 (by decide) (fun _ => ?_) (fun z => absurd z (by decide))
        refine mv_iconst (v := 0) (pc := 233) d_Mo_entry_233 (by decide) ?_
        refine mv_iret (pc := 234) d_Mo_entry_234 rfl rfl ?_
        refine hq0 (ee.trans (a_en1_n (fun z => hn ⟨z.2.1, fun c => ?_⟩)))
        have c2 := a_low16 c
        have c3 := z.2.2
        omega
      · refine mv_if_eq 233 (pc := 226) d_Mo_entry_226 (by decide) (fun z => absurd z (by decide)) (fun _ => ?_)
        refine mv_iload_n (pc := 229) d_Mo_entry_229 rfl ?_
        refine mv_goto 234 (pc := 230) d_Mo_entry_230 (by decide) ?_
        refine mv_iret (pc := 234) d_Mo_entry_234 rfl rfl ?_
        have lo := a_low0 hi l1 l2
        refine hq F1 (a_set B i (mm_dec lg (p + 1) 2) (mm_dec lg (p + 3) 2)) 5 ?_ r1 (fun a j z => f1 a j z.1)
        rw [ee, a_en1_y ⟨hle, g1, by omega⟩, lo]
    · refine mv_iconst (v := 0) (pc := 66) d_Mo_entry_66 (by decide) ?_
      refine mv_iret (pc := 67) d_Mo_entry_67 rfl rfl ?_
      exact hq0 (ee.trans (a_en1_n (fun z => h63 (nI_le z.1 (by omega)))))
  by_cases e2 : lg.getD p 0 = 2
  · have ee : a_ent B lg p = a_en2 B lg p 2 4 (0) (0) := by unfold a_ent; rw [e2, a_entK2]
    rw [e2]
    refine mv_iload_n (pc := 7) d_Mo_entry_7 rfl ?_
    refine mv_iconst (v := 1) (pc := 8) d_Mo_entry_8 (by decide) ?_
    refine mv_ic_ne 16 (pc := 9) d_Mo_entry_9 (by decide) (fun _ => ?_) (fun z => absurd z (by decide))
    refine mv_iload_n (pc := 16) d_Mo_entry_16 rfl ?_
    refine mv_iconst (v := 2) (pc := 17) d_Mo_entry_17 (by decide) ?_
    refine mv_ic_ne 25 (pc := 18) d_Mo_entry_18 (by decide) (fun z => absurd z (by decide)) (fun _ => ?_)
    refine mv_iconst (v := 4) (pc := 21) d_Mo_entry_21 (by decide) ?_
    refine mv_goto 51 (pc := 22) d_Mo_entry_22 (by decide) ?_
    refine mv_istore_n (pc := 51) d_Mo_entry_51 (by decide) ?_
    refine mv_iload_n (pc := 52) d_Mo_entry_52 rfl ?_
    refine mv_if_eq 66 (pc := 53) d_Mo_entry_53 (by decide) (fun z => absurd z (by decide)) (fun _ => ?_)
    refine mv_iload_n (pc := 56) d_Mo_entry_56 rfl ?_
    refine mv_iload_n (pc := 57) d_Mo_entry_57 rfl ?_
    refine mv_iadd (pc := 58) d_Mo_entry_58 ?_
    rw [show nI p + 4 = nI (p + 4) from nI_add p 4]
    refine mv_aload_n (pc := 59) d_Mo_entry_59 rfl ?_
    refine mr_geti (pc := 60) d_Mo_entry_60 fl_Mo_110 hM.1 rfl (by decide) ?_
    rw [show mm_gi h 52 18 = nI lg.length from hL1]
    refine mv_ic_le 68 (pc := 63) d_Mo_entry_63 (by decide) (fun h63 => ?_) (fun h63 => ?_)
    · have hle : p + 4 ≤ lg.length := (nI_leI (by omega) (by omega)).mp h63
      refine mv_iload_n (pc := 68) d_Mo_entry_68 rfl ?_
      refine mv_iconst (v := 1) (pc := 69) d_Mo_entry_69 (by decide) ?_
      refine mv_ic_ne 84 (pc := 70) d_Mo_entry_70 (by decide) (fun _ => ?_) (fun z => absurd z (by decide))
      refine mv_iload_n (pc := 84) d_Mo_entry_84 rfl ?_
      refine mv_bipush (v := 6) (pc := 85) d_Mo_entry_85 (by decide) ?_
      refine mv_ic_ne 94 (pc := 87) d_Mo_entry_87 (by decide) (fun _ => ?_) (fun z => absurd z (by decide))
      refine mv_aload_n (pc := 94) d_Mo_entry_94 rfl ?_
      refine mv_iload_n (pc := 95) d_Mo_entry_95 rfl ?_
      refine mv_iconst (v := 1) (pc := 96) d_Mo_entry_96 (by decide) ?_
      refine mv_iadd (pc := 97) d_Mo_entry_97 ?_
      rw [show nI p + 1 = nI (p + 1) from nI_add p 1]
      refine mv_iconst (v := 3) (pc := 98) d_Mo_entry_98 (by decide) ?_
      refine mr_callV2 (pc := 99) d_Mo_entry_99 (d2 := (0, 0)) ok_Mo_logged li_Mo_163 sv_Mo_logged hM.1 ⟨by decide, rfl⟩ ⟨by decide, rfl, rfl, Nat.le_of_ble_eq_true rfl, rfl, by decide, by decide⟩ ?_
      refine c_logged (q := p + 1) (n := 3) hM hlen hL (by omega) ?_
      refine mv_istore (pc := 102) d_Mo_entry_102 (by decide) ?_
      refine mv_iload_n (pc := 104) d_Mo_entry_104 rfl ?_
      refine mv_iconst (v := 1) (pc := 105) d_Mo_entry_105 (by decide) ?_
      refine mv_ic_ne 120 (pc := 106) d_Mo_entry_106 (by decide) (fun _ => ?_) (fun z => absurd z (by decide))
      refine mv_iload_n (pc := 120) d_Mo_entry_120 rfl ?_
      refine mv_iconst (v := 3) (pc := 121) d_Mo_entry_121 (by decide) ?_
      refine mv_ic_ne 140 (pc := 122) d_Mo_entry_122 (by decide) (fun _ => ?_) (fun z => absurd z (by decide))
      refine mv_iload_n (pc := 140) d_Mo_entry_140 rfl ?_
      refine mv_iconst (v := 4) (pc := 141) d_Mo_entry_141 (by decide) ?_
      refine mv_ic_ne 156 (pc := 142) d_Mo_entry_142 (by decide) (fun _ => ?_) (fun z => absurd z (by decide))
      refine mv_iload_n (pc := 156) d_Mo_entry_156 rfl ?_
      refine mv_iconst (v := 5) (pc := 157) d_Mo_entry_157 (by decide) ?_
      refine mv_ic_ne 172 (pc := 158) d_Mo_entry_158 (by decide) (fun _ => ?_) (fun z => absurd z (by decide))
      refine mv_iconst (v := 0) (pc := 172) d_Mo_entry_172 (by decide) ?_
      refine mv_istore (pc := 173) d_Mo_entry_173 (by decide) ?_
      refine mv_iload_n (pc := 175) d_Mo_entry_175 rfl ?_
      refine mv_iconst (v := 3) (pc := 176) d_Mo_entry_176 (by decide) ?_
      refine mv_ic_ne 195 (pc := 177) d_Mo_entry_177 (by decide) (fun _ => ?_) (fun z => absurd z (by decide))
      refine mv_iload_n (pc := 195) d_Mo_entry_195 rfl ?_
      refine mv_iconst (v := 4) (pc := 196) d_Mo_entry_196 (by decide) ?_
      refine mv_ic_ne 211 (pc := 197) d_Mo_entry_197 (by decide) (fun _ => ?_) (fun z => absurd z (by decide))
      refine mv_iconst (v := 0) (pc := 211) d_Mo_entry_211 (by decide) ?_
      refine mv_istore (pc := 212) d_Mo_entry_212 (by decide) ?_
      refine mv_aload_n (pc := 214) d_Mo_entry_214 rfl ?_
      refine mv_iconst (v := 1) (pc := 215) d_Mo_entry_215 (by decide) ?_
      refine mv_iload_n (pc := 216) d_Mo_entry_216 rfl ?_
      refine mv_iload (pc := 217) d_Mo_entry_217 rfl ?_
      refine mv_iload (pc := 219) d_Mo_entry_219 rfl ?_
      refine mv_iload (pc := 221) d_Mo_entry_221 rfl ?_
      refine mr_callV5 (pc := 223) d_Mo_entry_223 (d2 := (3, 70)) ok_Mo_act li_Mo_119 sv_Mo_act hM.1 ⟨by decide, rfl⟩ ⟨by decide, rfl, rfl, rfl, rfl, rfl, Nat.le_of_ble_eq_true rfl, rfl, by decide, by decide⟩ ?_
      refine c_act2 (k := 1) (i := a_ix (mm_dec lg (p + 1) 3)) (by omega) hM hR hW (a_ix_lt _) (a_ix_eq _) (fun hn => ?_) (fun F1 g1 g2 r1 f1 => ?_)
      · refine mv_if_eq 233 (pc := 226) d_Mo_entry_226 (by decide) (fun _ => ?_) (fun z => absurd z (by decide))
        refine mv_iconst (v := 0) (pc := 233) d_Mo_entry_233 (by decide) ?_
        refine mv_iret (pc := 234) d_Mo_entry_234 rfl rfl ?_
        exact hq0 (ee.trans (a_en2_n (fun z => hn z.2)))
      · refine mv_if_eq 233 (pc := 226) d_Mo_entry_226 (by decide) (fun z => absurd z (by decide)) (fun _ => ?_)
        refine mv_iload_n (pc := 229) d_Mo_entry_229 rfl ?_
        refine mv_goto 234 (pc := 230) d_Mo_entry_230 (by decide) ?_
        refine mv_iret (pc := 234) d_Mo_entry_234 rfl rfl ?_
        exact hq F1 _ 4 (ee.trans (a_en2_y ⟨hle, g1, g2⟩)) r1 (fun a j z => f1 a j z.1)
    · refine mv_iconst (v := 0) (pc := 66) d_Mo_entry_66 (by decide) ?_
      refine mv_iret (pc := 67) d_Mo_entry_67 rfl rfl ?_
      exact hq0 (ee.trans (a_en2_n (fun z => h63 (nI_le z.1 (by omega)))))
  by_cases e3 : lg.getD p 0 = 3
  · have ee : a_ent B lg p = a_en2 B lg p 3 6 (mm_dec lg (p + 4) 1 - 128) (mm_dec lg (p + 5) 1 - 128) := by unfold a_ent; rw [e3, a_entK3]
    rw [e3]
    refine mv_iload_n (pc := 7) d_Mo_entry_7 rfl ?_
    refine mv_iconst (v := 1) (pc := 8) d_Mo_entry_8 (by decide) ?_
    refine mv_ic_ne 16 (pc := 9) d_Mo_entry_9 (by decide) (fun _ => ?_) (fun z => absurd z (by decide))
    refine mv_iload_n (pc := 16) d_Mo_entry_16 rfl ?_
    refine mv_iconst (v := 2) (pc := 17) d_Mo_entry_17 (by decide) ?_
    refine mv_ic_ne 25 (pc := 18) d_Mo_entry_18 (by decide) (fun _ => ?_) (fun z => absurd z (by decide))
    refine mv_iload_n (pc := 25) d_Mo_entry_25 rfl ?_
    refine mv_bipush (v := 6) (pc := 26) d_Mo_entry_26 (by decide) ?_
    refine mv_ic_ne 35 (pc := 28) d_Mo_entry_28 (by decide) (fun _ => ?_) (fun z => absurd z (by decide))
    refine mv_iload_n (pc := 35) d_Mo_entry_35 rfl ?_
    refine mv_iconst (v := 3) (pc := 36) d_Mo_entry_36 (by decide) ?_
    refine mv_ic_lt 50 (pc := 37) d_Mo_entry_37 (by decide) (fun z => absurd z (by decide)) (fun _ => ?_)
    refine mv_iload_n (pc := 40) d_Mo_entry_40 rfl ?_
    refine mv_iconst (v := 5) (pc := 41) d_Mo_entry_41 (by decide) ?_
    refine mv_ic_gt 50 (pc := 42) d_Mo_entry_42 (by decide) (fun z => absurd z (by decide)) (fun _ => ?_)
    refine mv_bipush (v := 6) (pc := 45) d_Mo_entry_45 (by decide) ?_
    refine mv_goto 51 (pc := 47) d_Mo_entry_47 (by decide) ?_
    refine mv_istore_n (pc := 51) d_Mo_entry_51 (by decide) ?_
    refine mv_iload_n (pc := 52) d_Mo_entry_52 rfl ?_
    refine mv_if_eq 66 (pc := 53) d_Mo_entry_53 (by decide) (fun z => absurd z (by decide)) (fun _ => ?_)
    refine mv_iload_n (pc := 56) d_Mo_entry_56 rfl ?_
    refine mv_iload_n (pc := 57) d_Mo_entry_57 rfl ?_
    refine mv_iadd (pc := 58) d_Mo_entry_58 ?_
    rw [show nI p + 6 = nI (p + 6) from nI_add p 6]
    refine mv_aload_n (pc := 59) d_Mo_entry_59 rfl ?_
    refine mr_geti (pc := 60) d_Mo_entry_60 fl_Mo_110 hM.1 rfl (by decide) ?_
    rw [show mm_gi h 52 18 = nI lg.length from hL1]
    refine mv_ic_le 68 (pc := 63) d_Mo_entry_63 (by decide) (fun h63 => ?_) (fun h63 => ?_)
    · have hle : p + 6 ≤ lg.length := (nI_leI (by omega) (by omega)).mp h63
      refine mv_iload_n (pc := 68) d_Mo_entry_68 rfl ?_
      refine mv_iconst (v := 1) (pc := 69) d_Mo_entry_69 (by decide) ?_
      refine mv_ic_ne 84 (pc := 70) d_Mo_entry_70 (by decide) (fun _ => ?_) (fun z => absurd z (by decide))
      refine mv_iload_n (pc := 84) d_Mo_entry_84 rfl ?_
      refine mv_bipush (v := 6) (pc := 85) d_Mo_entry_85 (by decide) ?_
      refine mv_ic_ne 94 (pc := 87) d_Mo_entry_87 (by decide) (fun _ => ?_) (fun z => absurd z (by decide))
      refine mv_aload_n (pc := 94) d_Mo_entry_94 rfl ?_
      refine mv_iload_n (pc := 95) d_Mo_entry_95 rfl ?_
      refine mv_iconst (v := 1) (pc := 96) d_Mo_entry_96 (by decide) ?_
      refine mv_iadd (pc := 97) d_Mo_entry_97 ?_
      rw [show nI p + 1 = nI (p + 1) from nI_add p 1]
      refine mv_iconst (v := 3) (pc := 98) d_Mo_entry_98 (by decide) ?_
      refine mr_callV2 (pc := 99) d_Mo_entry_99 (d2 := (0, 0)) ok_Mo_logged li_Mo_163 sv_Mo_logged hM.1 ⟨by decide, rfl⟩ ⟨by decide, rfl, rfl, Nat.le_of_ble_eq_true rfl, rfl, by decide, by decide⟩ ?_
      refine c_logged (q := p + 1) (n := 3) hM hlen hL (by omega) ?_
      refine mv_istore (pc := 102) d_Mo_entry_102 (by decide) ?_
      refine mv_iload_n (pc := 104) d_Mo_entry_104 rfl ?_
      refine mv_iconst (v := 1) (pc := 105) d_Mo_entry_105 (by decide) ?_
      refine mv_ic_ne 120 (pc := 106) d_Mo_entry_106 (by decide) (fun _ => ?_) (fun z => absurd z (by decide))
      refine mv_iload_n (pc := 120) d_Mo_entry_120 rfl ?_
      refine mv_iconst (v := 3) (pc := 121) d_Mo_entry_121 (by decide) ?_
      refine mv_ic_ne 140 (pc := 122) d_Mo_entry_122 (by decide) (fun z => absurd z (by decide)) (fun _ => ?_)
      refine mv_aload_n (pc := 125) d_Mo_entry_125 rfl ?_
      refine mr_getr (pc := 126) d_Mo_entry_126 fl_Mo_59 hM.1 rfl (by decide) hM.g_log ?_
      refine mv_iload_n (pc := 129) d_Mo_entry_129 rfl ?_
      refine mv_iconst (v := 4) (pc := 130) d_Mo_entry_130 (by decide) ?_
      refine mv_iadd (pc := 131) d_Mo_entry_131 ?_
      rw [show nI p + 4 = nI (p + 4) from nI_add p 4]
      refine mr_iald (pc := 132) d_Mo_entry_132 hM.a_log (mm_inN (by omega) (by decide)) ?_
      rw [mm_cl (n := p + 4) (by omega), show mm_gi h 69 (p + 4) = mm_dec lg (p + 4) 1 from (hL _ (by omega)).trans (mm_d1 lg (p + 4)).symm]
      refine mv_sipush (v := 128) (pc := 133) d_Mo_entry_133 (by decide) ?_
      refine mv_isub (pc := 136) d_Mo_entry_136 ?_
      refine mv_goto 173 (pc := 137) d_Mo_entry_137 (by decide) ?_
      refine mv_istore (pc := 173) d_Mo_entry_173 (by decide) ?_
      refine mv_iload_n (pc := 175) d_Mo_entry_175 rfl ?_
      refine mv_iconst (v := 3) (pc := 176) d_Mo_entry_176 (by decide) ?_
      refine mv_ic_ne 195 (pc := 177) d_Mo_entry_177 (by decide) (fun z => absurd z (by decide)) (fun _ => ?_)
      refine mv_aload_n (pc := 180) d_Mo_entry_180 rfl ?_
      refine mr_getr (pc := 181) d_Mo_entry_181 fl_Mo_59 hM.1 rfl (by decide) hM.g_log ?_
      refine mv_iload_n (pc := 184) d_Mo_entry_184 rfl ?_
      refine mv_iconst (v := 5) (pc := 185) d_Mo_entry_185 (by decide) ?_
      refine mv_iadd (pc := 186) d_Mo_entry_186 ?_
      rw [show nI p + 5 = nI (p + 5) from nI_add p 5]
      refine mr_iald (pc := 187) d_Mo_entry_187 hM.a_log (mm_inN (by omega) (by decide)) ?_
      rw [mm_cl (n := p + 5) (by omega), show mm_gi h 69 (p + 5) = mm_dec lg (p + 5) 1 from (hL _ (by omega)).trans (mm_d1 lg (p + 5)).symm]
      refine mv_sipush (v := 128) (pc := 188) d_Mo_entry_188 (by decide) ?_
      refine mv_isub (pc := 191) d_Mo_entry_191 ?_
      refine mv_goto 212 (pc := 192) d_Mo_entry_192 (by decide) ?_
      refine mv_istore (pc := 212) d_Mo_entry_212 (by decide) ?_
      refine mv_aload_n (pc := 214) d_Mo_entry_214 rfl ?_
      refine mv_iconst (v := 1) (pc := 215) d_Mo_entry_215 (by decide) ?_
      refine mv_iload_n (pc := 216) d_Mo_entry_216 rfl ?_
      refine mv_iload (pc := 217) d_Mo_entry_217 rfl ?_
      refine mv_iload (pc := 219) d_Mo_entry_219 rfl ?_
      refine mv_iload (pc := 221) d_Mo_entry_221 rfl ?_
      refine mr_callV5 (pc := 223) d_Mo_entry_223 (d2 := (3, 70)) ok_Mo_act li_Mo_119 sv_Mo_act hM.1 ⟨by decide, rfl⟩ ⟨by decide, rfl, rfl, rfl, rfl, rfl, Nat.le_of_ble_eq_true rfl, rfl, by decide, by decide⟩ ?_
      refine c_act3 (k := 1) (i := a_ix (mm_dec lg (p + 1) 3)) (by omega) hM hR hW (a_ix_lt _) (a_ix_eq _) (fun hn => ?_) (fun F1 g1 g2 r1 f1 => ?_)
      · refine mv_if_eq 233 (pc := 226) d_Mo_entry_226 (by decide) (fun _ => ?_) (fun z => absurd z (by decide))
        refine mv_iconst (v := 0) (pc := 233) d_Mo_entry_233 (by decide) ?_
        refine mv_iret (pc := 234) d_Mo_entry_234 rfl rfl ?_
        exact hq0 (ee.trans (a_en2_n (fun z => hn z.2)))
      · refine mv_if_eq 233 (pc := 226) d_Mo_entry_226 (by decide) (fun z => absurd z (by decide)) (fun _ => ?_)
        refine mv_iload_n (pc := 229) d_Mo_entry_229 rfl ?_
        refine mv_goto 234 (pc := 230) d_Mo_entry_230 (by decide) ?_
        refine mv_iret (pc := 234) d_Mo_entry_234 rfl rfl ?_
        exact hq F1 _ 6 (ee.trans (a_en2_y ⟨hle, g1, g2⟩)) r1 (fun a j z => f1 a j z.1)
    · refine mv_iconst (v := 0) (pc := 66) d_Mo_entry_66 (by decide) ?_
      refine mv_iret (pc := 67) d_Mo_entry_67 rfl rfl ?_
      exact hq0 (ee.trans (a_en2_n (fun z => h63 (nI_le z.1 (by omega)))))
  by_cases e4 : lg.getD p 0 = 4
  · have ee : a_ent B lg p = a_en2 B lg p 4 6 (mm_dec lg (p + 4) 1) (mm_dec lg (p + 5) 1) := by unfold a_ent; rw [e4, a_entK4]
    rw [e4]
    refine mv_iload_n (pc := 7) d_Mo_entry_7 rfl ?_
    refine mv_iconst (v := 1) (pc := 8) d_Mo_entry_8 (by decide) ?_
    refine mv_ic_ne 16 (pc := 9) d_Mo_entry_9 (by decide) (fun _ => ?_) (fun z => absurd z (by decide))
    refine mv_iload_n (pc := 16) d_Mo_entry_16 rfl ?_
    refine mv_iconst (v := 2) (pc := 17) d_Mo_entry_17 (by decide) ?_
    refine mv_ic_ne 25 (pc := 18) d_Mo_entry_18 (by decide) (fun _ => ?_) (fun z => absurd z (by decide))
    refine mv_iload_n (pc := 25) d_Mo_entry_25 rfl ?_
    refine mv_bipush (v := 6) (pc := 26) d_Mo_entry_26 (by decide) ?_
    refine mv_ic_ne 35 (pc := 28) d_Mo_entry_28 (by decide) (fun _ => ?_) (fun z => absurd z (by decide))
    refine mv_iload_n (pc := 35) d_Mo_entry_35 rfl ?_
    refine mv_iconst (v := 3) (pc := 36) d_Mo_entry_36 (by decide) ?_
    refine mv_ic_lt 50 (pc := 37) d_Mo_entry_37 (by decide) (fun z => absurd z (by decide)) (fun _ => ?_)
    refine mv_iload_n (pc := 40) d_Mo_entry_40 rfl ?_
    refine mv_iconst (v := 5) (pc := 41) d_Mo_entry_41 (by decide) ?_
    refine mv_ic_gt 50 (pc := 42) d_Mo_entry_42 (by decide) (fun z => absurd z (by decide)) (fun _ => ?_)
    refine mv_bipush (v := 6) (pc := 45) d_Mo_entry_45 (by decide) ?_
    refine mv_goto 51 (pc := 47) d_Mo_entry_47 (by decide) ?_
    refine mv_istore_n (pc := 51) d_Mo_entry_51 (by decide) ?_
    refine mv_iload_n (pc := 52) d_Mo_entry_52 rfl ?_
    refine mv_if_eq 66 (pc := 53) d_Mo_entry_53 (by decide) (fun z => absurd z (by decide)) (fun _ => ?_)
    refine mv_iload_n (pc := 56) d_Mo_entry_56 rfl ?_
    refine mv_iload_n (pc := 57) d_Mo_entry_57 rfl ?_
    refine mv_iadd (pc := 58) d_Mo_entry_58 ?_
    rw [show nI p + 6 = nI (p + 6) from nI_add p 6]
    refine mv_aload_n (pc := 59) d_Mo_entry_59 rfl ?_
    refine mr_geti (pc := 60) d_Mo_entry_60 fl_Mo_110 hM.1 rfl (by decide) ?_
    rw [show mm_gi h 52 18 = nI lg.length from hL1]
    refine mv_ic_le 68 (pc := 63) d_Mo_entry_63 (by decide) (fun h63 => ?_) (fun h63 => ?_)
    · have hle : p + 6 ≤ lg.length := (nI_leI (by omega) (by omega)).mp h63
      refine mv_iload_n (pc := 68) d_Mo_entry_68 rfl ?_
      refine mv_iconst (v := 1) (pc := 69) d_Mo_entry_69 (by decide) ?_
      refine mv_ic_ne 84 (pc := 70) d_Mo_entry_70 (by decide) (fun _ => ?_) (fun z => absurd z (by decide))
      refine mv_iload_n (pc := 84) d_Mo_entry_84 rfl ?_
      refine mv_bipush (v := 6) (pc := 85) d_Mo_entry_85 (by decide) ?_
      refine mv_ic_ne 94 (pc := 87) d_Mo_entry_87 (by decide) (fun _ => ?_) (fun z => absurd z (by decide))
      refine mv_aload_n (pc := 94) d_Mo_entry_94 rfl ?_
      refine mv_iload_n (pc := 95) d_Mo_entry_95 rfl ?_
      refine mv_iconst (v := 1) (pc := 96) d_Mo_entry_96 (by decide) ?_
      refine mv_iadd (pc := 97) d_Mo_entry_97 ?_
      rw [show nI p + 1 = nI (p + 1) from nI_add p 1]
      refine mv_iconst (v := 3) (pc := 98) d_Mo_entry_98 (by decide) ?_
      refine mr_callV2 (pc := 99) d_Mo_entry_99 (d2 := (0, 0)) ok_Mo_logged li_Mo_163 sv_Mo_logged hM.1 ⟨by decide, rfl⟩ ⟨by decide, rfl, rfl, Nat.le_of_ble_eq_true rfl, rfl, by decide, by decide⟩ ?_
      refine c_logged (q := p + 1) (n := 3) hM hlen hL (by omega) ?_
      refine mv_istore (pc := 102) d_Mo_entry_102 (by decide) ?_
      refine mv_iload_n (pc := 104) d_Mo_entry_104 rfl ?_
      refine mv_iconst (v := 1) (pc := 105) d_Mo_entry_105 (by decide) ?_
      refine mv_ic_ne 120 (pc := 106) d_Mo_entry_106 (by decide) (fun _ => ?_) (fun z => absurd z (by decide))
      refine mv_iload_n (pc := 120) d_Mo_entry_120 rfl ?_
      refine mv_iconst (v := 3) (pc := 121) d_Mo_entry_121 (by decide) ?_
      refine mv_ic_ne 140 (pc := 122) d_Mo_entry_122 (by decide) (fun _ => ?_) (fun z => absurd z (by decide))
      refine mv_iload_n (pc := 140) d_Mo_entry_140 rfl ?_
      refine mv_iconst (v := 4) (pc := 141) d_Mo_entry_141 (by decide) ?_
      refine mv_ic_ne 156 (pc := 142) d_Mo_entry_142 (by decide) (fun z => absurd z (by decide)) (fun _ => ?_)
      refine mv_aload_n (pc := 145) d_Mo_entry_145 rfl ?_
      refine mr_getr (pc := 146) d_Mo_entry_146 fl_Mo_59 hM.1 rfl (by decide) hM.g_log ?_
      refine mv_iload_n (pc := 149) d_Mo_entry_149 rfl ?_
      refine mv_iconst (v := 4) (pc := 150) d_Mo_entry_150 (by decide) ?_
      refine mv_iadd (pc := 151) d_Mo_entry_151 ?_
      rw [show nI p + 4 = nI (p + 4) from nI_add p 4]
      refine mr_iald (pc := 152) d_Mo_entry_152 hM.a_log (mm_inN (by omega) (by decide)) ?_
      rw [mm_cl (n := p + 4) (by omega), show mm_gi h 69 (p + 4) = mm_dec lg (p + 4) 1 from (hL _ (by omega)).trans (mm_d1 lg (p + 4)).symm]
      refine mv_goto 173 (pc := 153) d_Mo_entry_153 (by decide) ?_
      refine mv_istore (pc := 173) d_Mo_entry_173 (by decide) ?_
      refine mv_iload_n (pc := 175) d_Mo_entry_175 rfl ?_
      refine mv_iconst (v := 3) (pc := 176) d_Mo_entry_176 (by decide) ?_
      refine mv_ic_ne 195 (pc := 177) d_Mo_entry_177 (by decide) (fun _ => ?_) (fun z => absurd z (by decide))
      refine mv_iload_n (pc := 195) d_Mo_entry_195 rfl ?_
      refine mv_iconst (v := 4) (pc := 196) d_Mo_entry_196 (by decide) ?_
      refine mv_ic_ne 211 (pc := 197) d_Mo_entry_197 (by decide) (fun z => absurd z (by decide)) (fun _ => ?_)
      refine mv_aload_n (pc := 200) d_Mo_entry_200 rfl ?_
      refine mr_getr (pc := 201) d_Mo_entry_201 fl_Mo_59 hM.1 rfl (by decide) hM.g_log ?_
      refine mv_iload_n (pc := 204) d_Mo_entry_204 rfl ?_
      refine mv_iconst (v := 5) (pc := 205) d_Mo_entry_205 (by decide) ?_
      refine mv_iadd (pc := 206) d_Mo_entry_206 ?_
      rw [show nI p + 5 = nI (p + 5) from nI_add p 5]
      refine mr_iald (pc := 207) d_Mo_entry_207 hM.a_log (mm_inN (by omega) (by decide)) ?_
      rw [mm_cl (n := p + 5) (by omega), show mm_gi h 69 (p + 5) = mm_dec lg (p + 5) 1 from (hL _ (by omega)).trans (mm_d1 lg (p + 5)).symm]
      refine mv_goto 212 (pc := 208) d_Mo_entry_208 (by decide) ?_
      refine mv_istore (pc := 212) d_Mo_entry_212 (by decide) ?_
      refine mv_aload_n (pc := 214) d_Mo_entry_214 rfl ?_
      refine mv_iconst (v := 1) (pc := 215) d_Mo_entry_215 (by decide) ?_
      refine mv_iload_n (pc := 216) d_Mo_entry_216 rfl ?_
      refine mv_iload (pc := 217) d_Mo_entry_217 rfl ?_
      refine mv_iload (pc := 219) d_Mo_entry_219 rfl ?_
      refine mv_iload (pc := 221) d_Mo_entry_221 rfl ?_
      refine mr_callV5 (pc := 223) d_Mo_entry_223 (d2 := (3, 70)) ok_Mo_act li_Mo_119 sv_Mo_act hM.1 ⟨by decide, rfl⟩ ⟨by decide, rfl, rfl, rfl, rfl, rfl, Nat.le_of_ble_eq_true rfl, rfl, by decide, by decide⟩ ?_
      refine c_act4 (k := 1) (i := a_ix (mm_dec lg (p + 1) 3)) (by omega) hM hR hW (a_ix_lt _) (a_ix_eq _) (fun hn => ?_) (fun F1 g1 g2 r1 f1 => ?_)
      · refine mv_if_eq 233 (pc := 226) d_Mo_entry_226 (by decide) (fun _ => ?_) (fun z => absurd z (by decide))
        refine mv_iconst (v := 0) (pc := 233) d_Mo_entry_233 (by decide) ?_
        refine mv_iret (pc := 234) d_Mo_entry_234 rfl rfl ?_
        exact hq0 (ee.trans (a_en2_n (fun z => hn z.2)))
      · refine mv_if_eq 233 (pc := 226) d_Mo_entry_226 (by decide) (fun z => absurd z (by decide)) (fun _ => ?_)
        refine mv_iload_n (pc := 229) d_Mo_entry_229 rfl ?_
        refine mv_goto 234 (pc := 230) d_Mo_entry_230 (by decide) ?_
        refine mv_iret (pc := 234) d_Mo_entry_234 rfl rfl ?_
        exact hq F1 _ 6 (ee.trans (a_en2_y ⟨hle, g1, g2⟩)) r1 (fun a j z => f1 a j z.1)
    · refine mv_iconst (v := 0) (pc := 66) d_Mo_entry_66 (by decide) ?_
      refine mv_iret (pc := 67) d_Mo_entry_67 rfl rfl ?_
      exact hq0 (ee.trans (a_en2_n (fun z => h63 (nI_le z.1 (by omega)))))
  by_cases e5 : lg.getD p 0 = 5
  · have ee : a_ent B lg p = a_en2 B lg p 5 6 (mm_dec lg (p + 4) 2) (0) := by unfold a_ent; rw [e5, a_entK5]
    rw [e5]
    refine mv_iload_n (pc := 7) d_Mo_entry_7 rfl ?_
    refine mv_iconst (v := 1) (pc := 8) d_Mo_entry_8 (by decide) ?_
    refine mv_ic_ne 16 (pc := 9) d_Mo_entry_9 (by decide) (fun _ => ?_) (fun z => absurd z (by decide))
    refine mv_iload_n (pc := 16) d_Mo_entry_16 rfl ?_
    refine mv_iconst (v := 2) (pc := 17) d_Mo_entry_17 (by decide) ?_
    refine mv_ic_ne 25 (pc := 18) d_Mo_entry_18 (by decide) (fun _ => ?_) (fun z => absurd z (by decide))
    refine mv_iload_n (pc := 25) d_Mo_entry_25 rfl ?_
    refine mv_bipush (v := 6) (pc := 26) d_Mo_entry_26 (by decide) ?_
    refine mv_ic_ne 35 (pc := 28) d_Mo_entry_28 (by decide) (fun _ => ?_) (fun z => absurd z (by decide))
    refine mv_iload_n (pc := 35) d_Mo_entry_35 rfl ?_
    refine mv_iconst (v := 3) (pc := 36) d_Mo_entry_36 (by decide) ?_
    refine mv_ic_lt 50 (pc := 37) d_Mo_entry_37 (by decide) (fun z => absurd z (by decide)) (fun _ => ?_)
    refine mv_iload_n (pc := 40) d_Mo_entry_40 rfl ?_
    refine mv_iconst (v := 5) (pc := 41) d_Mo_entry_41 (by decide) ?_
    refine mv_ic_gt 50 (pc := 42) d_Mo_entry_42 (by decide) (fun z => absurd z (by decide)) (fun _ => ?_)
    refine mv_bipush (v := 6) (pc := 45) d_Mo_entry_45 (by decide) ?_
    refine mv_goto 51 (pc := 47) d_Mo_entry_47 (by decide) ?_
    refine mv_istore_n (pc := 51) d_Mo_entry_51 (by decide) ?_
    refine mv_iload_n (pc := 52) d_Mo_entry_52 rfl ?_
    refine mv_if_eq 66 (pc := 53) d_Mo_entry_53 (by decide) (fun z => absurd z (by decide)) (fun _ => ?_)
    refine mv_iload_n (pc := 56) d_Mo_entry_56 rfl ?_
    refine mv_iload_n (pc := 57) d_Mo_entry_57 rfl ?_
    refine mv_iadd (pc := 58) d_Mo_entry_58 ?_
    rw [show nI p + 6 = nI (p + 6) from nI_add p 6]
    refine mv_aload_n (pc := 59) d_Mo_entry_59 rfl ?_
    refine mr_geti (pc := 60) d_Mo_entry_60 fl_Mo_110 hM.1 rfl (by decide) ?_
    rw [show mm_gi h 52 18 = nI lg.length from hL1]
    refine mv_ic_le 68 (pc := 63) d_Mo_entry_63 (by decide) (fun h63 => ?_) (fun h63 => ?_)
    · have hle : p + 6 ≤ lg.length := (nI_leI (by omega) (by omega)).mp h63
      refine mv_iload_n (pc := 68) d_Mo_entry_68 rfl ?_
      refine mv_iconst (v := 1) (pc := 69) d_Mo_entry_69 (by decide) ?_
      refine mv_ic_ne 84 (pc := 70) d_Mo_entry_70 (by decide) (fun _ => ?_) (fun z => absurd z (by decide))
      refine mv_iload_n (pc := 84) d_Mo_entry_84 rfl ?_
      refine mv_bipush (v := 6) (pc := 85) d_Mo_entry_85 (by decide) ?_
      refine mv_ic_ne 94 (pc := 87) d_Mo_entry_87 (by decide) (fun _ => ?_) (fun z => absurd z (by decide))
      refine mv_aload_n (pc := 94) d_Mo_entry_94 rfl ?_
      refine mv_iload_n (pc := 95) d_Mo_entry_95 rfl ?_
      refine mv_iconst (v := 1) (pc := 96) d_Mo_entry_96 (by decide) ?_
      refine mv_iadd (pc := 97) d_Mo_entry_97 ?_
      rw [show nI p + 1 = nI (p + 1) from nI_add p 1]
      refine mv_iconst (v := 3) (pc := 98) d_Mo_entry_98 (by decide) ?_
      refine mr_callV2 (pc := 99) d_Mo_entry_99 (d2 := (0, 0)) ok_Mo_logged li_Mo_163 sv_Mo_logged hM.1 ⟨by decide, rfl⟩ ⟨by decide, rfl, rfl, Nat.le_of_ble_eq_true rfl, rfl, by decide, by decide⟩ ?_
      refine c_logged (q := p + 1) (n := 3) hM hlen hL (by omega) ?_
      refine mv_istore (pc := 102) d_Mo_entry_102 (by decide) ?_
      refine mv_iload_n (pc := 104) d_Mo_entry_104 rfl ?_
      refine mv_iconst (v := 1) (pc := 105) d_Mo_entry_105 (by decide) ?_
      refine mv_ic_ne 120 (pc := 106) d_Mo_entry_106 (by decide) (fun _ => ?_) (fun z => absurd z (by decide))
      refine mv_iload_n (pc := 120) d_Mo_entry_120 rfl ?_
      refine mv_iconst (v := 3) (pc := 121) d_Mo_entry_121 (by decide) ?_
      refine mv_ic_ne 140 (pc := 122) d_Mo_entry_122 (by decide) (fun _ => ?_) (fun z => absurd z (by decide))
      refine mv_iload_n (pc := 140) d_Mo_entry_140 rfl ?_
      refine mv_iconst (v := 4) (pc := 141) d_Mo_entry_141 (by decide) ?_
      refine mv_ic_ne 156 (pc := 142) d_Mo_entry_142 (by decide) (fun _ => ?_) (fun z => absurd z (by decide))
      refine mv_iload_n (pc := 156) d_Mo_entry_156 rfl ?_
      refine mv_iconst (v := 5) (pc := 157) d_Mo_entry_157 (by decide) ?_
      refine mv_ic_ne 172 (pc := 158) d_Mo_entry_158 (by decide) (fun z => absurd z (by decide)) (fun _ => ?_)
      refine mv_aload_n (pc := 161) d_Mo_entry_161 rfl ?_
      refine mv_iload_n (pc := 162) d_Mo_entry_162 rfl ?_
      refine mv_iconst (v := 4) (pc := 163) d_Mo_entry_163 (by decide) ?_
      refine mv_iadd (pc := 164) d_Mo_entry_164 ?_
      rw [show nI p + 4 = nI (p + 4) from nI_add p 4]
      refine mv_iconst (v := 2) (pc := 165) d_Mo_entry_165 (by decide) ?_
      refine mr_callV2 (pc := 166) d_Mo_entry_166 (d2 := (0, 0)) ok_Mo_logged li_Mo_163 sv_Mo_logged hM.1 ⟨by decide, rfl⟩ ⟨by decide, rfl, rfl, Nat.le_of_ble_eq_true rfl, rfl, by decide, by decide⟩ ?_
      refine c_logged (q := p + 4) (n := 2) hM hlen hL (by omega) ?_
      refine mv_goto 173 (pc := 169) d_Mo_entry_169 (by decide) ?_
      refine mv_istore (pc := 173) d_Mo_entry_173 (by decide) ?_
      refine mv_iload_n (pc := 175) d_Mo_entry_175 rfl ?_
      refine mv_iconst (v := 3) (pc := 176) d_Mo_entry_176 (by decide) ?_
      refine mv_ic_ne 195 (pc := 177) d_Mo_entry_177 (by decide) (fun _ => ?_) (fun z => absurd z (by decide))
      refine mv_iload_n (pc := 195) d_Mo_entry_195 rfl ?_
      refine mv_iconst (v := 4) (pc := 196) d_Mo_entry_196 (by decide) ?_
      refine mv_ic_ne 211 (pc := 197) d_Mo_entry_197 (by decide) (fun _ => ?_) (fun z => absurd z (by decide))
      refine mv_iconst (v := 0) (pc := 211) d_Mo_entry_211 (by decide) ?_
      refine mv_istore (pc := 212) d_Mo_entry_212 (by decide) ?_
      refine mv_aload_n (pc := 214) d_Mo_entry_214 rfl ?_
      refine mv_iconst (v := 1) (pc := 215) d_Mo_entry_215 (by decide) ?_
      refine mv_iload_n (pc := 216) d_Mo_entry_216 rfl ?_
      refine mv_iload (pc := 217) d_Mo_entry_217 rfl ?_
      refine mv_iload (pc := 219) d_Mo_entry_219 rfl ?_
      refine mv_iload (pc := 221) d_Mo_entry_221 rfl ?_
      refine mr_callV5 (pc := 223) d_Mo_entry_223 (d2 := (3, 70)) ok_Mo_act li_Mo_119 sv_Mo_act hM.1 ⟨by decide, rfl⟩ ⟨by decide, rfl, rfl, rfl, rfl, rfl, Nat.le_of_ble_eq_true rfl, rfl, by decide, by decide⟩ ?_
      refine c_act5 (k := 1) (i := a_ix (mm_dec lg (p + 1) 3)) (by omega) hM hR hW (a_ix_lt _) (a_ix_eq _) (fun hn => ?_) (fun F1 g1 g2 r1 f1 => ?_)
      · refine mv_if_eq 233 (pc := 226) d_Mo_entry_226 (by decide) (fun _ => ?_) (fun z => absurd z (by decide))
        refine mv_iconst (v := 0) (pc := 233) d_Mo_entry_233 (by decide) ?_
        refine mv_iret (pc := 234) d_Mo_entry_234 rfl rfl ?_
        exact hq0 (ee.trans (a_en2_n (fun z => hn z.2)))
      · refine mv_if_eq 233 (pc := 226) d_Mo_entry_226 (by decide) (fun z => absurd z (by decide)) (fun _ => ?_)
        refine mv_iload_n (pc := 229) d_Mo_entry_229 rfl ?_
        refine mv_goto 234 (pc := 230) d_Mo_entry_230 (by decide) ?_
        refine mv_iret (pc := 234) d_Mo_entry_234 rfl rfl ?_
        exact hq F1 _ 6 (ee.trans (a_en2_y ⟨hle, g1, g2⟩)) r1 (fun a j z => f1 a j z.1)
    · refine mv_iconst (v := 0) (pc := 66) d_Mo_entry_66 (by decide) ?_
      refine mv_iret (pc := 67) d_Mo_entry_67 rfl rfl ?_
      exact hq0 (ee.trans (a_en2_n (fun z => h63 (nI_le z.1 (by omega)))))
  by_cases e6 : lg.getD p 0 = 6
  · have ee : a_ent B lg p = some ((a_step B).2, 1) := by unfold a_ent; rw [e6, a_entK6]
    rw [e6]
    refine mv_iload_n (pc := 7) d_Mo_entry_7 rfl ?_
    refine mv_iconst (v := 1) (pc := 8) d_Mo_entry_8 (by decide) ?_
    refine mv_ic_ne 16 (pc := 9) d_Mo_entry_9 (by decide) (fun _ => ?_) (fun z => absurd z (by decide))
    refine mv_iload_n (pc := 16) d_Mo_entry_16 rfl ?_
    refine mv_iconst (v := 2) (pc := 17) d_Mo_entry_17 (by decide) ?_
    refine mv_ic_ne 25 (pc := 18) d_Mo_entry_18 (by decide) (fun _ => ?_) (fun z => absurd z (by decide))
    refine mv_iload_n (pc := 25) d_Mo_entry_25 rfl ?_
    refine mv_bipush (v := 6) (pc := 26) d_Mo_entry_26 (by decide) ?_
    refine mv_ic_ne 35 (pc := 28) d_Mo_entry_28 (by decide) (fun z => absurd z (by decide)) (fun _ => ?_)
    refine mv_iconst (v := 1) (pc := 31) d_Mo_entry_31 (by decide) ?_
    refine mv_goto 51 (pc := 32) d_Mo_entry_32 (by decide) ?_
    refine mv_istore_n (pc := 51) d_Mo_entry_51 (by decide) ?_
    refine mv_iload_n (pc := 52) d_Mo_entry_52 rfl ?_
    refine mv_if_eq 66 (pc := 53) d_Mo_entry_53 (by decide) (fun z => absurd z (by decide)) (fun _ => ?_)
    refine mv_iload_n (pc := 56) d_Mo_entry_56 rfl ?_
    refine mv_iload_n (pc := 57) d_Mo_entry_57 rfl ?_
    refine mv_iadd (pc := 58) d_Mo_entry_58 ?_
    rw [show nI p + 1 = nI (p + 1) from nI_add p 1]
    refine mv_aload_n (pc := 59) d_Mo_entry_59 rfl ?_
    refine mr_geti (pc := 60) d_Mo_entry_60 fl_Mo_110 hM.1 rfl (by decide) ?_
    rw [show mm_gi h 52 18 = nI lg.length from hL1]
    refine mv_ic_le 68 (pc := 63) d_Mo_entry_63 (by decide) (fun h63 => ?_) (fun h63 => ?_)
    · have hle : p + 1 ≤ lg.length := (nI_leI (by omega) (by omega)).mp h63
      refine mv_iload_n (pc := 68) d_Mo_entry_68 rfl ?_
      refine mv_iconst (v := 1) (pc := 69) d_Mo_entry_69 (by decide) ?_
      refine mv_ic_ne 84 (pc := 70) d_Mo_entry_70 (by decide) (fun _ => ?_) (fun z => absurd z (by decide))
      refine mv_iload_n (pc := 84) d_Mo_entry_84 rfl ?_
      refine mv_bipush (v := 6) (pc := 85) d_Mo_entry_85 (by decide) ?_
      refine mv_ic_ne 94 (pc := 87) d_Mo_entry_87 (by decide) (fun z => absurd z (by decide)) (fun _ => ?_)
      refine mv_iconst (v := 0) (pc := 90) d_Mo_entry_90 (by decide) ?_
      refine mv_goto 102 (pc := 91) d_Mo_entry_91 (by decide) ?_
      refine mv_istore (pc := 102) d_Mo_entry_102 (by decide) ?_
      refine mv_iload_n (pc := 104) d_Mo_entry_104 rfl ?_
      refine mv_iconst (v := 1) (pc := 105) d_Mo_entry_105 (by decide) ?_
      refine mv_ic_ne 120 (pc := 106) d_Mo_entry_106 (by decide) (fun _ => ?_) (fun z => absurd z (by decide))
      refine mv_iload_n (pc := 120) d_Mo_entry_120 rfl ?_
      refine mv_iconst (v := 3) (pc := 121) d_Mo_entry_121 (by decide) ?_
      refine mv_ic_ne 140 (pc := 122) d_Mo_entry_122 (by decide) (fun _ => ?_) (fun z => absurd z (by decide))
      refine mv_iload_n (pc := 140) d_Mo_entry_140 rfl ?_
      refine mv_iconst (v := 4) (pc := 141) d_Mo_entry_141 (by decide) ?_
      refine mv_ic_ne 156 (pc := 142) d_Mo_entry_142 (by decide) (fun _ => ?_) (fun z => absurd z (by decide))
      refine mv_iload_n (pc := 156) d_Mo_entry_156 rfl ?_
      refine mv_iconst (v := 5) (pc := 157) d_Mo_entry_157 (by decide) ?_
      refine mv_ic_ne 172 (pc := 158) d_Mo_entry_158 (by decide) (fun _ => ?_) (fun z => absurd z (by decide))
      refine mv_iconst (v := 0) (pc := 172) d_Mo_entry_172 (by decide) ?_
      refine mv_istore (pc := 173) d_Mo_entry_173 (by decide) ?_
      refine mv_iload_n (pc := 175) d_Mo_entry_175 rfl ?_
      refine mv_iconst (v := 3) (pc := 176) d_Mo_entry_176 (by decide) ?_
      refine mv_ic_ne 195 (pc := 177) d_Mo_entry_177 (by decide) (fun _ => ?_) (fun z => absurd z (by decide))
      refine mv_iload_n (pc := 195) d_Mo_entry_195 rfl ?_
      refine mv_iconst (v := 4) (pc := 196) d_Mo_entry_196 (by decide) ?_
      refine mv_ic_ne 211 (pc := 197) d_Mo_entry_197 (by decide) (fun _ => ?_) (fun z => absurd z (by decide))
      refine mv_iconst (v := 0) (pc := 211) d_Mo_entry_211 (by decide) ?_
      refine mv_istore (pc := 212) d_Mo_entry_212 (by decide) ?_
      refine mv_aload_n (pc := 214) d_Mo_entry_214 rfl ?_
      refine mv_iconst (v := 1) (pc := 215) d_Mo_entry_215 (by decide) ?_
      refine mv_iload_n (pc := 216) d_Mo_entry_216 rfl ?_
      refine mv_iload (pc := 217) d_Mo_entry_217 rfl ?_
      refine mv_iload (pc := 219) d_Mo_entry_219 rfl ?_
      refine mv_iload (pc := 221) d_Mo_entry_221 rfl ?_
      refine mr_callV5 (pc := 223) d_Mo_entry_223 (d2 := (3, 70)) ok_Mo_act li_Mo_119 sv_Mo_act hM.1 ⟨by decide, rfl⟩ ⟨by decide, rfl, rfl, rfl, rfl, rfl, Nat.le_of_ble_eq_true rfl, rfl, by decide, by decide⟩ ?_
      refine c_act6 (k := 1) (by omega) hM hR hW (fun F1 r1 _ f1 => ?_)
      refine mv_if_eq 233 (pc := 226) d_Mo_entry_226 (by decide) (fun z => absurd z (by decide)) (fun _ => ?_)
      refine mv_iload_n (pc := 229) d_Mo_entry_229 rfl ?_
      refine mv_goto 234 (pc := 230) d_Mo_entry_230 (by decide) ?_
      refine mv_iret (pc := 234) d_Mo_entry_234 rfl rfl ?_
      exact hq F1 _ 1 ee r1 f1
    · refine mv_iconst (v := 0) (pc := 66) d_Mo_entry_66 (by decide) ?_
      refine mv_iret (pc := 67) d_Mo_entry_67 rfl rfl ?_
      exact absurd (nI_le (by omega) (by omega)) h63
  refine mv_iload_n (pc := 7) d_Mo_entry_7 rfl ?_
  refine mv_iconst (v := 1) (pc := 8) d_Mo_entry_8 (by decide) ?_
  refine mv_ic_ne 16 (pc := 9) d_Mo_entry_9 (by decide) (fun h9 => ?_) (fun z => absurd z (e1))
  refine mv_iload_n (pc := 16) d_Mo_entry_16 rfl ?_
  refine mv_iconst (v := 2) (pc := 17) d_Mo_entry_17 (by decide) ?_
  refine mv_ic_ne 25 (pc := 18) d_Mo_entry_18 (by decide) (fun h18 => ?_) (fun z => absurd z (e2))
  refine mv_iload_n (pc := 25) d_Mo_entry_25 rfl ?_
  refine mv_bipush (v := 6) (pc := 26) d_Mo_entry_26 (by decide) ?_
  refine mv_ic_ne 35 (pc := 28) d_Mo_entry_28 (by decide) (fun h28 => ?_) (fun z => absurd z (e6))
  refine mv_iload_n (pc := 35) d_Mo_entry_35 rfl ?_
  refine mv_iconst (v := 3) (pc := 36) d_Mo_entry_36 (by decide) ?_
  refine mv_ic_lt 50 (pc := 37) d_Mo_entry_37 (by decide) (fun h37 => ?_) (fun h37 => ?_)
  · refine mv_iconst (v := 0) (pc := 50) d_Mo_entry_50 (by decide) ?_
    refine mv_istore_n (pc := 51) d_Mo_entry_51 (by decide) ?_
    refine mv_iload_n (pc := 52) d_Mo_entry_52 rfl ?_
    refine mv_if_eq 66 (pc := 53) d_Mo_entry_53 (by decide) (fun _ => ?_) (fun z => absurd z (by decide))
    refine mv_iconst (v := 0) (pc := 66) d_Mo_entry_66 (by decide) ?_
    refine mv_iret (pc := 67) d_Mo_entry_67 rfl rfl ?_
    exact hq0 (by unfold a_ent; exact a_entKx e1 e2 e3 e4 e5 e6 B lg p)
  · refine mv_iload_n (pc := 40) d_Mo_entry_40 rfl ?_
    refine mv_iconst (v := 5) (pc := 41) d_Mo_entry_41 (by decide) ?_
    have he : ¬ ¬ 5 < lg.getD p 0 := mm_g5 h37 e3 e4 e5
    refine mv_ic_gt 50 (pc := 42) d_Mo_entry_42 (by decide) (fun h42 => ?_) (fun z => absurd z (he))
    refine mv_iconst (v := 0) (pc := 50) d_Mo_entry_50 (by decide) ?_
    refine mv_istore_n (pc := 51) d_Mo_entry_51 (by decide) ?_
    refine mv_iload_n (pc := 52) d_Mo_entry_52 rfl ?_
    refine mv_if_eq 66 (pc := 53) d_Mo_entry_53 (by decide) (fun _ => ?_) (fun z => absurd z (by decide))
    refine mv_iconst (v := 0) (pc := 66) d_Mo_entry_66 (by decide) ?_
    refine mv_iret (pc := 67) d_Mo_entry_67 rfl rfl ?_
    exact hq0 (by unfold a_ent; exact a_entKx e1 e2 e3 e4 e5 e6 B lg p)
theorem mm_n0 {n : Nat} (h1 : 1 ≤ n) (h2 : n ≤ 6) : ¬ nI n = 0 := fun z => by
  have := (nI_eq (a := n) (b := 0) (by omega) (by omega)).mp z
  omega
set_option maxRecDepth 20000 in
theorem l_mrep {G : mm_G} {Q : mm_O → mm_H → Prop} {h : mm_H} {lg : List Int32} (hM : mm_Mo h) (hlen : lg.length ≤ 400) (F0 : mm_W) (hL1 : F0 52 18 = nI lg.length) (hL : ∀ j, j < lg.length → F0 69 j = lg.getD j 0) :
    ∀ (r : Nat) (B : mm_W) (p : Nat) (F : mm_W), p ≤ 406 → lg.length ≤ p + r → RM F 1 B → WF B → mm_hfr F0 F → (∀ C F' x, a_redo lg r B p = (C, none) → WF C → RM F' 1 C → mm_hfr F0 F' → mm_V G (5, 123) M_Mo_replay Q 54 [some (.ref 52), some (.int (x)), none] [] (mm_wi h F')) → (∀ C x F', a_redo lg r B p = (C, some x) → mm_hfr F0 F' → Q (.inl (some (.int (nI x)))) (mm_wi h F')) → mm_V G (5, 123) M_Mo_replay Q 27 [some (.ref 52), some (.int (nI p)), none] [] (mm_wi h F) := by
  intro r
  induction r with
  | zero =>
    intro B p F hp hle hR hW hf hq1 hq2
    refine mv_iload_n (pc := 27) d_Mo_replay_27 rfl ?_
    refine mv_aload_n (pc := 28) d_Mo_replay_28 rfl ?_
    refine mr_geti (pc := 29) d_Mo_replay_29 fl_Mo_110 hM.1 rfl (by decide) ?_
    rw [show mm_gi (mm_wi h F) 52 18 = nI lg.length from (hf 52 18 (by omega) (by omega) (by omega) (by omega) (by omega) (by omega) (by omega)).trans hL1]
    refine mv_ic_ge 54 (pc := 32) d_Mo_replay_32 (by decide) (fun h32 => ?_) (fun z => absurd z (fun z => z (nI_le (by omega) (by omega))))
    exact hq1 B F _ (a_redo_end (by omega)) hW hR hf
  | succ r ih =>
    intro B p F hp hle hR hW hf hq1 hq2
    by_cases c : p < lg.length
    · refine mv_iload_n (pc := 27) d_Mo_replay_27 rfl ?_
      refine mv_aload_n (pc := 28) d_Mo_replay_28 rfl ?_
      refine mr_geti (pc := 29) d_Mo_replay_29 fl_Mo_110 hM.1 rfl (by decide) ?_
      rw [show mm_gi (mm_wi h F) 52 18 = nI lg.length from (hf 52 18 (by omega) (by omega) (by omega) (by omega) (by omega) (by omega) (by omega)).trans hL1]
      refine mv_ic_ge 54 (pc := 32) d_Mo_replay_32 (by decide) (fun z => absurd z (nI_ge (by omega) (by omega))) (fun h32 => ?_)
      refine mv_aload_n (pc := 35) d_Mo_replay_35 rfl ?_
      refine mv_iload_n (pc := 36) d_Mo_replay_36 rfl ?_
      refine mr_callV1 (pc := 37) d_Mo_replay_37 (d2 := (4, 97)) ok_Mo_entry li_Mo_166 sv_Mo_entry hM.1 ⟨by decide, rfl⟩ ⟨by decide, rfl, Nat.le_of_ble_eq_true rfl, rfl, by decide, by decide⟩ ?_
      refine c_entry (h := mm_wi h F) hR hW hM hlen (fun j hj => (hf 69 j (by omega) (by omega) (by omega) (by omega) (by omega) (by omega) (by omega)).trans (hL j hj)) ((hf 52 18 (by omega) (by omega) (by omega) (by omega) (by omega) (by omega) (by omega)).trans hL1) c (fun e1 => ?_) (fun F1 B1 n e1 r1 f1 => ?_)
      · refine mv_istore_n (pc := 40) d_Mo_replay_40 (by decide) ?_
        refine mv_iload_n (pc := 41) d_Mo_replay_41 rfl ?_
        refine mv_if_ne 47 (pc := 42) d_Mo_replay_42 (by decide) (fun z => absurd z (by decide)) (fun _ => ?_)
        refine mv_iload_n (pc := 45) d_Mo_replay_45 rfl ?_
        refine mv_iret (pc := 46) d_Mo_replay_46 rfl rfl ?_
        exact hq2 B p F (a_redo_no c e1) hf
      · have w1 := a_entK_wf hW e1
        refine mv_istore_n (pc := 40) d_Mo_replay_40 (by decide) ?_
        refine mv_iload_n (pc := 41) d_Mo_replay_41 rfl ?_
        refine mv_if_ne 47 (pc := 42) d_Mo_replay_42 (by decide) (fun h42 => ?_) (fun z => absurd z (mm_n0 w1.2.1 w1.2.2))
        refine mv_iload_n (pc := 47) d_Mo_replay_47 rfl ?_
        refine mv_iload_n (pc := 48) d_Mo_replay_48 rfl ?_
        refine mv_iadd (pc := 49) d_Mo_replay_49 ?_
        refine mv_istore_n (pc := 50) d_Mo_replay_50 (by decide) ?_
        refine mv_goto 27 (pc := 51) d_Mo_replay_51 (by decide) ?_
        refine mm_V_drop 2 ?_
        refine mm_V_ls (ls' := [some (.ref 52), some (.int (nI (p + n))), none]) (by simp only [List.set]; rw [nI_add]) (ih B1 (p + n) F1 (by omega) (by omega) r1 w1.1 (hf.sfr f1) (fun C F' x e => hq1 C F' x ((a_redo_go c e1).trans e)) (fun C x F' e => hq2 C x F' ((a_redo_go c e1).trans e)))
    · refine mv_iload_n (pc := 27) d_Mo_replay_27 rfl ?_
      refine mv_aload_n (pc := 28) d_Mo_replay_28 rfl ?_
      refine mr_geti (pc := 29) d_Mo_replay_29 fl_Mo_110 hM.1 rfl (by decide) ?_
      rw [show mm_gi (mm_wi h F) 52 18 = nI lg.length from (hf 52 18 (by omega) (by omega) (by omega) (by omega) (by omega) (by omega) (by omega)).trans hL1]
      refine mv_ic_ge 54 (pc := 32) d_Mo_replay_32 (by decide) (fun h32 => ?_) (fun z => absurd z (fun z => z (nI_le (by omega) (by omega))))
      exact hq1 B F _ (a_redo_end (by omega)) hW hR hf
set_option maxRecDepth 20000 in
theorem c_mreplay {G : mm_G} {Q : mm_O → mm_H → Prop} {h : mm_H} {A : mm_W} {E : mm_E} {sv lg : List Int32} (hM : mm_Mo h) (hS : MS (mm_gi h) A E sv lg) {B : mm_W} (hb : a_byt sv) (hE : E.length ≤ 120) (hB : a_snd sv → WF B ∧ sv = a_encW B) (hq1 : ∀ F', ¬ a_snd sv → MS F' A E sv lg → F' 52 0 = 1 → mm_ofr (mm_gi h) F' → Q (.inl (some (.int 0))) (mm_wi h F')) (hq2 : ∀ F' C q, WF B → sv = a_encW B → a_redo lg 400 B 0 = (C, some q) → MS F' A E sv lg → F' 52 0 = 0 → mm_ofr (mm_gi h) F' → Q (.inl (some (.int (nI q)))) (mm_wi h F')) (hq : ∀ F' B' C, WF B' → sv = a_encW B' → a_redo lg 400 B 0 = (C, none) → WF C → MS F' C [] sv lg → F' 52 0 = 0 → mm_ofr (mm_gi h) F' → Q (.inl (some (.int (-1)))) (mm_wi h F')) : mm_V G (5, 123) M_Mo_replay Q 0 (mm_ent 3 [.ref 52]) [] h := by
  show mm_V G (5, 123) M_Mo_replay Q 0 [some (.ref 52), none, none] [] h
  refine mv_aload_n (pc := 0) d_Mo_replay_0 rfl ?_
  refine mv_aload_n (pc := 1) d_Mo_replay_1 rfl ?_
  refine mr_callV0 (pc := 2) d_Mo_replay_2 (d2 := (3, 69)) ok_Mo_restore li_Mo_156 sv_Mo_restore hM.1 ⟨by decide, rfl⟩ ⟨by decide, Nat.le_of_ble_eq_true rfl, rfl, by decide, by decide⟩ ?_
  refine c_restore hM hS hb (fun F1 B1 w1 e1 r1 g1 => ?_) (fun F1 n1 g1 => ?_)
  · refine mv_if_eq 12 (pc := 5) d_Mo_replay_5 (by decide) (fun z => absurd z (by decide)) (fun _ => ?_)
    refine mv_iconst (v := 0) (pc := 8) d_Mo_replay_8 (by decide) ?_
    refine mv_goto 13 (pc := 9) d_Mo_replay_9 (by decide) ?_
    refine mr_puti (pc := 13) d_Mo_replay_13 fl_Mo_69 hM.1 rfl (by decide) ⟨rfl, rfl⟩ ?_
    refine mv_aload_n (pc := 16) d_Mo_replay_16 rfl ?_
    refine mr_geti (pc := 17) d_Mo_replay_17 fl_Mo_69 hM.1 rfl (by decide) ?_
    rw [mm_gss]
    refine mv_if_le 25 (pc := 20) d_Mo_replay_20 (by decide) (fun _ => ?_) (fun z => absurd z (by decide))
    refine mv_iconst (v := 0) (pc := 25) d_Mo_replay_25 (by decide) ?_
    refine mv_istore_n (pc := 26) d_Mo_replay_26 (by decide) ?_
    obtain ⟨wB, eB⟩ := hB ⟨B1, w1, e1⟩
    have hS1 := (hS.gfr g1).code 0
    have r2 : RM (mm_u2 F1 52 0 0) 1 B := (r1.cd 0 0).like (encW_inj w1 wB (e1.symm.trans eB))
    refine mm_V_ls (ls' := [some (.ref 52), some (.int (nI 0)), none]) rfl ?_
    refine l_mrep (h := h) hM hS.2.2.2.2.2 (mm_u2 F1 52 0 0) hS1.2.2.2.1.1 hS1.2.2.2.1.2 400 B 0 (mm_u2 F1 52 0 0) (by omega) (by have := hS.2.2.2.2.2; omega) r2 wB mm_hfr.rfl' (fun C F3 x e3 w3 r3 h3 => ?_) (fun C x F3 e3 h3 => ?_)
    · refine mv_aload_n (pc := 54) d_Mo_replay_54 rfl ?_
      refine mr_callV0 (pc := 55) d_Mo_replay_55 (d2 := (0, 0)) ok_Mo_take li_Mo_160 sv_Mo_take hM.1 ⟨by decide, rfl⟩ ⟨by decide, Nat.le_of_ble_eq_true rfl, rfl, by decide, by decide⟩ ?_
      refine c_take (h := mm_wi h F3) hM r3 w3 (fun F4 r4 f4 => ?_)
      refine mv_aload_n (pc := 58) d_Mo_replay_58 rfl ?_
      refine mr_getr (pc := 59) d_Mo_replay_59 fl_Mo_44 hM.1 rfl (by decide) hM.g_events ?_
      refine mv_iconst (v := 0) (pc := 62) d_Mo_replay_62 (by decide) ?_
      refine mv_iconst (v := 0) (pc := 63) d_Mo_replay_63 (by decide) ?_
      refine mr_iast (pc := 64) d_Mo_replay_64 hM.a_events (mm_inN (n := 0) (by omega) (by decide)) ?_
      rw [show (0 : Int32).toNatClampNeg = 0 from rfl]
      refine mv_iconst (v := -1) (pc := 65) d_Mo_replay_65 (by decide) ?_
      refine mv_iret (pc := 66) d_Mo_replay_66 rfl rfl ?_
      refine hq (mm_u2 F4 64 0 0) B C wB eB e3 w3 ((((hS.gfr g1).code 0).hfr hE h3).take r4 f4).ev0 ?_ ((((g1.o.cd 0 0).trans h3.o).trans f4.o).ev 0 0)
      simp only [mm_u2]; simp
      rw [f4 52 0 (by omega), mm_gwi, h3 52 0 (by omega) (by omega) (by omega) (by omega) (by omega) (by omega) (by omega)]; simp [mm_u2]
    · refine hq2 F3 C x wB eB e3 (((hS.gfr g1).code 0).hfr hE h3) ?_ ((g1.o.cd 0 0).trans h3.o)
      rw [h3 52 0 (by omega) (by omega) (by omega) (by omega) (by omega) (by omega) (by omega)]; simp [mm_u2]
  · refine mv_if_eq 12 (pc := 5) d_Mo_replay_5 (by decide) (fun _ => ?_) (fun z => absurd z (by decide))
    refine mv_iconst (v := 1) (pc := 12) d_Mo_replay_12 (by decide) ?_
    refine mr_puti (pc := 13) d_Mo_replay_13 fl_Mo_69 hM.1 rfl (by decide) ⟨rfl, rfl⟩ ?_
    refine mv_aload_n (pc := 16) d_Mo_replay_16 rfl ?_
    refine mr_geti (pc := 17) d_Mo_replay_17 fl_Mo_69 hM.1 rfl (by decide) ?_
    rw [mm_gss]
    refine mv_if_le 25 (pc := 20) d_Mo_replay_20 (by decide) (fun z => absurd z (by decide)) (fun _ => ?_)
    refine mv_iconst (v := 0) (pc := 23) d_Mo_replay_23 (by decide) ?_
    refine mv_iret (pc := 24) d_Mo_replay_24 rfl rfl ?_
    exact hq1 (mm_u2 F1 52 0 1) n1 ((hS.gfr g1).code 1) (by simp [mm_u2]) (g1.o.cd 0 1)
