/-! CONTRACTS: the reference: read, readIn (rows by program: con_ra.py) -/
def SVs (F : mm_W) (sv : List Int32) : Prop := F 52 16 = nI sv.length ∧ ∀ j, j < sv.length → F 68 j = sv.getD j 0
/-- sound as yet, at place p -/
def MR (F : mm_W) (sv : List Int32) (p : Nat) : Prop := F 52 23 = 1 ∧ F 52 22 = nI p ∧ p ≤ sv.length
def mm_ffr (F F' : mm_W) : Prop := ∀ a k, ¬ (a = 52 ∧ (k = 22 ∨ k = 23)) → F' a k = F a k
theorem mm_ffr.rfl' {F : mm_W} : mm_ffr F F := fun _ _ _ => rfl
theorem mm_ffr.trans {F F1 F2 : mm_W} (h1 : mm_ffr F F1) (h2 : mm_ffr F1 F2) : mm_ffr F F2 := fun a k ha => (h2 a k ha).trans (h1 a k ha)
theorem mm_ffr.put {F F0 : mm_W} (h : mm_ffr F0 F) {k : Nat} (hk : k = 22 ∨ k = 23) (x : Int32) : mm_ffr F0 (mm_u2 F 52 k x) := fun a j ha => by
  have n1 : ¬ (a = 52 ∧ j = k) := by omega
  simp only [mm_u2, n1, if_false]
  exact h a j ha
theorem SVs.ffr {F F' : mm_W} {sv : List Int32} (h : SVs F sv) (f : mm_ffr F F') : SVs F' sv := ⟨by rw [f 52 16 (by omega)]; exact h.1, fun j hj => by rw [f 68 j (by omega)]; exact h.2 j hj⟩
theorem mm_z8 : ((0 : Int32) <<< ((8 : Int32) &&& 31)) ||| 0 = 0 := by decide
set_option maxRecDepth 20000 in
theorem l_mrd0 {G : mm_G} {Q : mm_O → mm_H → Prop} {h : mm_H} {n : Nat} (hM : mm_Mo h) (hn : n ≤ 4) (F0 : mm_W) (hq : ∀ v F', (v = 0 ∨ 1 < n) → F' 52 23 = 0 → mm_ffr F0 F' → Q (.inl (some (.int v))) (mm_wi h F')) :
    ∀ (i : Nat) (s : Int32 × mm_W), i ≤ n → (s.1 = 0 ∨ 1 < n) ∧ s.2 52 23 = 0 ∧ mm_ffr F0 s.2 → mm_V G (0, 0) M_Mo_read Q 4 [some (.ref 52), some (.int (nI n)), some (.int (s.1)), some (.int (nI i))] [] (mm_wi h s.2) := by
  refine mr_loop _ _ n (fun s hI => ?_) (fun i s hi hI ih => ?_)
  · refine mv_iload_n (pc := 4) d_Mo_read_4 rfl ?_
    refine mv_iload_n (pc := 5) d_Mo_read_5 rfl ?_
    refine mv_ic_ge 78 (pc := 6) d_Mo_read_6 (by decide) (fun h6 => ?_) (fun z => absurd z (fun z => z (nI_le (by omega) (by omega))))
    refine mv_iload_n (pc := 78) d_Mo_read_78 rfl ?_
    refine mv_iret (pc := 79) d_Mo_read_79 rfl rfl ?_
    exact hq s.1 s.2 hI.1 hI.2.1 hI.2.2
  · refine mv_iload_n (pc := 4) d_Mo_read_4 rfl ?_
    refine mv_iload_n (pc := 5) d_Mo_read_5 rfl ?_
    refine mv_ic_ge 78 (pc := 6) d_Mo_read_6 (by decide) (fun z => absurd z (nI_ge (by omega) (by omega))) (fun h6 => ?_)
    refine mv_aload_n (pc := 9) d_Mo_read_9 rfl ?_
    refine mv_aload_n (pc := 10) d_Mo_read_10 rfl ?_
    refine mr_geti (pc := 11) d_Mo_read_11 fl_Mo_139 hM.1 rfl (by decide) ?_
    rw [show mm_gi (mm_wi h s.2) 52 23 = 0 from hI.2.1]
    refine mv_if_eq 32 (pc := 14) d_Mo_read_14 (by decide) (fun h14 => ?_) (fun z => absurd z (fun z => z rfl))
    refine mv_iconst (v := 0) (pc := 32) d_Mo_read_32 (by decide) ?_
    refine mr_puti (pc := 33) d_Mo_read_33 fl_Mo_139 hM.1 rfl (by decide) ⟨rfl, rfl⟩ ?_
    refine mv_iload_n (pc := 36) d_Mo_read_36 rfl ?_
    refine mv_bipush (v := 8) (pc := 37) d_Mo_read_37 (by decide) ?_
    refine mv_ishl (pc := 39) d_Mo_read_39 ?_
    refine mv_aload_n (pc := 40) d_Mo_read_40 rfl ?_
    refine mr_geti (pc := 41) d_Mo_read_41 fl_Mo_139 hM.1 rfl (by decide) ?_
    rw [mm_gss]
    refine mv_if_eq 59 (pc := 44) d_Mo_read_44 (by decide) (fun _ => ?_) (fun z => absurd z (by decide))
    refine mv_iconst (v := 0) (pc := 59) d_Mo_read_59 (by decide) ?_
    refine mv_ior (pc := 60) d_Mo_read_60 ?_
    refine mv_istore_n (pc := 61) d_Mo_read_61 (by decide) ?_
    refine mv_aload_n (pc := 62) d_Mo_read_62 rfl ?_
    refine mv_dup (pc := 63) d_Mo_read_63 rfl ?_
    refine mr_geti (pc := 64) d_Mo_read_64 fl_Mo_143 hM.1 rfl (by decide) ?_
    rw [show mm_gi (mm_si (mm_wi h s.2) 52 23 0) 52 22 = s.2 52 22 from rfl]
    refine mv_iconst (v := 1) (pc := 67) d_Mo_read_67 (by decide) ?_
    refine mv_iadd (pc := 68) d_Mo_read_68 ?_
    refine mr_puti (pc := 69) d_Mo_read_69 fl_Mo_143 hM.1 rfl (by decide) ⟨rfl, rfl⟩ ?_
    refine mv_iinc (pc := 72) d_Mo_read_72 rfl rfl (by decide) ?_
    refine mv_goto 4 (pc := 75) d_Mo_read_75 (by decide) ?_
    refine mm_V_ls (ls' := [some (.ref 52), some (.int (nI n)), some (.int ((s.1 <<< ((8 : Int32) &&& 31)) ||| 0)), some (.int (nI (i + 1)))]) (by simp only [List.set]; rw [nI_succ]; rfl) (ih ((s.1 <<< ((8 : Int32) &&& 31)) ||| 0, mm_u2 (mm_u2 s.2 52 23 0) 52 22 (s.2 52 22 + 1)) ⟨?_, ?_, (hI.2.2.put (Or.inr rfl) _).put (Or.inl rfl) _⟩)
    · rcases hI.1 with e | e
      · left; show (s.1 <<< ((8 : Int32) &&& 31)) ||| 0 = 0; rw [e]; exact mm_z8
      · exact Or.inr e
    · simp [mm_u2]
set_option maxRecDepth 20000 in
theorem l_mrd1 {G : mm_G} {Q : mm_O → mm_H → Prop} {h : mm_H} {n p : Nat} {sv : List Int32} (hM : mm_Mo h) (hn : n ≤ 4) (hl : sv.length ≤ 336) (F0 : mm_W) (hV : SVs F0 sv) (hq1 : p + n ≤ sv.length → ∀ F', MR F' sv (p + n) → mm_ffr F0 F' → Q (.inl (some (.int (mm_dec sv p n)))) (mm_wi h F')) (hq0 : sv.length < p + n → ∀ v F', (v = 0 ∨ 1 < n) → F' 52 23 = 0 → mm_ffr F0 F' → Q (.inl (some (.int v))) (mm_wi h F')) :
    ∀ (i : Nat) (F : mm_W), i ≤ n → MR F sv (p + i) ∧ mm_ffr F0 F → mm_V G (0, 0) M_Mo_read Q 4 [some (.ref 52), some (.int (nI n)), some (.int (mm_dec sv p i)), some (.int (nI i))] [] (mm_wi h F) := by
  refine mr_loop _ _ n (fun F hI => ?_) (fun i F hi hI ih => ?_)
  · refine mv_iload_n (pc := 4) d_Mo_read_4 rfl ?_
    refine mv_iload_n (pc := 5) d_Mo_read_5 rfl ?_
    refine mv_ic_ge 78 (pc := 6) d_Mo_read_6 (by decide) (fun h6 => ?_) (fun z => absurd z (fun z => z (nI_le (by omega) (by omega))))
    refine mv_iload_n (pc := 78) d_Mo_read_78 rfl ?_
    refine mv_iret (pc := 79) d_Mo_read_79 rfl rfl ?_
    exact hq1 hI.1.2.2 F hI.1 hI.2
  · have hV1 := hV.ffr hI.2
    have hp9 := hI.1.2.2
    refine mv_iload_n (pc := 4) d_Mo_read_4 rfl ?_
    refine mv_iload_n (pc := 5) d_Mo_read_5 rfl ?_
    refine mv_ic_ge 78 (pc := 6) d_Mo_read_6 (by decide) (fun z => absurd z (nI_ge (by omega) (by omega))) (fun h6 => ?_)
    refine mv_aload_n (pc := 9) d_Mo_read_9 rfl ?_
    refine mv_aload_n (pc := 10) d_Mo_read_10 rfl ?_
    refine mr_geti (pc := 11) d_Mo_read_11 fl_Mo_139 hM.1 rfl (by decide) ?_
    rw [show mm_gi (mm_wi h F) 52 23 = 1 from hI.1.1]
    refine mv_if_eq 32 (pc := 14) d_Mo_read_14 (by decide) (fun z => absurd z (by decide)) (fun h14 => ?_)
    refine mv_aload_n (pc := 17) d_Mo_read_17 rfl ?_
    refine mr_geti (pc := 18) d_Mo_read_18 fl_Mo_143 hM.1 rfl (by decide) ?_
    refine mv_aload_n (pc := 21) d_Mo_read_21 rfl ?_
    refine mr_geti (pc := 22) d_Mo_read_22 fl_Mo_136 hM.1 rfl (by decide) ?_
    rw [show mm_gi (mm_wi h F) 52 22 = nI (p + i) from hI.1.2.1, show mm_gi (mm_wi h F) 52 16 = nI sv.length from hV1.1]
    refine mv_ic_ge 32 (pc := 25) d_Mo_read_25 (by decide) (fun h25 => ?_) (fun h25 => ?_)
    · refine mv_iconst (v := 0) (pc := 32) d_Mo_read_32 (by decide) ?_
      refine mr_puti (pc := 33) d_Mo_read_33 fl_Mo_139 hM.1 rfl (by decide) ⟨rfl, rfl⟩ ?_
      refine mv_iload_n (pc := 36) d_Mo_read_36 rfl ?_
      refine mv_bipush (v := 8) (pc := 37) d_Mo_read_37 (by decide) ?_
      refine mv_ishl (pc := 39) d_Mo_read_39 ?_
      refine mv_aload_n (pc := 40) d_Mo_read_40 rfl ?_
      refine mr_geti (pc := 41) d_Mo_read_41 fl_Mo_139 hM.1 rfl (by decide) ?_
      rw [mm_gss]
      refine mv_if_eq 59 (pc := 44) d_Mo_read_44 (by decide) (fun _ => ?_) (fun z => absurd z (by decide))
      refine mv_iconst (v := 0) (pc := 59) d_Mo_read_59 (by decide) ?_
      refine mv_ior (pc := 60) d_Mo_read_60 ?_
      refine mv_istore_n (pc := 61) d_Mo_read_61 (by decide) ?_
      refine mv_aload_n (pc := 62) d_Mo_read_62 rfl ?_
      refine mv_dup (pc := 63) d_Mo_read_63 rfl ?_
      refine mr_geti (pc := 64) d_Mo_read_64 fl_Mo_143 hM.1 rfl (by decide) ?_
      rw [show mm_gi (mm_si (mm_wi h F) 52 23 0) 52 22 = nI (p + i) from hI.1.2.1]
      refine mv_iconst (v := 1) (pc := 67) d_Mo_read_67 (by decide) ?_
      refine mv_iadd (pc := 68) d_Mo_read_68 ?_
      refine mr_puti (pc := 69) d_Mo_read_69 fl_Mo_143 hM.1 rfl (by decide) ⟨rfl, rfl⟩ ?_
      refine mv_iinc (pc := 72) d_Mo_read_72 rfl rfl (by decide) ?_
      refine mv_goto 4 (pc := 75) d_Mo_read_75 (by decide) ?_
      have hge : sv.length ≤ p + i := (nI_leI (by omega) (by omega)).mp h25
      refine mm_V_ls (ls' := [some (.ref 52), some (.int (nI n)), some (.int ((mm_dec sv p i <<< ((8 : Int32) &&& 31)) ||| 0)), some (.int (nI (i + 1)))]) (by simp only [List.set]; rw [nI_succ]; rfl) ?_
      refine l_mrd0 hM hn F0 (fun v F' a b c => hq0 (by omega) v F' a b c) (i + 1) ((mm_dec sv p i <<< ((8 : Int32) &&& 31)) ||| 0, mm_u2 (mm_u2 F 52 23 0) 52 22 (nI (p + i) + 1)) (by omega) ⟨?_, ?_, (hI.2.put (Or.inr rfl) _).put (Or.inl rfl) _⟩
      · by_cases c : n = 1
        · have : i = 0 := by omega
          subst this; left; exact mm_z8
        · right; omega
      · simp [mm_u2]
    · have hlt : p + i < sv.length := Nat.not_le.mp fun z => h25 (nI_le z (by omega))
      refine mv_iconst (v := 1) (pc := 28) d_Mo_read_28 (by decide) ?_
      refine mv_goto 33 (pc := 29) d_Mo_read_29 (by decide) ?_
      refine mr_puti (pc := 33) d_Mo_read_33 fl_Mo_139 hM.1 rfl (by decide) ⟨rfl, rfl⟩ ?_
      refine mv_iload_n (pc := 36) d_Mo_read_36 rfl ?_
      refine mv_bipush (v := 8) (pc := 37) d_Mo_read_37 (by decide) ?_
      refine mv_ishl (pc := 39) d_Mo_read_39 ?_
      refine mv_aload_n (pc := 40) d_Mo_read_40 rfl ?_
      refine mr_geti (pc := 41) d_Mo_read_41 fl_Mo_139 hM.1 rfl (by decide) ?_
      rw [mm_gss]
      refine mv_if_eq 59 (pc := 44) d_Mo_read_44 (by decide) (fun z => absurd z (by decide)) (fun _ => ?_)
      refine mv_aload_n (pc := 47) d_Mo_read_47 rfl ?_
      refine mr_getr (pc := 48) d_Mo_read_48 fl_Mo_56 hM.1 rfl (by decide) hM.g_saved ?_
      refine mv_aload_n (pc := 51) d_Mo_read_51 rfl ?_
      refine mr_geti (pc := 52) d_Mo_read_52 fl_Mo_143 hM.1 rfl (by decide) ?_
      rw [show mm_gi (mm_si (mm_wi h F) 52 23 1) 52 22 = nI (p + i) from hI.1.2.1]
      refine mr_iald (pc := 55) d_Mo_read_55 hM.a_saved (mm_inN (by omega) (by decide)) ?_
      rw [mm_cl (by omega), show mm_gi (mm_si (mm_wi h F) 52 23 1) 68 (p + i) = sv.getD (p + i) 0 from hV1.2 _ hlt]
      refine mv_goto 60 (pc := 56) d_Mo_read_56 (by decide) ?_
      refine mv_ior (pc := 60) d_Mo_read_60 ?_
      refine mv_istore_n (pc := 61) d_Mo_read_61 (by decide) ?_
      refine mv_aload_n (pc := 62) d_Mo_read_62 rfl ?_
      refine mv_dup (pc := 63) d_Mo_read_63 rfl ?_
      refine mr_geti (pc := 64) d_Mo_read_64 fl_Mo_143 hM.1 rfl (by decide) ?_
      rw [show mm_gi (mm_si (mm_wi h F) 52 23 1) 52 22 = nI (p + i) from hI.1.2.1]
      refine mv_iconst (v := 1) (pc := 67) d_Mo_read_67 (by decide) ?_
      refine mv_iadd (pc := 68) d_Mo_read_68 ?_
      refine mr_puti (pc := 69) d_Mo_read_69 fl_Mo_143 hM.1 rfl (by decide) ⟨rfl, rfl⟩ ?_
      refine mv_iinc (pc := 72) d_Mo_read_72 rfl rfl (by decide) ?_
      refine mv_goto 4 (pc := 75) d_Mo_read_75 (by decide) ?_
      refine mm_V_ls (ls' := [some (.ref 52), some (.int (nI n)), some (.int (mm_dec sv p (i + 1))), some (.int (nI (i + 1)))]) (by simp only [List.set]; rw [nI_succ]; rfl) (ih (mm_u2 (mm_u2 F 52 23 1) 52 22 (nI (p + i) + 1)) ⟨⟨?_, ?_, by omega⟩, (hI.2.put (Or.inr rfl) _).put (Or.inl rfl) _⟩)
      · simp [mm_u2]
      · simp only [mm_u2]; simp; rw [← Nat.add_assoc, nI_succ]
set_option maxRecDepth 20000 in
theorem c_mread {G : mm_G} {Q : mm_O → mm_H → Prop} {h : mm_H} {n p : Nat} {sv : List Int32} (hM : mm_Mo h) (hn : n ≤ 4) (hl : sv.length ≤ 336) (hV : SVs (mm_gi h) sv) (hR : MR (mm_gi h) sv p) (hq1 : p + n ≤ sv.length → ∀ F', MR F' sv (p + n) → mm_ffr (mm_gi h) F' → Q (.inl (some (.int (mm_dec sv p n)))) (mm_wi h F')) (hq0 : sv.length < p + n → ∀ v F', (v = 0 ∨ 1 < n) → F' 52 23 = 0 → mm_ffr (mm_gi h) F' → Q (.inl (some (.int v))) (mm_wi h F')) : mm_V G (0, 0) M_Mo_read Q 0 (mm_ent 4 [.ref 52, .int (nI n)]) [] h := by
  show mm_V G (0, 0) M_Mo_read Q 0 [some (.ref 52), some (.int (nI n)), none, none] [] h
  refine mv_iconst (v := 0) (pc := 0) d_Mo_read_0 (by decide) ?_
  refine mv_istore_n (pc := 1) d_Mo_read_1 (by decide) ?_
  refine mv_iconst (v := 0) (pc := 2) d_Mo_read_2 (by decide) ?_
  refine mv_istore_n (pc := 3) d_Mo_read_3 (by decide) ?_
  exact l_mrd1 hM hn hl (mm_gi h) hV hq1 hq0 0 (mm_gi h) (by omega) ⟨hR, mm_ffr.rfl'⟩
set_option maxRecDepth 20000 in
theorem c_mread0 {G : mm_G} {Q : mm_O → mm_H → Prop} {h : mm_H} {n : Nat} (hM : mm_Mo h) (hn : n ≤ 4) (h0 : mm_gi h 52 23 = 0) (hq : ∀ v F', (v = 0 ∨ 1 < n) → F' 52 23 = 0 → mm_ffr (mm_gi h) F' → Q (.inl (some (.int v))) (mm_wi h F')) : mm_V G (0, 0) M_Mo_read Q 0 (mm_ent 4 [.ref 52, .int (nI n)]) [] h := by
  show mm_V G (0, 0) M_Mo_read Q 0 [some (.ref 52), some (.int (nI n)), none, none] [] h
  refine mv_iconst (v := 0) (pc := 0) d_Mo_read_0 (by decide) ?_
  refine mv_istore_n (pc := 1) d_Mo_read_1 (by decide) ?_
  refine mv_iconst (v := 0) (pc := 2) d_Mo_read_2 (by decide) ?_
  refine mv_istore_n (pc := 3) d_Mo_read_3 (by decide) ?_
  exact l_mrd0 hM hn (mm_gi h) hq 0 (0, mm_gi h) (by omega) ⟨Or.inl rfl, h0, mm_ffr.rfl'⟩
set_option maxRecDepth 20000 in
theorem c_mreadIn {G : mm_G} {Q : mm_O → mm_H → Prop} {h : mm_H} {n p : Nat} {a b : Int32} {sv : List Int32} (hM : mm_Mo h) (hn : n ≤ 4) (hl : sv.length ≤ 336) (hV : SVs (mm_gi h) sv) (hR : MR (mm_gi h) sv p) (hq1 : p + n ≤ sv.length → (a ≤ mm_dec sv p n ∧ mm_dec sv p n ≤ b) → ∀ F', MR F' sv (p + n) → mm_ffr (mm_gi h) F' → Q (.inl (some (.int (mm_dec sv p n)))) (mm_wi h F')) (hq0 : ∀ F', ¬ (p + n ≤ sv.length ∧ a ≤ mm_dec sv p n ∧ mm_dec sv p n ≤ b) → F' 52 23 = 0 → mm_ffr (mm_gi h) F' → Q (.inl (some (.int a))) (mm_wi h F')) : mm_V G (1, 23) M_Mo_readIn Q 0 (mm_ent 5 [.ref 52, .int (nI n), .int a, .int b]) [] h := by
  show mm_V G (1, 23) M_Mo_readIn Q 0 [some (.ref 52), some (.int (nI n)), some (.int a), some (.int b), none] [] h
  refine mv_aload_n (pc := 0) d_Mo_readIn_0 rfl ?_
  refine mv_iload_n (pc := 1) d_Mo_readIn_1 rfl ?_
  refine mr_callV1 (pc := 2) d_Mo_readIn_2 (d2 := (0, 0)) ok_Mo_read li_Mo_146 sv_Mo_read hM.1 ⟨by decide, rfl⟩ ⟨by decide, rfl, Nat.le_of_ble_eq_true rfl, rfl, by decide, by decide⟩ ?_
  refine c_mread hM hn hl hV hR (fun c1 F1 r1 f1 => ?_) (fun c1 v F1 v1 r1 f1 => ?_)
  · refine mv_istore (pc := 5) d_Mo_readIn_5 (by decide) ?_
    refine mv_aload_n (pc := 7) d_Mo_readIn_7 rfl ?_
    refine mv_aload_n (pc := 8) d_Mo_readIn_8 rfl ?_
    refine mr_geti (pc := 9) d_Mo_readIn_9 fl_Mo_139 hM.1 rfl (by decide) ?_
    rw [show mm_gi (mm_wi h F1) 52 23 = 1 from r1.1]
    refine mv_if_eq 31 (pc := 12) d_Mo_readIn_12 (by decide) (fun z => absurd z (by decide)) (fun h12 => ?_)
    refine mv_iload (pc := 15) d_Mo_readIn_15 rfl ?_
    refine mv_iload_n (pc := 17) d_Mo_readIn_17 rfl ?_
    refine mv_ic_lt 31 (pc := 18) d_Mo_readIn_18 (by decide) (fun h18 => ?_) (fun h18 => ?_)
    · refine mv_iconst (v := 0) (pc := 31) d_Mo_readIn_31 (by decide) ?_
      refine mr_puti (pc := 32) d_Mo_readIn_32 fl_Mo_139 hM.1 rfl (by decide) ⟨rfl, rfl⟩ ?_
      refine mv_aload_n (pc := 35) d_Mo_readIn_35 rfl ?_
      refine mr_geti (pc := 36) d_Mo_readIn_36 fl_Mo_139 hM.1 rfl (by decide) ?_
      rw [mm_gss]
      refine mv_if_eq 47 (pc := 39) d_Mo_readIn_39 (by decide) (fun _ => ?_) (fun z => absurd z (by decide))
      refine mv_iload_n (pc := 47) d_Mo_readIn_47 rfl ?_
      refine mv_iret (pc := 48) d_Mo_readIn_48 rfl rfl ?_
      refine hq0 _ (fun z => Int32.not_le.mpr h18 z.2.1) (by simp [mm_u2]) (f1.put (Or.inr rfl) _)
    · refine mv_iload (pc := 21) d_Mo_readIn_21 rfl ?_
      refine mv_iload_n (pc := 23) d_Mo_readIn_23 rfl ?_
      refine mv_ic_gt 31 (pc := 24) d_Mo_readIn_24 (by decide) (fun h24 => ?_) (fun h24 => ?_)
      · refine mv_iconst (v := 0) (pc := 31) d_Mo_readIn_31 (by decide) ?_
        refine mr_puti (pc := 32) d_Mo_readIn_32 fl_Mo_139 hM.1 rfl (by decide) ⟨rfl, rfl⟩ ?_
        refine mv_aload_n (pc := 35) d_Mo_readIn_35 rfl ?_
        refine mr_geti (pc := 36) d_Mo_readIn_36 fl_Mo_139 hM.1 rfl (by decide) ?_
        rw [mm_gss]
        refine mv_if_eq 47 (pc := 39) d_Mo_readIn_39 (by decide) (fun _ => ?_) (fun z => absurd z (by decide))
        refine mv_iload_n (pc := 47) d_Mo_readIn_47 rfl ?_
        refine mv_iret (pc := 48) d_Mo_readIn_48 rfl rfl ?_
        refine hq0 _ (fun z => Int32.not_le.mpr h24 z.2.2) (by simp [mm_u2]) (f1.put (Or.inr rfl) _)
      · refine mv_iconst (v := 1) (pc := 27) d_Mo_readIn_27 (by decide) ?_
        refine mv_goto 32 (pc := 28) d_Mo_readIn_28 (by decide) ?_
        refine mr_puti (pc := 32) d_Mo_readIn_32 fl_Mo_139 hM.1 rfl (by decide) ⟨rfl, rfl⟩ ?_
        refine mv_aload_n (pc := 35) d_Mo_readIn_35 rfl ?_
        refine mr_geti (pc := 36) d_Mo_readIn_36 fl_Mo_139 hM.1 rfl (by decide) ?_
        rw [mm_gss]
        refine mv_if_eq 47 (pc := 39) d_Mo_readIn_39 (by decide) (fun z => absurd z (by decide)) (fun _ => ?_)
        refine mv_iload (pc := 42) d_Mo_readIn_42 rfl ?_
        refine mv_goto 48 (pc := 44) d_Mo_readIn_44 (by decide) ?_
        refine mv_iret (pc := 48) d_Mo_readIn_48 rfl rfl ?_
        exact hq1 c1 ⟨Int32.not_lt.mp h18, Int32.not_lt.mp h24⟩ _ ⟨by simp [mm_u2], by simpa [mm_u2, mm_uwi] using r1.2.1, r1.2.2⟩ (f1.put (Or.inr rfl) _)
  · refine mv_istore (pc := 5) d_Mo_readIn_5 (by decide) ?_
    refine mv_aload_n (pc := 7) d_Mo_readIn_7 rfl ?_
    refine mv_aload_n (pc := 8) d_Mo_readIn_8 rfl ?_
    refine mr_geti (pc := 9) d_Mo_readIn_9 fl_Mo_139 hM.1 rfl (by decide) ?_
    rw [show mm_gi (mm_wi h F1) 52 23 = 0 from r1]
    refine mv_if_eq 31 (pc := 12) d_Mo_readIn_12 (by decide) (fun h12 => ?_) (fun z => absurd z (fun z => z rfl))
    refine mv_iconst (v := 0) (pc := 31) d_Mo_readIn_31 (by decide) ?_
    refine mr_puti (pc := 32) d_Mo_readIn_32 fl_Mo_139 hM.1 rfl (by decide) ⟨rfl, rfl⟩ ?_
    refine mv_aload_n (pc := 35) d_Mo_readIn_35 rfl ?_
    refine mr_geti (pc := 36) d_Mo_readIn_36 fl_Mo_139 hM.1 rfl (by decide) ?_
    rw [mm_gss]
    refine mv_if_eq 47 (pc := 39) d_Mo_readIn_39 (by decide) (fun _ => ?_) (fun z => absurd z (by decide))
    refine mv_iload_n (pc := 47) d_Mo_readIn_47 rfl ?_
    refine mv_iret (pc := 48) d_Mo_readIn_48 rfl rfl ?_
    exact hq0 _ (fun z => absurd z.1 (by omega)) (by simp [mm_u2]) (f1.put (Or.inr rfl) _)
set_option maxRecDepth 20000 in
theorem c_mreadIn0 {G : mm_G} {Q : mm_O → mm_H → Prop} {h : mm_H} {n : Nat} {a b : Int32} (hM : mm_Mo h) (hn : n ≤ 4) (h0 : mm_gi h 52 23 = 0) (hq : ∀ F', F' 52 23 = 0 → mm_ffr (mm_gi h) F' → Q (.inl (some (.int a))) (mm_wi h F')) : mm_V G (1, 23) M_Mo_readIn Q 0 (mm_ent 5 [.ref 52, .int (nI n), .int a, .int b]) [] h := by
  show mm_V G (1, 23) M_Mo_readIn Q 0 [some (.ref 52), some (.int (nI n)), some (.int a), some (.int b), none] [] h
  refine mv_aload_n (pc := 0) d_Mo_readIn_0 rfl ?_
  refine mv_iload_n (pc := 1) d_Mo_readIn_1 rfl ?_
  refine mr_callV1 (pc := 2) d_Mo_readIn_2 (d2 := (0, 0)) ok_Mo_read li_Mo_146 sv_Mo_read hM.1 ⟨by decide, rfl⟩ ⟨by decide, rfl, Nat.le_of_ble_eq_true rfl, rfl, by decide, by decide⟩ ?_
  refine c_mread0 hM hn h0 (fun v F1 v1 r1 f1 => ?_)
  refine mv_istore (pc := 5) d_Mo_readIn_5 (by decide) ?_
  refine mv_aload_n (pc := 7) d_Mo_readIn_7 rfl ?_
  refine mv_aload_n (pc := 8) d_Mo_readIn_8 rfl ?_
  refine mr_geti (pc := 9) d_Mo_readIn_9 fl_Mo_139 hM.1 rfl (by decide) ?_
  rw [show mm_gi (mm_wi h F1) 52 23 = 0 from r1]
  refine mv_if_eq 31 (pc := 12) d_Mo_readIn_12 (by decide) (fun h12 => ?_) (fun z => absurd z (fun z => z rfl))
  refine mv_iconst (v := 0) (pc := 31) d_Mo_readIn_31 (by decide) ?_
  refine mr_puti (pc := 32) d_Mo_readIn_32 fl_Mo_139 hM.1 rfl (by decide) ⟨rfl, rfl⟩ ?_
  refine mv_aload_n (pc := 35) d_Mo_readIn_35 rfl ?_
  refine mr_geti (pc := 36) d_Mo_readIn_36 fl_Mo_139 hM.1 rfl (by decide) ?_
  rw [mm_gss]
  refine mv_if_eq 47 (pc := 39) d_Mo_readIn_39 (by decide) (fun _ => ?_) (fun z => absurd z (by decide))
  refine mv_iload_n (pc := 47) d_Mo_readIn_47 rfl ?_
  refine mv_iret (pc := 48) d_Mo_readIn_48 rfl rfl ?_
  exact hq _ (by simp [mm_u2]) (f1.put (Or.inr rfl) _)
