/-! CONTRACTS: StateBytes: what is written (rows by program: con_f.py) -/
/-- an object of class kd that holds a Bytes object y -/
def mm_Hd (h : mm_H) (z kd y N : Nat) : Prop := mm_at h z kd 1 ∧ mm_gr h z 0 = some y ∧ mm_Bo h y N
theorem mm_yfr.rfl' {y : Nat} {F : mm_W} : mm_yfr y F F := ⟨fun _ _ _ _ => rfl, rfl⟩
theorem mm_yfr.trans {y : Nat} {F F1 F2 : mm_W} (h1 : mm_yfr y F F1) (h2 : mm_yfr y F1 F2) : mm_yfr y F F2 := ⟨fun a k ha hb => (h2.1 a k ha hb).trans (h1.1 a k ha hb), h2.2.trans h1.2⟩
/-- the form of a slot's row, its bytes -/
def a_kind (f : Nat → Int32) : Int32 := if f 1 = 0 then 0 else 1 + (if 0 < f 6 then 2 else 0) + (if 0 < f 8 then 4 else 0)
theorem a_kind_eq {f g : Nat → Int32} (h1 : f 1 = g 1) (h6 : f 6 = g 6) (h8 : f 8 = g 8) : a_kind f = a_kind g := by
  unfold a_kind; simp only [h1, h6, h8]
def a_encR (f : Nat → Int32) : List Int32 := mm_enc (f 0) 2 ++ mm_enc (a_kind f) 1 ++ (if f 1 = 0 then [] else mm_enc (f 2) 2 ++ mm_enc (f 3) 2 ++ mm_enc (f 4 + 128) 1 ++ mm_enc (f 5 + 128) 1 ++ (if 0 < f 6 then mm_enc (f 6) 1 ++ mm_enc (f 7) 1 else []) ++ (if 0 < f 8 then mm_enc (f 8) 2 else []))
theorem a_encR_len (f : Nat → Int32) : (a_encR f).length ≤ 13 := by
  unfold a_encR
  simp only [List.length_append, mm_enc_len]
  split
  · simp
  · simp only [List.length_append, mm_enc_len]
    split <;> split <;> simp [mm_enc_len]
theorem a_encR_eq {f g : Nat → Int32} (h0 : f 0 = g 0) (h1 : f 1 = g 1) (h2 : ¬ g 1 = 0 → ∀ k, 2 ≤ k → k ≤ 8 → f k = g k) : a_encR f = a_encR g := by
  unfold a_encR a_kind
  rw [h0, h1]
  by_cases t : g 1 = 0
  · simp [t]
  · have q := h2 t
    rw [q 2 (by omega) (by omega), q 3 (by omega) (by omega), q 4 (by omega) (by omega), q 5 (by omega) (by omega), q 6 (by omega) (by omega), q 7 (by omega) (by omega), q 8 (by omega) (by omega)]
/-- the slots' bytes, the pairs' bytes, a world's bytes -/
def a_sls (A : mm_W) : Nat → List Int32
  | 0 => []
  | n + 1 => a_sls A n ++ a_encR (fun k => A k n)
theorem a_sls_len (A : mm_W) : ∀ n, (a_sls A n).length ≤ 13 * n
  | 0 => Nat.le_refl _
  | n + 1 => by
    have h1 := a_sls_len A n
    have h2 := a_encR_len (fun k => A k n)
    simp only [a_sls, List.length_append]
    omega
def a_prs (T : Nat → Int32) : Nat → List Int32
  | 0 => []
  | n + 1 => a_prs T n ++ (if T n = 0 then [] else mm_enc (nI n) 1)
theorem a_prs_len (T : Nat → Int32) : ∀ n, (a_prs T n).length = a_cnt T n
  | 0 => rfl
  | n + 1 => by
    simp only [a_prs, a_cnt, List.length_append, a_prs_len T n]
    split <;> simp [mm_enc_len]
theorem a_cnt_mono (T : Nat → Int32) {n m : Nat} (h : n ≤ m) : a_cnt T n ≤ a_cnt T m := by
  induction m with
  | zero => have : n = 0 := by omega
            subst this; exact Nat.le_refl _
  | succ m ih =>
    by_cases e : n = m + 1
    · subst e; exact Nat.le_refl _
    · have := ih (by omega)
      simp only [a_cnt]
      omega
theorem a_cnt_eq {T T' : Nat → Int32} : ∀ (n : Nat), (∀ p, p < n → T p = T' p) → a_cnt T n = a_cnt T' n
  | 0, _ => rfl
  | n + 1, h => by simp only [a_cnt]; rw [a_cnt_eq n (fun p hp => h p (by omega)), h n (by omega)]
theorem a_prs_eq {T T' : Nat → Int32} : ∀ (n : Nat), (∀ p, p < n → T p = T' p) → a_prs T n = a_prs T' n
  | 0, _ => rfl
  | n + 1, h => by simp only [a_prs]; rw [a_prs_eq n (fun p hp => h p (by omega)), h n (by omega)]
def a_body (A : mm_W) : List Int32 := mm_enc 84 1 ++ mm_enc (A 10 0) 4 ++ a_sls A 16 ++ mm_enc (nI (a_cnt (A 9) 256)) 1 ++ a_prs (A 9) 256
def a_encW (A : mm_W) : List Int32 := a_body A ++ mm_enc ((mm_chd (a_body A) (a_body A).length <<< ((8 : Int32) &&& 31)) ||| mm_chc (a_body A) (a_body A).length) 2
theorem a_body_len (A : mm_W) : (a_body A).length ≤ 214 + a_cnt (A 9) 256 := by
  have h1 := a_sls_len A 16
  simp only [a_body, List.length_append, mm_enc_len, a_prs_len]
  omega
set_option maxRecDepth 20000 in
theorem c_kindOf {G : mm_G} {Q : mm_O → mm_H → Prop} {h : mm_H} {s : Nat} (hs : mm_at h s 3 9) (hq : Q (.inl (some (.int (a_kind (mm_gi h s))))) h) : mm_V G (1, 20) M_Sb_kindOf Q 0 (mm_ent 1 [.ref s]) [] h := by
  show mm_V G (1, 20) M_Sb_kindOf Q 0 [some (.ref s)] [] h
  refine mv_aload_n (pc := 0) d_Sb_kindOf_0 rfl ?_
  refine mr_geti (pc := 1) d_Sb_kindOf_1 fl_Sb_61 hs rfl (by decide) ?_
  refine mv_if_ne 9 (pc := 4) d_Sb_kindOf_4 (by decide) (fun h4 => ?_) (fun h4 => ?_)
  · refine mv_iconst (v := 1) (pc := 9) d_Sb_kindOf_9 (by decide) ?_
    refine mv_aload_n (pc := 10) d_Sb_kindOf_10 rfl ?_
    refine mr_callV0 (pc := 11) d_Sb_kindOf_11 (d2 := (0, 0)) ok_Sl_hasShape li_Sb_77 sv_Sl_hasShape hs ⟨by decide, rfl⟩ ⟨by decide, Nat.le_of_ble_eq_true rfl, rfl, by decide, by decide⟩ ?_
    refine c_hasShape hs (fun hc11 => ?_) (fun hc11 => ?_)
    · refine mv_if_eq 21 (pc := 14) d_Sb_kindOf_14 (by decide) (fun z => absurd z (by decide)) (fun _ => ?_)
      refine mv_iconst (v := 2) (pc := 17) d_Sb_kindOf_17 (by decide) ?_
      refine mv_goto 22 (pc := 18) d_Sb_kindOf_18 (by decide) ?_
      refine mv_iadd (pc := 22) d_Sb_kindOf_22 ?_
      refine mv_aload_n (pc := 23) d_Sb_kindOf_23 rfl ?_
      refine mr_callV0 (pc := 24) d_Sb_kindOf_24 (d2 := (0, 0)) ok_Sl_hasTimer li_Sb_87 sv_Sl_hasTimer hs ⟨by decide, rfl⟩ ⟨by decide, Nat.le_of_ble_eq_true rfl, rfl, by decide, by decide⟩ ?_
      refine c_hasTimer hs (fun hc24 => ?_) (fun hc24 => ?_)
      · refine mv_if_eq 34 (pc := 27) d_Sb_kindOf_27 (by decide) (fun z => absurd z (by decide)) (fun _ => ?_)
        refine mv_iconst (v := 4) (pc := 30) d_Sb_kindOf_30 (by decide) ?_
        refine mv_goto 35 (pc := 31) d_Sb_kindOf_31 (by decide) ?_
        refine mv_iadd (pc := 35) d_Sb_kindOf_35 ?_
        refine mv_iret (pc := 36) d_Sb_kindOf_36 rfl rfl ?_
        have e : a_kind (mm_gi h s) = 1 + 2 + 4 := by unfold a_kind; grind
        rw [e] at hq
        exact hq
      · refine mv_if_eq 34 (pc := 27) d_Sb_kindOf_27 (by decide) (fun _ => ?_) (fun z => absurd z (by decide))
        refine mv_iconst (v := 0) (pc := 34) d_Sb_kindOf_34 (by decide) ?_
        refine mv_iadd (pc := 35) d_Sb_kindOf_35 ?_
        refine mv_iret (pc := 36) d_Sb_kindOf_36 rfl rfl ?_
        have e : a_kind (mm_gi h s) = 1 + 2 + 0 := by unfold a_kind; grind
        rw [e] at hq
        exact hq
    · refine mv_if_eq 21 (pc := 14) d_Sb_kindOf_14 (by decide) (fun _ => ?_) (fun z => absurd z (by decide))
      refine mv_iconst (v := 0) (pc := 21) d_Sb_kindOf_21 (by decide) ?_
      refine mv_iadd (pc := 22) d_Sb_kindOf_22 ?_
      refine mv_aload_n (pc := 23) d_Sb_kindOf_23 rfl ?_
      refine mr_callV0 (pc := 24) d_Sb_kindOf_24 (d2 := (0, 0)) ok_Sl_hasTimer li_Sb_87 sv_Sl_hasTimer hs ⟨by decide, rfl⟩ ⟨by decide, Nat.le_of_ble_eq_true rfl, rfl, by decide, by decide⟩ ?_
      refine c_hasTimer hs (fun hc24 => ?_) (fun hc24 => ?_)
      · refine mv_if_eq 34 (pc := 27) d_Sb_kindOf_27 (by decide) (fun z => absurd z (by decide)) (fun _ => ?_)
        refine mv_iconst (v := 4) (pc := 30) d_Sb_kindOf_30 (by decide) ?_
        refine mv_goto 35 (pc := 31) d_Sb_kindOf_31 (by decide) ?_
        refine mv_iadd (pc := 35) d_Sb_kindOf_35 ?_
        refine mv_iret (pc := 36) d_Sb_kindOf_36 rfl rfl ?_
        have e : a_kind (mm_gi h s) = 1 + 0 + 4 := by unfold a_kind; grind
        rw [e] at hq
        exact hq
      · refine mv_if_eq 34 (pc := 27) d_Sb_kindOf_27 (by decide) (fun _ => ?_) (fun z => absurd z (by decide))
        refine mv_iconst (v := 0) (pc := 34) d_Sb_kindOf_34 (by decide) ?_
        refine mv_iadd (pc := 35) d_Sb_kindOf_35 ?_
        refine mv_iret (pc := 36) d_Sb_kindOf_36 rfl rfl ?_
        have e : a_kind (mm_gi h s) = 1 + 0 + 0 := by unfold a_kind; grind
        rw [e] at hq
        exact hq
  · refine mv_iconst (v := 0) (pc := 7) d_Sb_kindOf_7 (by decide) ?_
    refine mv_iret (pc := 8) d_Sb_kindOf_8 rfl rfl ?_
    have e : a_kind (mm_gi h s) = 0 := by unfold a_kind; grind
    rw [e] at hq
    exact hq
set_option maxRecDepth 20000 in
theorem c_writeSlot {G : mm_G} {Q : mm_O → mm_H → Prop} {h : mm_H} {z y N s : Nat} {bs : List Int32} (hz : mm_Hd h z 4 y N) (hs : mm_at h s 3 9) (n1 : s ≠ y) (n2 : s ≠ y + 1) (hB : mm_By (mm_gi h) y bs) (hN : bs.length + 13 ≤ N) (hq : ∀ F', mm_yfr y (mm_gi h) F' → mm_By F' y (bs ++ a_encR (mm_gi h s)) → Q (.inl none) (mm_wi h F')) : mm_V G (2, 44) M_Sb_writeSlot Q 0 (mm_ent 2 [.ref z, .ref s]) [] h := by
  have cc : mm_yfr y (mm_gi h) (mm_gi h) := mm_yfr.rfl'
  have Bc := hB
  show mm_V G (2, 44) M_Sb_writeSlot Q 0 [some (.ref z), some (.ref s)] [] (mm_wi h (mm_gi h))
  refine mv_aload_n (pc := 0) d_Sb_writeSlot_0 rfl ?_
  refine mr_getr (pc := 1) d_Sb_writeSlot_1 fl_Sb_14 hz.1 rfl (by decide) hz.2.1 ?_
  refine mv_aload_n (pc := 4) d_Sb_writeSlot_4 rfl ?_
  refine mr_geti (pc := 5) d_Sb_writeSlot_5 fl_Sb_52 hs rfl (by decide) ?_
  rw [mm_gwi, cc.1 s 0 n1 n2]
  refine mv_iconst (v := 2) (pc := 8) d_Sb_writeSlot_8 (by decide) ?_
  refine mr_callV2 (pc := 9) d_Sb_writeSlot_9 (d2 := (1, 21)) ok_By_add li_Sb_23 sv_By_add hz.2.2.1 ⟨by decide, rfl⟩ ⟨by decide, rfl, rfl, Nat.le_of_ble_eq_true rfl, rfl, by decide, by decide⟩ ?_
  refine c_byAdd (n := 2) hz.2.2 (by decide) Bc (by first | omega | (simp only [List.length_append, mm_enc_len]; omega)) (fun Fc fc Bc => ?_)
  replace cc := cc.trans fc
  refine mv_aload_n (pc := 12) d_Sb_writeSlot_12 rfl ?_
  refine mr_getr (pc := 13) d_Sb_writeSlot_13 fl_Sb_14 hz.1 rfl (by decide) hz.2.1 ?_
  refine mv_aload_n (pc := 16) d_Sb_writeSlot_16 rfl ?_
  refine mr_callS1 (pc := 17) d_Sb_writeSlot_17 (d2 := (1, 20)) ok_Sb_kindOf li_Sb_57 sv_Sb_kindOf ⟨by decide, rfl, Nat.le_of_ble_eq_true rfl, rfl, by decide, by decide⟩ ?_
  refine c_kindOf hs ?_
  rw [show ∀ h', a_kind (mm_gi (mm_wi h' Fc) s) = a_kind (mm_gi h s) from fun h' => a_kind_eq (cc.1 s 1 n1 n2) (cc.1 s 6 n1 n2) (cc.1 s 8 n1 n2)]
  refine mv_iconst (v := 1) (pc := 20) d_Sb_writeSlot_20 (by decide) ?_
  refine mr_callV2 (pc := 21) d_Sb_writeSlot_21 (d2 := (1, 21)) ok_By_add li_Sb_23 sv_By_add hz.2.2.1 ⟨by decide, rfl⟩ ⟨by decide, rfl, rfl, Nat.le_of_ble_eq_true rfl, rfl, by decide, by decide⟩ ?_
  refine c_byAdd (n := 1) hz.2.2 (by decide) Bc (by first | omega | (simp only [List.length_append, mm_enc_len]; omega)) (fun Fc fc Bc => ?_)
  replace cc := cc.trans fc
  refine mv_aload_n (pc := 24) d_Sb_writeSlot_24 rfl ?_
  refine mr_geti (pc := 25) d_Sb_writeSlot_25 fl_Sb_61 hs rfl (by decide) ?_
  rw [mm_gwi, cc.1 s 1 n1 n2]
  refine mv_if_eq 87 (pc := 28) d_Sb_writeSlot_28 (by decide) (fun h28 => ?_) (fun h28 => ?_)
  · refine mv_aload_n (pc := 87) d_Sb_writeSlot_87 rfl ?_
    refine mr_callV0 (pc := 88) d_Sb_writeSlot_88 (d2 := (0, 0)) ok_Sl_hasShape li_Sb_77 sv_Sl_hasShape hs ⟨by decide, rfl⟩ ⟨by decide, Nat.le_of_ble_eq_true rfl, rfl, by decide, by decide⟩ ?_
    refine c_hasShape hs (fun hc88 => ?_) (fun hc88 => ?_)
    · simp only [mm_gwi] at hc88; rw [cc.1 s 1 n1 n2, cc.1 s 6 n1 n2] at hc88
      refine mv_if_eq 118 (pc := 91) d_Sb_writeSlot_91 (by decide) (fun z => absurd z (by decide)) (fun _ => ?_)
      refine mv_aload_n (pc := 94) d_Sb_writeSlot_94 rfl ?_
      refine mr_getr (pc := 95) d_Sb_writeSlot_95 fl_Sb_14 hz.1 rfl (by decide) hz.2.1 ?_
      refine mv_aload_n (pc := 98) d_Sb_writeSlot_98 rfl ?_
      refine mr_geti (pc := 99) d_Sb_writeSlot_99 fl_Sb_81 hs rfl (by decide) ?_
      rw [mm_gwi, cc.1 s 6 n1 n2]
      refine mv_iconst (v := 1) (pc := 102) d_Sb_writeSlot_102 (by decide) ?_
      refine mr_callV2 (pc := 103) d_Sb_writeSlot_103 (d2 := (1, 21)) ok_By_add li_Sb_23 sv_By_add hz.2.2.1 ⟨by decide, rfl⟩ ⟨by decide, rfl, rfl, Nat.le_of_ble_eq_true rfl, rfl, by decide, by decide⟩ ?_
      refine c_byAdd (n := 1) hz.2.2 (by decide) Bc (by first | omega | (simp only [List.length_append, mm_enc_len]; omega)) (fun Fc fc Bc => ?_)
      replace cc := cc.trans fc
      refine mv_aload_n (pc := 106) d_Sb_writeSlot_106 rfl ?_
      refine mr_getr (pc := 107) d_Sb_writeSlot_107 fl_Sb_14 hz.1 rfl (by decide) hz.2.1 ?_
      refine mv_aload_n (pc := 110) d_Sb_writeSlot_110 rfl ?_
      refine mr_geti (pc := 111) d_Sb_writeSlot_111 fl_Sb_84 hs rfl (by decide) ?_
      rw [mm_gwi, cc.1 s 7 n1 n2]
      refine mv_iconst (v := 1) (pc := 114) d_Sb_writeSlot_114 (by decide) ?_
      refine mr_callV2 (pc := 115) d_Sb_writeSlot_115 (d2 := (1, 21)) ok_By_add li_Sb_23 sv_By_add hz.2.2.1 ⟨by decide, rfl⟩ ⟨by decide, rfl, rfl, Nat.le_of_ble_eq_true rfl, rfl, by decide, by decide⟩ ?_
      refine c_byAdd (n := 1) hz.2.2 (by decide) Bc (by first | omega | (simp only [List.length_append, mm_enc_len]; omega)) (fun Fc fc Bc => ?_)
      replace cc := cc.trans fc
      refine mv_aload_n (pc := 118) d_Sb_writeSlot_118 rfl ?_
      refine mr_callV0 (pc := 119) d_Sb_writeSlot_119 (d2 := (0, 0)) ok_Sl_hasTimer li_Sb_87 sv_Sl_hasTimer hs ⟨by decide, rfl⟩ ⟨by decide, Nat.le_of_ble_eq_true rfl, rfl, by decide, by decide⟩ ?_
      refine c_hasTimer hs (fun hc119 => ?_) (fun hc119 => ?_)
      · simp only [mm_gwi] at hc119; rw [cc.1 s 1 n1 n2, cc.1 s 8 n1 n2] at hc119
        refine mv_if_eq 137 (pc := 122) d_Sb_writeSlot_122 (by decide) (fun z => absurd z (by decide)) (fun _ => ?_)
        refine mv_aload_n (pc := 125) d_Sb_writeSlot_125 rfl ?_
        refine mr_getr (pc := 126) d_Sb_writeSlot_126 fl_Sb_14 hz.1 rfl (by decide) hz.2.1 ?_
        refine mv_aload_n (pc := 129) d_Sb_writeSlot_129 rfl ?_
        refine mr_geti (pc := 130) d_Sb_writeSlot_130 fl_Sb_90 hs rfl (by decide) ?_
        rw [mm_gwi, cc.1 s 8 n1 n2]
        refine mv_iconst (v := 2) (pc := 133) d_Sb_writeSlot_133 (by decide) ?_
        refine mr_callV2 (pc := 134) d_Sb_writeSlot_134 (d2 := (1, 21)) ok_By_add li_Sb_23 sv_By_add hz.2.2.1 ⟨by decide, rfl⟩ ⟨by decide, rfl, rfl, Nat.le_of_ble_eq_true rfl, rfl, by decide, by decide⟩ ?_
        refine c_byAdd (n := 2) hz.2.2 (by decide) Bc (by first | omega | (simp only [List.length_append, mm_enc_len]; omega)) (fun Fc fc Bc => ?_)
        replace cc := cc.trans fc
        refine mv_ret (pc := 137) d_Sb_writeSlot_137 rfl ?_
        exact absurd h28 hc88.1
      · simp only [mm_gwi] at hc119; rw [cc.1 s 1 n1 n2, cc.1 s 8 n1 n2] at hc119
        refine mv_if_eq 137 (pc := 122) d_Sb_writeSlot_122 (by decide) (fun _ => ?_) (fun z => absurd z (by decide))
        refine mv_ret (pc := 137) d_Sb_writeSlot_137 rfl ?_
        exact absurd h28 hc88.1
    · simp only [mm_gwi] at hc88; rw [cc.1 s 1 n1 n2, cc.1 s 6 n1 n2] at hc88
      refine mv_if_eq 118 (pc := 91) d_Sb_writeSlot_91 (by decide) (fun _ => ?_) (fun z => absurd z (by decide))
      refine mv_aload_n (pc := 118) d_Sb_writeSlot_118 rfl ?_
      refine mr_callV0 (pc := 119) d_Sb_writeSlot_119 (d2 := (0, 0)) ok_Sl_hasTimer li_Sb_87 sv_Sl_hasTimer hs ⟨by decide, rfl⟩ ⟨by decide, Nat.le_of_ble_eq_true rfl, rfl, by decide, by decide⟩ ?_
      refine c_hasTimer hs (fun hc119 => ?_) (fun hc119 => ?_)
      · simp only [mm_gwi] at hc119; rw [cc.1 s 1 n1 n2, cc.1 s 8 n1 n2] at hc119
        refine mv_if_eq 137 (pc := 122) d_Sb_writeSlot_122 (by decide) (fun z => absurd z (by decide)) (fun _ => ?_)
        refine mv_aload_n (pc := 125) d_Sb_writeSlot_125 rfl ?_
        refine mr_getr (pc := 126) d_Sb_writeSlot_126 fl_Sb_14 hz.1 rfl (by decide) hz.2.1 ?_
        refine mv_aload_n (pc := 129) d_Sb_writeSlot_129 rfl ?_
        refine mr_geti (pc := 130) d_Sb_writeSlot_130 fl_Sb_90 hs rfl (by decide) ?_
        rw [mm_gwi, cc.1 s 8 n1 n2]
        refine mv_iconst (v := 2) (pc := 133) d_Sb_writeSlot_133 (by decide) ?_
        refine mr_callV2 (pc := 134) d_Sb_writeSlot_134 (d2 := (1, 21)) ok_By_add li_Sb_23 sv_By_add hz.2.2.1 ⟨by decide, rfl⟩ ⟨by decide, rfl, rfl, Nat.le_of_ble_eq_true rfl, rfl, by decide, by decide⟩ ?_
        refine c_byAdd (n := 2) hz.2.2 (by decide) Bc (by first | omega | (simp only [List.length_append, mm_enc_len]; omega)) (fun Fc fc Bc => ?_)
        replace cc := cc.trans fc
        refine mv_ret (pc := 137) d_Sb_writeSlot_137 rfl ?_
        exact absurd h28 hc119.1
      · simp only [mm_gwi] at hc119; rw [cc.1 s 1 n1 n2, cc.1 s 8 n1 n2] at hc119
        refine mv_if_eq 137 (pc := 122) d_Sb_writeSlot_122 (by decide) (fun _ => ?_) (fun z => absurd z (by decide))
        refine mv_ret (pc := 137) d_Sb_writeSlot_137 rfl ?_
        refine hq Fc cc ?_
        have e : a_encR (mm_gi h s) = mm_enc (mm_gi h s 0) 2 ++ mm_enc (a_kind (mm_gi h s)) 1 ++ [] := by
          unfold a_encR
          grind
        rw [e]
        simpa only [List.append_assoc, List.append_nil] using Bc
  · refine mv_aload_n (pc := 31) d_Sb_writeSlot_31 rfl ?_
    refine mr_getr (pc := 32) d_Sb_writeSlot_32 fl_Sb_14 hz.1 rfl (by decide) hz.2.1 ?_
    refine mv_aload_n (pc := 35) d_Sb_writeSlot_35 rfl ?_
    refine mr_geti (pc := 36) d_Sb_writeSlot_36 fl_Sb_65 hs rfl (by decide) ?_
    rw [mm_gwi, cc.1 s 2 n1 n2]
    refine mv_iconst (v := 2) (pc := 39) d_Sb_writeSlot_39 (by decide) ?_
    refine mr_callV2 (pc := 40) d_Sb_writeSlot_40 (d2 := (1, 21)) ok_By_add li_Sb_23 sv_By_add hz.2.2.1 ⟨by decide, rfl⟩ ⟨by decide, rfl, rfl, Nat.le_of_ble_eq_true rfl, rfl, by decide, by decide⟩ ?_
    refine c_byAdd (n := 2) hz.2.2 (by decide) Bc (by first | omega | (simp only [List.length_append, mm_enc_len]; omega)) (fun Fc fc Bc => ?_)
    replace cc := cc.trans fc
    refine mv_aload_n (pc := 43) d_Sb_writeSlot_43 rfl ?_
    refine mr_getr (pc := 44) d_Sb_writeSlot_44 fl_Sb_14 hz.1 rfl (by decide) hz.2.1 ?_
    refine mv_aload_n (pc := 47) d_Sb_writeSlot_47 rfl ?_
    refine mr_geti (pc := 48) d_Sb_writeSlot_48 fl_Sb_68 hs rfl (by decide) ?_
    rw [mm_gwi, cc.1 s 3 n1 n2]
    refine mv_iconst (v := 2) (pc := 51) d_Sb_writeSlot_51 (by decide) ?_
    refine mr_callV2 (pc := 52) d_Sb_writeSlot_52 (d2 := (1, 21)) ok_By_add li_Sb_23 sv_By_add hz.2.2.1 ⟨by decide, rfl⟩ ⟨by decide, rfl, rfl, Nat.le_of_ble_eq_true rfl, rfl, by decide, by decide⟩ ?_
    refine c_byAdd (n := 2) hz.2.2 (by decide) Bc (by first | omega | (simp only [List.length_append, mm_enc_len]; omega)) (fun Fc fc Bc => ?_)
    replace cc := cc.trans fc
    refine mv_aload_n (pc := 55) d_Sb_writeSlot_55 rfl ?_
    refine mr_getr (pc := 56) d_Sb_writeSlot_56 fl_Sb_14 hz.1 rfl (by decide) hz.2.1 ?_
    refine mv_aload_n (pc := 59) d_Sb_writeSlot_59 rfl ?_
    refine mr_geti (pc := 60) d_Sb_writeSlot_60 fl_Sb_71 hs rfl (by decide) ?_
    rw [mm_gwi, cc.1 s 4 n1 n2]
    refine mv_sipush (v := 128) (pc := 63) d_Sb_writeSlot_63 (by decide) ?_
    refine mv_iadd (pc := 66) d_Sb_writeSlot_66 ?_
    refine mv_iconst (v := 1) (pc := 67) d_Sb_writeSlot_67 (by decide) ?_
    refine mr_callV2 (pc := 68) d_Sb_writeSlot_68 (d2 := (1, 21)) ok_By_add li_Sb_23 sv_By_add hz.2.2.1 ⟨by decide, rfl⟩ ⟨by decide, rfl, rfl, Nat.le_of_ble_eq_true rfl, rfl, by decide, by decide⟩ ?_
    refine c_byAdd (n := 1) hz.2.2 (by decide) Bc (by first | omega | (simp only [List.length_append, mm_enc_len]; omega)) (fun Fc fc Bc => ?_)
    replace cc := cc.trans fc
    refine mv_aload_n (pc := 71) d_Sb_writeSlot_71 rfl ?_
    refine mr_getr (pc := 72) d_Sb_writeSlot_72 fl_Sb_14 hz.1 rfl (by decide) hz.2.1 ?_
    refine mv_aload_n (pc := 75) d_Sb_writeSlot_75 rfl ?_
    refine mr_geti (pc := 76) d_Sb_writeSlot_76 fl_Sb_74 hs rfl (by decide) ?_
    rw [mm_gwi, cc.1 s 5 n1 n2]
    refine mv_sipush (v := 128) (pc := 79) d_Sb_writeSlot_79 (by decide) ?_
    refine mv_iadd (pc := 82) d_Sb_writeSlot_82 ?_
    refine mv_iconst (v := 1) (pc := 83) d_Sb_writeSlot_83 (by decide) ?_
    refine mr_callV2 (pc := 84) d_Sb_writeSlot_84 (d2 := (1, 21)) ok_By_add li_Sb_23 sv_By_add hz.2.2.1 ⟨by decide, rfl⟩ ⟨by decide, rfl, rfl, Nat.le_of_ble_eq_true rfl, rfl, by decide, by decide⟩ ?_
    refine c_byAdd (n := 1) hz.2.2 (by decide) Bc (by first | omega | (simp only [List.length_append, mm_enc_len]; omega)) (fun Fc fc Bc => ?_)
    replace cc := cc.trans fc
    refine mv_aload_n (pc := 87) d_Sb_writeSlot_87 rfl ?_
    refine mr_callV0 (pc := 88) d_Sb_writeSlot_88 (d2 := (0, 0)) ok_Sl_hasShape li_Sb_77 sv_Sl_hasShape hs ⟨by decide, rfl⟩ ⟨by decide, Nat.le_of_ble_eq_true rfl, rfl, by decide, by decide⟩ ?_
    refine c_hasShape hs (fun hc88 => ?_) (fun hc88 => ?_)
    · simp only [mm_gwi] at hc88; rw [cc.1 s 1 n1 n2, cc.1 s 6 n1 n2] at hc88
      refine mv_if_eq 118 (pc := 91) d_Sb_writeSlot_91 (by decide) (fun z => absurd z (by decide)) (fun _ => ?_)
      refine mv_aload_n (pc := 94) d_Sb_writeSlot_94 rfl ?_
      refine mr_getr (pc := 95) d_Sb_writeSlot_95 fl_Sb_14 hz.1 rfl (by decide) hz.2.1 ?_
      refine mv_aload_n (pc := 98) d_Sb_writeSlot_98 rfl ?_
      refine mr_geti (pc := 99) d_Sb_writeSlot_99 fl_Sb_81 hs rfl (by decide) ?_
      rw [mm_gwi, cc.1 s 6 n1 n2]
      refine mv_iconst (v := 1) (pc := 102) d_Sb_writeSlot_102 (by decide) ?_
      refine mr_callV2 (pc := 103) d_Sb_writeSlot_103 (d2 := (1, 21)) ok_By_add li_Sb_23 sv_By_add hz.2.2.1 ⟨by decide, rfl⟩ ⟨by decide, rfl, rfl, Nat.le_of_ble_eq_true rfl, rfl, by decide, by decide⟩ ?_
      refine c_byAdd (n := 1) hz.2.2 (by decide) Bc (by first | omega | (simp only [List.length_append, mm_enc_len]; omega)) (fun Fc fc Bc => ?_)
      replace cc := cc.trans fc
      refine mv_aload_n (pc := 106) d_Sb_writeSlot_106 rfl ?_
      refine mr_getr (pc := 107) d_Sb_writeSlot_107 fl_Sb_14 hz.1 rfl (by decide) hz.2.1 ?_
      refine mv_aload_n (pc := 110) d_Sb_writeSlot_110 rfl ?_
      refine mr_geti (pc := 111) d_Sb_writeSlot_111 fl_Sb_84 hs rfl (by decide) ?_
      rw [mm_gwi, cc.1 s 7 n1 n2]
      refine mv_iconst (v := 1) (pc := 114) d_Sb_writeSlot_114 (by decide) ?_
      refine mr_callV2 (pc := 115) d_Sb_writeSlot_115 (d2 := (1, 21)) ok_By_add li_Sb_23 sv_By_add hz.2.2.1 ⟨by decide, rfl⟩ ⟨by decide, rfl, rfl, Nat.le_of_ble_eq_true rfl, rfl, by decide, by decide⟩ ?_
      refine c_byAdd (n := 1) hz.2.2 (by decide) Bc (by first | omega | (simp only [List.length_append, mm_enc_len]; omega)) (fun Fc fc Bc => ?_)
      replace cc := cc.trans fc
      refine mv_aload_n (pc := 118) d_Sb_writeSlot_118 rfl ?_
      refine mr_callV0 (pc := 119) d_Sb_writeSlot_119 (d2 := (0, 0)) ok_Sl_hasTimer li_Sb_87 sv_Sl_hasTimer hs ⟨by decide, rfl⟩ ⟨by decide, Nat.le_of_ble_eq_true rfl, rfl, by decide, by decide⟩ ?_
      refine c_hasTimer hs (fun hc119 => ?_) (fun hc119 => ?_)
      · simp only [mm_gwi] at hc119; rw [cc.1 s 1 n1 n2, cc.1 s 8 n1 n2] at hc119
        refine mv_if_eq 137 (pc := 122) d_Sb_writeSlot_122 (by decide) (fun z => absurd z (by decide)) (fun _ => ?_)
        refine mv_aload_n (pc := 125) d_Sb_writeSlot_125 rfl ?_
        refine mr_getr (pc := 126) d_Sb_writeSlot_126 fl_Sb_14 hz.1 rfl (by decide) hz.2.1 ?_
        refine mv_aload_n (pc := 129) d_Sb_writeSlot_129 rfl ?_
        refine mr_geti (pc := 130) d_Sb_writeSlot_130 fl_Sb_90 hs rfl (by decide) ?_
        rw [mm_gwi, cc.1 s 8 n1 n2]
        refine mv_iconst (v := 2) (pc := 133) d_Sb_writeSlot_133 (by decide) ?_
        refine mr_callV2 (pc := 134) d_Sb_writeSlot_134 (d2 := (1, 21)) ok_By_add li_Sb_23 sv_By_add hz.2.2.1 ⟨by decide, rfl⟩ ⟨by decide, rfl, rfl, Nat.le_of_ble_eq_true rfl, rfl, by decide, by decide⟩ ?_
        refine c_byAdd (n := 2) hz.2.2 (by decide) Bc (by first | omega | (simp only [List.length_append, mm_enc_len]; omega)) (fun Fc fc Bc => ?_)
        replace cc := cc.trans fc
        refine mv_ret (pc := 137) d_Sb_writeSlot_137 rfl ?_
        refine hq Fc cc ?_
        have e : a_encR (mm_gi h s) = mm_enc (mm_gi h s 0) 2 ++ mm_enc (a_kind (mm_gi h s)) 1 ++ (mm_enc (mm_gi h s 2) 2 ++ mm_enc (mm_gi h s 3) 2 ++ mm_enc (mm_gi h s 4 + 128) 1 ++ mm_enc (mm_gi h s 5 + 128) 1 ++ (mm_enc (mm_gi h s 6) 1 ++ mm_enc (mm_gi h s 7) 1) ++ mm_enc (mm_gi h s 8) 2) := by
          unfold a_encR
          grind
        rw [e]
        simpa only [List.append_assoc, List.append_nil] using Bc
      · simp only [mm_gwi] at hc119; rw [cc.1 s 1 n1 n2, cc.1 s 8 n1 n2] at hc119
        refine mv_if_eq 137 (pc := 122) d_Sb_writeSlot_122 (by decide) (fun _ => ?_) (fun z => absurd z (by decide))
        refine mv_ret (pc := 137) d_Sb_writeSlot_137 rfl ?_
        refine hq Fc cc ?_
        have e : a_encR (mm_gi h s) = mm_enc (mm_gi h s 0) 2 ++ mm_enc (a_kind (mm_gi h s)) 1 ++ (mm_enc (mm_gi h s 2) 2 ++ mm_enc (mm_gi h s 3) 2 ++ mm_enc (mm_gi h s 4 + 128) 1 ++ mm_enc (mm_gi h s 5 + 128) 1 ++ (mm_enc (mm_gi h s 6) 1 ++ mm_enc (mm_gi h s 7) 1) ++ []) := by
          unfold a_encR
          grind
        rw [e]
        simpa only [List.append_assoc, List.append_nil] using Bc
    · simp only [mm_gwi] at hc88; rw [cc.1 s 1 n1 n2, cc.1 s 6 n1 n2] at hc88
      refine mv_if_eq 118 (pc := 91) d_Sb_writeSlot_91 (by decide) (fun _ => ?_) (fun z => absurd z (by decide))
      refine mv_aload_n (pc := 118) d_Sb_writeSlot_118 rfl ?_
      refine mr_callV0 (pc := 119) d_Sb_writeSlot_119 (d2 := (0, 0)) ok_Sl_hasTimer li_Sb_87 sv_Sl_hasTimer hs ⟨by decide, rfl⟩ ⟨by decide, Nat.le_of_ble_eq_true rfl, rfl, by decide, by decide⟩ ?_
      refine c_hasTimer hs (fun hc119 => ?_) (fun hc119 => ?_)
      · simp only [mm_gwi] at hc119; rw [cc.1 s 1 n1 n2, cc.1 s 8 n1 n2] at hc119
        refine mv_if_eq 137 (pc := 122) d_Sb_writeSlot_122 (by decide) (fun z => absurd z (by decide)) (fun _ => ?_)
        refine mv_aload_n (pc := 125) d_Sb_writeSlot_125 rfl ?_
        refine mr_getr (pc := 126) d_Sb_writeSlot_126 fl_Sb_14 hz.1 rfl (by decide) hz.2.1 ?_
        refine mv_aload_n (pc := 129) d_Sb_writeSlot_129 rfl ?_
        refine mr_geti (pc := 130) d_Sb_writeSlot_130 fl_Sb_90 hs rfl (by decide) ?_
        rw [mm_gwi, cc.1 s 8 n1 n2]
        refine mv_iconst (v := 2) (pc := 133) d_Sb_writeSlot_133 (by decide) ?_
        refine mr_callV2 (pc := 134) d_Sb_writeSlot_134 (d2 := (1, 21)) ok_By_add li_Sb_23 sv_By_add hz.2.2.1 ⟨by decide, rfl⟩ ⟨by decide, rfl, rfl, Nat.le_of_ble_eq_true rfl, rfl, by decide, by decide⟩ ?_
        refine c_byAdd (n := 2) hz.2.2 (by decide) Bc (by first | omega | (simp only [List.length_append, mm_enc_len]; omega)) (fun Fc fc Bc => ?_)
        replace cc := cc.trans fc
        refine mv_ret (pc := 137) d_Sb_writeSlot_137 rfl ?_
        refine hq Fc cc ?_
        have e : a_encR (mm_gi h s) = mm_enc (mm_gi h s 0) 2 ++ mm_enc (a_kind (mm_gi h s)) 1 ++ (mm_enc (mm_gi h s 2) 2 ++ mm_enc (mm_gi h s 3) 2 ++ mm_enc (mm_gi h s 4 + 128) 1 ++ mm_enc (mm_gi h s 5 + 128) 1 ++ [] ++ mm_enc (mm_gi h s 8) 2) := by
          unfold a_encR
          grind
        rw [e]
        simpa only [List.append_assoc, List.append_nil] using Bc
      · simp only [mm_gwi] at hc119; rw [cc.1 s 1 n1 n2, cc.1 s 8 n1 n2] at hc119
        refine mv_if_eq 137 (pc := 122) d_Sb_writeSlot_122 (by decide) (fun _ => ?_) (fun z => absurd z (by decide))
        refine mv_ret (pc := 137) d_Sb_writeSlot_137 rfl ?_
        refine hq Fc cc ?_
        have e : a_encR (mm_gi h s) = mm_enc (mm_gi h s 0) 2 ++ mm_enc (a_kind (mm_gi h s)) 1 ++ (mm_enc (mm_gi h s 2) 2 ++ mm_enc (mm_gi h s 3) 2 ++ mm_enc (mm_gi h s 4 + 128) 1 ++ mm_enc (mm_gi h s 5 + 128) 1 ++ [] ++ []) := by
          unfold a_encR
          grind
        rw [e]
        simpa only [List.append_assoc, List.append_nil] using Bc
set_option maxRecDepth 20000 in
theorem l_writePairs {G : mm_G} {Q : mm_O → mm_H → Prop} {h : mm_H} {z y N w : Nat} {T : Nat → Int32} {bs : List Int32} (hz : mm_Hd h z 4 y N) (hw : mm_Wd h w) (n1 : w + 2 ≠ y) (n2 : w + 2 ≠ y + 1) (F0 : mm_W) (hT : ∀ p, p < 256 → F0 (w + 2) p = T p) (hN : bs.length + a_cnt T 256 ≤ N) (hq : ∀ F', mm_yfr y F0 F' → mm_By F' y (bs ++ a_prs T 256) → Q (.inl none) (mm_wi h F')) :
    ∀ (p : Nat) (F : mm_W), p ≤ 256 → mm_yfr y F0 F ∧ mm_By F y (bs ++ a_prs T p) → mm_V G (2, 44) M_Sb_writePairs Q 14 [some (.ref z), some (.ref w), some (.int (nI p))] [] (mm_wi h F) := by
  refine mr_loop _ _ 256 (fun F hI => ?_) (fun p F hp hI ih => ?_)
  · refine mv_iload_n (pc := 14) d_Sb_writePairs_14 rfl ?_
    refine mv_sipush (v := 256) (pc := 15) d_Sb_writePairs_15 (by decide) ?_
    refine mv_ic_ge 45 (pc := 18) d_Sb_writePairs_18 (by decide) (fun h18 => ?_) (fun z => absurd z (mm_ge256))
    refine mv_ret (pc := 45) d_Sb_writePairs_45 rfl ?_
    exact hq F hI.1 hI.2
  · obtain ⟨cc, Bc⟩ := hI
    have hm := a_cnt_mono T (n := p + 1) (m := 256) (by omega)
    have hl := a_prs_len T p
    refine mv_iload_n (pc := 14) d_Sb_writePairs_14 rfl ?_
    refine mv_sipush (v := 256) (pc := 15) d_Sb_writePairs_15 (by decide) ?_
    refine mv_ic_ge 45 (pc := 18) d_Sb_writePairs_18 (by decide) (fun z => absurd z (mm_lt256 hp)) (fun h18 => ?_)
    refine mv_aload_n (pc := 21) d_Sb_writePairs_21 rfl ?_
    refine mr_getr (pc := 22) d_Sb_writePairs_22 fl_Sb_97 hw.1 rfl (by decide) hw.2.2.2.2.2.2.1 ?_
    refine mv_iload_n (pc := 25) d_Sb_writePairs_25 rfl ?_
    refine mr_zald (pc := 26) d_Sb_writePairs_26 hw.2.2.1 (mm_in256 hp) ?_
    rw [nI_clamp (by omega), mm_gwi, cc.1 (w + 2) p n1 n2, hT p hp]
    refine mv_if_eq 39 (pc := 27) d_Sb_writePairs_27 (by decide) (fun h27 => ?_) (fun h27 => ?_)
    · refine mv_iinc (pc := 39) d_Sb_writePairs_39 rfl rfl (by decide) ?_
      refine mv_goto 14 (pc := 42) d_Sb_writePairs_42 (by decide) ?_
      refine mm_V_ls (ls' := [some (.ref z), some (.ref w), some (.int (nI (p + 1)))]) (by simp only [List.set]; rw [nI_succ]; rfl) (ih _ ⟨cc, ?_⟩)
      simp only [a_prs]
      rw [if_pos h27]
      simpa only [List.append_nil, List.append_assoc] using Bc
    · refine mv_aload_n (pc := 30) d_Sb_writePairs_30 rfl ?_
      refine mr_getr (pc := 31) d_Sb_writePairs_31 fl_Sb_14 hz.1 rfl (by decide) hz.2.1 ?_
      refine mv_iload_n (pc := 34) d_Sb_writePairs_34 rfl ?_
      refine mv_iconst (v := 1) (pc := 35) d_Sb_writePairs_35 (by decide) ?_
      refine mr_callV2 (pc := 36) d_Sb_writePairs_36 (d2 := (1, 21)) ok_By_add li_Sb_23 sv_By_add hz.2.2.1 ⟨by decide, rfl⟩ ⟨by decide, rfl, rfl, Nat.le_of_ble_eq_true rfl, rfl, by decide, by decide⟩ ?_
      refine c_byAdd (n := 1) hz.2.2 (by decide) Bc (by rw [show a_cnt T (p + 1) = a_cnt T p + (if T p = 0 then 0 else 1) from rfl, if_neg h27] at hm; simp only [List.length_append, hl]; omega) (fun Fc fc Bc => ?_)
      replace cc := cc.trans fc
      refine mv_iinc (pc := 39) d_Sb_writePairs_39 rfl rfl (by decide) ?_
      refine mv_goto 14 (pc := 42) d_Sb_writePairs_42 (by decide) ?_
      refine mm_V_ls (ls' := [some (.ref z), some (.ref w), some (.int (nI (p + 1)))]) (by simp only [List.set]; rw [nI_succ]; rfl) (ih _ ⟨cc, ?_⟩)
      simp only [a_prs]
      rw [if_neg h27]
      simpa only [List.append_nil, List.append_assoc] using Bc
set_option maxRecDepth 20000 in
theorem c_writePairs {G : mm_G} {Q : mm_O → mm_H → Prop} {h : mm_H} {z y N w : Nat} {bs : List Int32} (hz : mm_Hd h z 4 y N) (hw : mm_Wd h w) (n1 : w + 2 ≠ y) (n2 : w + 2 ≠ y + 1) (hB : mm_By (mm_gi h) y bs) (hN : bs.length + 1 + a_cnt (mm_gi h (w + 2)) 256 ≤ N) (hq : ∀ F', mm_yfr y (mm_gi h) F' → mm_By F' y (bs ++ mm_enc (nI (a_cnt (mm_gi h (w + 2)) 256)) 1 ++ a_prs (mm_gi h (w + 2)) 256) → Q (.inl none) (mm_wi h F')) : mm_V G (2, 44) M_Sb_writePairs Q 0 (mm_ent 3 [.ref z, .ref w]) [] h := by
  show mm_V G (2, 44) M_Sb_writePairs Q 0 [some (.ref z), some (.ref w), none] [] (mm_wi h (mm_gi h))
  refine mv_aload_n (pc := 0) d_Sb_writePairs_0 rfl ?_
  refine mr_getr (pc := 1) d_Sb_writePairs_1 fl_Sb_14 hz.1 rfl (by decide) hz.2.1 ?_
  refine mv_aload_n (pc := 4) d_Sb_writePairs_4 rfl ?_
  refine mr_callV0 (pc := 5) d_Sb_writePairs_5 (d2 := (0, 0)) ok_Wo_countTouching li_Sb_93 sv_Wo_countTouching hw.1 ⟨by decide, rfl⟩ ⟨by decide, Nat.le_of_ble_eq_true rfl, rfl, by decide, by decide⟩ ?_
  refine c_countTouching hw ?_
  rw [show mm_gi (mm_wi h (mm_gi h)) = mm_gi h from rfl]
  refine mv_iconst (v := 1) (pc := 8) d_Sb_writePairs_8 (by decide) ?_
  refine mr_callV2 (pc := 9) d_Sb_writePairs_9 (d2 := (1, 21)) ok_By_add li_Sb_23 sv_By_add hz.2.2.1 ⟨by decide, rfl⟩ ⟨by decide, rfl, rfl, Nat.le_of_ble_eq_true rfl, rfl, by decide, by decide⟩ ?_
  refine c_byAdd (n := 1) hz.2.2 (by decide) hB (by omega) (fun Fc fc Bc => ?_)
  refine mv_iconst (v := 0) (pc := 12) d_Sb_writePairs_12 (by decide) ?_
  refine mv_istore_n (pc := 13) d_Sb_writePairs_13 (by decide) ?_
  exact l_writePairs (T := mm_gi h (w + 2)) hz hw n1 n2 Fc (fun p hp => fc.1 (w + 2) p n1 n2) (by simp only [List.length_append, mm_enc_len]; omega) (fun F' f2 B2 => hq F' (fc.trans f2) B2) 0 Fc (by omega) ⟨mm_yfr.rfl', by simpa [a_prs] using Bc⟩
theorem RC.cnt {F A : mm_W} {w : Nat} (h : RC F w A) : a_cnt (F (w + 2)) 256 = a_cnt (A 9) 256 := a_cnt_eq 256 h.2.2
theorem RC.prs {F A : mm_W} {w : Nat} (h : RC F w A) : a_prs (F (w + 2)) 256 = a_prs (A 9) 256 := a_prs_eq 256 h.2.2
theorem RC.yfr {F F' A : mm_W} {w y : Nat} (h : RC F w A) (hd : y + 1 < w ∨ w + 22 ≤ y) (f : mm_yfr y F F') : RC F' w A := by
  refine ⟨by rw [f.1 w 3 (by omega) (by omega)]; exact h.1, fun i hi => ?_, fun p hp => by rw [f.1 _ p (by omega) (by omega)]; exact h.2.2 p hp⟩
  obtain ⟨q0, q1, q2⟩ := h.2.1 i hi
  exact ⟨by rw [f.1 _ 0 (by omega) (by omega)]; exact q0, by rw [f.1 _ 1 (by omega) (by omega)]; exact q1, fun z k k1 k2 => by rw [f.1 _ k (by omega) (by omega)]; exact q2 z k k1 k2⟩
set_option maxRecDepth 20000 in
theorem l_write {G : mm_G} {Q : mm_O → mm_H → Prop} {h : mm_H} {z y N w : Nat} {A : mm_W} (hz : mm_Hd h z 4 y N) (hw : mm_Wd h w) (hd : y + 1 < w ∨ w + 22 ≤ y) (F0 : mm_W) (hR : RC F0 w A) (hcap : 216 + a_cnt (A 9) 256 ≤ N) (hq : ∀ F', mm_yfr y F0 F' → mm_By F' y (a_encW A) → Q (.inl none) (mm_wi h F')) :
    ∀ (i : Nat) (F : mm_W), i ≤ 16 → mm_yfr y F0 F ∧ mm_By F y (mm_enc 84 1 ++ mm_enc (A 10 0) 4 ++ a_sls A i) → mm_V G (3, 66) M_Sb_write Q 31 [some (.ref z), some (.ref w), some (.int (nI i))] [] (mm_wi h F) := by
  refine mr_loop _ _ 16 (fun F hI => ?_) (fun i F hi hI ih => ?_)
  · obtain ⟨cc, Bc⟩ := hI
    have hRc := hR.yfr hd cc
    have hsl := a_sls_len A 16
    refine mv_iload_n (pc := 31) d_Sb_write_31 rfl ?_
    refine mv_bipush (v := 16) (pc := 32) d_Sb_write_32 (by decide) ?_
    refine mv_ic_ge 53 (pc := 34) d_Sb_write_34 (by decide) (fun h34 => ?_) (fun z => absurd z (mm_ge16))
    refine mv_aload_n (pc := 53) d_Sb_write_53 rfl ?_
    refine mv_aload_n (pc := 54) d_Sb_write_54 rfl ?_
    refine mr_callV1 (pc := 55) d_Sb_write_55 (d2 := (2, 44)) ok_Sb_writePairs li_Sb_41 sv_Sb_writePairs hz.1 ⟨by decide, rfl⟩ ⟨by decide, rfl, Nat.le_of_ble_eq_true rfl, rfl, by decide, by decide⟩ ?_
    refine c_writePairs hz hw (by omega) (by omega) Bc (by show (mm_enc 84 1 ++ mm_enc (A 10 0) 4 ++ a_sls A 16).length + 1 + a_cnt (F (w + 2)) 256 ≤ N; rw [hRc.cnt]; simp only [List.length_append, mm_enc_len]; omega) (fun Fc fc Bc => ?_)
    replace cc := cc.trans fc
    have Bb : mm_By Fc y (a_body A) := by
      have hp := hRc.prs
      have hc := hRc.cnt
      have Bc : mm_By Fc y (mm_enc 84 1 ++ mm_enc (A 10 0) 4 ++ a_sls A 16 ++ mm_enc (nI (a_cnt (F (w + 2)) 256)) 1 ++ a_prs (F (w + 2)) 256) := Bc
      rw [hp, hc] at Bc
      simpa only [a_body, List.append_assoc] using Bc
    refine mv_aload_n (pc := 58) d_Sb_write_58 rfl ?_
    refine mr_getr (pc := 59) d_Sb_write_59 fl_Sb_14 hz.1 rfl (by decide) hz.2.1 ?_
    refine mv_aload_n (pc := 62) d_Sb_write_62 rfl ?_
    refine mr_getr (pc := 63) d_Sb_write_63 fl_Sb_14 hz.1 rfl (by decide) hz.2.1 ?_
    refine mv_aload_n (pc := 66) d_Sb_write_66 rfl ?_
    refine mr_getr (pc := 67) d_Sb_write_67 fl_Sb_14 hz.1 rfl (by decide) hz.2.1 ?_
    refine mr_geti (pc := 70) d_Sb_write_70 fl_Sb_45 hz.2.2.1 rfl (by decide) ?_
    rw [mm_gwi, Bb.1]
    refine mr_callV1 (pc := 73) d_Sb_write_73 (d2 := (0, 0)) ok_By_checkOfFirst li_Sb_48 sv_By_checkOfFirst hz.2.2.1 ⟨by decide, rfl⟩ ⟨by decide, rfl, Nat.le_of_ble_eq_true rfl, rfl, by decide, by decide⟩ ?_
    refine c_byCheck (n := (a_body A).length) hz.2.2 (by have := a_body_len A; omega) Bb (Nat.le_refl _) ?_
    refine mv_iconst (v := 2) (pc := 76) d_Sb_write_76 (by decide) ?_
    refine mr_callV2 (pc := 77) d_Sb_write_77 (d2 := (1, 21)) ok_By_add li_Sb_23 sv_By_add hz.2.2.1 ⟨by decide, rfl⟩ ⟨by decide, rfl, rfl, Nat.le_of_ble_eq_true rfl, rfl, by decide, by decide⟩ ?_
    refine c_byAdd (n := 2) hz.2.2 (by decide) Bb (by have := a_body_len A; omega) (fun Fd fd Bd => ?_)
    refine mv_ret (pc := 80) d_Sb_write_80 rfl ?_
    exact hq Fd (cc.trans fd) Bd
  · obtain ⟨cc, Bc⟩ := hI
    have hRc := hR.yfr hd cc
    have hsl := a_sls_len A i
    refine mv_iload_n (pc := 31) d_Sb_write_31 rfl ?_
    refine mv_bipush (v := 16) (pc := 32) d_Sb_write_32 (by decide) ?_
    refine mv_ic_ge 53 (pc := 34) d_Sb_write_34 (by decide) (fun z => absurd z (mm_lt16 hi)) (fun h34 => ?_)
    refine mv_aload_n (pc := 37) d_Sb_write_37 rfl ?_
    refine mv_aload_n (pc := 38) d_Sb_write_38 rfl ?_
    refine mr_getr (pc := 39) d_Sb_write_39 fl_Sb_33 hw.1 rfl (by decide) hw.2.2.2.2.2.1 ?_
    refine mv_iload_n (pc := 42) d_Sb_write_42 rfl ?_
    refine mr_aald (pc := 43) d_Sb_write_43 hw.2.1 (mm_in16 hi) (hw.sl hi) ?_
    refine mr_callV1 (pc := 44) d_Sb_write_44 (d2 := (2, 44)) ok_Sb_writeSlot li_Sb_37 sv_Sb_writeSlot hz.1 ⟨by decide, rfl⟩ ⟨by decide, rfl, Nat.le_of_ble_eq_true rfl, rfl, by decide, by decide⟩ ?_
    refine c_writeSlot hz (hw.at_ hi) (by omega) (by omega) Bc (by simp only [List.length_append, mm_enc_len]; omega) (fun Fc fc Bc => ?_)
    refine mv_iinc (pc := 47) d_Sb_write_47 rfl rfl (by decide) ?_
    refine mv_goto 31 (pc := 50) d_Sb_write_50 (by decide) ?_
    refine mm_V_ls (ls' := [some (.ref z), some (.ref w), some (.int (nI (i + 1)))]) (by simp only [List.set]; rw [nI_succ]; rfl) (ih _ ⟨cc.trans fc, ?_⟩)
    have e : a_encR (mm_gi (mm_wi h F) (w + 6 + i)) = a_encR (fun k => A k i) := a_encR_eq (hRc.2.1 i hi).1 (hRc.2.1 i hi).2.1 (hRc.2.1 i hi).2.2
    rw [e] at Bc
    simpa only [a_sls, List.append_assoc] using Bc
set_option maxRecDepth 20000 in
theorem c_write {G : mm_G} {Q : mm_O → mm_H → Prop} {h : mm_H} {z y N w : Nat} {A : mm_W} (hz : mm_Hd h z 4 y N) (hw : mm_Wd h w) (hd : y + 1 < w ∨ w + 22 ≤ y) (hR : RC (mm_gi h) w A) (hcap : 216 + a_cnt (A 9) 256 ≤ N) (hq : ∀ F', mm_yfr y (mm_gi h) F' → mm_By F' y (a_encW A) → Q (.inl none) (mm_wi h F')) : mm_V G (3, 66) M_Sb_write Q 0 (mm_ent 3 [.ref z, .ref w]) [] h := by
  show mm_V G (3, 66) M_Sb_write Q 0 [some (.ref z), some (.ref w), none] [] (mm_wi h (mm_gi h))
  refine mv_aload_n (pc := 0) d_Sb_write_0 rfl ?_
  refine mr_getr (pc := 1) d_Sb_write_1 fl_Sb_14 hz.1 rfl (by decide) hz.2.1 ?_
  refine mr_callV0 (pc := 4) d_Sb_write_4 (d2 := (0, 0)) ok_By_clear li_Sb_20 sv_By_clear hz.2.2.1 ⟨by decide, rfl⟩ ⟨by decide, Nat.le_of_ble_eq_true rfl, rfl, by decide, by decide⟩ ?_
  refine c_byClear hz.2.2 ?_
  refine mv_aload_n (pc := 7) d_Sb_write_7 rfl ?_
  refine mr_getr (pc := 8) d_Sb_write_8 fl_Sb_14 hz.1 rfl (by decide) hz.2.1 ?_
  refine mv_bipush (v := 84) (pc := 11) d_Sb_write_11 (by decide) ?_
  refine mv_iconst (v := 1) (pc := 13) d_Sb_write_13 (by decide) ?_
  refine mr_callV2 (pc := 14) d_Sb_write_14 (d2 := (1, 21)) ok_By_add li_Sb_23 sv_By_add hz.2.2.1 ⟨by decide, rfl⟩ ⟨by decide, rfl, rfl, Nat.le_of_ble_eq_true rfl, rfl, by decide, by decide⟩ ?_
  refine c_byAdd (n := 1) (bs := []) hz.2.2 (by decide) ⟨by simp [mm_gsi]; rfl, fun j hj => absurd hj (by simp)⟩ (by simp; omega) (fun F1 f1 B1 => ?_)
  have c1 : mm_yfr y (mm_gi h) F1 := ⟨fun a k ha hb => by rw [f1.1 a k ha hb]; simp [mm_gsi, ha, mm_gwi], by rw [f1.2]; simp [mm_gsi, mm_gwi]⟩
  refine mv_aload_n (pc := 17) d_Sb_write_17 rfl ?_
  refine mr_getr (pc := 18) d_Sb_write_18 fl_Sb_14 hz.1 rfl (by decide) hz.2.1 ?_
  refine mv_aload_n (pc := 21) d_Sb_write_21 rfl ?_
  refine mr_geti (pc := 22) d_Sb_write_22 fl_Sb_27 hw.1 rfl (by decide) ?_
  rw [mm_gwi, c1.1 w 3 (by omega) (by omega), hR.1]
  refine mv_iconst (v := 4) (pc := 25) d_Sb_write_25 (by decide) ?_
  refine mr_callV2 (pc := 26) d_Sb_write_26 (d2 := (1, 21)) ok_By_add li_Sb_23 sv_By_add hz.2.2.1 ⟨by decide, rfl⟩ ⟨by decide, rfl, rfl, Nat.le_of_ble_eq_true rfl, rfl, by decide, by decide⟩ ?_
  refine c_byAdd (n := 4) hz.2.2 (by decide) B1 (by simp [mm_enc_len]; omega) (fun F2 f2 B2 => ?_)
  have c2 := c1.trans f2
  refine mv_iconst (v := 0) (pc := 29) d_Sb_write_29 (by decide) ?_
  refine mv_istore_n (pc := 30) d_Sb_write_30 (by decide) ?_
  exact l_write hz hw hd (mm_gi h) hR hcap hq 0 F2 (by omega) ⟨c2, by simpa [a_sls] using B2⟩
