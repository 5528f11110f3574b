/-! CONTRACTS: Events, Bytes (rows by program: con_b.py) -/
theorem mm_V_ls {G : mm_G} {d : Nat × Nat} {M : mm_M} {Q : mm_O → mm_H → Prop} {pc : Nat} {ls ls' : List (Option Value)} {st : List Value} {h : mm_H} (e : ls = ls') (k : mm_V G d M Q pc ls' st h) : mm_V G d M Q pc ls st h := e ▸ k
/-- an Events object: its two rows -/
def mm_Ev (h : mm_H) (e : Nat) : Prop := mm_at h e 1 3 ∧ mm_at h (e + 1) 100 120 ∧ mm_at h (e + 2) 100 120 ∧ mm_gr h e 0 = some (e + 1) ∧ mm_gr h e 1 = some (e + 2)
/-- a Bytes object with a row of N places -/
def mm_Bo (h : mm_H) (y N : Nat) : Prop := mm_at h y 0 3 ∧ mm_at h (y + 1) 100 N ∧ mm_gr h y 0 = some (y + 1) ∧ N < 65536
/-- what it holds -/
def mm_By (F : Nat → Nat → Int32) (y : Nat) (bs : List Int32) : Prop := F y 1 = nI bs.length ∧ ∀ j, j < bs.length → F (y + 1) j = bs.getD j 0
/-- nothing else has changed than the bytes of y (and not its place) -/
def mm_yfr (y : Nat) (F F' : Nat → Nat → Int32) : Prop := (∀ a k, a ≠ y → a ≠ y + 1 → F' a k = F a k) ∧ F' y 2 = F y 2
/-- a number's bytes, the highest first -/
def mm_enc (x : Int32) : Nat → List Int32
  | 0 => []
  | n + 1 => ((x >>> (nI (8 * n) &&& 31)) &&& 255) :: mm_enc x n
theorem mm_enc_len (x : Int32) : ∀ n, (mm_enc x n).length = n
  | 0 => rfl
  | n + 1 => by simp [mm_enc, mm_enc_len x n]
/-- a number read from the bytes -/
def mm_dec (bs : List Int32) (p : Nat) : Nat → Int32
  | 0 => 0
  | n + 1 => (mm_dec bs p n <<< ((8 : Int32) &&& 31)) ||| bs.getD (p + n) 0
/-- the check's two numbers over the first n bytes -/
def mm_chc (bs : List Int32) : Nat → Int32
  | 0 => 1
  | n + 1 => (mm_chc bs n + bs.getD n 0) - (mm_chc bs n + bs.getD n 0) / 251 * 251
def mm_chd (bs : List Int32) : Nat → Int32
  | 0 => 0
  | n + 1 => (mm_chd bs n + mm_chc bs (n + 1)) - (mm_chd bs n + mm_chc bs (n + 1)) / 251 * 251
theorem mm_getD_app {bs : List Int32} {v : Int32} {j : Nat} (h : j < bs.length + 1) : (bs ++ [v]).getD j 0 = if j = bs.length then v else bs.getD j 0 := by
  rw [List.getD_eq_getElem?_getD, List.getD_eq_getElem?_getD]
  by_cases hj : j = bs.length
  · subst hj; simp
  · rw [List.getElem?_append_left (by omega), if_neg hj]
set_option maxRecDepth 20000 in
theorem c_evClear {G : mm_G} {Q : mm_O → mm_H → Prop} {h : mm_H} {e : Nat} (he : mm_Ev h e) (hq : Q (.inl none) (mm_si h e 2 0)) : mm_V G (0, 0) M_Ev_clear Q 0 (mm_ent 1 [.ref e]) [] h := by
  show mm_V G (0, 0) M_Ev_clear Q 0 [some (.ref e)] [] h
  refine mv_aload_n (pc := 0) d_Ev_clear_0 rfl ?_
  refine mv_iconst (v := 0) (pc := 1) d_Ev_clear_1 (by decide) ?_
  refine mr_puti (pc := 2) d_Ev_clear_2 fl_Ev_18 he.1 rfl (by decide) ⟨rfl, rfl⟩ ?_
  refine mv_ret (pc := 5) d_Ev_clear_5 rfl ?_
  exact hq
set_option maxRecDepth 20000 in
theorem c_evHas {G : mm_G} {Q : mm_O → mm_H → Prop} {h : mm_H} {e : Nat} {k : Int32} (he : mm_Ev h e) (hq1 : 0 ≤ k ∧ k < mm_gi h e 2 → Q (.inl (some (.int 1))) h) (hq0 : ¬ (0 ≤ k ∧ k < mm_gi h e 2) → Q (.inl (some (.int 0))) h) : mm_V G (0, 0) M_Ev_has Q 0 (mm_ent 2 [.ref e, .int k]) [] h := by
  show mm_V G (0, 0) M_Ev_has Q 0 [some (.ref e), some (.int k)] [] h
  refine mv_iload_n (pc := 0) d_Ev_has_0 rfl ?_
  refine mv_if_lt 16 (pc := 1) d_Ev_has_1 (by decide) (fun h1 => ?_) (fun h1 => ?_)
  · refine mv_iconst (v := 0) (pc := 16) d_Ev_has_16 (by decide) ?_
    refine mv_iret (pc := 17) d_Ev_has_17 rfl rfl ?_
    exact hq0 (by clear hq1 hq0; grind)
  · refine mv_iload_n (pc := 4) d_Ev_has_4 rfl ?_
    refine mv_aload_n (pc := 5) d_Ev_has_5 rfl ?_
    refine mr_geti (pc := 6) d_Ev_has_6 fl_Ev_18 he.1 rfl (by decide) ?_
    refine mv_ic_ge 16 (pc := 9) d_Ev_has_9 (by decide) (fun h9 => ?_) (fun h9 => ?_)
    · refine mv_iconst (v := 0) (pc := 16) d_Ev_has_16 (by decide) ?_
      refine mv_iret (pc := 17) d_Ev_has_17 rfl rfl ?_
      exact hq0 (by clear hq1 hq0; grind)
    · refine mv_iconst (v := 1) (pc := 12) d_Ev_has_12 (by decide) ?_
      refine mv_goto 17 (pc := 13) d_Ev_has_13 (by decide) ?_
      refine mv_iret (pc := 17) d_Ev_has_17 rfl rfl ?_
      exact hq1 (by clear hq1 hq0; grind)
set_option maxRecDepth 20000 in
theorem c_evAdd {G : mm_G} {Q : mm_O → mm_H → Prop} {h : mm_H} {e c : Nat} {k p : Int32} (he : mm_Ev h e) (hc : mm_gi h e 2 = nI c) (hlt : c < 120) (hq : Q (.inl none) (mm_si (mm_si (mm_si h (e + 1) c k) (e + 2) c p) e 2 (nI (c + 1)))) : mm_V G (0, 0) M_Ev_add Q 0 (mm_ent 3 [.ref e, .int k, .int p]) [] h := by
  show mm_V G (0, 0) M_Ev_add Q 0 [some (.ref e), some (.int k), some (.int p)] [] h
  refine mv_aload_n (pc := 0) d_Ev_add_0 rfl ?_
  refine mr_geti (pc := 1) d_Ev_add_1 fl_Ev_18 he.1 rfl (by decide) ?_
  refine mv_bipush (v := 120) (pc := 4) d_Ev_add_4 (by decide) ?_
  refine mv_ic_ge 39 (pc := 6) d_Ev_add_6 (by decide) (fun z => absurd z (by rw [hc]; exact nI_ge (b := 120) hlt (by decide))) (fun h6 => ?_)
  refine mv_aload_n (pc := 9) d_Ev_add_9 rfl ?_
  refine mr_getr (pc := 10) d_Ev_add_10 fl_Ev_9 he.1 rfl (by decide) he.2.2.2.1 ?_
  refine mv_aload_n (pc := 13) d_Ev_add_13 rfl ?_
  refine mr_geti (pc := 14) d_Ev_add_14 fl_Ev_18 he.1 rfl (by decide) ?_
  rw [hc]
  refine mv_iload_n (pc := 17) d_Ev_add_17 rfl ?_
  refine mr_iast (pc := 18) d_Ev_add_18 he.2.1 (vp_in_nI hlt (by decide)) ?_
  rw [nI_clamp (by omega)]
  refine mv_aload_n (pc := 19) d_Ev_add_19 rfl ?_
  refine mr_getr (pc := 20) d_Ev_add_20 fl_Ev_15 he.1 rfl (by decide) he.2.2.2.2 ?_
  refine mv_aload_n (pc := 23) d_Ev_add_23 rfl ?_
  refine mr_geti (pc := 24) d_Ev_add_24 fl_Ev_18 he.1 rfl (by decide) ?_
  rw [mm_gsi, if_neg (fun z => absurd z.1 (by omega)), hc]
  refine mv_iload_n (pc := 27) d_Ev_add_27 rfl ?_
  refine mr_iast (pc := 28) d_Ev_add_28 he.2.2.1 (vp_in_nI hlt (by decide)) ?_
  rw [nI_clamp (by omega)]
  refine mv_aload_n (pc := 29) d_Ev_add_29 rfl ?_
  refine mv_dup (pc := 30) d_Ev_add_30 rfl ?_
  refine mr_geti (pc := 31) d_Ev_add_31 fl_Ev_18 he.1 rfl (by decide) ?_
  rw [mm_gsi, if_neg (fun z => absurd z.1 (by omega)), mm_gsi, if_neg (fun z => absurd z.1 (by omega)), hc]
  refine mv_iconst (v := 1) (pc := 34) d_Ev_add_34 (by decide) ?_
  refine mv_iadd (pc := 35) d_Ev_add_35 ?_
  rw [nI_1]
  refine mr_puti (pc := 36) d_Ev_add_36 fl_Ev_18 he.1 rfl (by decide) ⟨rfl, rfl⟩ ?_
  refine mv_ret (pc := 39) d_Ev_add_39 rfl ?_
  exact hq
set_option maxRecDepth 20000 in
theorem c_byClear {G : mm_G} {Q : mm_O → mm_H → Prop} {h : mm_H} {y N : Nat} (hy : mm_Bo h y N) (hq : Q (.inl none) (mm_si h y 1 0)) : mm_V G (0, 0) M_By_clear Q 0 (mm_ent 1 [.ref y]) [] h := by
  show mm_V G (0, 0) M_By_clear Q 0 [some (.ref y)] [] h
  refine mv_aload_n (pc := 0) d_By_clear_0 rfl ?_
  refine mv_iconst (v := 0) (pc := 1) d_By_clear_1 (by decide) ?_
  refine mr_puti (pc := 2) d_By_clear_2 fl_By_15 hy.1 rfl (by decide) ⟨rfl, rfl⟩ ?_
  refine mv_ret (pc := 5) d_By_clear_5 rfl ?_
  exact hq
set_option maxRecDepth 20000 in
theorem c_byHas {G : mm_G} {Q : mm_O → mm_H → Prop} {h : mm_H} {y N : Nat} {k : Int32} (hy : mm_Bo h y N) (hq1 : 0 ≤ k ∧ k < mm_gi h y 1 → Q (.inl (some (.int 1))) h) (hq0 : ¬ (0 ≤ k ∧ k < mm_gi h y 1) → Q (.inl (some (.int 0))) h) : mm_V G (0, 0) M_By_has Q 0 (mm_ent 2 [.ref y, .int k]) [] h := by
  show mm_V G (0, 0) M_By_has Q 0 [some (.ref y), some (.int k)] [] h
  refine mv_iload_n (pc := 0) d_By_has_0 rfl ?_
  refine mv_if_lt 16 (pc := 1) d_By_has_1 (by decide) (fun h1 => ?_) (fun h1 => ?_)
  · refine mv_iconst (v := 0) (pc := 16) d_By_has_16 (by decide) ?_
    refine mv_iret (pc := 17) d_By_has_17 rfl rfl ?_
    exact hq0 (by clear hq1 hq0; grind)
  · refine mv_iload_n (pc := 4) d_By_has_4 rfl ?_
    refine mv_aload_n (pc := 5) d_By_has_5 rfl ?_
    refine mr_geti (pc := 6) d_By_has_6 fl_By_15 hy.1 rfl (by decide) ?_
    refine mv_ic_ge 16 (pc := 9) d_By_has_9 (by decide) (fun h9 => ?_) (fun h9 => ?_)
    · refine mv_iconst (v := 0) (pc := 16) d_By_has_16 (by decide) ?_
      refine mv_iret (pc := 17) d_By_has_17 rfl rfl ?_
      exact hq0 (by clear hq1 hq0; grind)
    · refine mv_iconst (v := 1) (pc := 12) d_By_has_12 (by decide) ?_
      refine mv_goto 17 (pc := 13) d_By_has_13 (by decide) ?_
      refine mv_iret (pc := 17) d_By_has_17 rfl rfl ?_
      exact hq1 (by clear hq1 hq0; grind)
set_option maxRecDepth 20000 in
theorem c_byHasRoom {G : mm_G} {Q : mm_O → mm_H → Prop} {h : mm_H} {y N : Nat} {k : Int32} (hy : mm_Bo h y N) (hq1 : k ≤ Int32.ofNat N - mm_gi h y 1 → Q (.inl (some (.int 1))) h) (hq0 : ¬ (k ≤ Int32.ofNat N - mm_gi h y 1) → Q (.inl (some (.int 0))) h) : mm_V G (0, 0) M_By_hasRoom Q 0 (mm_ent 2 [.ref y, .int k]) [] h := by
  show mm_V G (0, 0) M_By_hasRoom Q 0 [some (.ref y), some (.int k)] [] h
  refine mv_iload_n (pc := 0) d_By_hasRoom_0 rfl ?_
  refine mv_aload_n (pc := 1) d_By_hasRoom_1 rfl ?_
  refine mr_getr (pc := 2) d_By_hasRoom_2 fl_By_9 hy.1 rfl (by decide) hy.2.2.1 ?_
  refine mr_alen (pc := 5) d_By_hasRoom_5 hy.2.1 (by decide) ?_
  refine mv_aload_n (pc := 6) d_By_hasRoom_6 rfl ?_
  refine mr_geti (pc := 7) d_By_hasRoom_7 fl_By_15 hy.1 rfl (by decide) ?_
  refine mv_isub (pc := 10) d_By_hasRoom_10 ?_
  refine mv_ic_gt 18 (pc := 11) d_By_hasRoom_11 (by decide) (fun h11 => ?_) (fun h11 => ?_)
  · refine mv_iconst (v := 0) (pc := 18) d_By_hasRoom_18 (by decide) ?_
    refine mv_iret (pc := 19) d_By_hasRoom_19 rfl rfl ?_
    exact hq0 (by clear hq1 hq0; grind)
  · refine mv_iconst (v := 1) (pc := 14) d_By_hasRoom_14 (by decide) ?_
    refine mv_goto 19 (pc := 15) d_By_hasRoom_15 (by decide) ?_
    refine mv_iret (pc := 19) d_By_hasRoom_19 rfl rfl ?_
    exact hq1 (by clear hq1 hq0; grind)
set_option maxRecDepth 20000 in
theorem c_byAtEnd {G : mm_G} {Q : mm_O → mm_H → Prop} {h : mm_H} {y N : Nat} (hy : mm_Bo h y N) (hq1 : mm_gi h y 1 ≤ mm_gi h y 2 → Q (.inl (some (.int 1))) h) (hq0 : ¬ (mm_gi h y 1 ≤ mm_gi h y 2) → Q (.inl (some (.int 0))) h) : mm_V G (0, 0) M_By_isAtEnd Q 0 (mm_ent 1 [.ref y]) [] h := by
  show mm_V G (0, 0) M_By_isAtEnd Q 0 [some (.ref y)] [] h
  refine mv_aload_n (pc := 0) d_By_isAtEnd_0 rfl ?_
  refine mr_geti (pc := 1) d_By_isAtEnd_1 fl_By_23 hy.1 rfl (by decide) ?_
  refine mv_aload_n (pc := 4) d_By_isAtEnd_4 rfl ?_
  refine mr_geti (pc := 5) d_By_isAtEnd_5 fl_By_15 hy.1 rfl (by decide) ?_
  refine mv_ic_lt 15 (pc := 8) d_By_isAtEnd_8 (by decide) (fun h8 => ?_) (fun h8 => ?_)
  · refine mv_iconst (v := 0) (pc := 15) d_By_isAtEnd_15 (by decide) ?_
    refine mv_iret (pc := 16) d_By_isAtEnd_16 rfl rfl ?_
    exact hq0 (by clear hq1 hq0; grind)
  · refine mv_iconst (v := 1) (pc := 11) d_By_isAtEnd_11 (by decide) ?_
    refine mv_goto 16 (pc := 12) d_By_isAtEnd_12 (by decide) ?_
    refine mv_iret (pc := 16) d_By_isAtEnd_16 rfl rfl ?_
    exact hq1 (by clear hq1 hq0; grind)
theorem mm_m8 (x : Int32) : x + Int32.ofInt (-8) = x - 8 := by
  rw [show Int32.ofInt (-8) = -8 from rfl]
  grind
set_option maxRecDepth 20000 in
theorem l_byAdd {G : mm_G} {Q : mm_O → mm_H → Prop} {h : mm_H} {y N n : Nat} {x : Int32} (hy : mm_Bo h y N) : ∀ (r : Nat) (F : Nat → Nat → Int32) (bs : List Int32), r ≤ 4 → mm_By F y bs → bs.length + r ≤ N →
    (∀ F', mm_yfr y F F' → mm_By F' y (bs ++ mm_enc x r) → Q (.inl none) (mm_wi h F')) → mm_V G (1, 21) M_By_add Q 7 [some (.ref y), some (.int x), some (.int (nI n)), some (.int (nI (8 * r) - 8))] [] (mm_wi h F) := by
  intro r
  induction r with
  | zero =>
    intro F bs hr hB hN hq
    refine mv_iload_n (pc := 7) d_By_add_7 rfl ?_
    refine mv_if_lt 51 (pc := 8) d_By_add_8 (by decide) (fun h8 => ?_) (fun z => absurd z (by decide))
    refine mv_ret (pc := 51) d_By_add_51 rfl ?_
    exact hq F ⟨fun _ _ _ _ => rfl, rfl⟩ (by simpa [mm_enc] using hB)
  | succ r ih =>
    intro F bs hr hB hN hq
    have hlen := hy.2.2.2
    have hcnt : mm_gi (mm_wi h F) y 1 = nI bs.length := hB.1
    have hroom : (1 : Int32) ≤ Int32.ofNat N - mm_gi (mm_wi h F) y 1 := by
      rw [hcnt]
      show nI 1 ≤ nI N - nI bs.length
      rw [pk_sub (by omega)]
      exact nI_le (by omega) (by omega)
    have hsh : nI (8 * (r + 1)) - 8 = nI (8 * r) := by
      have e : nI (8 * (r + 1)) = nI (8 * r) + 8 := by
        rw [show 8 * (r + 1) = 8 * r + 8 by omega, ← nI_add]; rfl
      rw [e]; grind
    refine mv_iload_n (pc := 7) d_By_add_7 rfl ?_
    refine mv_if_lt 51 (pc := 8) d_By_add_8 (by decide) (fun z => absurd z (by rw [hsh]; exact nI_pos (by omega))) (fun h8 => ?_)
    refine mv_aload_n (pc := 11) d_By_add_11 rfl ?_
    refine mv_iconst (v := 1) (pc := 12) d_By_add_12 (by decide) ?_
    refine mr_callV1 (pc := 13) d_By_add_13 (d2 := (0, 0)) ok_By_hasRoom li_By_19 sv_By_hasRoom hy.1 ⟨by decide, rfl⟩ ⟨by decide, rfl, Nat.le_of_ble_eq_true rfl, rfl, by decide, by decide⟩ ?_
    refine c_byHasRoom hy (fun hc13 => ?_) (fun hc13 => absurd hroom hc13)
    refine mv_if_eq 45 (pc := 16) d_By_add_16 (by decide) (fun z => absurd z (by decide)) (fun _ => ?_)
    refine mv_aload_n (pc := 19) d_By_add_19 rfl ?_
    refine mr_getr (pc := 20) d_By_add_20 fl_By_9 hy.1 rfl (by decide) hy.2.2.1 ?_
    refine mv_aload_n (pc := 23) d_By_add_23 rfl ?_
    refine mr_geti (pc := 24) d_By_add_24 fl_By_15 hy.1 rfl (by decide) ?_
    rw [hcnt]
    refine mv_iload_n (pc := 27) d_By_add_27 rfl ?_
    refine mv_iload_n (pc := 28) d_By_add_28 rfl ?_
    rw [hsh]
    refine mv_ishr (pc := 29) d_By_add_29 ?_
    refine mv_sipush (v := 255) (pc := 30) d_By_add_30 (by decide) ?_
    refine mv_iand (pc := 33) d_By_add_33 ?_
    refine mr_iast (pc := 34) d_By_add_34 hy.2.1 (vp_in_nI (by omega) (by omega)) ?_
    rw [nI_clamp (by omega)]
    refine mv_aload_n (pc := 35) d_By_add_35 rfl ?_
    refine mv_dup (pc := 36) d_By_add_36 rfl ?_
    refine mr_geti (pc := 37) d_By_add_37 fl_By_15 hy.1 rfl (by decide) ?_
    rw [mm_gsi, if_neg (fun z => absurd z.1 (by omega)), hcnt]
    refine mv_iconst (v := 1) (pc := 40) d_By_add_40 (by decide) ?_
    refine mv_iadd (pc := 41) d_By_add_41 ?_
    rw [nI_1]
    refine mr_puti (pc := 42) d_By_add_42 fl_By_15 hy.1 rfl (by decide) ⟨rfl, rfl⟩ ?_
    refine mv_iinc (pc := 45) d_By_add_45 rfl rfl (by decide) ?_
    refine mv_goto 7 (pc := 48) d_By_add_48 (by decide) ?_
    refine mm_V_ls (ls' := [some (.ref y), some (.int x), some (.int (nI n)), some (.int (nI (8 * r) - 8))]) (by simp only [List.set]; rw [mm_m8]) ?_
    refine ih _ (bs ++ [(x >>> (nI (8 * r) &&& 31)) &&& 255]) (by omega) ⟨?_, fun j hj => ?_⟩ (by simp; omega) (fun F' hf hB' => hq F' ⟨fun a k ha hb => ?_, ?_⟩ ?_)
    · simp [mm_u2]
    · simp only [List.length_append, List.length_cons, List.length_nil] at hj
      rw [mm_getD_app (by omega)]
      by_cases hjl : j = bs.length
      · simp [mm_u2, mm_usi, mm_uwi, hjl]
      · simp [mm_u2, mm_usi, mm_uwi, hjl]
        simpa using hB.2 j (by omega)
    · rw [hf.1 a k ha hb]; simp [mm_u2, ha, hb, mm_usi, mm_uwi]
    · rw [hf.2]; simp [mm_u2, mm_usi, mm_uwi]
    · simpa [mm_enc] using hB'
set_option maxRecDepth 20000 in
theorem c_byAdd {G : mm_G} {Q : mm_O → mm_H → Prop} {h : mm_H} {y N n : Nat} {x : Int32} {bs : List Int32} (hy : mm_Bo h y N) (hn : n ≤ 4) (hB : mm_By (mm_gi h) y bs) (hN : bs.length + n ≤ N) (hq : ∀ F', mm_yfr y (mm_gi h) F' → mm_By F' y (bs ++ mm_enc x n) → Q (.inl none) (mm_wi h F')) : mm_V G (1, 21) M_By_add Q 0 (mm_ent 4 [.ref y, .int x, .int (nI n)]) [] h := by
  show mm_V G (1, 21) M_By_add Q 0 [some (.ref y), some (.int x), some (.int (nI n)), none] [] h
  refine mv_bipush (v := 8) (pc := 0) d_By_add_0 (by decide) ?_
  refine mv_iload_n (pc := 2) d_By_add_2 rfl ?_
  refine mv_iconst (v := 1) (pc := 3) d_By_add_3 (by decide) ?_
  refine mv_isub (pc := 4) d_By_add_4 ?_
  refine mv_imul (pc := 5) d_By_add_5 ?_
  refine mv_istore_n (pc := 6) d_By_add_6 (by decide) ?_
  refine mm_V_ls (ls' := [some (.ref y), some (.int x), some (.int (nI n)), some (.int (nI (8 * n) - 8))]) ?_ (l_byAdd hy n (mm_gi h) bs hn hB hN hq)
  simp only [List.set]
  have e : nI (8 * n) = 8 * nI n := (pk_mul 8 n).symm
  rw [e]
  congr 4
  grind
/-- only the place of y has changed -/
def mm_pfr (y : Nat) (F F' : Nat → Nat → Int32) : Prop := ∀ a k, ¬ (a = y ∧ k = 2) → F' a k = F a k
theorem mm_pfr.by_ {y : Nat} {F F' : Nat → Nat → Int32} {bs : List Int32} (h : mm_pfr y F F') (hB : mm_By F y bs) : mm_By F' y bs :=
  ⟨by rw [h y 1 (by omega)]; exact hB.1, fun j hj => by rw [h (y + 1) j (by omega)]; exact hB.2 j hj⟩
set_option maxRecDepth 20000 in
theorem l_byNext {G : mm_G} {Q : mm_O → mm_H → Prop} {h : mm_H} {y N n p : Nat} {bs : List Int32} (hy : mm_Bo h y N) (hn : n ≤ 4) (hN : bs.length ≤ N) (F0 : Nat → Nat → Int32) (hB : mm_By F0 y bs) (hp : p ≤ bs.length)
    (hq : p + n ≤ bs.length → ∀ F', mm_pfr y F0 F' → F' y 2 = nI (p + n) → Q (.inl (some (.int (mm_dec bs p n)))) (mm_wi h F')) (hq0 : bs.length < p + n → ∀ F', mm_pfr y F0 F' → F' y 2 = nI bs.length → Q (.inl (some (.int (-1)))) (mm_wi h F')) :
    ∀ (i : Nat) (F : Nat → Nat → Int32), i ≤ n → mm_pfr y F0 F ∧ F y 2 = nI (p + i) ∧ p + i ≤ bs.length → mm_V G (1, 21) M_By_next Q 4 [some (.ref y), some (.int (nI n)), some (.int (mm_dec bs p i)), some (.int (nI i))] [] (mm_wi h F) := by
  have hlen := hy.2.2.2
  refine mr_loop _ _ n (fun F hI => ?_) (fun i F hi hI ih => ?_)
  · obtain ⟨hf, hpl, hle⟩ := hI
    refine mv_iload_n (pc := 4) d_By_next_4 rfl ?_
    refine mv_iload_n (pc := 5) d_By_next_5 rfl ?_
    refine mv_ic_ge 53 (pc := 6) d_By_next_6 (by decide) (fun h6 => ?_) (fun z => absurd z (fun z => z (nI_le (Nat.le_refl _) (by omega))))
    refine mv_iload_n (pc := 53) d_By_next_53 rfl ?_
    refine mv_iret (pc := 54) d_By_next_54 rfl rfl ?_
    exact hq hle F hf hpl
  · obtain ⟨hf, hpl, hle⟩ := hI
    have hB' := hf.by_ hB
    have hcnt : mm_gi (mm_wi h F) y 1 = nI bs.length := hB'.1
    have hpl' : mm_gi (mm_wi h F) y 2 = nI (p + i) := hpl
    refine mv_iload_n (pc := 4) d_By_next_4 rfl ?_
    refine mv_iload_n (pc := 5) d_By_next_5 rfl ?_
    refine mv_ic_ge 53 (pc := 6) d_By_next_6 (by decide) (fun z => absurd z (nI_ge hi (by omega))) (fun h6 => ?_)
    refine mv_aload_n (pc := 9) d_By_next_9 rfl ?_
    refine mv_aload_n (pc := 10) d_By_next_10 rfl ?_
    refine mr_geti (pc := 11) d_By_next_11 fl_By_23 hy.1 rfl (by decide) ?_
    refine mr_callV1 (pc := 14) d_By_next_14 (d2 := (0, 0)) ok_By_has li_By_26 sv_By_has hy.1 ⟨by decide, rfl⟩ ⟨by decide, rfl, Nat.le_of_ble_eq_true rfl, rfl, by decide, by decide⟩ ?_
    refine c_byHas hy (fun hc14 => ?_) (fun hc14 => ?_)
    · rw [hpl', hcnt] at hc14
      refine mv_if_ne 22 (pc := 17) d_By_next_17 (by decide) (fun _ => ?_) (fun z => absurd z (by decide))
      refine mv_iload_n (pc := 22) d_By_next_22 rfl ?_
      refine mv_bipush (v := 8) (pc := 23) d_By_next_23 (by decide) ?_
      refine mv_ishl (pc := 25) d_By_next_25 ?_
      refine mv_aload_n (pc := 26) d_By_next_26 rfl ?_
      refine mr_getr (pc := 27) d_By_next_27 fl_By_9 hy.1 rfl (by decide) hy.2.2.1 ?_
      refine mv_aload_n (pc := 30) d_By_next_30 rfl ?_
      refine mr_geti (pc := 31) d_By_next_31 fl_By_23 hy.1 rfl (by decide) ?_
      rw [hpl']
      refine mr_iald (pc := 34) d_By_next_34 hy.2.1 (vp_in_nI (by have := (nI_ltI (by omega) (by omega)).mp hc14.2; omega) (by omega)) ?_
      rw [nI_clamp (by omega)]
      refine mv_ior (pc := 35) d_By_next_35 ?_
      refine mv_istore_n (pc := 36) d_By_next_36 (by decide) ?_
      refine mv_aload_n (pc := 37) d_By_next_37 rfl ?_
      refine mv_dup (pc := 38) d_By_next_38 rfl ?_
      refine mr_geti (pc := 39) d_By_next_39 fl_By_23 hy.1 rfl (by decide) ?_
      rw [hpl']
      refine mv_iconst (v := 1) (pc := 42) d_By_next_42 (by decide) ?_
      refine mv_iadd (pc := 43) d_By_next_43 ?_
      rw [nI_1]
      refine mr_puti (pc := 44) d_By_next_44 fl_By_23 hy.1 rfl (by decide) ⟨rfl, rfl⟩ ?_
      refine mv_iinc (pc := 47) d_By_next_47 rfl rfl (by decide) ?_
      refine mv_goto 4 (pc := 50) d_By_next_50 (by decide) ?_
      have hlt : p + i < bs.length := (nI_ltI (by omega) (by omega)).mp hc14.2
      refine mm_V_ls (ls' := [some (.ref y), some (.int (nI n)), some (.int (mm_dec bs p (i + 1))), some (.int (nI (i + 1)))]) ?_ (ih _ ⟨fun a k hak => ?_, ?_, by omega⟩)
      · simp only [List.set, mm_dec]
        rw [← hB'.2 _ hlt, nI_succ]
        rfl
      · rw [← hf a k hak]; simp [mm_u2, hak, mm_usi, mm_uwi]
      · simp [mm_u2]; rfl
    · rw [hpl', hcnt] at hc14
      refine mv_if_ne 22 (pc := 17) d_By_next_17 (by decide) (fun z => absurd z (by decide)) (fun _ => ?_)
      refine mv_iconst (v := -1) (pc := 20) d_By_next_20 (by decide) ?_
      refine mv_iret (pc := 21) d_By_next_21 rfl rfl ?_
      have hge : bs.length ≤ p + i := by
        rcases Nat.lt_or_ge (p + i) bs.length with hlt | hge
        · exact absurd ⟨nI_pos' (by omega), nI_lt hlt (by omega)⟩ hc14
        · exact hge
      have he : p + i = bs.length := by omega
      exact hq0 (by omega) F hf (by rw [hpl, he])
set_option maxRecDepth 20000 in
theorem c_byNext {G : mm_G} {Q : mm_O → mm_H → Prop} {h : mm_H} {y N n p : Nat} {bs : List Int32} (hy : mm_Bo h y N) (hn : n ≤ 4) (hN : bs.length ≤ N) (hB : mm_By (mm_gi h) y bs) (hp : p ≤ bs.length) (hpl : mm_gi h y 2 = nI p) (hq : p + n ≤ bs.length → ∀ F', mm_pfr y (mm_gi h) F' → F' y 2 = nI (p + n) → Q (.inl (some (.int (mm_dec bs p n)))) (mm_wi h F')) (hq0 : bs.length < p + n → ∀ F', mm_pfr y (mm_gi h) F' → F' y 2 = nI bs.length → Q (.inl (some (.int (-1)))) (mm_wi h F')) : mm_V G (1, 21) M_By_next Q 0 (mm_ent 4 [.ref y, .int (nI n)]) [] h := by
  show mm_V G (1, 21) M_By_next Q 0 [some (.ref y), some (.int (nI n)), none, none] [] h
  refine mv_iconst (v := 0) (pc := 0) d_By_next_0 (by decide) ?_
  refine mv_istore_n (pc := 1) d_By_next_1 (by decide) ?_
  refine mv_iconst (v := 0) (pc := 2) d_By_next_2 (by decide) ?_
  refine mv_istore_n (pc := 3) d_By_next_3 (by decide) ?_
  exact l_byNext hy hn hN (mm_gi h) hB hp hq hq0 0 (mm_gi h) (by omega) ⟨fun _ _ _ => rfl, hpl, hp⟩
set_option maxRecDepth 20000 in
theorem l_byCheck {G : mm_G} {Q : mm_O → mm_H → Prop} {h : mm_H} {y N n : Nat} {bs : List Int32} (hy : mm_Bo h y N) (hN : bs.length ≤ N) (hB : mm_By (mm_gi h) y bs) (hn : n ≤ bs.length)
    (hq : Q (.inl (some (.int ((mm_chd bs n <<< ((8 : Int32) &&& 31)) ||| mm_chc bs n)))) h) :
    ∀ (i : Nat) (u : Unit), i ≤ n → True → mm_V G (0, 0) M_By_checkOfFirst Q 7 [some (.ref y), some (.int (nI n)), some (.int (mm_chc bs i)), some (.int (mm_chd bs i)), some (.int (nI i))] [] h := by
  have hlen := hy.2.2.2
  refine mr_loop _ _ n (fun _ _ => ?_) (fun i _ hi _ ih => ?_)
  · refine mv_iload (pc := 7) d_By_checkOfFirst_7 rfl ?_
    refine mv_iload_n (pc := 9) d_By_checkOfFirst_9 rfl ?_
    refine mv_ic_ge 50 (pc := 10) d_By_checkOfFirst_10 (by decide) (fun h10 => ?_) (fun z => absurd z (fun z => z (nI_le (Nat.le_refl _) (by omega))))
    refine mv_iload_n (pc := 50) d_By_checkOfFirst_50 rfl ?_
    refine mv_bipush (v := 8) (pc := 51) d_By_checkOfFirst_51 (by decide) ?_
    refine mv_ishl (pc := 53) d_By_checkOfFirst_53 ?_
    refine mv_iload_n (pc := 54) d_By_checkOfFirst_54 rfl ?_
    refine mv_ior (pc := 55) d_By_checkOfFirst_55 ?_
    refine mv_iret (pc := 56) d_By_checkOfFirst_56 rfl rfl ?_
    exact hq
  · refine mv_iload (pc := 7) d_By_checkOfFirst_7 rfl ?_
    refine mv_iload_n (pc := 9) d_By_checkOfFirst_9 rfl ?_
    refine mv_ic_ge 50 (pc := 10) d_By_checkOfFirst_10 (by decide) (fun z => absurd z (nI_ge hi (by omega))) (fun h10 => ?_)
    refine mv_iload (pc := 13) d_By_checkOfFirst_13 rfl ?_
    refine mv_aload_n (pc := 15) d_By_checkOfFirst_15 rfl ?_
    refine mr_geti (pc := 16) d_By_checkOfFirst_16 fl_By_15 hy.1 rfl (by decide) ?_
    refine mv_ic_ge 50 (pc := 19) d_By_checkOfFirst_19 (by decide) (fun z => absurd z (by rw [hB.1]; exact nI_ge (by omega) (by omega))) (fun h19 => ?_)
    refine mv_iload_n (pc := 22) d_By_checkOfFirst_22 rfl ?_
    refine mv_aload_n (pc := 23) d_By_checkOfFirst_23 rfl ?_
    refine mr_getr (pc := 24) d_By_checkOfFirst_24 fl_By_9 hy.1 rfl (by decide) hy.2.2.1 ?_
    refine mv_iload (pc := 27) d_By_checkOfFirst_27 rfl ?_
    refine mr_iald (pc := 29) d_By_checkOfFirst_29 hy.2.1 (vp_in_nI (by omega) (by omega)) ?_
    rw [nI_clamp (by omega), hB.2 i (by omega)]
    refine mv_iadd (pc := 30) d_By_checkOfFirst_30 ?_
    refine mv_sipush (v := 251) (pc := 31) d_By_checkOfFirst_31 (by decide) ?_
    refine mv_irem (pc := 34) d_By_checkOfFirst_34 (by decide) ?_
    refine mv_istore_n (pc := 35) d_By_checkOfFirst_35 (by decide) ?_
    refine mv_iload_n (pc := 36) d_By_checkOfFirst_36 rfl ?_
    refine mv_iload_n (pc := 37) d_By_checkOfFirst_37 rfl ?_
    refine mv_iadd (pc := 38) d_By_checkOfFirst_38 ?_
    refine mv_sipush (v := 251) (pc := 39) d_By_checkOfFirst_39 (by decide) ?_
    refine mv_irem (pc := 42) d_By_checkOfFirst_42 (by decide) ?_
    refine mv_istore_n (pc := 43) d_By_checkOfFirst_43 (by decide) ?_
    refine mv_iinc (pc := 44) d_By_checkOfFirst_44 rfl rfl (by decide) ?_
    refine mv_goto 7 (pc := 47) d_By_checkOfFirst_47 (by decide) ?_
    refine mm_V_ls (ls' := [some (.ref y), some (.int (nI n)), some (.int (mm_chc bs (i + 1))), some (.int (mm_chd bs (i + 1))), some (.int (nI (i + 1)))]) ?_ (ih () trivial)
    simp only [List.set, mm_chc, mm_chd]
    rw [nI_succ]
    rfl
set_option maxRecDepth 20000 in
theorem c_byCheck {G : mm_G} {Q : mm_O → mm_H → Prop} {h : mm_H} {y N n : Nat} {bs : List Int32} (hy : mm_Bo h y N) (hN : bs.length ≤ N) (hB : mm_By (mm_gi h) y bs) (hn : n ≤ bs.length) (hq : Q (.inl (some (.int ((mm_chd bs n <<< ((8 : Int32) &&& 31)) ||| mm_chc bs n)))) h) : mm_V G (0, 0) M_By_checkOfFirst Q 0 (mm_ent 5 [.ref y, .int (nI n)]) [] h := by
  show mm_V G (0, 0) M_By_checkOfFirst Q 0 [some (.ref y), some (.int (nI n)), none, none, none] [] h
  refine mv_iconst (v := 1) (pc := 0) d_By_checkOfFirst_0 (by decide) ?_
  refine mv_istore_n (pc := 1) d_By_checkOfFirst_1 (by decide) ?_
  refine mv_iconst (v := 0) (pc := 2) d_By_checkOfFirst_2 (by decide) ?_
  refine mv_istore_n (pc := 3) d_By_checkOfFirst_3 (by decide) ?_
  refine mv_iconst (v := 0) (pc := 4) d_By_checkOfFirst_4 (by decide) ?_
  refine mv_istore (pc := 5) d_By_checkOfFirst_5 (by decide) ?_
  exact l_byCheck hy hN hB hn hq 0 () (by omega) trivial
