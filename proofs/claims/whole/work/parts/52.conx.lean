/-! CONTRACTS: StateBytes: readInto; worlds that look alike as bytes are alike (rows by program: con_x.py) -/
theorem nI_enc1 {q : Nat} (h : q < 256) : mm_enc (nI q) 1 = [nI q] := by
  rw [mm_e1, pk_andN (m := 255) (by omega) 8 (by decide), Nat.mod_eq_of_lt (by omega)]
theorem mem_prs {T : Nat → Int32} {q : Nat} (hq : q < 256) : ∀ n, n ≤ 256 → (nI q ∈ a_prs T n ↔ q < n ∧ ¬ T q = 0)
  | 0, _ => by simp [a_prs]
  | n + 1, hn => by
    have ih := mem_prs (T := T) hq n (by omega)
    simp only [a_prs, List.mem_append, ih]
    by_cases c : T n = 0
    · simp only [c, if_true, List.not_mem_nil, or_false]
      constructor
      · rintro ⟨a, b⟩; exact ⟨by omega, b⟩
      · rintro ⟨a, b⟩
        refine ⟨?_, b⟩
        by_cases d : q = n
        · subst d; exact absurd c b
        · omega
    · simp only [c, if_false, nI_enc1 (q := n) (by omega), List.mem_singleton]
      rw [nI_eq (a := q) (b := n) (by omega) (by omega)]
      constructor
      · rintro (⟨a, b⟩ | rfl)
        · exact ⟨by omega, b⟩
        · exact ⟨by omega, c⟩
      · rintro ⟨a, b⟩
        by_cases d : q = n
        · exact Or.inr d
        · exact Or.inl ⟨by omega, b⟩
/-- alike in all that counts -/
def a_like (A B : mm_W) : Prop := A 10 0 = B 10 0 ∧ (∀ i, i < 16 → A 0 i = B 0 i ∧ A 1 i = B 1 i ∧ (¬ B 1 i = 0 → ∀ k, 2 ≤ k → k ≤ 8 → A k i = B k i)) ∧ ∀ p, p < 256 → A 9 p = B 9 p
theorem RC.like {F A B : mm_W} {w : Nat} (h : RC F w A) (e : a_like A B) : RC F w B := by
  refine ⟨h.1.trans e.1, fun i hi => ?_, fun p hp => (h.2.2 p hp).trans (e.2.2 p hp)⟩
  obtain ⟨a, b, c⟩ := h.2.1 i hi
  obtain ⟨d1, d2, d3⟩ := e.2.1 i hi
  exact ⟨a.trans d1, b.trans d2, fun z k k1 k2 => (c (by rw [d2]; exact z) k k1 k2).trans (d3 z k k1 k2)⟩
theorem RM.like {F A B : mm_W} {k : Nat} (h : RM F k A) (e : a_like A B) : RM F k B := by
  refine ⟨h.1.trans e.1, fun i hi => ?_, fun p hp => (h.2.2 p hp).trans (e.2.2 p hp)⟩
  obtain ⟨a, b, c⟩ := h.2.1 i hi
  obtain ⟨d1, d2, d3⟩ := e.2.1 i hi
  exact ⟨a.trans d1, b.trans d2, fun z k k1 k2 => (c (by rw [d2]; exact z) k k1 k2).trans (d3 z k k1 k2)⟩
theorem prs_tail {T T' : Nat → Int32} {u v : List Int32} (h1 : a_cnt T 256 ≤ 255) (h2 : a_cnt T' 256 ≤ 255) (e : mm_enc (nI (a_cnt T 256)) 1 ++ (a_prs T 256 ++ u) = mm_enc (nI (a_cnt T' 256)) 1 ++ (a_prs T' 256 ++ v)) : a_prs T 256 = a_prs T' 256 ∧ u = v := by
  obtain ⟨e1, e2⟩ := e_inj (by omega) (f_1 (mm_rng255 (by omega))) (f_1 (mm_rng255 (by omega))) e
  have e3 := (nI_eq (by omega) (by omega)).mp e1
  exact List.append_inj e2 (by rw [a_prs_len, a_prs_len, e3])
theorem WF.cnt {A : mm_W} (h : WF A) : a_cnt (A 9) 256 ≤ 120 := a_cnt_120 (T := A 9) (fun q hq z => ((h.2.2 q hq).2 z).1)
theorem encW_inj {A B : mm_W} (hA : WF A) (hB : WF B) (e : a_encW A = a_encW B) : a_like A B := by
  have ca := hA.cnt
  have cb := hB.cnt
  have ex : ∀ C : mm_W, a_encW C = mm_enc 84 1 ++ (mm_enc (C 10 0) 4 ++ (a_sls C 16 ++ (mm_enc (nI (a_cnt (C 9) 256)) 1 ++ (a_prs (C 9) 256 ++ mm_enc (a_chk (a_body C) (a_body C).length) 2)))) := fun C => by
    show a_body C ++ mm_enc (a_chk (a_body C) (a_body C).length) 2 = _
    simp only [a_body, List.append_assoc]
  rw [ex A, ex B] at e
  obtain ⟨-, e⟩ := e_inj (by omega) (f_1 (by decide)) (f_1 (by decide)) e
  obtain ⟨e0, e⟩ := e_inj (n := 4) (by omega) (by have := b_lt (A 10 0); omega) (by have := b_lt (B 10 0); omega) e
  obtain ⟨e, es⟩ := sls_inj (u := []) (v := []) 16 (fun i hi => hA.1 i hi) (fun i hi => hB.1 i hi) _ _ e
  obtain ⟨ep, -⟩ := prs_tail (by omega) (by omega) e
  refine ⟨e0, es, fun p hp => ?_⟩
  have m1 := mem_prs (T := A 9) hp 256 (by omega)
  have m2 := mem_prs (T := B 9) hp 256 (by omega)
  rw [ep] at m1
  have m3 := m1.symm.trans m2
  rcases (hA.2.2 p hp).1 with a | a <;> rcases (hB.2.2 p hp).1 with b | b
  · rw [a, b]
  · exact absurd a (m3.mpr ⟨hp, by rw [b]; decide⟩).2
  · exact absurd b (m3.mp ⟨hp, by rw [a]; decide⟩).2
  · rw [a, b]
theorem chk_use {bs : List Int32} (hb : a_byt bs) {A : mm_W} (e : bs = a_encW A) {p3 : Nat} (hp : p3 ≤ bs.length) (e3 : bs.drop p3 = mm_enc (a_chk (a_body A) (a_body A).length) 2) : mm_nv bs p3 2 = a_chk bs p3 ∧ bs.length ≤ mm_np bs p3 2 := by
  have hb2 := a_body_byt A
  obtain ⟨v1, e4⟩ := nv_use (r := []) hb (by omega) (by omega) (f_2 (a_chk_rng hb2 _)) (by rw [e3, List.append_nil])
  have e5 : bs = a_body A ++ mm_enc (a_chk (a_body A) (a_body A).length) 2 := e
  have l1 := congrArg List.length e5
  have l2 := congrArg List.length e3
  rw [List.length_append, mm_enc_len] at l1
  rw [List.length_drop, mm_enc_len] at l2
  have e6 : p3 = (a_body A).length := by omega
  obtain ⟨g1, g2⟩ := chk_app (a_body A) (mm_enc (a_chk (a_body A) (a_body A).length) 2) p3 (by omega)
  rw [← e5] at g1 g2
  refine ⟨?_, List.drop_eq_nil_iff.mp e4⟩
  rw [v1]
  unfold a_chk
  rw [g1, g2, e6]
theorem RC.same9 {F F' A : mm_W} {w : Nat} (h : RC F w A) (hf : ∀ a k, w ≤ a → a < w + 22 → F' a k = F a k) : RC F' w A := by
  refine ⟨by rw [hf w 3 (by omega) (by omega)]; exact h.1, fun i hi => ?_, fun p hp => by rw [hf _ p (by omega) (by omega)]; exact h.2.2 p hp⟩
  obtain ⟨q0, q1, q2⟩ := h.2.1 i hi
  exact ⟨by rw [hf _ 0 (by omega) (by omega)]; exact q0, by rw [hf _ 1 (by omega) (by omega)]; exact q1, fun z k k1 k2 => by rw [hf _ k (by omega) (by omega)]; exact q2 z k k1 k2⟩
set_option maxRecDepth 20000 in
theorem c_readInto {G : mm_G} {Q : mm_O → mm_H → Prop} {h : mm_H} {z y N w : Nat} {bs : List Int32} (hz : mm_Hd h z 4 y N) (hw : mm_Wd h w) (hd : y + 1 < w ∨ w + 22 ≤ y) (hb : a_byt bs) (hN : bs.length ≤ N) (hB : mm_By (mm_gi h) y bs) (hq1 : ∀ F' A, WF A → bs = a_encW A → RC F' w A → (∀ a k, (a < w ∨ w + 22 ≤ a ∨ a = w + 3 ∨ a = w + 4 ∨ a = w + 5) → ¬ (a = y ∧ k = 2) → F' a k = mm_gi h a k) → Q (.inl (some (.int 1))) (mm_wi h F')) (hq0 : ∀ F', ¬ a_snd bs → (∀ a k, (a < w ∨ w + 22 ≤ a ∨ a = w + 3 ∨ a = w + 4 ∨ a = w + 5) → ¬ (a = y ∧ k = 2) → F' a k = mm_gi h a k) → Q (.inl (some (.int 0))) (mm_wi h F')) : mm_V G (5, 114) M_Sb_readInto Q 0 (mm_ent 2 [.ref z, .ref w]) [] h := by
  show mm_V G (5, 114) M_Sb_readInto Q 0 [some (.ref z), some (.ref w)] [] h
  refine mv_aload_n (pc := 0) d_Sb_readInto_0 rfl ?_
  refine mr_getr (pc := 1) d_Sb_readInto_1 fl_Sb_14 hz.1 rfl (by decide) hz.2.1 ?_
  refine mv_iconst (v := 0) (pc := 4) d_Sb_readInto_4 (by decide) ?_
  refine mr_puti (pc := 5) d_Sb_readInto_5 fl_Sb_101 hz.2.2.1 rfl (by decide) ⟨rfl, rfl⟩ ?_
  have hB0 : mm_By (mm_gi (mm_si h y 2 0)) y bs := hB.pl _
  refine mv_aload_n (pc := 8) d_Sb_readInto_8 rfl ?_
  refine mv_aload_n (pc := 9) d_Sb_readInto_9 rfl ?_
  refine mr_callV1 (pc := 10) d_Sb_readInto_10 (d2 := (2, 44)) ok_Sb_readHead li_Sb_104 sv_Sb_readHead hz.1 ⟨by decide, rfl⟩ ⟨by decide, rfl, Nat.le_of_ble_eq_true rfl, rfl, by decide, by decide⟩ ?_
  refine c_readHead (h := mm_si h y 2 0) (p := 0) hz hw hd hb hN hB0 (by omega) (mm_gss _ _ _ _) (fun F1 t1 t2 t3 c1 => ?_) (fun F1 t1 t2 t3 c1 => ?_)
  · refine mv_if_eq 43 (pc := 13) d_Sb_readInto_13 (by decide) (fun z => absurd z (by decide)) (fun _ => ?_)
    refine mv_aload_n (pc := 16) d_Sb_readInto_16 rfl ?_
    refine mv_aload_n (pc := 17) d_Sb_readInto_17 rfl ?_
    refine mr_callV1 (pc := 18) d_Sb_readInto_18 (d2 := (4, 92)) ok_Sb_readSlots li_Sb_108 sv_Sb_readSlots hz.1 ⟨by decide, rfl⟩ ⟨by decide, rfl, Nat.le_of_ble_eq_true rfl, rfl, by decide, by decide⟩ ?_
    refine c_readSlots (h := mm_wi h F1) (p := (mm_np bs (mm_np bs 0 1) 4)) hz hw hd hb hN ⟨(t1 y 1 (by omega) (by omega)).trans hB0.1, fun j hj => (t1 (y + 1) j (by omega) (by omega)).trans (hB0.2 j hj)⟩ (mm_np_le _ _ _) t2 (fun F2 p2 r1 r2 r3 r4 r5 => ?_) (fun F2 r1 r2 => ?_)
    · refine mv_if_eq 43 (pc := 21) d_Sb_readInto_21 (by decide) (fun z => absurd z (by decide)) (fun _ => ?_)
      refine mv_aload_n (pc := 24) d_Sb_readInto_24 rfl ?_
      refine mv_aload_n (pc := 25) d_Sb_readInto_25 rfl ?_
      refine mr_callV1 (pc := 26) d_Sb_readInto_26 (d2 := (2, 44)) ok_Sb_readPairs li_Sb_111 sv_Sb_readPairs hz.1 ⟨by decide, rfl⟩ ⟨by decide, rfl, Nat.le_of_ble_eq_true rfl, rfl, by decide, by decide⟩ ?_
      refine c_readPairs (h := mm_wi h F2) (p := p2) hz hw hd hb hN ⟨(r1 y 1 (by omega) (by omega)).trans ((t1 y 1 (by omega) (by omega)).trans hB0.1), fun j hj => (r1 (y + 1) j (by omega) (by omega)).trans ((t1 (y + 1) j (by omega) (by omega)).trans (hB0.2 j hj))⟩ r3 r2 (fun F3 p3 q1 q2 q3 q4 q5 q6 => ?_) (fun F3 q1 q2 => ?_)
      · refine mv_if_eq 43 (pc := 29) d_Sb_readInto_29 (by decide) (fun z => absurd z (by decide)) (fun _ => ?_)
        refine mv_aload_n (pc := 32) d_Sb_readInto_32 rfl ?_
        refine mr_callV0 (pc := 33) d_Sb_readInto_33 (d2 := (2, 44)) ok_Sb_readCheck li_Sb_114 sv_Sb_readCheck hz.1 ⟨by decide, rfl⟩ ⟨by decide, Nat.le_of_ble_eq_true rfl, rfl, by decide, by decide⟩ ?_
        refine c_readCheck (h := mm_wi h F3) (p := p3) hz hb hN ⟨(q1 y 1 (by omega) (by omega)).trans ((r1 y 1 (by omega) (by omega)).trans ((t1 y 1 (by omega) (by omega)).trans hB0.1)), fun j hj => (q1 (y + 1) j (by omega) (by omega)).trans ((r1 (y + 1) j (by omega) (by omega)).trans ((t1 (y + 1) j (by omega) (by omega)).trans (hB0.2 j hj)))⟩ q3 q2 (fun k1 => ?_) (fun k1 => ?_)
        · refine mv_if_eq 43 (pc := 36) d_Sb_readInto_36 (by decide) (fun z => absurd z (by decide)) (fun _ => ?_)
          refine mv_iconst (v := 1) (pc := 39) d_Sb_readInto_39 (by decide) ?_
          refine mv_goto 44 (pc := 40) d_Sb_readInto_40 (by decide) ?_
          refine mv_iret (pc := 44) d_Sb_readInto_44 rfl rfl ?_
          have nyw : ¬ (y = w) := by omega
          have hw3 : F3 w 3 = mm_nv bs (mm_np bs 0 1) 4 := (q1 w 3 (by omega) (by omega)).trans ((r1 w 3 (by omega) (by omega)).trans t3)
          have hsl : ∀ i, i < 16 → F3 (w + 6 + i) = F2 (w + 6 + i) := fun i hi => funext fun k => q1 _ k (by omega) (by omega)
          have e84 := nv_pos hb (n := 1) (by omega) (show ¬ mm_nv bs 0 1 = -1 by rw [c1.1]; decide)
          have eck := nv_pos hb (n := 4) (by omega) (nv_ge (a := 0) (by decide) c1.2)
          have h0 : bs = mm_enc 84 1 ++ (mm_enc (F3 w 3) 4 ++ bs.drop (mm_np bs (mm_np bs 0 1) 4)) := by
            rw [hw3, ← eck]; rw [List.drop_zero, c1.1] at e84; exact e84
          have eof : a_sls (a_of F3 w) 16 = a_sls (a_of F2 w) 16 := a_sls_eq 16 (fun i hi k => by show F3 (w + 6 + i) k = F2 (w + 6 + i) k; rw [hsl i hi])
          obtain ⟨s1, s2⟩ := snd_of hb (F := F3) (w := w) h0 (by rw [hw3]; exact c1.2) (by rw [eof]; exact r4) (fun i hi => by rw [hsl i hi]; exact r5 i hi) q6 q3 q4 ⟨fun j hj z => by rw [hsl _ (by omega), hsl _ (by omega)]; exact q5.1 j hj z, q5.2⟩ k1
          refine hq1 _ (a_all9 F3 w) s1 s2 ?_ (fun a k ha hk => ?_)
          · exact (a_all9_RC F3 w).same9 (fun a k h1 h2 => by simp only [mm_usi, mm_u2, show ¬ a = y by omega, false_and, if_false]; rfl)
          · simp only [mm_usi, mm_u2, hk, if_false]; exact (q1 a k (by omega) hk).trans ((r1 a k (by omega) hk).trans ((t1 a k (by omega) hk).trans (by simp [mm_gsi, hk])))
        · refine mv_if_eq 43 (pc := 36) d_Sb_readInto_36 (by decide) (fun _ => ?_) (fun z => absurd z (by decide))
          refine mv_iconst (v := 0) (pc := 43) d_Sb_readInto_43 (by decide) ?_
          refine mv_iret (pc := 44) d_Sb_readInto_44 rfl rfl ?_
          have nyw : ¬ (y = w) := by omega
          refine hq0 _ ?_ (fun a k ha hk => ?_)
          · rintro ⟨A, hA, eA⟩
            obtain ⟨v1, v2, v3⟩ := snd_use hb hA eA
            rw [r4] at v3
            obtain ⟨e9, es⟩ := sls_inj (u := []) (v := []) 16 r5 (fun i hi => hA.1 i hi) _ _ v3
            rw [q6] at e9
            obtain ⟨-, e8⟩ := prs_tail q5.2 (by have := hA.cnt; omega) e9
            exact k1 (chk_use hb eA q3 e8)
          · simp only [mm_usi, mm_u2, hk, if_false]; exact (q1 a k (by omega) hk).trans ((r1 a k (by omega) hk).trans ((t1 a k (by omega) hk).trans (by simp [mm_gsi, hk])))
      · refine mv_if_eq 43 (pc := 29) d_Sb_readInto_29 (by decide) (fun _ => ?_) (fun z => absurd z (by decide))
        refine mv_iconst (v := 0) (pc := 43) d_Sb_readInto_43 (by decide) ?_
        refine mv_iret (pc := 44) d_Sb_readInto_44 rfl rfl ?_
        have nyw : ¬ (y = w) := by omega
        refine hq0 F3 ?_ (fun a k ha hk => (q1 a k (by omega) hk).trans ((r1 a k (by omega) hk).trans ((t1 a k (by omega) hk).trans (by simp [mm_gsi, hk]))))
        rintro ⟨A, hA, eA⟩
        obtain ⟨v1, v2, v3⟩ := snd_use hb hA eA
        rw [r4] at v3
        obtain ⟨e9, es⟩ := sls_inj (u := []) (v := []) 16 r5 (fun i hi => hA.1 i hi) _ _ v3
        exact q2 (A 9) _ (hA.okT (fun i hi => (es i hi).2.1)) e9
    · refine mv_if_eq 43 (pc := 21) d_Sb_readInto_21 (by decide) (fun _ => ?_) (fun z => absurd z (by decide))
      refine mv_iconst (v := 0) (pc := 43) d_Sb_readInto_43 (by decide) ?_
      refine mv_iret (pc := 44) d_Sb_readInto_44 rfl rfl ?_
      have nyw : ¬ (y = w) := by omega
      refine hq0 F2 ?_ (fun a k ha hk => (r1 a k (by omega) hk).trans ((t1 a k (by omega) hk).trans (by simp [mm_gsi, hk])))
      rintro ⟨A, hA, eA⟩
      obtain ⟨v1, v2, v3⟩ := snd_use hb hA eA
      exact r2 A _ (fun i hi => hA.1 i hi) v3
  · refine mv_if_eq 43 (pc := 13) d_Sb_readInto_13 (by decide) (fun _ => ?_) (fun z => absurd z (by decide))
    refine mv_iconst (v := 0) (pc := 43) d_Sb_readInto_43 (by decide) ?_
    refine mv_iret (pc := 44) d_Sb_readInto_44 rfl rfl ?_
    have nyw : ¬ (y = w) := by omega
    refine hq0 F1 ?_ (fun a k ha hk => (t1 a k (by omega) hk).trans (by simp [mm_gsi, hk]))
    rintro ⟨A, hA, eA⟩
    obtain ⟨v1, v2, v3⟩ := snd_use hb hA eA
    exact c1 ⟨v1, by rw [v2]; exact hA.2.1⟩
