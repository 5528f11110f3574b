/-! THE LAW: its loop and its start (rows by program: con_law2.py) -/
theorem mm_lw {i L : Nat} (hi : i ≤ 2048) (hL : L ≤ 2048) : (Int32.ofNat L - 4 < nI i) ↔ L < i + 4 := by
  have e1 : (nI i).toInt = (i : Int) := nI_toInt (by omega)
  have e2 : (Int32.ofNat L).toInt = (L : Int) := nI_toInt (n := L) (by omega)
  have e3 := i_sub (x := Int32.ofNat L) (y := 4) (by rw [e2, i_4]; omega) (by rw [e2, i_4]; omega)
  rw [Int32.lt_iff_toInt_lt, e3, e1, e2, i_4]
  omega
set_option maxRecDepth 20000 in
theorem l_law {P : State → Prop} {G : mm_G} {Q : mm_O → mm_H → Prop} {L : Nat} {xs : Nat → Int32} (hP : ∀ s, P s → va_X (mm_sc G) L xs s s.heap) (hG : G.1.stackTraces = false) (hL : L ≤ 2048) (hBC : 600 ≤ mm_BC G) (hBS : 9000 ≤ mm_BS G) (hq : ∀ h', Q (.inl (some (.int 1))) h') :
    ∀ (t : Nat) (h : mm_H), t ≤ L / 4 → LI t h → mm_VP P G (9, 178) M_La_law Q 23 [some (.ref 0), some (.ref 1), some (.ref 52), some (.ref 71), some (.int (nI (4 * t))), none, none] [] h := by
  refine mr_loop _ _ (L / 4) (fun h hI => ?_) (fun t h htl hI ih => ?_)
  · obtain ⟨t, et⟩ : ∃ t, t = L / 4 := ⟨_, rfl⟩
    rw [← et]
    refine mp_iload (pc := 23) d_La_law_23 rfl ?_
    refine mp_aload_n (pc := 25) d_La_law_25 rfl ?_
    refine mp_slen hP (pc := 26) d_La_law_26 ?_
    refine mp_iconst (v := 4) (pc := 27) d_La_law_27 (by decide) ?_
    refine mp_isub (pc := 28) d_La_law_28 ?_
    refine mp_ic_gt 1038 (pc := 29) d_La_law_29 (by decide) (fun h29 => ?_) (fun z => absurd z (fun z => z ((mm_lw (by omega) hL).mpr (by omega))))
    refine mp_iconst (v := 1) (pc := 1038) d_La_law_1038 (by decide) ?_
    refine mp_iret (pc := 1039) d_La_law_1039 rfl rfl ?_
    exact hq h
  · have hi : 4 * t + 4 ≤ L := by omega
    have ht : t ≤ 512 := by omega
    have hk : ∀ h', LI (t + 1) h' → mm_VP P G (9, 178) M_La_law Q 1032 [some (.ref 0), some (.ref 1), some (.ref 52), some (.ref 71), some (.int (nI (4 * t))), none, none] [] h' := by
      intro h' q
      refine mp_iinc (pc := 1032) d_La_law_1032 rfl rfl (by decide) ?_
      refine mp_goto 23 (pc := 1035) d_La_law_1035 (by decide) ?_
      exact mm_VP_ls (ls' := [some (.ref 0), some (.ref 1), some (.ref 52), some (.ref 71), some (.int (nI (4 * (t + 1)))), none, none]) (by simp only [List.set]; rw [show 4 * (t + 1) = 4 * t + 4 by omega, ← nI_add]; rfl) (ih h' q)
    obtain ⟨w, w2, A, E, sv, lg, hT, hM, hO, hC, hS, hW, hE, hbs, hbl, hcc, hss⟩ := id hI
    refine mp_iload (pc := 23) d_La_law_23 rfl ?_
    refine mp_aload_n (pc := 25) d_La_law_25 rfl ?_
    refine mp_slen hP (pc := 26) d_La_law_26 ?_
    refine mp_iconst (v := 4) (pc := 27) d_La_law_27 (by decide) ?_
    refine mp_isub (pc := 28) d_La_law_28 ?_
    refine mp_ic_gt 1038 (pc := 29) d_La_law_29 (by decide) (fun z => absurd z (fun z => absurd ((mm_lw (by omega) hL).mp z) (by omega))) (fun h29 => ?_)
    refine mp_aload_n (pc := 32) d_La_law_32 rfl ?_
    refine mp_iload (pc := 33) d_La_law_33 rfl ?_
    refine mp_sld hP (pc := 35) d_La_law_35 (mm_inN (n := 4 * t) (by omega) (by omega)) ?_
    rw [mm_cl (n := 4 * t) (by omega)]
    refine mp_bipush (v := 31) (pc := 36) d_La_law_36 (by decide) ?_
    refine mp_iand (pc := 38) d_La_law_38 ?_
    generalize xs (4 * t) &&& 31 = K
    by_cases hs0 : K = 0
    · refine mp_tabIn 124 (pc := 39) d_La_law_39 (by rw [hs0]; decide) (by rw [hs0]; decide) (by rw [hs0]; rfl) (by decide) ?_
      exact k_create (i := 4 * t) hP hG hL hi ht hBC hBS hT hM hO hC hS hW hE hbs hbl hcc hss hk
    by_cases hs1 : K = 1
    · refine mp_tabIn 192 (pc := 39) d_La_law_39 (by rw [hs1]; decide) (by rw [hs1]; decide) (by rw [hs1]; rfl) (by decide) ?_
      exact k_destroy (i := 4 * t) hP hG hL hi ht hBC hBS hT hM hO hC hS hW hE hbs hbl hcc hss hk
    by_cases hs2 : K = 2
    · refine mp_tabIn 228 (pc := 39) d_La_law_39 (by rw [hs2]; decide) (by rw [hs2]; decide) (by rw [hs2]; rfl) (by decide) ?_
      exact k_speed (i := 4 * t) hP hG hL hi ht hBC hBS hT hM hO hC hS hW hE hbs hbl hcc hss hk
    by_cases hs3 : K = 3
    · refine mp_tabIn 288 (pc := 39) d_La_law_39 (by rw [hs3]; decide) (by rw [hs3]; decide) (by rw [hs3]; rfl) (by decide) ?_
      exact k_shape (i := 4 * t) hP hG hL hi ht hBC hBS hT hM hO hC hS hW hE hbs hbl hcc hss hk
    by_cases hs4 : K = 4
    · refine mp_tabIn 348 (pc := 39) d_La_law_39 (by rw [hs4]; decide) (by rw [hs4]; decide) (by rw [hs4]; rfl) (by decide) ?_
      exact k_timer (i := 4 * t) hP hG hL hi ht hBC hBS hT hM hO hC hS hW hE hbs hbl hcc hss hk
    by_cases hs5 : K = 5
    · refine mp_tabIn 396 (pc := 39) d_La_law_39 (by rw [hs5]; decide) (by rw [hs5]; decide) (by rw [hs5]; rfl) (by decide) ?_
      exact k_tick (i := 4 * t) hP hG hL hi ht hBC hBS hT hM hO hC hS hW hE hbs hbl hcc hss hk
    by_cases hs6 : K = 6
    · refine mp_tabIn 452 (pc := 39) d_La_law_39 (by rw [hs6]; decide) (by rw [hs6]; decide) (by rw [hs6]; rfl) (by decide) ?_
      exact k_event (i := 4 * t) hP hG hL hi ht hBC hBS hT hM hO hC hS hW hE hbs hbl hcc hss hk
    by_cases hs7 : K = 7
    · refine mp_tabIn 520 (pc := 39) d_La_law_39 (by rw [hs7]; decide) (by rw [hs7]; decide) (by rw [hs7]; rfl) (by decide) ?_
      exact k_good (i := 4 * t) hP hG hL hi ht hBC hBS hT hM hO hC hS hW hE hbs hbl hcc hss hk
    by_cases hs8 : K = 8
    · refine mp_tabIn 545 (pc := 39) d_La_law_39 (by rw [hs8]; decide) (by rw [hs8]; decide) (by rw [hs8]; rfl) (by decide) ?_
      exact k_about (i := 4 * t) hP hG hL hi ht hBC hBS hT hM hO hC hS hW hE hbs hbl hcc hss hk
    by_cases hs9 : K = 9
    · refine mp_tabIn 613 (pc := 39) d_La_law_39 (by rw [hs9]; decide) (by rw [hs9]; decide) (by rw [hs9]; rfl) (by decide) ?_
      exact k_handleOf (i := 4 * t) hP hG hL hi ht hBC hBS hT hM hO hC hS hW hE hbs hbl hcc hss hk
    by_cases hs10 : K = 10
    · refine mp_tabIn 669 (pc := 39) d_La_law_39 (by rw [hs10]; decide) (by rw [hs10]; decide) (by rw [hs10]; rfl) (by decide) ?_
      exact k_under (i := 4 * t) hP hG hL hi ht hBC hBS hT hM hO hC hS hW hE hbs hbl hcc hss hk
    by_cases hs11 : K = 11
    · refine mp_tabIn 737 (pc := 39) d_La_law_39 (by rw [hs11]; decide) (by rw [hs11]; decide) (by rw [hs11]; rfl) (by decide) ?_
      exact k_clock (i := 4 * t) hP hG hL hi ht hBC hBS hT hM hO hC hS hW hE hbs hbl hcc hss hk
    by_cases hs12 : K = 12
    · refine mp_tabIn 750 (pc := 39) d_La_law_39 (by rw [hs12]; decide) (by rw [hs12]; decide) (by rw [hs12]; rfl) (by decide) ?_
      exact k_save (i := 4 * t) hP hG hL hi ht hBC hBS hT hM hO hC hS hW hE hbs hbl hcc hss hk
    by_cases hs13 : K = 13
    · refine mp_tabIn 763 (pc := 39) d_La_law_39 (by rw [hs13]; decide) (by rw [hs13]; decide) (by rw [hs13]; rfl) (by decide) ?_
      exact k_load (i := 4 * t) hP hG hL hi ht hBC hBS hT hM hO hC hS hW hE hbs hbl hcc hss hk
    by_cases hs14 : K = 14
    · refine mp_tabIn 787 (pc := 39) d_La_law_39 (by rw [hs14]; decide) (by rw [hs14]; decide) (by rw [hs14]; rfl) (by decide) ?_
      exact k_replay (i := 4 * t) hP hG hL hi ht hBC hBS hT hM hO hC hS hW hE hbs hbl hcc hss hk
    by_cases hs15 : K = 15
    · refine mp_tabIn 831 (pc := 39) d_La_law_39 (by rw [hs15]; decide) (by rw [hs15]; decide) (by rw [hs15]; rfl) (by decide) ?_
      exact k_size (i := 4 * t) hP hG hL hi ht hBC hBS hT hM hO hC hS hW hE hbs hbl hcc hss hk
    by_cases hs16 : K = 16
    · refine mp_tabIn 872 (pc := 39) d_La_law_39 (by rw [hs16]; decide) (by rw [hs16]; decide) (by rw [hs16]; rfl) (by decide) ?_
      exact k_at (i := 4 * t) hP hG hL hi ht hBC hBS hT hM hO hC hS hW hE hbs hbl hcc hss hk
    by_cases hs17 : K = 17
    · refine mp_tabIn 956 (pc := 39) d_La_law_39 (by rw [hs17]; decide) (by rw [hs17]; decide) (by rw [hs17]; rfl) (by decide) ?_
      exact k_corrupt (i := 4 * t) hP hG hL hi ht hBC hBS hT hM hO hC hS hW hE hbs hbl hcc hss hk
    refine mp_tabOut 1032 (pc := 39) d_La_law_39 (by have t0 : ¬ K.toInt = 0 := fun z => hs0 (Int32.toInt_inj.mp (z.trans (by decide))); have t1 : ¬ K.toInt = 1 := fun z => hs1 (Int32.toInt_inj.mp (z.trans (by decide))); have t2 : ¬ K.toInt = 2 := fun z => hs2 (Int32.toInt_inj.mp (z.trans (by decide))); have t3 : ¬ K.toInt = 3 := fun z => hs3 (Int32.toInt_inj.mp (z.trans (by decide))); have t4 : ¬ K.toInt = 4 := fun z => hs4 (Int32.toInt_inj.mp (z.trans (by decide))); have t5 : ¬ K.toInt = 5 := fun z => hs5 (Int32.toInt_inj.mp (z.trans (by decide))); have t6 : ¬ K.toInt = 6 := fun z => hs6 (Int32.toInt_inj.mp (z.trans (by decide))); have t7 : ¬ K.toInt = 7 := fun z => hs7 (Int32.toInt_inj.mp (z.trans (by decide))); have t8 : ¬ K.toInt = 8 := fun z => hs8 (Int32.toInt_inj.mp (z.trans (by decide))); have t9 : ¬ K.toInt = 9 := fun z => hs9 (Int32.toInt_inj.mp (z.trans (by decide))); have t10 : ¬ K.toInt = 10 := fun z => hs10 (Int32.toInt_inj.mp (z.trans (by decide))); have t11 : ¬ K.toInt = 11 := fun z => hs11 (Int32.toInt_inj.mp (z.trans (by decide))); have t12 : ¬ K.toInt = 12 := fun z => hs12 (Int32.toInt_inj.mp (z.trans (by decide))); have t13 : ¬ K.toInt = 13 := fun z => hs13 (Int32.toInt_inj.mp (z.trans (by decide))); have t14 : ¬ K.toInt = 14 := fun z => hs14 (Int32.toInt_inj.mp (z.trans (by decide))); have t15 : ¬ K.toInt = 15 := fun z => hs15 (Int32.toInt_inj.mp (z.trans (by decide))); have t16 : ¬ K.toInt = 16 := fun z => hs16 (Int32.toInt_inj.mp (z.trans (by decide))); have t17 : ¬ K.toInt = 17 := fun z => hs17 (Int32.toInt_inj.mp (z.trans (by decide))); omega) (by decide) ?_
    exact hk h hI.next
set_option maxRecDepth 20000 in
theorem c_law {P : State → Prop} {G : mm_G} {Q : mm_O → mm_H → Prop} {L : Nat} {xs : Nat → Int32} (hP : ∀ s, P s → va_X (mm_sc G) L xs s s.heap) (hG : G.1.stackTraces = false) (hL : L ≤ 2048) (hBC : 600 ≤ mm_BC G) (hBS : 9000 ≤ mm_BS G) {h : mm_H} (hn : mm_n h = 1) (hz : mm_c h + 1 = 1) (hs9 : mm_s h = 0) (hZ : mm_zz 0 h) (hq : ∀ h', Q (.inl (some (.int 1))) h') : mm_VP P G (9, 178) M_La_law Q 0 (mm_ent 7 [.ref 0]) [] h := by
  show mm_VP P G (9, 178) M_La_law Q 0 [some (.ref 0), none, none, none, none, none, none] [] h
  refine mp_new (pc := 0) d_La_law_0 nl_La_8 (by first | (rw [hn]; decide +kernel) | (simp only [mm_nn, mm_ns, hn]; decide +kernel)) (by first | omega | (simp only [mm_nn, mm_ns, mm_cn, mm_cs, mm_sn, mm_ss] <;> omega)) (by first | omega | (simp only [mm_nn, mm_ns, mm_cn, mm_cs, mm_sn, mm_ss] <;> omega)) (by first | omega | (simp only [mm_nn, mm_ns, mm_cn, mm_cs, mm_sn, mm_ss] <;> omega)) ?_
  simp only [mm_nn, mm_ns, hn, Nat.reduceAdd]
  refine mp_dup (pc := 3) d_La_law_3 rfl ?_
  refine mrp_callI0 (pc := 4) d_La_law_4 (d2 := (4, 88)) ok_Ta_init li_La_67 ⟨rfl, rfl⟩ sv_Ta_init sw_Ta_init (by decide) ⟨by decide, Nat.le_of_ble_eq_true rfl, rfl, by decide, by decide⟩ ?_
  refine c_Ta_init (by first | omega | (simp only [mm_nn, mm_ns, mm_cn, mm_cs, mm_sn, mm_ss] <;> omega)) (by first | omega | (simp only [mm_nn, mm_ns, mm_cn, mm_cs, mm_sn, mm_ss] <;> omega)) (by first | omega | (simp only [mm_nn, mm_ns, mm_cn, mm_cs, mm_sn, mm_ss] <;> omega)) (by first | omega | (simp only [mm_nn, mm_ns, mm_cn, mm_cs, mm_sn, mm_ss] <;> omega)) (hZ.new 4) (fun h1 hT1 hC1 n1 c1 s1 z1 => ?_)
  simp only [mm_nn, mm_ns, mm_cn, mm_cs, mm_sn, mm_ss] at s1
  refine mp_astore_n (pc := 7) d_La_law_7 (by decide) ?_
  refine mp_new (pc := 8) d_La_law_8 nl_La_68 (by first | (rw [n1]; decide +kernel) | (simp only [mm_nn, mm_ns, n1]; decide +kernel)) (by first | omega | (simp only [mm_nn, mm_ns, mm_cn, mm_cs, mm_sn, mm_ss] <;> omega)) (by first | omega | (simp only [mm_nn, mm_ns, mm_cn, mm_cs, mm_sn, mm_ss] <;> omega)) (by first | omega | (simp only [mm_nn, mm_ns, mm_cn, mm_cs, mm_sn, mm_ss] <;> omega)) ?_
  simp only [mm_nn, mm_ns, n1, Nat.reduceAdd]
  refine mp_dup (pc := 11) d_La_law_11 rfl ?_
  refine mrp_callI0 (pc := 12) d_La_law_12 (d2 := (3, 69)) ok_Mo_init li_La_70 ⟨rfl, rfl⟩ sv_Mo_init sw_Mo_init (by decide) ⟨by decide, Nat.le_of_ble_eq_true rfl, rfl, by decide, by decide⟩ ?_
  refine c_Mo_init (by first | omega | (simp only [mm_nn, mm_ns, mm_cn, mm_cs, mm_sn, mm_ss] <;> omega)) (by first | omega | (simp only [mm_nn, mm_ns, mm_cn, mm_cs, mm_sn, mm_ss] <;> omega)) (by first | omega | (simp only [mm_nn, mm_ns, mm_cn, mm_cs, mm_sn, mm_ss] <;> omega)) (by first | omega | (simp only [mm_nn, mm_ns, mm_cn, mm_cs, mm_sn, mm_ss] <;> omega)) (z1.new 24) (fun h2 hM2 hS2 n2 c2 s2 x2 => ?_)
  simp only [mm_nn, mm_ns, mm_cn, mm_cs, mm_sn, mm_ss] at s2
  refine mp_astore_n (pc := 15) d_La_law_15 (by decide) ?_
  refine mp_iconst (v := 1) (pc := 16) d_La_law_16 (by decide) ?_
  refine mp_newl (n := 1) (pc := 17) d_La_law_17 rfl w_along (by decide) rfl (by decide) (by first | (rw [n2]; decide +kernel) | (simp only [mm_nn, mm_ns, n2]; decide +kernel)) (by first | omega | (simp only [mm_nn, mm_ns, mm_cn, mm_cs, mm_sn, mm_ss] <;> omega)) (by first | omega | (simp only [mm_nn, mm_ns, mm_cn, mm_cs, mm_sn, mm_ss] <;> omega)) (by first | omega | (simp only [mm_nn, mm_ns, mm_cn, mm_cs, mm_sn, mm_ss] <;> omega)) ?_
  simp only [mm_nn, mm_ns, n2, Nat.reduceAdd]
  refine mp_astore_n (pc := 19) d_La_law_19 (by decide) ?_
  refine mp_iconst (v := 0) (pc := 20) d_La_law_20 (by decide) ?_
  refine mp_istore (pc := 21) d_La_law_21 (by decide) ?_
  have hx : mm_ext 52 h1 h2 := (mm_ext.rfl'.new (by first | omega | (simp only [mm_nn, mm_ns, mm_cn, mm_cs, mm_sn, mm_ss] <;> omega)) 24).trans x2 (by omega)
  have hy : mm_ext 71 h2 (mm_new h2 1) := mm_ext.rfl'.new (by omega) 1
  refine mm_VP_ls (ls' := [some (.ref 0), some (.ref 1), some (.ref 52), some (.ref 71), some (.int (nI (4 * 0))), none, none]) rfl ?_
  refine l_law hP hG hL hBC hBS hq 0 (mm_new h2 1) (by omega) ⟨2, 24, a_0, [], a_encW a_0, [], (hT1.ext hx (by omega)).ext hy (by omega), ⟨mm_atC (by decide +kernel) (by decide) (by rw [mm_nn]; omega), by rw [mm_nn]; omega, fun q hq => ?_⟩, mm_atC (by decide +kernel) (by decide) (by rw [mm_nn]; omega), ?_, ?_, WF_0, a_okE_nil, a_encW_byt a_0, a_byt.nil, by rw [mm_cn]; omega, by rw [mm_sn]; omega⟩
  · rw [(hy.2 52 q.1 (by omega)).2]; exact hM2.2.2 q hq
  · exact hC1.ofr (by omega) (fun a k ha => ((hy.2 a k (by omega)).1).trans (hx.2 a k ha).1)
  · have e9 : ∀ a k, a < 71 → mm_gi (mm_new h2 1) a k = mm_gi h2 a k := fun a k ha => (hy.2 a k ha).1
    exact ⟨hS2.1.same (fun a j h1 h2 => e9 a j (by omega)), hS2.2.1.off (fun a j h1 h2 => e9 a j (by omega)), ⟨(e9 52 16 (by omega)).trans hS2.2.2.1.1, fun j hj => (e9 68 j (by omega)).trans (hS2.2.2.1.2 j hj)⟩, ⟨(e9 52 18 (by omega)).trans hS2.2.2.2.1.1, fun j hj => (e9 69 j (by omega)).trans (hS2.2.2.2.1.2 j hj)⟩, hS2.2.2.2.2.1, hS2.2.2.2.2.2⟩
