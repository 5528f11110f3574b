/-! CONTRACTS: the constructors (rows by program: con_na.py) -/
theorem mm_nn (h : mm_H) (n : Nat) : mm_n (mm_new h n) = mm_n h + 1 := rfl
theorem mm_ns (h : mm_H) (a k : Nat) (x : Option Nat) : mm_n (mm_sr h a k x) = mm_n h := rfl
theorem mm_cn (h : mm_H) (n : Nat) : mm_c (mm_new h n) = mm_c h + 1 := rfl
theorem mm_cs (h : mm_H) (a k : Nat) (x : Option Nat) : mm_c (mm_sr h a k x) = mm_c h := rfl
theorem mm_sn (h : mm_H) (n : Nat) : mm_s (mm_new h n) = mm_s h + n := rfl
theorem mm_ss (h : mm_H) (a k : Nat) (x : Option Nat) : mm_s (mm_sr h a k x) = mm_s h := rfl
theorem mm_grn (h : mm_H) (n a k : Nat) : mm_gr (mm_new h n) a k = if a = mm_n h then none else mm_gr h a k := rfl
theorem mm_grs (h : mm_H) (b j : Nat) (x : Option Nat) (a k : Nat) : mm_gr (mm_sr h b j x) a k = if a = b ∧ k = j then x else mm_gr h a k := rfl
theorem mm_gin (h : mm_H) (n a k : Nat) : mm_gi (mm_new h n) a k = if a = mm_n h then 0 else mm_gi h a k := rfl
theorem mm_gis (h : mm_H) (b j : Nat) (x : Option Nat) (a k : Nat) : mm_gi (mm_sr h b j x) a k = mm_gi h a k := rfl
theorem mm_atC {h : mm_H} {a kd n : Nat} (h1 : mm_sh a = (kd, n)) (h2 : 0 < a) (h3 : a < mm_n h) : mm_at h a kd n := ⟨h1, h2, h3⟩
/-- from id b on all numbers are zero -/
def mm_zz (b : Nat) (h : mm_H) : Prop := ∀ a k, b ≤ a → mm_gi h a k = 0
theorem mm_zz.new {b : Nat} {h : mm_H} (z : mm_zz b h) (n : Nat) : mm_zz b (mm_new h n) := fun a k ha => by rw [mm_gin, z a k ha]; exact ite_self 0
theorem mm_zz.sr {b : Nat} {h : mm_H} (z : mm_zz b h) (c j : Nat) (x : Option Nat) : mm_zz b (mm_sr h c j x) := fun a k ha => z a k ha
/-- below id b nothing has changed -/
def mm_ext (b : Nat) (h h' : mm_H) : Prop := mm_n h ≤ mm_n h' ∧ ∀ a k, a < b → mm_gi h' a k = mm_gi h a k ∧ mm_gr h' a k = mm_gr h a k
theorem mm_ext.rfl' {b : Nat} {h : mm_H} : mm_ext b h h := ⟨Nat.le_refl _, fun _ _ _ => ⟨rfl, rfl⟩⟩
theorem mm_ext.trans {b b2 : Nat} {h h1 h2 : mm_H} (x : mm_ext b h h1) (y : mm_ext b2 h1 h2) (hb : b ≤ b2) : mm_ext b h h2 := ⟨Nat.le_trans x.1 y.1, fun a k ha => ⟨(y.2 a k (by omega)).1.trans (x.2 a k ha).1, (y.2 a k (by omega)).2.trans (x.2 a k ha).2⟩⟩
theorem mm_ext.new {b : Nat} {h0 h : mm_H} (x : mm_ext b h0 h) (hb : b ≤ mm_n h) (n : Nat) : mm_ext b h0 (mm_new h n) := ⟨Nat.le_trans x.1 (Nat.le_succ _), fun a k ha => by
  have n1 : ¬ a = mm_n h := by omega
  rw [mm_gin, mm_grn, if_neg n1, if_neg n1]; exact x.2 a k ha⟩
theorem mm_ext.sr {b : Nat} {h0 h : mm_H} (x : mm_ext b h0 h) {c : Nat} (hb : b ≤ c) (j : Nat) (v : Option Nat) : mm_ext b h0 (mm_sr h c j v) := ⟨x.1, fun a k ha => by
  have n1 : ¬ (a = c ∧ k = j) := by omega
  rw [mm_gis, mm_grs, if_neg n1]; exact x.2 a k ha⟩
theorem mm_at.ext {h h' : mm_H} {a kd n : Nat} (x : mm_at h a kd n) (hn : mm_n h ≤ mm_n h') : mm_at h' a kd n := ⟨x.1, x.2.1, Nat.lt_of_lt_of_le x.2.2 hn⟩
theorem mm_Ev.ext {h h' : mm_H} {e b : Nat} (x : mm_Ev h e) (y : mm_ext b h h') (hb : e + 1 ≤ b) : mm_Ev h' e := ⟨x.1.ext y.1, x.2.1.ext y.1, x.2.2.1.ext y.1, (y.2 e 0 (by omega)).2.trans x.2.2.2.1, (y.2 e 1 (by omega)).2.trans x.2.2.2.2⟩
theorem mm_Bo.ext {h h' : mm_H} {e b N : Nat} (x : mm_Bo h e N) (y : mm_ext b h h') (hb : e + 1 ≤ b) : mm_Bo h' e N := ⟨x.1.ext y.1, x.2.1.ext y.1, (y.2 e 0 (by omega)).2.trans x.2.2.1, x.2.2.2⟩
theorem mm_Hd.ext {h h' : mm_H} {z kd y b N : Nat} (x : mm_Hd h z kd y N) (e : mm_ext b h h') (h1 : z + 1 ≤ b) (h2 : y + 1 ≤ b) : mm_Hd h' z kd y N := ⟨x.1.ext e.1, (e.2 z 0 (by omega)).2.trans x.2.1, x.2.2.ext e h2⟩
theorem mm_Wd.ext {h h' : mm_H} {w b : Nat} (x : mm_Wd h w) (y : mm_ext b h h') (hb : w + 22 ≤ b) : mm_Wd h' w := ⟨x.1.ext y.1, x.2.1.ext y.1, x.2.2.1.ext y.1, x.2.2.2.1.ext y (by omega), fun i hi => (x.2.2.2.2.1 i hi).ext y.1, (y.2 w 0 (by omega)).2.trans x.2.2.2.2.2.1, (y.2 w 1 (by omega)).2.trans x.2.2.2.2.2.2.1, (y.2 w 2 (by omega)).2.trans x.2.2.2.2.2.2.2.1, fun i hi => (y.2 (w + 1) i (by omega)).2.trans (x.2.2.2.2.2.2.2.2 i hi)⟩
theorem mm_Ta.ext {h h' : mm_H} {w w2 b : Nat} (x : mm_Ta h w w2) (y : mm_ext b h h') (hb : 52 ≤ b) : mm_Ta h' w w2 := by
  have hle := x.le
  exact ⟨x.1.ext y.1, (y.2 1 0 (by omega)).2.trans x.2.1, (y.2 1 1 (by omega)).2.trans x.2.2.1, (y.2 1 2 (by omega)).2.trans x.2.2.2.1, (y.2 1 3 (by omega)).2.trans x.2.2.2.2.1, x.2.2.2.2.2.1.ext y (by omega) (by omega), x.2.2.2.2.2.2.1.ext y (by omega) (by omega), x.2.2.2.2.2.2.2.1.ext y (by omega), x.2.2.2.2.2.2.2.2.1.ext y (by omega), x.2.2.2.2.2.2.2.2.2⟩
set_option maxRecDepth 20000 in
theorem c_Sl_init {G : mm_G} {Q : mm_O → mm_H → Prop} {h : mm_H} {a : Nat} (hq : Q (.inl none) h) : mm_V G (1, 20) M_Sl_init Q 0 (mm_ent 1 [.ref a]) [] h := by
  show mm_V G (1, 20) M_Sl_init Q 0 [some (.ref a)] [] h
  refine mv_aload_n (pc := 0) d_Sl_init_0 rfl ?_
  refine mv_objInit (pc := 1) d_Sl_init_1 oi_Sl_3 w_oi w_oc (Nat.le_of_ble_eq_true rfl) (by decide) ?_
  refine mv_ret (pc := 4) d_Sl_init_4 rfl ?_
  exact hq
set_option maxRecDepth 20000 in
theorem c_Ev_init_5 {G : mm_G} {Q : mm_O → mm_H → Prop} {h : mm_H} {b : Nat} (hn : mm_n h = 6) (hz : mm_c h + 1 = 6) (hb : mm_c h + 2 ≤ mm_BC G) (hs9 : mm_s h + 240 ≤ mm_BS G) (hZ : mm_zz b h) (hq : ∀ h', mm_n h' = 8 → mm_c h' + 1 = 8 → mm_s h' = mm_s h + 240 → mm_zz b h' → mm_ext 5 h h' → mm_Ev h' 5 → Q (.inl none) h') : mm_V G (1, 20) M_Ev_init Q 0 (mm_ent 1 [.ref 5]) [] h := by
  show mm_V G (1, 20) M_Ev_init Q 0 [some (.ref 5)] [] h
  refine mv_aload_n (pc := 0) d_Ev_init_0 rfl ?_
  refine mv_objInit (pc := 1) d_Ev_init_1 oi_Ev_3 w_oi w_oc (Nat.le_of_ble_eq_true rfl) (by decide) ?_
  refine mv_aload_n (pc := 4) d_Ev_init_4 rfl ?_
  refine mv_bipush (v := 120) (pc := 5) d_Ev_init_5 (by decide) ?_
  refine mv_newi (n := 120) (pc := 7) d_Ev_init_7 rfl w_aint (by decide) rfl (by decide) (by first | (rw [hn]; decide +kernel) | (simp only [mm_nn, mm_ns, hn]; decide +kernel)) (by first | omega | (simp only [mm_nn, mm_ns, mm_cn, mm_cs, mm_sn, mm_ss] <;> omega)) (by first | omega | (simp only [mm_nn, mm_ns, mm_cn, mm_cs, mm_sn, mm_ss] <;> omega)) (by first | omega | (simp only [mm_nn, mm_ns, mm_cn, mm_cs, mm_sn, mm_ss] <;> omega)) ?_
  simp only [mm_nn, mm_ns, hn, Nat.reduceAdd]
  refine mr_putF (pc := 9) d_Ev_init_9 ff_Ev_9 (mm_atC (a := 5) (kd := 1) (n := 3) (by decide +kernel) (by decide) (by first | omega | (simp only [mm_nn, mm_ns, mm_cn, mm_cs, mm_sn, mm_ss] <;> omega))) rfl (by decide) (by decide) (fun _ => ⟨rfl, rfl⟩) ?_
  refine mv_aload_n (pc := 12) d_Ev_init_12 rfl ?_
  refine mv_bipush (v := 120) (pc := 13) d_Ev_init_13 (by decide) ?_
  refine mv_newi (n := 120) (pc := 15) d_Ev_init_15 rfl w_aint (by decide) rfl (by decide) (by first | (rw [hn]; decide +kernel) | (simp only [mm_nn, mm_ns, hn]; decide +kernel)) (by first | omega | (simp only [mm_nn, mm_ns, mm_cn, mm_cs, mm_sn, mm_ss] <;> omega)) (by first | omega | (simp only [mm_nn, mm_ns, mm_cn, mm_cs, mm_sn, mm_ss] <;> omega)) (by first | omega | (simp only [mm_nn, mm_ns, mm_cn, mm_cs, mm_sn, mm_ss] <;> omega)) ?_
  simp only [mm_nn, mm_ns, hn, Nat.reduceAdd]
  refine mr_putF (pc := 17) d_Ev_init_17 ff_Ev_15 (mm_atC (a := 5) (kd := 1) (n := 3) (by decide +kernel) (by decide) (by first | omega | (simp only [mm_nn, mm_ns, mm_cn, mm_cs, mm_sn, mm_ss] <;> omega))) rfl (by decide) (by decide) (fun _ => ⟨rfl, rfl⟩) ?_
  refine mv_ret (pc := 20) d_Ev_init_20 rfl ?_
  exact hq _ (by first | omega | (simp only [mm_nn, mm_ns, mm_cn, mm_cs, mm_sn, mm_ss] <;> omega)) (by first | omega | (simp only [mm_nn, mm_ns, mm_cn, mm_cs, mm_sn, mm_ss] <;> omega)) (by first | omega | (simp only [mm_nn, mm_ns, mm_cn, mm_cs, mm_sn, mm_ss] <;> omega)) ((((hZ.new 120).sr 5 0 (some 6)).new 120).sr 5 1 (some 7)) ((((mm_ext.rfl'.new (by first | omega | (simp only [mm_nn, mm_ns, mm_cn, mm_cs, mm_sn, mm_ss] <;> omega)) 120).sr (by first | omega | (simp only [mm_nn, mm_ns, mm_cn, mm_cs, mm_sn, mm_ss] <;> omega)) 0 (some 6)).new (by first | omega | (simp only [mm_nn, mm_ns, mm_cn, mm_cs, mm_sn, mm_ss] <;> omega)) 120).sr (by first | omega | (simp only [mm_nn, mm_ns, mm_cn, mm_cs, mm_sn, mm_ss] <;> omega)) 1 (some 7)) ⟨(mm_atC (a := 5) (kd := 1) (n := 3) (by decide +kernel) (by decide) (by first | omega | (simp only [mm_nn, mm_ns, mm_cn, mm_cs, mm_sn, mm_ss] <;> omega))), (mm_atC (a := 6) (kd := 100) (n := 120) (by decide +kernel) (by decide) (by first | omega | (simp only [mm_nn, mm_ns, mm_cn, mm_cs, mm_sn, mm_ss] <;> omega))), (mm_atC (a := 7) (kd := 100) (n := 120) (by decide +kernel) (by decide) (by first | omega | (simp only [mm_nn, mm_ns, mm_cn, mm_cs, mm_sn, mm_ss] <;> omega))), by simp [mm_grs, mm_grn, mm_nn, mm_ns, hn], by simp [mm_grs, mm_grn, mm_nn, mm_ns, hn]⟩
set_option maxRecDepth 20000 in
theorem c_Ev_init_27 {G : mm_G} {Q : mm_O → mm_H → Prop} {h : mm_H} {b : Nat} (hn : mm_n h = 28) (hz : mm_c h + 1 = 28) (hb : mm_c h + 2 ≤ mm_BC G) (hs9 : mm_s h + 240 ≤ mm_BS G) (hZ : mm_zz b h) (hq : ∀ h', mm_n h' = 30 → mm_c h' + 1 = 30 → mm_s h' = mm_s h + 240 → mm_zz b h' → mm_ext 27 h h' → mm_Ev h' 27 → Q (.inl none) h') : mm_V G (1, 20) M_Ev_init Q 0 (mm_ent 1 [.ref 27]) [] h := by
  show mm_V G (1, 20) M_Ev_init Q 0 [some (.ref 27)] [] h
  refine mv_aload_n (pc := 0) d_Ev_init_0 rfl ?_
  refine mv_objInit (pc := 1) d_Ev_init_1 oi_Ev_3 w_oi w_oc (Nat.le_of_ble_eq_true rfl) (by decide) ?_
  refine mv_aload_n (pc := 4) d_Ev_init_4 rfl ?_
  refine mv_bipush (v := 120) (pc := 5) d_Ev_init_5 (by decide) ?_
  refine mv_newi (n := 120) (pc := 7) d_Ev_init_7 rfl w_aint (by decide) rfl (by decide) (by first | (rw [hn]; decide +kernel) | (simp only [mm_nn, mm_ns, hn]; decide +kernel)) (by first | omega | (simp only [mm_nn, mm_ns, mm_cn, mm_cs, mm_sn, mm_ss] <;> omega)) (by first | omega | (simp only [mm_nn, mm_ns, mm_cn, mm_cs, mm_sn, mm_ss] <;> omega)) (by first | omega | (simp only [mm_nn, mm_ns, mm_cn, mm_cs, mm_sn, mm_ss] <;> omega)) ?_
  simp only [mm_nn, mm_ns, hn, Nat.reduceAdd]
  refine mr_putF (pc := 9) d_Ev_init_9 ff_Ev_9 (mm_atC (a := 27) (kd := 1) (n := 3) (by decide +kernel) (by decide) (by first | omega | (simp only [mm_nn, mm_ns, mm_cn, mm_cs, mm_sn, mm_ss] <;> omega))) rfl (by decide) (by decide) (fun _ => ⟨rfl, rfl⟩) ?_
  refine mv_aload_n (pc := 12) d_Ev_init_12 rfl ?_
  refine mv_bipush (v := 120) (pc := 13) d_Ev_init_13 (by decide) ?_
  refine mv_newi (n := 120) (pc := 15) d_Ev_init_15 rfl w_aint (by decide) rfl (by decide) (by first | (rw [hn]; decide +kernel) | (simp only [mm_nn, mm_ns, hn]; decide +kernel)) (by first | omega | (simp only [mm_nn, mm_ns, mm_cn, mm_cs, mm_sn, mm_ss] <;> omega)) (by first | omega | (simp only [mm_nn, mm_ns, mm_cn, mm_cs, mm_sn, mm_ss] <;> omega)) (by first | omega | (simp only [mm_nn, mm_ns, mm_cn, mm_cs, mm_sn, mm_ss] <;> omega)) ?_
  simp only [mm_nn, mm_ns, hn, Nat.reduceAdd]
  refine mr_putF (pc := 17) d_Ev_init_17 ff_Ev_15 (mm_atC (a := 27) (kd := 1) (n := 3) (by decide +kernel) (by decide) (by first | omega | (simp only [mm_nn, mm_ns, mm_cn, mm_cs, mm_sn, mm_ss] <;> omega))) rfl (by decide) (by decide) (fun _ => ⟨rfl, rfl⟩) ?_
  refine mv_ret (pc := 20) d_Ev_init_20 rfl ?_
  exact hq _ (by first | omega | (simp only [mm_nn, mm_ns, mm_cn, mm_cs, mm_sn, mm_ss] <;> omega)) (by first | omega | (simp only [mm_nn, mm_ns, mm_cn, mm_cs, mm_sn, mm_ss] <;> omega)) (by first | omega | (simp only [mm_nn, mm_ns, mm_cn, mm_cs, mm_sn, mm_ss] <;> omega)) ((((hZ.new 120).sr 27 0 (some 28)).new 120).sr 27 1 (some 29)) ((((mm_ext.rfl'.new (by first | omega | (simp only [mm_nn, mm_ns, mm_cn, mm_cs, mm_sn, mm_ss] <;> omega)) 120).sr (by first | omega | (simp only [mm_nn, mm_ns, mm_cn, mm_cs, mm_sn, mm_ss] <;> omega)) 0 (some 28)).new (by first | omega | (simp only [mm_nn, mm_ns, mm_cn, mm_cs, mm_sn, mm_ss] <;> omega)) 120).sr (by first | omega | (simp only [mm_nn, mm_ns, mm_cn, mm_cs, mm_sn, mm_ss] <;> omega)) 1 (some 29)) ⟨(mm_atC (a := 27) (kd := 1) (n := 3) (by decide +kernel) (by decide) (by first | omega | (simp only [mm_nn, mm_ns, mm_cn, mm_cs, mm_sn, mm_ss] <;> omega))), (mm_atC (a := 28) (kd := 100) (n := 120) (by decide +kernel) (by decide) (by first | omega | (simp only [mm_nn, mm_ns, mm_cn, mm_cs, mm_sn, mm_ss] <;> omega))), (mm_atC (a := 29) (kd := 100) (n := 120) (by decide +kernel) (by decide) (by first | omega | (simp only [mm_nn, mm_ns, mm_cn, mm_cs, mm_sn, mm_ss] <;> omega))), by simp [mm_grs, mm_grn, mm_nn, mm_ns, hn], by simp [mm_grs, mm_grn, mm_nn, mm_ns, hn]⟩
set_option maxRecDepth 20000 in
theorem c_By_init_47 {G : mm_G} {Q : mm_O → mm_H → Prop} {h : mm_H} {b : Nat} (hn : mm_n h = 48) (hz : mm_c h + 1 = 48) (hb : mm_c h + 1 ≤ mm_BC G) (hs9 : mm_s h + 336 ≤ mm_BS G) (hZ : mm_zz b h) (hq : ∀ h', mm_n h' = 49 → mm_c h' + 1 = 49 → mm_s h' = mm_s h + 336 → mm_zz b h' → mm_ext 47 h h' → mm_Bo h' 47 336 → Q (.inl none) h') : mm_V G (1, 20) M_By_init Q 0 (mm_ent 2 [.ref 47, .int 336]) [] h := by
  show mm_V G (1, 20) M_By_init Q 0 [some (.ref 47), some (.int 336)] [] h
  refine mv_aload_n (pc := 0) d_By_init_0 rfl ?_
  refine mv_objInit (pc := 1) d_By_init_1 oi_By_3 w_oi w_oc (Nat.le_of_ble_eq_true rfl) (by decide) ?_
  refine mv_aload_n (pc := 4) d_By_init_4 rfl ?_
  refine mv_iload_n (pc := 5) d_By_init_5 rfl ?_
  refine mv_newi (n := 336) (pc := 6) d_By_init_6 rfl w_aint (by decide) rfl (by decide) (by first | (rw [hn]; decide +kernel) | (simp only [mm_nn, mm_ns, hn]; decide +kernel)) (by first | omega | (simp only [mm_nn, mm_ns, mm_cn, mm_cs, mm_sn, mm_ss] <;> omega)) (by first | omega | (simp only [mm_nn, mm_ns, mm_cn, mm_cs, mm_sn, mm_ss] <;> omega)) (by first | omega | (simp only [mm_nn, mm_ns, mm_cn, mm_cs, mm_sn, mm_ss] <;> omega)) ?_
  simp only [mm_nn, mm_ns, hn, Nat.reduceAdd]
  refine mr_putF (pc := 8) d_By_init_8 ff_By_9 (mm_atC (a := 47) (kd := 0) (n := 3) (by decide +kernel) (by decide) (by first | omega | (simp only [mm_nn, mm_ns, mm_cn, mm_cs, mm_sn, mm_ss] <;> omega))) rfl (by decide) (by decide) (fun _ => ⟨rfl, rfl⟩) ?_
  refine mv_ret (pc := 11) d_By_init_11 rfl ?_
  exact hq _ (by first | omega | (simp only [mm_nn, mm_ns, mm_cn, mm_cs, mm_sn, mm_ss] <;> omega)) (by first | omega | (simp only [mm_nn, mm_ns, mm_cn, mm_cs, mm_sn, mm_ss] <;> omega)) (by first | omega | (simp only [mm_nn, mm_ns, mm_cn, mm_cs, mm_sn, mm_ss] <;> omega)) ((hZ.new 336).sr 47 0 (some 48)) ((mm_ext.rfl'.new (by first | omega | (simp only [mm_nn, mm_ns, mm_cn, mm_cs, mm_sn, mm_ss] <;> omega)) 336).sr (by first | omega | (simp only [mm_nn, mm_ns, mm_cn, mm_cs, mm_sn, mm_ss] <;> omega)) 0 (some 48)) ⟨(mm_atC (a := 47) (kd := 0) (n := 3) (by decide +kernel) (by decide) (by first | omega | (simp only [mm_nn, mm_ns, mm_cn, mm_cs, mm_sn, mm_ss] <;> omega))), (mm_atC (a := 48) (kd := 100) (n := 336) (by decide +kernel) (by decide) (by first | omega | (simp only [mm_nn, mm_ns, mm_cn, mm_cs, mm_sn, mm_ss] <;> omega))), by simp [mm_grs, mm_grn, mm_nn, mm_ns, hn], by decide⟩
set_option maxRecDepth 20000 in
theorem c_By_init_50 {G : mm_G} {Q : mm_O → mm_H → Prop} {h : mm_H} {b : Nat} (hn : mm_n h = 51) (hz : mm_c h + 1 = 51) (hb : mm_c h + 1 ≤ mm_BC G) (hs9 : mm_s h + 400 ≤ mm_BS G) (hZ : mm_zz b h) (hq : ∀ h', mm_n h' = 52 → mm_c h' + 1 = 52 → mm_s h' = mm_s h + 400 → mm_zz b h' → mm_ext 50 h h' → mm_Bo h' 50 400 → Q (.inl none) h') : mm_V G (1, 20) M_By_init Q 0 (mm_ent 2 [.ref 50, .int 400]) [] h := by
  show mm_V G (1, 20) M_By_init Q 0 [some (.ref 50), some (.int 400)] [] h
  refine mv_aload_n (pc := 0) d_By_init_0 rfl ?_
  refine mv_objInit (pc := 1) d_By_init_1 oi_By_3 w_oi w_oc (Nat.le_of_ble_eq_true rfl) (by decide) ?_
  refine mv_aload_n (pc := 4) d_By_init_4 rfl ?_
  refine mv_iload_n (pc := 5) d_By_init_5 rfl ?_
  refine mv_newi (n := 400) (pc := 6) d_By_init_6 rfl w_aint (by decide) rfl (by decide) (by first | (rw [hn]; decide +kernel) | (simp only [mm_nn, mm_ns, hn]; decide +kernel)) (by first | omega | (simp only [mm_nn, mm_ns, mm_cn, mm_cs, mm_sn, mm_ss] <;> omega)) (by first | omega | (simp only [mm_nn, mm_ns, mm_cn, mm_cs, mm_sn, mm_ss] <;> omega)) (by first | omega | (simp only [mm_nn, mm_ns, mm_cn, mm_cs, mm_sn, mm_ss] <;> omega)) ?_
  simp only [mm_nn, mm_ns, hn, Nat.reduceAdd]
  refine mr_putF (pc := 8) d_By_init_8 ff_By_9 (mm_atC (a := 50) (kd := 0) (n := 3) (by decide +kernel) (by decide) (by first | omega | (simp only [mm_nn, mm_ns, mm_cn, mm_cs, mm_sn, mm_ss] <;> omega))) rfl (by decide) (by decide) (fun _ => ⟨rfl, rfl⟩) ?_
  refine mv_ret (pc := 11) d_By_init_11 rfl ?_
  exact hq _ (by first | omega | (simp only [mm_nn, mm_ns, mm_cn, mm_cs, mm_sn, mm_ss] <;> omega)) (by first | omega | (simp only [mm_nn, mm_ns, mm_cn, mm_cs, mm_sn, mm_ss] <;> omega)) (by first | omega | (simp only [mm_nn, mm_ns, mm_cn, mm_cs, mm_sn, mm_ss] <;> omega)) ((hZ.new 400).sr 50 0 (some 51)) ((mm_ext.rfl'.new (by first | omega | (simp only [mm_nn, mm_ns, mm_cn, mm_cs, mm_sn, mm_ss] <;> omega)) 400).sr (by first | omega | (simp only [mm_nn, mm_ns, mm_cn, mm_cs, mm_sn, mm_ss] <;> omega)) 0 (some 51)) ⟨(mm_atC (a := 50) (kd := 0) (n := 3) (by decide +kernel) (by decide) (by first | omega | (simp only [mm_nn, mm_ns, mm_cn, mm_cs, mm_sn, mm_ss] <;> omega))), (mm_atC (a := 51) (kd := 100) (n := 400) (by decide +kernel) (by decide) (by first | omega | (simp only [mm_nn, mm_ns, mm_cn, mm_cs, mm_sn, mm_ss] <;> omega))), by simp [mm_grs, mm_grn, mm_nn, mm_ns, hn], by decide⟩
set_option maxRecDepth 20000 in
theorem c_Sb_init {G : mm_G} {Q : mm_O → mm_H → Prop} {h : mm_H} {b : Nat} (hn : mm_n h = 47) (hz : mm_c h + 1 = 47) (hb : mm_c h + 2 ≤ mm_BC G) (hs9 : mm_s h + 339 ≤ mm_BS G) (hZ : mm_zz b h) (hq : ∀ h', mm_n h' = 49 → mm_c h' + 1 = 49 → mm_s h' = mm_s h + 339 → mm_zz b h' → mm_ext 46 h h' → mm_Hd h' 46 4 47 336 → Q (.inl none) h') : mm_V G (2, 41) M_Sb_init Q 0 (mm_ent 1 [.ref 46]) [] h := by
  show mm_V G (2, 41) M_Sb_init Q 0 [some (.ref 46)] [] h
  refine mv_aload_n (pc := 0) d_Sb_init_0 rfl ?_
  refine mv_objInit (pc := 1) d_Sb_init_1 oi_Sb_3 w_oi w_oc (Nat.le_of_ble_eq_true rfl) (by decide) ?_
  refine mv_aload_n (pc := 4) d_Sb_init_4 rfl ?_
  refine mv_new (pc := 5) d_Sb_init_5 nl_Sb_9 (by first | (rw [hn]; decide +kernel) | (simp only [mm_nn, mm_ns, hn]; decide +kernel)) (by first | omega | (simp only [mm_nn, mm_ns, mm_cn, mm_cs, mm_sn, mm_ss] <;> omega)) (by first | omega | (simp only [mm_nn, mm_ns, mm_cn, mm_cs, mm_sn, mm_ss] <;> omega)) (by first | omega | (simp only [mm_nn, mm_ns, mm_cn, mm_cs, mm_sn, mm_ss] <;> omega)) ?_
  simp only [mm_nn, mm_ns, hn, Nat.reduceAdd]
  refine mv_dup (pc := 8) d_Sb_init_8 rfl ?_
  refine mv_sipush (v := 336) (pc := 9) d_Sb_init_9 (by decide) ?_
  refine mr_callI1 (pc := 12) d_Sb_init_12 (d2 := (1, 20)) ok_By_init li_Sb_11 ⟨rfl, rfl⟩ sv_By_init sw_By_init (by decide) ⟨by decide, rfl, Nat.le_of_ble_eq_true rfl, rfl, by decide, by decide⟩ ?_
  refine c_By_init_47 (by first | omega | (simp only [mm_nn, mm_ns, mm_cn, mm_cs, mm_sn, mm_ss] <;> omega)) (by first | omega | (simp only [mm_nn, mm_ns, mm_cn, mm_cs, mm_sn, mm_ss] <;> omega)) (by first | omega | (simp only [mm_nn, mm_ns, mm_cn, mm_cs, mm_sn, mm_ss] <;> omega)) (by first | omega | (simp only [mm_nn, mm_ns, mm_cn, mm_cs, mm_sn, mm_ss] <;> omega)) (hZ.new 3) (fun h1 n1 c1 s1 z1 x1 b1 => ?_)
  simp only [mm_nn, mm_ns, mm_cn, mm_cs, mm_sn, mm_ss] at s1
  refine mr_putF (pc := 15) d_Sb_init_15 ff_Sb_14 (mm_atC (a := 46) (kd := 4) (n := 1) (by decide +kernel) (by decide) (by first | omega | (simp only [mm_nn, mm_ns, mm_cn, mm_cs, mm_sn, mm_ss] <;> omega))) rfl (by decide) (by decide) (fun _ => ⟨rfl, rfl⟩) ?_
  refine mv_ret (pc := 18) d_Sb_init_18 rfl ?_
  exact hq _ (by first | omega | (simp only [mm_nn, mm_ns, mm_cn, mm_cs, mm_sn, mm_ss] <;> omega)) (by first | omega | (simp only [mm_nn, mm_ns, mm_cn, mm_cs, mm_sn, mm_ss] <;> omega)) (by first | omega | (simp only [mm_nn, mm_ns, mm_cn, mm_cs, mm_sn, mm_ss] <;> omega)) (z1.sr 46 0 (some 47)) (((mm_ext.rfl'.new (by first | omega | (simp only [mm_nn, mm_ns, mm_cn, mm_cs, mm_sn, mm_ss] <;> omega)) 3).trans x1 (by omega)).sr (by first | omega | (simp only [mm_nn, mm_ns, mm_cn, mm_cs, mm_sn, mm_ss] <;> omega)) 0 (some 47)) ⟨(mm_atC (a := 46) (kd := 4) (n := 1) (by decide +kernel) (by decide) (by first | omega | (simp only [mm_nn, mm_ns, mm_cn, mm_cs, mm_sn, mm_ss] <;> omega))), by simp [mm_grs, mm_grn, mm_nn, mm_ns], b1.1, b1.2.1, by rw [mm_grs, if_neg (by omega)]; exact b1.2.2.1, b1.2.2.2⟩
set_option maxRecDepth 20000 in
theorem c_Lg_init {G : mm_G} {Q : mm_O → mm_H → Prop} {h : mm_H} {b : Nat} (hn : mm_n h = 50) (hz : mm_c h + 1 = 50) (hb : mm_c h + 2 ≤ mm_BC G) (hs9 : mm_s h + 403 ≤ mm_BS G) (hZ : mm_zz b h) (hq : ∀ h', mm_n h' = 52 → mm_c h' + 1 = 52 → mm_s h' = mm_s h + 403 → mm_zz b h' → mm_ext 49 h h' → mm_Hd h' 49 2 50 400 → Q (.inl none) h') : mm_V G (2, 41) M_Lg_init Q 0 (mm_ent 1 [.ref 49]) [] h := by
  show mm_V G (2, 41) M_Lg_init Q 0 [some (.ref 49)] [] h
  refine mv_aload_n (pc := 0) d_Lg_init_0 rfl ?_
  refine mv_objInit (pc := 1) d_Lg_init_1 oi_Lg_3 w_oi w_oc (Nat.le_of_ble_eq_true rfl) (by decide) ?_
  refine mv_aload_n (pc := 4) d_Lg_init_4 rfl ?_
  refine mv_new (pc := 5) d_Lg_init_5 nl_Lg_9 (by first | (rw [hn]; decide +kernel) | (simp only [mm_nn, mm_ns, hn]; decide +kernel)) (by first | omega | (simp only [mm_nn, mm_ns, mm_cn, mm_cs, mm_sn, mm_ss] <;> omega)) (by first | omega | (simp only [mm_nn, mm_ns, mm_cn, mm_cs, mm_sn, mm_ss] <;> omega)) (by first | omega | (simp only [mm_nn, mm_ns, mm_cn, mm_cs, mm_sn, mm_ss] <;> omega)) ?_
  simp only [mm_nn, mm_ns, hn, Nat.reduceAdd]
  refine mv_dup (pc := 8) d_Lg_init_8 rfl ?_
  refine mv_sipush (v := 400) (pc := 9) d_Lg_init_9 (by decide) ?_
  refine mr_callI1 (pc := 12) d_Lg_init_12 (d2 := (1, 20)) ok_By_init li_Lg_11 ⟨rfl, rfl⟩ sv_By_init sw_By_init (by decide) ⟨by decide, rfl, Nat.le_of_ble_eq_true rfl, rfl, by decide, by decide⟩ ?_
  refine c_By_init_50 (by first | omega | (simp only [mm_nn, mm_ns, mm_cn, mm_cs, mm_sn, mm_ss] <;> omega)) (by first | omega | (simp only [mm_nn, mm_ns, mm_cn, mm_cs, mm_sn, mm_ss] <;> omega)) (by first | omega | (simp only [mm_nn, mm_ns, mm_cn, mm_cs, mm_sn, mm_ss] <;> omega)) (by first | omega | (simp only [mm_nn, mm_ns, mm_cn, mm_cs, mm_sn, mm_ss] <;> omega)) (hZ.new 3) (fun h1 n1 c1 s1 z1 x1 b1 => ?_)
  simp only [mm_nn, mm_ns, mm_cn, mm_cs, mm_sn, mm_ss] at s1
  refine mr_putF (pc := 15) d_Lg_init_15 ff_Lg_14 (mm_atC (a := 49) (kd := 2) (n := 1) (by decide +kernel) (by decide) (by first | omega | (simp only [mm_nn, mm_ns, mm_cn, mm_cs, mm_sn, mm_ss] <;> omega))) rfl (by decide) (by decide) (fun _ => ⟨rfl, rfl⟩) ?_
  refine mv_ret (pc := 18) d_Lg_init_18 rfl ?_
  exact hq _ (by first | omega | (simp only [mm_nn, mm_ns, mm_cn, mm_cs, mm_sn, mm_ss] <;> omega)) (by first | omega | (simp only [mm_nn, mm_ns, mm_cn, mm_cs, mm_sn, mm_ss] <;> omega)) (by first | omega | (simp only [mm_nn, mm_ns, mm_cn, mm_cs, mm_sn, mm_ss] <;> omega)) (z1.sr 49 0 (some 50)) (((mm_ext.rfl'.new (by first | omega | (simp only [mm_nn, mm_ns, mm_cn, mm_cs, mm_sn, mm_ss] <;> omega)) 3).trans x1 (by omega)).sr (by first | omega | (simp only [mm_nn, mm_ns, mm_cn, mm_cs, mm_sn, mm_ss] <;> omega)) 0 (some 50)) ⟨(mm_atC (a := 49) (kd := 2) (n := 1) (by decide +kernel) (by decide) (by first | omega | (simp only [mm_nn, mm_ns, mm_cn, mm_cs, mm_sn, mm_ss] <;> omega))), by simp [mm_grs, mm_grn, mm_nn, mm_ns], b1.1, b1.2.1, by rw [mm_grs, if_neg (by omega)]; exact b1.2.2.1, b1.2.2.2⟩
theorem mm_shS_2 : ∀ i, i < 16 → mm_sh (8 + i) = (3, 9) := by decide +kernel
set_option maxRecDepth 20000 in
theorem l_Wo_init_2 {G : mm_G} {Q : mm_O → mm_H → Prop} {b S : Nat} (h0 : mm_H) (hb : 23 ≤ mm_BC G) (hs9 : S + 144 ≤ mm_BS G) (hq : ∀ h', mm_n h' = 24 → mm_c h' + 1 = 24 → mm_s h' = S + 144 → mm_zz b h' → mm_ext 2 h0 h' → mm_Wd h' 2 → Q (.inl none) h') :
    ∀ (i : Nat) (h : mm_H), i ≤ 16 → (mm_n h = 8 + i ∧ mm_c h + 1 = 8 + i ∧ mm_s h = S + 9 * i ∧ mm_zz b h ∧ mm_ext 2 h0 h ∧ (mm_gr h 2 0 = some 3 ∧ mm_gr h 2 1 = some 4 ∧ mm_gr h 2 2 = some 5 ∧ mm_gr h 5 0 = some 6 ∧ mm_gr h 5 1 = some 7) ∧ ∀ j, j < i → mm_gr h 3 j = some (8 + j)) → mm_V G (2, 40) M_Wo_init Q 35 [some (.ref 2), some (.int (nI i))] [] h := by
  refine mr_loop _ _ 16 (fun h hI => ?_) (fun i h hi hI ih => ?_)
  · obtain ⟨i1, i2, i3, i4, i5, i6, i7⟩ := hI
    refine mv_iload_n (pc := 35) d_Wo_init_35 rfl ?_
    refine mv_bipush (v := 16) (pc := 36) d_Wo_init_36 (by decide) ?_
    refine mv_ic_ge 60 (pc := 38) d_Wo_init_38 (by decide) (fun h38 => ?_) (fun z => absurd z (mm_ge16))
    refine mv_ret (pc := 60) d_Wo_init_60 rfl ?_
    exact hq h (by omega) (by omega) (by omega) i4 i5 ⟨(mm_atC (a := 2) (kd := 5) (n := 4) (by decide +kernel) (by decide) (by omega)), (mm_atC (a := 3) (kd := 102) (n := 16) (by decide +kernel) (by decide) (by omega)), (mm_atC (a := 4) (kd := 101) (n := 256) (by decide +kernel) (by decide) (by omega)), ⟨(mm_atC (a := 5) (kd := 1) (n := 3) (by decide +kernel) (by decide) (by omega)), (mm_atC (a := 6) (kd := 100) (n := 120) (by decide +kernel) (by decide) (by omega)), (mm_atC (a := 7) (kd := 100) (n := 120) (by decide +kernel) (by decide) (by omega)), i6.2.2.2.1, i6.2.2.2.2⟩, fun i hi => mm_atC (mm_shS_2 i hi) (by omega) (by omega), i6.1, i6.2.1, i6.2.2.1, i7⟩
  · obtain ⟨i1, i2, i3, i4, i5, i6, i7⟩ := hI
    refine mv_iload_n (pc := 35) d_Wo_init_35 rfl ?_
    refine mv_bipush (v := 16) (pc := 36) d_Wo_init_36 (by decide) ?_
    refine mv_ic_ge 60 (pc := 38) d_Wo_init_38 (by decide) (fun z => absurd z (mm_lt16 hi)) (fun h38 => ?_)
    refine mv_aload_n (pc := 41) d_Wo_init_41 rfl ?_
    refine mr_getr (pc := 42) d_Wo_init_42 fl_Wo_11 (mm_atC (a := 2) (kd := 5) (n := 4) (by decide +kernel) (by decide) (by omega)) rfl (by decide) i6.1 ?_
    refine mv_iload_n (pc := 45) d_Wo_init_45 rfl ?_
    refine mv_new (pc := 46) d_Wo_init_46 nl_Wo_9 (by rw [i1]; exact mm_shS_2 i hi) (by omega) (by omega) (by omega) ?_
    rw [i1]
    refine mv_dup (pc := 49) d_Wo_init_49 rfl ?_
    refine mr_callI0 (pc := 50) d_Wo_init_50 (d2 := (1, 20)) ok_Sl_init li_Wo_28 ⟨rfl, rfl⟩ sv_Sl_init sw_Sl_init (by omega) ⟨by decide, Nat.le_of_ble_eq_true rfl, rfl, by decide, by decide⟩ ?_
    refine c_Sl_init ?_
    refine mv_aast (pc := 53) d_Wo_init_53 (a := 3) (n := 16) (by decide +kernel) (by decide) (by rw [mm_nn]; omega) (mm_inN hi (by decide)) (mm_shS_2 i hi) (by omega) (by rw [mm_nn]; omega) ?_
    rw [mm_cl (n := i) (by omega)]
    refine mv_iinc (pc := 54) d_Wo_init_54 rfl rfl (by decide) ?_
    refine mv_goto 35 (pc := 57) d_Wo_init_57 (by decide) ?_
    refine mm_V_ls (ls' := [some (.ref 2), some (.int (nI (i + 1)))]) (by simp only [List.set]; rw [nI_succ]; rfl) (ih (mm_sr (mm_new h 9) 3 i (some (8 + i))) ⟨by rw [mm_ns, mm_nn]; omega, by rw [mm_cs, mm_cn]; omega, by rw [mm_ss, mm_sn]; omega, (i4.new 9).sr 3 i (some (8 + i)), (i5.new (by omega) 9).sr (by omega) i (some (8 + i)), ?_, fun j hj => ?_⟩)
    · have n0 : ∀ q, q < 8 → ¬ q = mm_n h := fun q hq z => by omega
      refine ⟨?_, ?_, ?_, ?_, ?_⟩
      · rw [mm_grs, if_neg (by omega), mm_grn, if_neg (n0 _ (by omega))]; exact i6.1
      · rw [mm_grs, if_neg (by omega), mm_grn, if_neg (n0 _ (by omega))]; exact i6.2.1
      · rw [mm_grs, if_neg (by omega), mm_grn, if_neg (n0 _ (by omega))]; exact i6.2.2.1
      · rw [mm_grs, if_neg (by omega), mm_grn, if_neg (n0 _ (by omega))]; exact i6.2.2.2.1
      · rw [mm_grs, if_neg (by omega), mm_grn, if_neg (n0 _ (by omega))]; exact i6.2.2.2.2
    · by_cases c : j = i
      · subst c; rw [mm_grs, if_pos ⟨rfl, rfl⟩]
      · rw [mm_grs, if_neg (by omega), mm_grn, if_neg (by omega)]; exact i7 j (by omega)
set_option maxRecDepth 20000 in
theorem c_Wo_init_2 {G : mm_G} {Q : mm_O → mm_H → Prop} {h : mm_H} {b : Nat} (hn : mm_n h = 3) (hz : mm_c h + 1 = 3) (hb : mm_c h + 21 ≤ mm_BC G) (hs9 : mm_s h + 659 ≤ mm_BS G) (hZ : mm_zz b h) (hq : ∀ h', mm_n h' = 24 → mm_c h' + 1 = 24 → mm_s h' = mm_s h + 659 → mm_zz b h' → mm_ext 2 h h' → mm_Wd h' 2 → Q (.inl none) h') : mm_V G (2, 40) M_Wo_init Q 0 (mm_ent 2 [.ref 2]) [] h := by
  show mm_V G (2, 40) M_Wo_init Q 0 [some (.ref 2), none] [] h
  refine mv_aload_n (pc := 0) d_Wo_init_0 rfl ?_
  refine mv_objInit (pc := 1) d_Wo_init_1 oi_Wo_3 w_oi w_oc (Nat.le_of_ble_eq_true rfl) (by decide) ?_
  refine mv_aload_n (pc := 4) d_Wo_init_4 rfl ?_
  refine mv_bipush (v := 16) (pc := 5) d_Wo_init_5 (by decide) ?_
  refine mv_anew (n := 16) (pc := 7) d_Wo_init_7 (mm_mw (i := 30) (by decide +kernel) (by decide +kernel)) w_ao (by decide) rfl (by decide) (by first | (rw [hn]; decide +kernel) | (simp only [mm_nn, mm_ns, hn]; decide +kernel)) (by first | omega | (simp only [mm_nn, mm_ns, mm_cn, mm_cs, mm_sn, mm_ss] <;> omega)) (by first | omega | (simp only [mm_nn, mm_ns, mm_cn, mm_cs, mm_sn, mm_ss] <;> omega)) (by first | omega | (simp only [mm_nn, mm_ns, mm_cn, mm_cs, mm_sn, mm_ss] <;> omega)) ?_
  simp only [mm_nn, mm_ns, hn, Nat.reduceAdd]
  refine mr_putF (pc := 10) d_Wo_init_10 ff_Wo_11 (mm_atC (a := 2) (kd := 5) (n := 4) (by decide +kernel) (by decide) (by first | omega | (simp only [mm_nn, mm_ns, mm_cn, mm_cs, mm_sn, mm_ss] <;> omega))) rfl (by decide) (by decide) (fun _ => ⟨rfl, rfl⟩) ?_
  refine mv_aload_n (pc := 13) d_Wo_init_13 rfl ?_
  refine mv_sipush (v := 256) (pc := 14) d_Wo_init_14 (by decide) ?_
  refine mv_newz (n := 256) (pc := 17) d_Wo_init_17 rfl w_aboolean (by decide) rfl (by decide) (by first | (rw [hn]; decide +kernel) | (simp only [mm_nn, mm_ns, hn]; decide +kernel)) (by first | omega | (simp only [mm_nn, mm_ns, mm_cn, mm_cs, mm_sn, mm_ss] <;> omega)) (by first | omega | (simp only [mm_nn, mm_ns, mm_cn, mm_cs, mm_sn, mm_ss] <;> omega)) (by first | omega | (simp only [mm_nn, mm_ns, mm_cn, mm_cs, mm_sn, mm_ss] <;> omega)) ?_
  simp only [mm_nn, mm_ns, hn, Nat.reduceAdd]
  refine mr_putF (pc := 19) d_Wo_init_19 ff_Wo_17 (mm_atC (a := 2) (kd := 5) (n := 4) (by decide +kernel) (by decide) (by first | omega | (simp only [mm_nn, mm_ns, mm_cn, mm_cs, mm_sn, mm_ss] <;> omega))) rfl (by decide) (by decide) (fun _ => ⟨rfl, rfl⟩) ?_
  refine mv_aload_n (pc := 22) d_Wo_init_22 rfl ?_
  refine mv_new (pc := 23) d_Wo_init_23 nl_Wo_21 (by first | (rw [hn]; decide +kernel) | (simp only [mm_nn, mm_ns, hn]; decide +kernel)) (by first | omega | (simp only [mm_nn, mm_ns, mm_cn, mm_cs, mm_sn, mm_ss] <;> omega)) (by first | omega | (simp only [mm_nn, mm_ns, mm_cn, mm_cs, mm_sn, mm_ss] <;> omega)) (by first | omega | (simp only [mm_nn, mm_ns, mm_cn, mm_cs, mm_sn, mm_ss] <;> omega)) ?_
  simp only [mm_nn, mm_ns, hn, Nat.reduceAdd]
  refine mv_dup (pc := 26) d_Wo_init_26 rfl ?_
  refine mr_callI0 (pc := 27) d_Wo_init_27 (d2 := (1, 20)) ok_Ev_init li_Wo_23 ⟨rfl, rfl⟩ sv_Ev_init sw_Ev_init (by decide) ⟨by decide, Nat.le_of_ble_eq_true rfl, rfl, by decide, by decide⟩ ?_
  refine c_Ev_init_5 (by first | omega | (simp only [mm_nn, mm_ns, mm_cn, mm_cs, mm_sn, mm_ss] <;> omega)) (by first | omega | (simp only [mm_nn, mm_ns, mm_cn, mm_cs, mm_sn, mm_ss] <;> omega)) (by first | omega | (simp only [mm_nn, mm_ns, mm_cn, mm_cs, mm_sn, mm_ss] <;> omega)) (by first | omega | (simp only [mm_nn, mm_ns, mm_cn, mm_cs, mm_sn, mm_ss] <;> omega)) (((((hZ.new 16).sr 2 0 (some 3)).new 256).sr 2 1 (some 4)).new 3) (fun h1 n1 c1 s1 z1 x1 v1 => ?_)
  simp only [mm_nn, mm_ns, mm_cn, mm_cs, mm_sn, mm_ss] at s1
  have r1 := fun k => (x1.2 2 k (by omega)).2
  refine mr_putF (pc := 30) d_Wo_init_30 ff_Wo_24 (mm_atC (a := 2) (kd := 5) (n := 4) (by decide +kernel) (by decide) (by first | omega | (simp only [mm_nn, mm_ns, mm_cn, mm_cs, mm_sn, mm_ss] <;> omega))) rfl (by decide) (by decide) (fun _ => ⟨rfl, rfl⟩) ?_
  refine mv_iconst (v := 0) (pc := 33) d_Wo_init_33 (by decide) ?_
  refine mv_istore_n (pc := 34) d_Wo_init_34 (by decide) ?_
  refine mm_V_ls (ls' := [some (.ref 2), some (.int (nI 0))]) rfl ?_
  exact l_Wo_init_2 (b := b) (S := mm_s h + 515) h (by first | omega | (simp only [mm_nn, mm_ns, mm_cn, mm_cs, mm_sn, mm_ss] <;> omega)) (by first | omega | (simp only [mm_nn, mm_ns, mm_cn, mm_cs, mm_sn, mm_ss] <;> omega)) (fun h' a1 a2 a3 a4 a5 a6 => hq h' a1 a2 (by omega) a4 a5 a6) 0 _ (by omega) ⟨(by first | omega | (simp only [mm_nn, mm_ns, mm_cn, mm_cs, mm_sn, mm_ss] <;> omega)), (by first | omega | (simp only [mm_nn, mm_ns, mm_cn, mm_cs, mm_sn, mm_ss] <;> omega)), (by first | omega | (simp only [mm_nn, mm_ns, mm_cn, mm_cs, mm_sn, mm_ss] <;> omega)), (z1.sr 2 2 (some 5)), (((((((mm_ext.rfl'.new (by first | omega | (simp only [mm_nn, mm_ns, mm_cn, mm_cs, mm_sn, mm_ss] <;> omega)) 16).sr (by first | omega | (simp only [mm_nn, mm_ns, mm_cn, mm_cs, mm_sn, mm_ss] <;> omega)) 0 (some 3)).new (by first | omega | (simp only [mm_nn, mm_ns, mm_cn, mm_cs, mm_sn, mm_ss] <;> omega)) 256).sr (by first | omega | (simp only [mm_nn, mm_ns, mm_cn, mm_cs, mm_sn, mm_ss] <;> omega)) 1 (some 4)).new (by first | omega | (simp only [mm_nn, mm_ns, mm_cn, mm_cs, mm_sn, mm_ss] <;> omega)) 3).trans x1 (by omega)).sr (by first | omega | (simp only [mm_nn, mm_ns, mm_cn, mm_cs, mm_sn, mm_ss] <;> omega)) 2 (some 5)), ⟨by rw [mm_grs, if_neg (by omega), r1]; simp [mm_grs, mm_grn, mm_nn, mm_ns, hn], by rw [mm_grs, if_neg (by omega), r1]; simp [mm_grs, mm_grn, mm_nn, mm_ns, hn], by rw [mm_grs, if_pos ⟨rfl, rfl⟩], by rw [mm_grs, if_neg (by omega)]; exact v1.2.2.2.1, by rw [mm_grs, if_neg (by omega)]; exact v1.2.2.2.2⟩, fun j hj => absurd hj (by omega)⟩
theorem mm_shS_24 : ∀ i, i < 16 → mm_sh (30 + i) = (3, 9) := by decide +kernel
set_option maxRecDepth 20000 in
theorem l_Wo_init_24 {G : mm_G} {Q : mm_O → mm_H → Prop} {b S : Nat} (h0 : mm_H) (hb : 45 ≤ mm_BC G) (hs9 : S + 144 ≤ mm_BS G) (hq : ∀ h', mm_n h' = 46 → mm_c h' + 1 = 46 → mm_s h' = S + 144 → mm_zz b h' → mm_ext 24 h0 h' → mm_Wd h' 24 → Q (.inl none) h') :
    ∀ (i : Nat) (h : mm_H), i ≤ 16 → (mm_n h = 30 + i ∧ mm_c h + 1 = 30 + i ∧ mm_s h = S + 9 * i ∧ mm_zz b h ∧ mm_ext 24 h0 h ∧ (mm_gr h 24 0 = some 25 ∧ mm_gr h 24 1 = some 26 ∧ mm_gr h 24 2 = some 27 ∧ mm_gr h 27 0 = some 28 ∧ mm_gr h 27 1 = some 29) ∧ ∀ j, j < i → mm_gr h 25 j = some (30 + j)) → mm_V G (2, 40) M_Wo_init Q 35 [some (.ref 24), some (.int (nI i))] [] h := by
  refine mr_loop _ _ 16 (fun h hI => ?_) (fun i h hi hI ih => ?_)
  · obtain ⟨i1, i2, i3, i4, i5, i6, i7⟩ := hI
    refine mv_iload_n (pc := 35) d_Wo_init_35 rfl ?_
    refine mv_bipush (v := 16) (pc := 36) d_Wo_init_36 (by decide) ?_
    refine mv_ic_ge 60 (pc := 38) d_Wo_init_38 (by decide) (fun h38 => ?_) (fun z => absurd z (mm_ge16))
    refine mv_ret (pc := 60) d_Wo_init_60 rfl ?_
    exact hq h (by omega) (by omega) (by omega) i4 i5 ⟨(mm_atC (a := 24) (kd := 5) (n := 4) (by decide +kernel) (by decide) (by omega)), (mm_atC (a := 25) (kd := 102) (n := 16) (by decide +kernel) (by decide) (by omega)), (mm_atC (a := 26) (kd := 101) (n := 256) (by decide +kernel) (by decide) (by omega)), ⟨(mm_atC (a := 27) (kd := 1) (n := 3) (by decide +kernel) (by decide) (by omega)), (mm_atC (a := 28) (kd := 100) (n := 120) (by decide +kernel) (by decide) (by omega)), (mm_atC (a := 29) (kd := 100) (n := 120) (by decide +kernel) (by decide) (by omega)), i6.2.2.2.1, i6.2.2.2.2⟩, fun i hi => mm_atC (mm_shS_24 i hi) (by omega) (by omega), i6.1, i6.2.1, i6.2.2.1, i7⟩
  · obtain ⟨i1, i2, i3, i4, i5, i6, i7⟩ := hI
    refine mv_iload_n (pc := 35) d_Wo_init_35 rfl ?_
    refine mv_bipush (v := 16) (pc := 36) d_Wo_init_36 (by decide) ?_
    refine mv_ic_ge 60 (pc := 38) d_Wo_init_38 (by decide) (fun z => absurd z (mm_lt16 hi)) (fun h38 => ?_)
    refine mv_aload_n (pc := 41) d_Wo_init_41 rfl ?_
    refine mr_getr (pc := 42) d_Wo_init_42 fl_Wo_11 (mm_atC (a := 24) (kd := 5) (n := 4) (by decide +kernel) (by decide) (by omega)) rfl (by decide) i6.1 ?_
    refine mv_iload_n (pc := 45) d_Wo_init_45 rfl ?_
    refine mv_new (pc := 46) d_Wo_init_46 nl_Wo_9 (by rw [i1]; exact mm_shS_24 i hi) (by omega) (by omega) (by omega) ?_
    rw [i1]
    refine mv_dup (pc := 49) d_Wo_init_49 rfl ?_
    refine mr_callI0 (pc := 50) d_Wo_init_50 (d2 := (1, 20)) ok_Sl_init li_Wo_28 ⟨rfl, rfl⟩ sv_Sl_init sw_Sl_init (by omega) ⟨by decide, Nat.le_of_ble_eq_true rfl, rfl, by decide, by decide⟩ ?_
    refine c_Sl_init ?_
    refine mv_aast (pc := 53) d_Wo_init_53 (a := 25) (n := 16) (by decide +kernel) (by decide) (by rw [mm_nn]; omega) (mm_inN hi (by decide)) (mm_shS_24 i hi) (by omega) (by rw [mm_nn]; omega) ?_
    rw [mm_cl (n := i) (by omega)]
    refine mv_iinc (pc := 54) d_Wo_init_54 rfl rfl (by decide) ?_
    refine mv_goto 35 (pc := 57) d_Wo_init_57 (by decide) ?_
    refine mm_V_ls (ls' := [some (.ref 24), some (.int (nI (i + 1)))]) (by simp only [List.set]; rw [nI_succ]; rfl) (ih (mm_sr (mm_new h 9) 25 i (some (30 + i))) ⟨by rw [mm_ns, mm_nn]; omega, by rw [mm_cs, mm_cn]; omega, by rw [mm_ss, mm_sn]; omega, (i4.new 9).sr 25 i (some (30 + i)), (i5.new (by omega) 9).sr (by omega) i (some (30 + i)), ?_, fun j hj => ?_⟩)
    · have n0 : ∀ q, q < 30 → ¬ q = mm_n h := fun q hq z => by omega
      refine ⟨?_, ?_, ?_, ?_, ?_⟩
      · rw [mm_grs, if_neg (by omega), mm_grn, if_neg (n0 _ (by omega))]; exact i6.1
      · rw [mm_grs, if_neg (by omega), mm_grn, if_neg (n0 _ (by omega))]; exact i6.2.1
      · rw [mm_grs, if_neg (by omega), mm_grn, if_neg (n0 _ (by omega))]; exact i6.2.2.1
      · rw [mm_grs, if_neg (by omega), mm_grn, if_neg (n0 _ (by omega))]; exact i6.2.2.2.1
      · rw [mm_grs, if_neg (by omega), mm_grn, if_neg (n0 _ (by omega))]; exact i6.2.2.2.2
    · by_cases c : j = i
      · subst c; rw [mm_grs, if_pos ⟨rfl, rfl⟩]
      · rw [mm_grs, if_neg (by omega), mm_grn, if_neg (by omega)]; exact i7 j (by omega)
set_option maxRecDepth 20000 in
theorem c_Wo_init_24 {G : mm_G} {Q : mm_O → mm_H → Prop} {h : mm_H} {b : Nat} (hn : mm_n h = 25) (hz : mm_c h + 1 = 25) (hb : mm_c h + 21 ≤ mm_BC G) (hs9 : mm_s h + 659 ≤ mm_BS G) (hZ : mm_zz b h) (hq : ∀ h', mm_n h' = 46 → mm_c h' + 1 = 46 → mm_s h' = mm_s h + 659 → mm_zz b h' → mm_ext 24 h h' → mm_Wd h' 24 → Q (.inl none) h') : mm_V G (2, 40) M_Wo_init Q 0 (mm_ent 2 [.ref 24]) [] h := by
  show mm_V G (2, 40) M_Wo_init Q 0 [some (.ref 24), none] [] h
  refine mv_aload_n (pc := 0) d_Wo_init_0 rfl ?_
  refine mv_objInit (pc := 1) d_Wo_init_1 oi_Wo_3 w_oi w_oc (Nat.le_of_ble_eq_true rfl) (by decide) ?_
  refine mv_aload_n (pc := 4) d_Wo_init_4 rfl ?_
  refine mv_bipush (v := 16) (pc := 5) d_Wo_init_5 (by decide) ?_
  refine mv_anew (n := 16) (pc := 7) d_Wo_init_7 (mm_mw (i := 30) (by decide +kernel) (by decide +kernel)) w_ao (by decide) rfl (by decide) (by first | (rw [hn]; decide +kernel) | (simp only [mm_nn, mm_ns, hn]; decide +kernel)) (by first | omega | (simp only [mm_nn, mm_ns, mm_cn, mm_cs, mm_sn, mm_ss] <;> omega)) (by first | omega | (simp only [mm_nn, mm_ns, mm_cn, mm_cs, mm_sn, mm_ss] <;> omega)) (by first | omega | (simp only [mm_nn, mm_ns, mm_cn, mm_cs, mm_sn, mm_ss] <;> omega)) ?_
  simp only [mm_nn, mm_ns, hn, Nat.reduceAdd]
  refine mr_putF (pc := 10) d_Wo_init_10 ff_Wo_11 (mm_atC (a := 24) (kd := 5) (n := 4) (by decide +kernel) (by decide) (by first | omega | (simp only [mm_nn, mm_ns, mm_cn, mm_cs, mm_sn, mm_ss] <;> omega))) rfl (by decide) (by decide) (fun _ => ⟨rfl, rfl⟩) ?_
  refine mv_aload_n (pc := 13) d_Wo_init_13 rfl ?_
  refine mv_sipush (v := 256) (pc := 14) d_Wo_init_14 (by decide) ?_
  refine mv_newz (n := 256) (pc := 17) d_Wo_init_17 rfl w_aboolean (by decide) rfl (by decide) (by first | (rw [hn]; decide +kernel) | (simp only [mm_nn, mm_ns, hn]; decide +kernel)) (by first | omega | (simp only [mm_nn, mm_ns, mm_cn, mm_cs, mm_sn, mm_ss] <;> omega)) (by first | omega | (simp only [mm_nn, mm_ns, mm_cn, mm_cs, mm_sn, mm_ss] <;> omega)) (by first | omega | (simp only [mm_nn, mm_ns, mm_cn, mm_cs, mm_sn, mm_ss] <;> omega)) ?_
  simp only [mm_nn, mm_ns, hn, Nat.reduceAdd]
  refine mr_putF (pc := 19) d_Wo_init_19 ff_Wo_17 (mm_atC (a := 24) (kd := 5) (n := 4) (by decide +kernel) (by decide) (by first | omega | (simp only [mm_nn, mm_ns, mm_cn, mm_cs, mm_sn, mm_ss] <;> omega))) rfl (by decide) (by decide) (fun _ => ⟨rfl, rfl⟩) ?_
  refine mv_aload_n (pc := 22) d_Wo_init_22 rfl ?_
  refine mv_new (pc := 23) d_Wo_init_23 nl_Wo_21 (by first | (rw [hn]; decide +kernel) | (simp only [mm_nn, mm_ns, hn]; decide +kernel)) (by first | omega | (simp only [mm_nn, mm_ns, mm_cn, mm_cs, mm_sn, mm_ss] <;> omega)) (by first | omega | (simp only [mm_nn, mm_ns, mm_cn, mm_cs, mm_sn, mm_ss] <;> omega)) (by first | omega | (simp only [mm_nn, mm_ns, mm_cn, mm_cs, mm_sn, mm_ss] <;> omega)) ?_
  simp only [mm_nn, mm_ns, hn, Nat.reduceAdd]
  refine mv_dup (pc := 26) d_Wo_init_26 rfl ?_
  refine mr_callI0 (pc := 27) d_Wo_init_27 (d2 := (1, 20)) ok_Ev_init li_Wo_23 ⟨rfl, rfl⟩ sv_Ev_init sw_Ev_init (by decide) ⟨by decide, Nat.le_of_ble_eq_true rfl, rfl, by decide, by decide⟩ ?_
  refine c_Ev_init_27 (by first | omega | (simp only [mm_nn, mm_ns, mm_cn, mm_cs, mm_sn, mm_ss] <;> omega)) (by first | omega | (simp only [mm_nn, mm_ns, mm_cn, mm_cs, mm_sn, mm_ss] <;> omega)) (by first | omega | (simp only [mm_nn, mm_ns, mm_cn, mm_cs, mm_sn, mm_ss] <;> omega)) (by first | omega | (simp only [mm_nn, mm_ns, mm_cn, mm_cs, mm_sn, mm_ss] <;> omega)) (((((hZ.new 16).sr 24 0 (some 25)).new 256).sr 24 1 (some 26)).new 3) (fun h1 n1 c1 s1 z1 x1 v1 => ?_)
  simp only [mm_nn, mm_ns, mm_cn, mm_cs, mm_sn, mm_ss] at s1
  have r1 := fun k => (x1.2 24 k (by omega)).2
  refine mr_putF (pc := 30) d_Wo_init_30 ff_Wo_24 (mm_atC (a := 24) (kd := 5) (n := 4) (by decide +kernel) (by decide) (by first | omega | (simp only [mm_nn, mm_ns, mm_cn, mm_cs, mm_sn, mm_ss] <;> omega))) rfl (by decide) (by decide) (fun _ => ⟨rfl, rfl⟩) ?_
  refine mv_iconst (v := 0) (pc := 33) d_Wo_init_33 (by decide) ?_
  refine mv_istore_n (pc := 34) d_Wo_init_34 (by decide) ?_
  refine mm_V_ls (ls' := [some (.ref 24), some (.int (nI 0))]) rfl ?_
  exact l_Wo_init_24 (b := b) (S := mm_s h + 515) h (by first | omega | (simp only [mm_nn, mm_ns, mm_cn, mm_cs, mm_sn, mm_ss] <;> omega)) (by first | omega | (simp only [mm_nn, mm_ns, mm_cn, mm_cs, mm_sn, mm_ss] <;> omega)) (fun h' a1 a2 a3 a4 a5 a6 => hq h' a1 a2 (by omega) a4 a5 a6) 0 _ (by omega) ⟨(by first | omega | (simp only [mm_nn, mm_ns, mm_cn, mm_cs, mm_sn, mm_ss] <;> omega)), (by first | omega | (simp only [mm_nn, mm_ns, mm_cn, mm_cs, mm_sn, mm_ss] <;> omega)), (by first | omega | (simp only [mm_nn, mm_ns, mm_cn, mm_cs, mm_sn, mm_ss] <;> omega)), (z1.sr 24 2 (some 27)), (((((((mm_ext.rfl'.new (by first | omega | (simp only [mm_nn, mm_ns, mm_cn, mm_cs, mm_sn, mm_ss] <;> omega)) 16).sr (by first | omega | (simp only [mm_nn, mm_ns, mm_cn, mm_cs, mm_sn, mm_ss] <;> omega)) 0 (some 25)).new (by first | omega | (simp only [mm_nn, mm_ns, mm_cn, mm_cs, mm_sn, mm_ss] <;> omega)) 256).sr (by first | omega | (simp only [mm_nn, mm_ns, mm_cn, mm_cs, mm_sn, mm_ss] <;> omega)) 1 (some 26)).new (by first | omega | (simp only [mm_nn, mm_ns, mm_cn, mm_cs, mm_sn, mm_ss] <;> omega)) 3).trans x1 (by omega)).sr (by first | omega | (simp only [mm_nn, mm_ns, mm_cn, mm_cs, mm_sn, mm_ss] <;> omega)) 2 (some 27)), ⟨by rw [mm_grs, if_neg (by omega), r1]; simp [mm_grs, mm_grn, mm_nn, mm_ns, hn], by rw [mm_grs, if_neg (by omega), r1]; simp [mm_grs, mm_grn, mm_nn, mm_ns, hn], by rw [mm_grs, if_pos ⟨rfl, rfl⟩], by rw [mm_grs, if_neg (by omega)]; exact v1.2.2.2.1, by rw [mm_grs, if_neg (by omega)]; exact v1.2.2.2.2⟩, fun j hj => absurd hj (by omega)⟩
/-- the world at the start -/
def a_0 : mm_W := fun _ _ => 0
theorem a_cnt0 : ∀ n, a_cnt (a_0 9) n = 0
  | 0 => rfl
  | n + 1 => by simp [a_cnt, a_0, a_cnt0 n]
theorem WF_0 : WF a_0 := ⟨fun i _ => ⟨Or.inl rfl, ⟨(show (0 : Int32) ≤ 0 by decide), (show (0 : Int32) ≤ 65535 by decide)⟩, fun z => absurd rfl z⟩, (show (0 : Int32) ≤ 0 by decide), fun p _ => ⟨Or.inl rfl, fun z => absurd rfl z⟩⟩
theorem RC_0 {F : mm_W} {w : Nat} (h : ∀ a k, w ≤ a → a < w + 22 → F a k = 0) : RC F w a_0 := ⟨h _ _ (by omega) (by omega), fun i hi => ⟨h _ _ (by omega) (by omega), h _ _ (by omega) (by omega), fun z => absurd rfl z⟩, fun p _ => h _ _ (by omega) (by omega)⟩
theorem RM_0 {F : mm_W} (h : ∀ a k, 52 ≤ a → F a k = 0) : RM F 0 a_0 := ⟨h _ _ (by omega), fun i hi => ⟨h _ _ (by omega), h _ _ (by omega), fun z => absurd rfl z⟩, fun p _ => h _ _ (by omega)⟩
/-- as mm_ext, but what TickArena's own references hold -/
def mm_xt (b : Nat) (h h' : mm_H) : Prop := mm_n h ≤ mm_n h' ∧ ∀ a k, 1 < a → a < b → mm_gr h' a k = mm_gr h a k
theorem mm_ext.xt {b : Nat} {h h' : mm_H} (x : mm_ext b h h') : mm_xt b h h' := ⟨x.1, fun a k _ ha => (x.2 a k ha).2⟩
theorem mm_xt.trans {b : Nat} {h h1 h2 : mm_H} (x : mm_xt b h h1) (y : mm_xt b h1 h2) : mm_xt b h h2 := ⟨Nat.le_trans x.1 y.1, fun a k h1 h2 => (y.2 a k h1 h2).trans (x.2 a k h1 h2)⟩
theorem mm_xt.le {b c : Nat} {h h1 : mm_H} (x : mm_xt b h h1) (hc : c ≤ b) : mm_xt c h h1 := ⟨x.1, fun a k h1 h2 => x.2 a k h1 (by omega)⟩
theorem mm_xt.sr1 {b : Nat} {h h1 : mm_H} (x : mm_xt b h h1) (j : Nat) (v : Option Nat) : mm_xt b h (mm_sr h1 1 j v) := ⟨x.1, fun a k h1 h2 => by rw [mm_grs, if_neg (by omega)]; exact x.2 a k h1 h2⟩
theorem mm_Ev.xt {h h' : mm_H} {e b : Nat} (x : mm_Ev h e) (y : mm_xt b h h') (h1 : 1 < e) (hb : e + 1 ≤ b) : mm_Ev h' e := ⟨x.1.ext y.1, x.2.1.ext y.1, x.2.2.1.ext y.1, (y.2 e 0 h1 (by omega)).trans x.2.2.2.1, (y.2 e 1 h1 (by omega)).trans x.2.2.2.2⟩
theorem mm_Hd.xt {h h' : mm_H} {z kd y b N : Nat} (x : mm_Hd h z kd y N) (e : mm_xt b h h') (h1 : 1 < z) (h2 : 1 < y) (h3 : z + 1 ≤ b) (h4 : y + 1 ≤ b) : mm_Hd h' z kd y N := ⟨x.1.ext e.1, (e.2 z 0 h1 (by omega)).trans x.2.1, x.2.2.1.ext e.1, x.2.2.2.1.ext e.1, (e.2 y 0 h2 (by omega)).trans x.2.2.2.2.1, x.2.2.2.2.2⟩
theorem mm_Wd.xt {h h' : mm_H} {w b : Nat} (x : mm_Wd h w) (y : mm_xt b h h') (h1 : 1 < w) (hb : w + 22 ≤ b) : mm_Wd h' w := ⟨x.1.ext y.1, x.2.1.ext y.1, x.2.2.1.ext y.1, x.2.2.2.1.xt y (by omega) (by omega), fun i hi => (x.2.2.2.2.1 i hi).ext y.1, (y.2 w 0 h1 (by omega)).trans x.2.2.2.2.2.1, (y.2 w 1 h1 (by omega)).trans x.2.2.2.2.2.2.1, (y.2 w 2 h1 (by omega)).trans x.2.2.2.2.2.2.2.1, fun i hi => (y.2 (w + 1) i (by omega) (by omega)).trans (x.2.2.2.2.2.2.2.2 i hi)⟩
set_option maxRecDepth 20000 in
theorem c_Ta_init {G : mm_G} {Q : mm_O → mm_H → Prop} {h : mm_H} (hn : mm_n h = 2) (hz : mm_c h + 1 = 2) (hb : 60 ≤ mm_BC G) (hs9 : mm_s h + 2070 ≤ mm_BS G) (hZ : mm_zz 0 h) (hq : ∀ h', mm_Ta h' 2 24 → CS (mm_gi h') 2 a_0 [] (a_encW a_0) [] → mm_n h' = 52 → mm_c h' + 1 = 52 → mm_s h' ≤ mm_s h + 2070 → mm_zz 52 h' → Q (.inl none) h') : mm_V G (4, 88) M_Ta_init Q 0 (mm_ent 1 [.ref 1]) [] h := by
  show mm_V G (4, 88) M_Ta_init Q 0 [some (.ref 1)] [] h
  refine mv_aload_n (pc := 0) d_Ta_init_0 rfl ?_
  refine mv_objInit (pc := 1) d_Ta_init_1 oi_Ta_1 w_oi w_oc (Nat.le_of_ble_eq_true rfl) (by decide) ?_
  refine mv_aload_n (pc := 4) d_Ta_init_4 rfl ?_
  refine mv_new (pc := 5) d_Ta_init_5 nl_Ta_7 (by first | (rw [hn]; decide +kernel) | (simp only [mm_nn, mm_ns, hn]; decide +kernel)) (by first | omega | (simp only [mm_nn, mm_ns, mm_cn, mm_cs, mm_sn, mm_ss] <;> omega)) (by first | omega | (simp only [mm_nn, mm_ns, mm_cn, mm_cs, mm_sn, mm_ss] <;> omega)) (by first | omega | (simp only [mm_nn, mm_ns, mm_cn, mm_cs, mm_sn, mm_ss] <;> omega)) ?_
  simp only [mm_nn, mm_ns, hn, Nat.reduceAdd]
  refine mv_dup (pc := 8) d_Ta_init_8 rfl ?_
  refine mr_callI0 (pc := 9) d_Ta_init_9 (d2 := (2, 40)) ok_Wo_init li_Ta_9 ⟨rfl, rfl⟩ sv_Wo_init sw_Wo_init (by decide) ⟨by decide, Nat.le_of_ble_eq_true rfl, rfl, by decide, by decide⟩ ?_
  refine c_Wo_init_2 (by first | omega | (simp only [mm_nn, mm_ns, mm_cn, mm_cs, mm_sn, mm_ss] <;> omega)) (by first | omega | (simp only [mm_nn, mm_ns, mm_cn, mm_cs, mm_sn, mm_ss] <;> omega)) (by first | omega | (simp only [mm_nn, mm_ns, mm_cn, mm_cs, mm_sn, mm_ss] <;> omega)) (by first | omega | (simp only [mm_nn, mm_ns, mm_cn, mm_cs, mm_sn, mm_ss] <;> omega)) (hZ.new 4) (fun h1 n1 c1 s1 z1 x1 w1 => ?_)
  simp only [mm_nn, mm_ns, mm_cn, mm_cs, mm_sn, mm_ss] at s1
  refine mr_putr (pc := 12) d_Ta_init_12 fl_Ta_10 (mm_atC (a := 1) (kd := 6) (n := 4) (by decide +kernel) (by decide) (by first | omega | (simp only [mm_nn, mm_ns, mm_cn, mm_cs, mm_sn, mm_ss] <;> omega))) rfl (by decide) (fun _ => ⟨rfl, rfl⟩) ?_
  refine mv_aload_n (pc := 15) d_Ta_init_15 rfl ?_
  refine mv_new (pc := 16) d_Ta_init_16 nl_Ta_7 (by first | (rw [n1]; decide +kernel) | (simp only [mm_nn, mm_ns, n1]; decide +kernel)) (by first | omega | (simp only [mm_nn, mm_ns, mm_cn, mm_cs, mm_sn, mm_ss] <;> omega)) (by first | omega | (simp only [mm_nn, mm_ns, mm_cn, mm_cs, mm_sn, mm_ss] <;> omega)) (by first | omega | (simp only [mm_nn, mm_ns, mm_cn, mm_cs, mm_sn, mm_ss] <;> omega)) ?_
  simp only [mm_nn, mm_ns, n1, Nat.reduceAdd]
  refine mv_dup (pc := 19) d_Ta_init_19 rfl ?_
  refine mr_callI0 (pc := 20) d_Ta_init_20 (d2 := (2, 40)) ok_Wo_init li_Ta_9 ⟨rfl, rfl⟩ sv_Wo_init sw_Wo_init (by decide) ⟨by decide, Nat.le_of_ble_eq_true rfl, rfl, by decide, by decide⟩ ?_
  refine c_Wo_init_24 (by first | omega | (simp only [mm_nn, mm_ns, mm_cn, mm_cs, mm_sn, mm_ss] <;> omega)) (by first | omega | (simp only [mm_nn, mm_ns, mm_cn, mm_cs, mm_sn, mm_ss] <;> omega)) (by first | omega | (simp only [mm_nn, mm_ns, mm_cn, mm_cs, mm_sn, mm_ss] <;> omega)) (by first | omega | (simp only [mm_nn, mm_ns, mm_cn, mm_cs, mm_sn, mm_ss] <;> omega)) ((z1.sr 1 0 (some 2)).new 4) (fun h2 n2 c2 s2 z2 x2 w2 => ?_)
  simp only [mm_nn, mm_ns, mm_cn, mm_cs, mm_sn, mm_ss] at s2
  refine mr_putr (pc := 23) d_Ta_init_23 fl_Ta_16 (mm_atC (a := 1) (kd := 6) (n := 4) (by decide +kernel) (by decide) (by first | omega | (simp only [mm_nn, mm_ns, mm_cn, mm_cs, mm_sn, mm_ss] <;> omega))) rfl (by decide) (fun _ => ⟨rfl, rfl⟩) ?_
  refine mv_aload_n (pc := 26) d_Ta_init_26 rfl ?_
  refine mv_new (pc := 27) d_Ta_init_27 nl_Ta_19 (by first | (rw [n2]; decide +kernel) | (simp only [mm_nn, mm_ns, n2]; decide +kernel)) (by first | omega | (simp only [mm_nn, mm_ns, mm_cn, mm_cs, mm_sn, mm_ss] <;> omega)) (by first | omega | (simp only [mm_nn, mm_ns, mm_cn, mm_cs, mm_sn, mm_ss] <;> omega)) (by first | omega | (simp only [mm_nn, mm_ns, mm_cn, mm_cs, mm_sn, mm_ss] <;> omega)) ?_
  simp only [mm_nn, mm_ns, n2, Nat.reduceAdd]
  refine mv_dup (pc := 30) d_Ta_init_30 rfl ?_
  refine mr_callI0 (pc := 31) d_Ta_init_31 (d2 := (2, 41)) ok_Sb_init li_Ta_21 ⟨rfl, rfl⟩ sv_Sb_init sw_Sb_init (by decide) ⟨by decide, Nat.le_of_ble_eq_true rfl, rfl, by decide, by decide⟩ ?_
  refine c_Sb_init (by first | omega | (simp only [mm_nn, mm_ns, mm_cn, mm_cs, mm_sn, mm_ss] <;> omega)) (by first | omega | (simp only [mm_nn, mm_ns, mm_cn, mm_cs, mm_sn, mm_ss] <;> omega)) (by first | omega | (simp only [mm_nn, mm_ns, mm_cn, mm_cs, mm_sn, mm_ss] <;> omega)) (by first | omega | (simp only [mm_nn, mm_ns, mm_cn, mm_cs, mm_sn, mm_ss] <;> omega)) ((z2.sr 1 1 (some 24)).new 1) (fun h3 n3 c3 s3 z3 x3 w3 => ?_)
  simp only [mm_nn, mm_ns, mm_cn, mm_cs, mm_sn, mm_ss] at s3
  refine mr_putF (pc := 34) d_Ta_init_34 ff_Ta_22 (mm_atC (a := 1) (kd := 6) (n := 4) (by decide +kernel) (by decide) (by first | omega | (simp only [mm_nn, mm_ns, mm_cn, mm_cs, mm_sn, mm_ss] <;> omega))) rfl (by decide) (by decide) (fun _ => ⟨rfl, rfl⟩) ?_
  refine mv_aload_n (pc := 37) d_Ta_init_37 rfl ?_
  refine mv_new (pc := 38) d_Ta_init_38 nl_Ta_26 (by first | (rw [n3]; decide +kernel) | (simp only [mm_nn, mm_ns, n3]; decide +kernel)) (by first | omega | (simp only [mm_nn, mm_ns, mm_cn, mm_cs, mm_sn, mm_ss] <;> omega)) (by first | omega | (simp only [mm_nn, mm_ns, mm_cn, mm_cs, mm_sn, mm_ss] <;> omega)) (by first | omega | (simp only [mm_nn, mm_ns, mm_cn, mm_cs, mm_sn, mm_ss] <;> omega)) ?_
  simp only [mm_nn, mm_ns, n3, Nat.reduceAdd]
  refine mv_dup (pc := 41) d_Ta_init_41 rfl ?_
  refine mr_callI0 (pc := 42) d_Ta_init_42 (d2 := (2, 41)) ok_Lg_init li_Ta_28 ⟨rfl, rfl⟩ sv_Lg_init sw_Lg_init (by decide) ⟨by decide, Nat.le_of_ble_eq_true rfl, rfl, by decide, by decide⟩ ?_
  refine c_Lg_init (by first | omega | (simp only [mm_nn, mm_ns, mm_cn, mm_cs, mm_sn, mm_ss] <;> omega)) (by first | omega | (simp only [mm_nn, mm_ns, mm_cn, mm_cs, mm_sn, mm_ss] <;> omega)) (by first | omega | (simp only [mm_nn, mm_ns, mm_cn, mm_cs, mm_sn, mm_ss] <;> omega)) (by first | omega | (simp only [mm_nn, mm_ns, mm_cn, mm_cs, mm_sn, mm_ss] <;> omega)) ((z3.sr 1 2 (some 46)).new 1) (fun h4 n4 c4 s4 z4 x4 w4 => ?_)
  simp only [mm_nn, mm_ns, mm_cn, mm_cs, mm_sn, mm_ss] at s4
  refine mr_putF (pc := 45) d_Ta_init_45 ff_Ta_29 (mm_atC (a := 1) (kd := 6) (n := 4) (by decide +kernel) (by decide) (by first | omega | (simp only [mm_nn, mm_ns, mm_cn, mm_cs, mm_sn, mm_ss] <;> omega))) rfl (by decide) (by decide) (fun _ => ⟨rfl, rfl⟩) ?_
  have k3 := fun k => (x4.2 1 k (by omega)).2
  have k2 := fun k => (x3.2 1 k (by omega)).2
  have k1 := fun k => (x2.2 1 k (by omega)).2
  have y4 : mm_xt 52 h4 (mm_sr h4 1 3 (some 49)) := mm_xt.sr1 (mm_ext.rfl'.xt) 3 (some 49)
  have y3 : mm_xt 49 h3 (mm_sr h4 1 3 (some 49)) := ((mm_xt.sr1 (mm_ext.rfl' (b := 49)).xt 2 (some 46)).trans (((mm_ext.rfl' (b := 49)).new (by first | omega | (simp only [mm_nn, mm_ns, mm_cn, mm_cs, mm_sn, mm_ss] <;> omega)) 1).trans x4 (by omega)).xt).trans (y4.le (by omega))
  have y2 : mm_xt 46 h2 (mm_sr h4 1 3 (some 49)) := ((mm_xt.sr1 (mm_ext.rfl' (b := 46)).xt 1 (some 24)).trans (((mm_ext.rfl' (b := 46)).new (by first | omega | (simp only [mm_nn, mm_ns, mm_cn, mm_cs, mm_sn, mm_ss] <;> omega)) 1).trans x3 (by omega)).xt).trans (y3.le (by omega))
  have y1 : mm_xt 24 h1 (mm_sr h4 1 3 (some 49)) := ((mm_xt.sr1 (mm_ext.rfl' (b := 24)).xt 0 (some 2)).trans (((mm_ext.rfl' (b := 24)).new (by first | omega | (simp only [mm_nn, mm_ns, mm_cn, mm_cs, mm_sn, mm_ss] <;> omega)) 4).trans x2 (by omega)).xt).trans (y2.le (by omega))
  have hT : mm_Ta (mm_sr h4 1 3 (some 49)) 2 24 := ⟨(mm_atC (a := 1) (kd := 6) (n := 4) (by decide +kernel) (by decide) (by first | omega | (simp only [mm_nn, mm_ns, mm_cn, mm_cs, mm_sn, mm_ss] <;> omega))), by rw [mm_grs, if_neg (by omega), k3, mm_grn, if_neg (by first | omega | (simp only [mm_nn, mm_ns, mm_cn, mm_cs, mm_sn, mm_ss] <;> omega)), mm_grs, if_neg (by omega), k2, mm_grn, if_neg (by first | omega | (simp only [mm_nn, mm_ns, mm_cn, mm_cs, mm_sn, mm_ss] <;> omega)), mm_grs, if_neg (by omega), k1, mm_grn, if_neg (by first | omega | (simp only [mm_nn, mm_ns, mm_cn, mm_cs, mm_sn, mm_ss] <;> omega)), mm_grs, if_pos ⟨rfl, rfl⟩], by rw [mm_grs, if_neg (by omega), k3, mm_grn, if_neg (by first | omega | (simp only [mm_nn, mm_ns, mm_cn, mm_cs, mm_sn, mm_ss] <;> omega)), mm_grs, if_neg (by omega), k2, mm_grn, if_neg (by first | omega | (simp only [mm_nn, mm_ns, mm_cn, mm_cs, mm_sn, mm_ss] <;> omega)), mm_grs, if_pos ⟨rfl, rfl⟩], by rw [mm_grs, if_neg (by omega), k3, mm_grn, if_neg (by first | omega | (simp only [mm_nn, mm_ns, mm_cn, mm_cs, mm_sn, mm_ss] <;> omega)), mm_grs, if_pos ⟨rfl, rfl⟩], by rw [mm_grs, if_pos ⟨rfl, rfl⟩], w3.xt y3 (by omega) (by omega) (by omega) (by omega), w4.xt y4 (by omega) (by omega) (by omega) (by omega), w1.xt y1 (by omega) (by omega), w2.xt y2 (by omega) (by omega), Or.inl ⟨rfl, rfl⟩⟩
  have hz4 : mm_zz 0 (mm_sr h4 1 3 (some 49)) := (z4.sr 1 3 (some 49))
  have hR : RC (mm_gi (mm_sr h4 1 3 (some 49))) 2 a_0 := RC_0 (fun a k _ _ => hz4 a k (by omega))
  refine mv_aload_n (pc := 48) d_Ta_init_48 rfl ?_
  refine mr_getr (pc := 49) d_Ta_init_49 fl_Ta_22 hT.1 rfl (by decide) hT.2.2.2.1 ?_
  refine mv_aload_n (pc := 52) d_Ta_init_52 rfl ?_
  refine mr_getr (pc := 53) d_Ta_init_53 fl_Ta_10 hT.1 rfl (by decide) hT.2.1 ?_
  refine mr_callV1 (pc := 56) d_Ta_init_56 (d2 := (3, 66)) ok_Sb_write li_Ta_33 sv_Sb_write hT.2.2.2.2.2.1.1 ⟨by decide, rfl⟩ ⟨by decide, rfl, Nat.le_of_ble_eq_true rfl, rfl, by decide, by decide⟩ ?_
  refine c_write (h := mm_sr h4 1 3 (some 49)) hT.2.2.2.2.2.1 hT.2.2.2.2.2.2.2.1 (by omega) hR (by rw [a_cnt0]; omega) (fun F5 f5 b5 => ?_)
  refine mv_ret (pc := 59) d_Ta_init_59 rfl ?_
  refine hq (mm_wi (mm_sr h4 1 3 (some 49)) F5) hT ⟨hR.yfr (by omega) f5, RE.nil ((f5.1 5 2 (by omega) (by omega)).trans (hz4 _ _ (by omega))), b5, ⟨(f5.1 50 1 (by omega) (by omega)).trans (hz4 _ _ (by omega)), fun j hj => absurd hj (by simp)⟩, ?_, by simp⟩ n4 c4 ?_ (fun a k ha => (f5.1 a k (by omega) (by omega)).trans (hz4 _ _ (by omega)))
  · have q1 := a_body_len a_0
    rw [a_cnt0] at q1
    rw [a_encW, List.length_append, mm_enc_len]; omega
  · show mm_s h4 ≤ _
    omega
set_option maxRecDepth 20000 in
theorem c_Mo_init {G : mm_G} {Q : mm_O → mm_H → Prop} {h : mm_H} (hn : mm_n h = 53) (hz : mm_c h + 1 = 53) (hb : 80 ≤ mm_BC G) (hs9 : mm_s h + 3124 ≤ mm_BS G) (hZ : mm_zz 52 h) (hq : ∀ h', mm_Mo h' → MS (mm_gi h') a_0 [] (a_encW a_0) [] → mm_n h' = 71 → mm_c h' + 1 = 71 → mm_s h' = mm_s h + 3124 → mm_ext 52 h h' → Q (.inl none) h') : mm_V G (3, 69) M_Mo_init Q 0 (mm_ent 2 [.ref 52]) [] h := by
  show mm_V G (3, 69) M_Mo_init Q 0 [some (.ref 52), none] [] h
  refine mv_aload_n (pc := 0) d_Mo_init_0 rfl ?_
  refine mv_objInit (pc := 1) d_Mo_init_1 oi_Mo_1 w_oi w_oc (Nat.le_of_ble_eq_true rfl) (by decide) ?_
  refine mv_aload_n (pc := 4) d_Mo_init_4 rfl ?_
  refine mv_iconst (v := 2) (pc := 5) d_Mo_init_5 (by decide) ?_
  refine mv_newi (n := 2) (pc := 6) d_Mo_init_6 rfl w_aint (by decide) rfl (by decide) (by first | (rw [hn]; decide +kernel) | (simp only [mm_nn, mm_ns, hn]; decide +kernel)) (by first | omega | (simp only [mm_nn, mm_ns, mm_cn, mm_cs, mm_sn, mm_ss] <;> omega)) (by first | omega | (simp only [mm_nn, mm_ns, mm_cn, mm_cs, mm_sn, mm_ss] <;> omega)) (by first | omega | (simp only [mm_nn, mm_ns, mm_cn, mm_cs, mm_sn, mm_ss] <;> omega)) ?_
  simp only [mm_nn, mm_ns, hn, Nat.reduceAdd]
  refine mr_putF (pc := 8) d_Mo_init_8 ff_Mo_7 (mm_atC (a := 52) (kd := 7) (n := 24) (by decide +kernel) (by decide) (by first | omega | (simp only [mm_nn, mm_ns, mm_cn, mm_cs, mm_sn, mm_ss] <;> omega))) rfl (by decide) (by decide) (fun _ => ⟨rfl, rfl⟩) ?_
  refine mv_aload_n (pc := 11) d_Mo_init_11 rfl ?_
  refine mv_bipush (v := 32) (pc := 12) d_Mo_init_12 (by decide) ?_
  refine mv_newi (n := 32) (pc := 14) d_Mo_init_14 rfl w_aint (by decide) rfl (by decide) (by first | (rw [hn]; decide +kernel) | (simp only [mm_nn, mm_ns, hn]; decide +kernel)) (by first | omega | (simp only [mm_nn, mm_ns, mm_cn, mm_cs, mm_sn, mm_ss] <;> omega)) (by first | omega | (simp only [mm_nn, mm_ns, mm_cn, mm_cs, mm_sn, mm_ss] <;> omega)) (by first | omega | (simp only [mm_nn, mm_ns, mm_cn, mm_cs, mm_sn, mm_ss] <;> omega)) ?_
  simp only [mm_nn, mm_ns, hn, Nat.reduceAdd]
  refine mr_putF (pc := 16) d_Mo_init_16 ff_Mo_13 (mm_atC (a := 52) (kd := 7) (n := 24) (by decide +kernel) (by decide) (by first | omega | (simp only [mm_nn, mm_ns, mm_cn, mm_cs, mm_sn, mm_ss] <;> omega))) rfl (by decide) (by decide) (fun _ => ⟨rfl, rfl⟩) ?_
  refine mv_aload_n (pc := 19) d_Mo_init_19 rfl ?_
  refine mv_bipush (v := 32) (pc := 20) d_Mo_init_20 (by decide) ?_
  refine mv_newz (n := 32) (pc := 22) d_Mo_init_22 rfl w_aboolean (by decide) rfl (by decide) (by first | (rw [hn]; decide +kernel) | (simp only [mm_nn, mm_ns, hn]; decide +kernel)) (by first | omega | (simp only [mm_nn, mm_ns, mm_cn, mm_cs, mm_sn, mm_ss] <;> omega)) (by first | omega | (simp only [mm_nn, mm_ns, mm_cn, mm_cs, mm_sn, mm_ss] <;> omega)) (by first | omega | (simp only [mm_nn, mm_ns, mm_cn, mm_cs, mm_sn, mm_ss] <;> omega)) ?_
  simp only [mm_nn, mm_ns, hn, Nat.reduceAdd]
  refine mr_putF (pc := 24) d_Mo_init_24 ff_Mo_16 (mm_atC (a := 52) (kd := 7) (n := 24) (by decide +kernel) (by decide) (by first | omega | (simp only [mm_nn, mm_ns, mm_cn, mm_cs, mm_sn, mm_ss] <;> omega))) rfl (by decide) (by decide) (fun _ => ⟨rfl, rfl⟩) ?_
  refine mv_aload_n (pc := 27) d_Mo_init_27 rfl ?_
  refine mv_bipush (v := 32) (pc := 28) d_Mo_init_28 (by decide) ?_
  refine mv_newi (n := 32) (pc := 30) d_Mo_init_30 rfl w_aint (by decide) rfl (by decide) (by first | (rw [hn]; decide +kernel) | (simp only [mm_nn, mm_ns, hn]; decide +kernel)) (by first | omega | (simp only [mm_nn, mm_ns, mm_cn, mm_cs, mm_sn, mm_ss] <;> omega)) (by first | omega | (simp only [mm_nn, mm_ns, mm_cn, mm_cs, mm_sn, mm_ss] <;> omega)) (by first | omega | (simp only [mm_nn, mm_ns, mm_cn, mm_cs, mm_sn, mm_ss] <;> omega)) ?_
  simp only [mm_nn, mm_ns, hn, Nat.reduceAdd]
  refine mr_putF (pc := 32) d_Mo_init_32 ff_Mo_20 (mm_atC (a := 52) (kd := 7) (n := 24) (by decide +kernel) (by decide) (by first | omega | (simp only [mm_nn, mm_ns, mm_cn, mm_cs, mm_sn, mm_ss] <;> omega))) rfl (by decide) (by decide) (fun _ => ⟨rfl, rfl⟩) ?_
  refine mv_aload_n (pc := 35) d_Mo_init_35 rfl ?_
  refine mv_bipush (v := 32) (pc := 36) d_Mo_init_36 (by decide) ?_
  refine mv_newi (n := 32) (pc := 38) d_Mo_init_38 rfl w_aint (by decide) rfl (by decide) (by first | (rw [hn]; decide +kernel) | (simp only [mm_nn, mm_ns, hn]; decide +kernel)) (by first | omega | (simp only [mm_nn, mm_ns, mm_cn, mm_cs, mm_sn, mm_ss] <;> omega)) (by first | omega | (simp only [mm_nn, mm_ns, mm_cn, mm_cs, mm_sn, mm_ss] <;> omega)) (by first | omega | (simp only [mm_nn, mm_ns, mm_cn, mm_cs, mm_sn, mm_ss] <;> omega)) ?_
  simp only [mm_nn, mm_ns, hn, Nat.reduceAdd]
  refine mr_putF (pc := 40) d_Mo_init_40 ff_Mo_23 (mm_atC (a := 52) (kd := 7) (n := 24) (by decide +kernel) (by decide) (by first | omega | (simp only [mm_nn, mm_ns, mm_cn, mm_cs, mm_sn, mm_ss] <;> omega))) rfl (by decide) (by decide) (fun _ => ⟨rfl, rfl⟩) ?_
  refine mv_aload_n (pc := 43) d_Mo_init_43 rfl ?_
  refine mv_bipush (v := 32) (pc := 44) d_Mo_init_44 (by decide) ?_
  refine mv_newi (n := 32) (pc := 46) d_Mo_init_46 rfl w_aint (by decide) rfl (by decide) (by first | (rw [hn]; decide +kernel) | (simp only [mm_nn, mm_ns, hn]; decide +kernel)) (by first | omega | (simp only [mm_nn, mm_ns, mm_cn, mm_cs, mm_sn, mm_ss] <;> omega)) (by first | omega | (simp only [mm_nn, mm_ns, mm_cn, mm_cs, mm_sn, mm_ss] <;> omega)) (by first | omega | (simp only [mm_nn, mm_ns, mm_cn, mm_cs, mm_sn, mm_ss] <;> omega)) ?_
  simp only [mm_nn, mm_ns, hn, Nat.reduceAdd]
  refine mr_putF (pc := 48) d_Mo_init_48 ff_Mo_26 (mm_atC (a := 52) (kd := 7) (n := 24) (by decide +kernel) (by decide) (by first | omega | (simp only [mm_nn, mm_ns, mm_cn, mm_cs, mm_sn, mm_ss] <;> omega))) rfl (by decide) (by decide) (fun _ => ⟨rfl, rfl⟩) ?_
  refine mv_aload_n (pc := 51) d_Mo_init_51 rfl ?_
  refine mv_bipush (v := 32) (pc := 52) d_Mo_init_52 (by decide) ?_
  refine mv_newi (n := 32) (pc := 54) d_Mo_init_54 rfl w_aint (by decide) rfl (by decide) (by first | (rw [hn]; decide +kernel) | (simp only [mm_nn, mm_ns, hn]; decide +kernel)) (by first | omega | (simp only [mm_nn, mm_ns, mm_cn, mm_cs, mm_sn, mm_ss] <;> omega)) (by first | omega | (simp only [mm_nn, mm_ns, mm_cn, mm_cs, mm_sn, mm_ss] <;> omega)) (by first | omega | (simp only [mm_nn, mm_ns, mm_cn, mm_cs, mm_sn, mm_ss] <;> omega)) ?_
  simp only [mm_nn, mm_ns, hn, Nat.reduceAdd]
  refine mr_putF (pc := 56) d_Mo_init_56 ff_Mo_29 (mm_atC (a := 52) (kd := 7) (n := 24) (by decide +kernel) (by decide) (by first | omega | (simp only [mm_nn, mm_ns, mm_cn, mm_cs, mm_sn, mm_ss] <;> omega))) rfl (by decide) (by decide) (fun _ => ⟨rfl, rfl⟩) ?_
  refine mv_aload_n (pc := 59) d_Mo_init_59 rfl ?_
  refine mv_bipush (v := 32) (pc := 60) d_Mo_init_60 (by decide) ?_
  refine mv_newi (n := 32) (pc := 62) d_Mo_init_62 rfl w_aint (by decide) rfl (by decide) (by first | (rw [hn]; decide +kernel) | (simp only [mm_nn, mm_ns, hn]; decide +kernel)) (by first | omega | (simp only [mm_nn, mm_ns, mm_cn, mm_cs, mm_sn, mm_ss] <;> omega)) (by first | omega | (simp only [mm_nn, mm_ns, mm_cn, mm_cs, mm_sn, mm_ss] <;> omega)) (by first | omega | (simp only [mm_nn, mm_ns, mm_cn, mm_cs, mm_sn, mm_ss] <;> omega)) ?_
  simp only [mm_nn, mm_ns, hn, Nat.reduceAdd]
  refine mr_putF (pc := 64) d_Mo_init_64 ff_Mo_32 (mm_atC (a := 52) (kd := 7) (n := 24) (by decide +kernel) (by decide) (by first | omega | (simp only [mm_nn, mm_ns, mm_cn, mm_cs, mm_sn, mm_ss] <;> omega))) rfl (by decide) (by decide) (fun _ => ⟨rfl, rfl⟩) ?_
  refine mv_aload_n (pc := 67) d_Mo_init_67 rfl ?_
  refine mv_bipush (v := 32) (pc := 68) d_Mo_init_68 (by decide) ?_
  refine mv_newi (n := 32) (pc := 70) d_Mo_init_70 rfl w_aint (by decide) rfl (by decide) (by first | (rw [hn]; decide +kernel) | (simp only [mm_nn, mm_ns, hn]; decide +kernel)) (by first | omega | (simp only [mm_nn, mm_ns, mm_cn, mm_cs, mm_sn, mm_ss] <;> omega)) (by first | omega | (simp only [mm_nn, mm_ns, mm_cn, mm_cs, mm_sn, mm_ss] <;> omega)) (by first | omega | (simp only [mm_nn, mm_ns, mm_cn, mm_cs, mm_sn, mm_ss] <;> omega)) ?_
  simp only [mm_nn, mm_ns, hn, Nat.reduceAdd]
  refine mr_putF (pc := 72) d_Mo_init_72 ff_Mo_35 (mm_atC (a := 52) (kd := 7) (n := 24) (by decide +kernel) (by decide) (by first | omega | (simp only [mm_nn, mm_ns, mm_cn, mm_cs, mm_sn, mm_ss] <;> omega))) rfl (by decide) (by decide) (fun _ => ⟨rfl, rfl⟩) ?_
  refine mv_aload_n (pc := 75) d_Mo_init_75 rfl ?_
  refine mv_bipush (v := 32) (pc := 76) d_Mo_init_76 (by decide) ?_
  refine mv_newi (n := 32) (pc := 78) d_Mo_init_78 rfl w_aint (by decide) rfl (by decide) (by first | (rw [hn]; decide +kernel) | (simp only [mm_nn, mm_ns, hn]; decide +kernel)) (by first | omega | (simp only [mm_nn, mm_ns, mm_cn, mm_cs, mm_sn, mm_ss] <;> omega)) (by first | omega | (simp only [mm_nn, mm_ns, mm_cn, mm_cs, mm_sn, mm_ss] <;> omega)) (by first | omega | (simp only [mm_nn, mm_ns, mm_cn, mm_cs, mm_sn, mm_ss] <;> omega)) ?_
  simp only [mm_nn, mm_ns, hn, Nat.reduceAdd]
  refine mr_putF (pc := 80) d_Mo_init_80 ff_Mo_38 (mm_atC (a := 52) (kd := 7) (n := 24) (by decide +kernel) (by decide) (by first | omega | (simp only [mm_nn, mm_ns, mm_cn, mm_cs, mm_sn, mm_ss] <;> omega))) rfl (by decide) (by decide) (fun _ => ⟨rfl, rfl⟩) ?_
  refine mv_aload_n (pc := 83) d_Mo_init_83 rfl ?_
  refine mv_sipush (v := 512) (pc := 84) d_Mo_init_84 (by decide) ?_
  refine mv_newz (n := 512) (pc := 87) d_Mo_init_87 rfl w_aboolean (by decide) rfl (by decide) (by first | (rw [hn]; decide +kernel) | (simp only [mm_nn, mm_ns, hn]; decide +kernel)) (by first | omega | (simp only [mm_nn, mm_ns, mm_cn, mm_cs, mm_sn, mm_ss] <;> omega)) (by first | omega | (simp only [mm_nn, mm_ns, mm_cn, mm_cs, mm_sn, mm_ss] <;> omega)) (by first | omega | (simp only [mm_nn, mm_ns, mm_cn, mm_cs, mm_sn, mm_ss] <;> omega)) ?_
  simp only [mm_nn, mm_ns, hn, Nat.reduceAdd]
  refine mr_putF (pc := 89) d_Mo_init_89 ff_Mo_41 (mm_atC (a := 52) (kd := 7) (n := 24) (by decide +kernel) (by decide) (by first | omega | (simp only [mm_nn, mm_ns, mm_cn, mm_cs, mm_sn, mm_ss] <;> omega))) rfl (by decide) (by decide) (fun _ => ⟨rfl, rfl⟩) ?_
  refine mv_aload_n (pc := 92) d_Mo_init_92 rfl ?_
  refine mv_iconst (v := 2) (pc := 93) d_Mo_init_93 (by decide) ?_
  refine mv_newi (n := 2) (pc := 94) d_Mo_init_94 rfl w_aint (by decide) rfl (by decide) (by first | (rw [hn]; decide +kernel) | (simp only [mm_nn, mm_ns, hn]; decide +kernel)) (by first | omega | (simp only [mm_nn, mm_ns, mm_cn, mm_cs, mm_sn, mm_ss] <;> omega)) (by first | omega | (simp only [mm_nn, mm_ns, mm_cn, mm_cs, mm_sn, mm_ss] <;> omega)) (by first | omega | (simp only [mm_nn, mm_ns, mm_cn, mm_cs, mm_sn, mm_ss] <;> omega)) ?_
  simp only [mm_nn, mm_ns, hn, Nat.reduceAdd]
  refine mr_putF (pc := 96) d_Mo_init_96 ff_Mo_44 (mm_atC (a := 52) (kd := 7) (n := 24) (by decide +kernel) (by decide) (by first | omega | (simp only [mm_nn, mm_ns, mm_cn, mm_cs, mm_sn, mm_ss] <;> omega))) rfl (by decide) (by decide) (fun _ => ⟨rfl, rfl⟩) ?_
  refine mv_aload_n (pc := 99) d_Mo_init_99 rfl ?_
  refine mv_sipush (v := 240) (pc := 100) d_Mo_init_100 (by decide) ?_
  refine mv_newi (n := 240) (pc := 103) d_Mo_init_103 rfl w_aint (by decide) rfl (by decide) (by first | (rw [hn]; decide +kernel) | (simp only [mm_nn, mm_ns, hn]; decide +kernel)) (by first | omega | (simp only [mm_nn, mm_ns, mm_cn, mm_cs, mm_sn, mm_ss] <;> omega)) (by first | omega | (simp only [mm_nn, mm_ns, mm_cn, mm_cs, mm_sn, mm_ss] <;> omega)) (by first | omega | (simp only [mm_nn, mm_ns, mm_cn, mm_cs, mm_sn, mm_ss] <;> omega)) ?_
  simp only [mm_nn, mm_ns, hn, Nat.reduceAdd]
  refine mr_putF (pc := 105) d_Mo_init_105 ff_Mo_47 (mm_atC (a := 52) (kd := 7) (n := 24) (by decide +kernel) (by decide) (by first | omega | (simp only [mm_nn, mm_ns, mm_cn, mm_cs, mm_sn, mm_ss] <;> omega))) rfl (by decide) (by decide) (fun _ => ⟨rfl, rfl⟩) ?_
  refine mv_aload_n (pc := 108) d_Mo_init_108 rfl ?_
  refine mv_sipush (v := 240) (pc := 109) d_Mo_init_109 (by decide) ?_
  refine mv_newi (n := 240) (pc := 112) d_Mo_init_112 rfl w_aint (by decide) rfl (by decide) (by first | (rw [hn]; decide +kernel) | (simp only [mm_nn, mm_ns, hn]; decide +kernel)) (by first | omega | (simp only [mm_nn, mm_ns, mm_cn, mm_cs, mm_sn, mm_ss] <;> omega)) (by first | omega | (simp only [mm_nn, mm_ns, mm_cn, mm_cs, mm_sn, mm_ss] <;> omega)) (by first | omega | (simp only [mm_nn, mm_ns, mm_cn, mm_cs, mm_sn, mm_ss] <;> omega)) ?_
  simp only [mm_nn, mm_ns, hn, Nat.reduceAdd]
  refine mr_putF (pc := 114) d_Mo_init_114 ff_Mo_50 (mm_atC (a := 52) (kd := 7) (n := 24) (by decide +kernel) (by decide) (by first | omega | (simp only [mm_nn, mm_ns, mm_cn, mm_cs, mm_sn, mm_ss] <;> omega))) rfl (by decide) (by decide) (fun _ => ⟨rfl, rfl⟩) ?_
  refine mv_aload_n (pc := 117) d_Mo_init_117 rfl ?_
  refine mv_sipush (v := 240) (pc := 118) d_Mo_init_118 (by decide) ?_
  refine mv_newi (n := 240) (pc := 121) d_Mo_init_121 rfl w_aint (by decide) rfl (by decide) (by first | (rw [hn]; decide +kernel) | (simp only [mm_nn, mm_ns, hn]; decide +kernel)) (by first | omega | (simp only [mm_nn, mm_ns, mm_cn, mm_cs, mm_sn, mm_ss] <;> omega)) (by first | omega | (simp only [mm_nn, mm_ns, mm_cn, mm_cs, mm_sn, mm_ss] <;> omega)) (by first | omega | (simp only [mm_nn, mm_ns, mm_cn, mm_cs, mm_sn, mm_ss] <;> omega)) ?_
  simp only [mm_nn, mm_ns, hn, Nat.reduceAdd]
  refine mr_putF (pc := 123) d_Mo_init_123 ff_Mo_53 (mm_atC (a := 52) (kd := 7) (n := 24) (by decide +kernel) (by decide) (by first | omega | (simp only [mm_nn, mm_ns, mm_cn, mm_cs, mm_sn, mm_ss] <;> omega))) rfl (by decide) (by decide) (fun _ => ⟨rfl, rfl⟩) ?_
  refine mv_aload_n (pc := 126) d_Mo_init_126 rfl ?_
  refine mv_sipush (v := 600) (pc := 127) d_Mo_init_127 (by decide) ?_
  refine mv_newi (n := 600) (pc := 130) d_Mo_init_130 rfl w_aint (by decide) rfl (by decide) (by first | (rw [hn]; decide +kernel) | (simp only [mm_nn, mm_ns, hn]; decide +kernel)) (by first | omega | (simp only [mm_nn, mm_ns, mm_cn, mm_cs, mm_sn, mm_ss] <;> omega)) (by first | omega | (simp only [mm_nn, mm_ns, mm_cn, mm_cs, mm_sn, mm_ss] <;> omega)) (by first | omega | (simp only [mm_nn, mm_ns, mm_cn, mm_cs, mm_sn, mm_ss] <;> omega)) ?_
  simp only [mm_nn, mm_ns, hn, Nat.reduceAdd]
  refine mr_putF (pc := 132) d_Mo_init_132 ff_Mo_56 (mm_atC (a := 52) (kd := 7) (n := 24) (by decide +kernel) (by decide) (by first | omega | (simp only [mm_nn, mm_ns, mm_cn, mm_cs, mm_sn, mm_ss] <;> omega))) rfl (by decide) (by decide) (fun _ => ⟨rfl, rfl⟩) ?_
  refine mv_aload_n (pc := 135) d_Mo_init_135 rfl ?_
  refine mv_sipush (v := 400) (pc := 136) d_Mo_init_136 (by decide) ?_
  refine mv_newi (n := 400) (pc := 139) d_Mo_init_139 rfl w_aint (by decide) rfl (by decide) (by first | (rw [hn]; decide +kernel) | (simp only [mm_nn, mm_ns, hn]; decide +kernel)) (by first | omega | (simp only [mm_nn, mm_ns, mm_cn, mm_cs, mm_sn, mm_ss] <;> omega)) (by first | omega | (simp only [mm_nn, mm_ns, mm_cn, mm_cs, mm_sn, mm_ss] <;> omega)) (by first | omega | (simp only [mm_nn, mm_ns, mm_cn, mm_cs, mm_sn, mm_ss] <;> omega)) ?_
  simp only [mm_nn, mm_ns, hn, Nat.reduceAdd]
  refine mr_putF (pc := 141) d_Mo_init_141 ff_Mo_59 (mm_atC (a := 52) (kd := 7) (n := 24) (by decide +kernel) (by decide) (by first | omega | (simp only [mm_nn, mm_ns, mm_cn, mm_cs, mm_sn, mm_ss] <;> omega))) rfl (by decide) (by decide) (fun _ => ⟨rfl, rfl⟩) ?_
  refine mv_aload_n (pc := 144) d_Mo_init_144 rfl ?_
  refine mv_sipush (v := 600) (pc := 145) d_Mo_init_145 (by decide) ?_
  refine mv_newi (n := 600) (pc := 148) d_Mo_init_148 rfl w_aint (by decide) rfl (by decide) (by first | (rw [hn]; decide +kernel) | (simp only [mm_nn, mm_ns, hn]; decide +kernel)) (by first | omega | (simp only [mm_nn, mm_ns, mm_cn, mm_cs, mm_sn, mm_ss] <;> omega)) (by first | omega | (simp only [mm_nn, mm_ns, mm_cn, mm_cs, mm_sn, mm_ss] <;> omega)) (by first | omega | (simp only [mm_nn, mm_ns, mm_cn, mm_cs, mm_sn, mm_ss] <;> omega)) ?_
  simp only [mm_nn, mm_ns, hn, Nat.reduceAdd]
  refine mr_putF (pc := 150) d_Mo_init_150 ff_Mo_62 (mm_atC (a := 52) (kd := 7) (n := 24) (by decide +kernel) (by decide) (by first | omega | (simp only [mm_nn, mm_ns, mm_cn, mm_cs, mm_sn, mm_ss] <;> omega))) rfl (by decide) (by decide) (fun _ => ⟨rfl, rfl⟩) ?_
  have hx : mm_ext 52 h (mm_sr (mm_new (mm_sr (mm_new (mm_sr (mm_new (mm_sr (mm_new (mm_sr (mm_new (mm_sr (mm_new (mm_sr (mm_new (mm_sr (mm_new (mm_sr (mm_new (mm_sr (mm_new (mm_sr (mm_new (mm_sr (mm_new (mm_sr (mm_new (mm_sr (mm_new (mm_sr (mm_new (mm_sr (mm_new (mm_sr (mm_new (mm_sr (mm_new h 2) 52 1 (some 53)) 32) 52 2 (some 54)) 32) 52 3 (some 55)) 32) 52 4 (some 56)) 32) 52 5 (some 57)) 32) 52 6 (some 58)) 32) 52 7 (some 59)) 32) 52 8 (some 60)) 32) 52 9 (some 61)) 32) 52 10 (some 62)) 512) 52 11 (some 63)) 2) 52 12 (some 64)) 240) 52 13 (some 65)) 240) 52 14 (some 66)) 240) 52 15 (some 67)) 600) 52 17 (some 68)) 400) 52 19 (some 69)) 600) 52 21 (some 70)) := ((((((((((((((((((((((((((((((((((((mm_ext.rfl'.new (by first | omega | (simp only [mm_nn, mm_ns, mm_cn, mm_cs, mm_sn, mm_ss] <;> omega)) 2).sr (by first | omega | (simp only [mm_nn, mm_ns, mm_cn, mm_cs, mm_sn, mm_ss] <;> omega)) 1 (some 53)).new (by first | omega | (simp only [mm_nn, mm_ns, mm_cn, mm_cs, mm_sn, mm_ss] <;> omega)) 32).sr (by first | omega | (simp only [mm_nn, mm_ns, mm_cn, mm_cs, mm_sn, mm_ss] <;> omega)) 2 (some 54)).new (by first | omega | (simp only [mm_nn, mm_ns, mm_cn, mm_cs, mm_sn, mm_ss] <;> omega)) 32).sr (by first | omega | (simp only [mm_nn, mm_ns, mm_cn, mm_cs, mm_sn, mm_ss] <;> omega)) 3 (some 55)).new (by first | omega | (simp only [mm_nn, mm_ns, mm_cn, mm_cs, mm_sn, mm_ss] <;> omega)) 32).sr (by first | omega | (simp only [mm_nn, mm_ns, mm_cn, mm_cs, mm_sn, mm_ss] <;> omega)) 4 (some 56)).new (by first | omega | (simp only [mm_nn, mm_ns, mm_cn, mm_cs, mm_sn, mm_ss] <;> omega)) 32).sr (by first | omega | (simp only [mm_nn, mm_ns, mm_cn, mm_cs, mm_sn, mm_ss] <;> omega)) 5 (some 57)).new (by first | omega | (simp only [mm_nn, mm_ns, mm_cn, mm_cs, mm_sn, mm_ss] <;> omega)) 32).sr (by first | omega | (simp only [mm_nn, mm_ns, mm_cn, mm_cs, mm_sn, mm_ss] <;> omega)) 6 (some 58)).new (by first | omega | (simp only [mm_nn, mm_ns, mm_cn, mm_cs, mm_sn, mm_ss] <;> omega)) 32).sr (by first | omega | (simp only [mm_nn, mm_ns, mm_cn, mm_cs, mm_sn, mm_ss] <;> omega)) 7 (some 59)).new (by first | omega | (simp only [mm_nn, mm_ns, mm_cn, mm_cs, mm_sn, mm_ss] <;> omega)) 32).sr (by first | omega | (simp only [mm_nn, mm_ns, mm_cn, mm_cs, mm_sn, mm_ss] <;> omega)) 8 (some 60)).new (by first | omega | (simp only [mm_nn, mm_ns, mm_cn, mm_cs, mm_sn, mm_ss] <;> omega)) 32).sr (by first | omega | (simp only [mm_nn, mm_ns, mm_cn, mm_cs, mm_sn, mm_ss] <;> omega)) 9 (some 61)).new (by first | omega | (simp only [mm_nn, mm_ns, mm_cn, mm_cs, mm_sn, mm_ss] <;> omega)) 32).sr (by first | omega | (simp only [mm_nn, mm_ns, mm_cn, mm_cs, mm_sn, mm_ss] <;> omega)) 10 (some 62)).new (by first | omega | (simp only [mm_nn, mm_ns, mm_cn, mm_cs, mm_sn, mm_ss] <;> omega)) 512).sr (by first | omega | (simp only [mm_nn, mm_ns, mm_cn, mm_cs, mm_sn, mm_ss] <;> omega)) 11 (some 63)).new (by first | omega | (simp only [mm_nn, mm_ns, mm_cn, mm_cs, mm_sn, mm_ss] <;> omega)) 2).sr (by first | omega | (simp only [mm_nn, mm_ns, mm_cn, mm_cs, mm_sn, mm_ss] <;> omega)) 12 (some 64)).new (by first | omega | (simp only [mm_nn, mm_ns, mm_cn, mm_cs, mm_sn, mm_ss] <;> omega)) 240).sr (by first | omega | (simp only [mm_nn, mm_ns, mm_cn, mm_cs, mm_sn, mm_ss] <;> omega)) 13 (some 65)).new (by first | omega | (simp only [mm_nn, mm_ns, mm_cn, mm_cs, mm_sn, mm_ss] <;> omega)) 240).sr (by first | omega | (simp only [mm_nn, mm_ns, mm_cn, mm_cs, mm_sn, mm_ss] <;> omega)) 14 (some 66)).new (by first | omega | (simp only [mm_nn, mm_ns, mm_cn, mm_cs, mm_sn, mm_ss] <;> omega)) 240).sr (by first | omega | (simp only [mm_nn, mm_ns, mm_cn, mm_cs, mm_sn, mm_ss] <;> omega)) 15 (some 67)).new (by first | omega | (simp only [mm_nn, mm_ns, mm_cn, mm_cs, mm_sn, mm_ss] <;> omega)) 600).sr (by first | omega | (simp only [mm_nn, mm_ns, mm_cn, mm_cs, mm_sn, mm_ss] <;> omega)) 17 (some 68)).new (by first | omega | (simp only [mm_nn, mm_ns, mm_cn, mm_cs, mm_sn, mm_ss] <;> omega)) 400).sr (by first | omega | (simp only [mm_nn, mm_ns, mm_cn, mm_cs, mm_sn, mm_ss] <;> omega)) 19 (some 69)).new (by first | omega | (simp only [mm_nn, mm_ns, mm_cn, mm_cs, mm_sn, mm_ss] <;> omega)) 600).sr (by first | omega | (simp only [mm_nn, mm_ns, mm_cn, mm_cs, mm_sn, mm_ss] <;> omega)) 21 (some 70))
  have hz9 : mm_zz 52 (mm_sr (mm_new (mm_sr (mm_new (mm_sr (mm_new (mm_sr (mm_new (mm_sr (mm_new (mm_sr (mm_new (mm_sr (mm_new (mm_sr (mm_new (mm_sr (mm_new (mm_sr (mm_new (mm_sr (mm_new (mm_sr (mm_new (mm_sr (mm_new (mm_sr (mm_new (mm_sr (mm_new (mm_sr (mm_new (mm_sr (mm_new (mm_sr (mm_new h 2) 52 1 (some 53)) 32) 52 2 (some 54)) 32) 52 3 (some 55)) 32) 52 4 (some 56)) 32) 52 5 (some 57)) 32) 52 6 (some 58)) 32) 52 7 (some 59)) 32) 52 8 (some 60)) 32) 52 9 (some 61)) 32) 52 10 (some 62)) 512) 52 11 (some 63)) 2) 52 12 (some 64)) 240) 52 13 (some 65)) 240) 52 14 (some 66)) 240) 52 15 (some 67)) 600) 52 17 (some 68)) 400) 52 19 (some 69)) 600) 52 21 (some 70)) := ((((((((((((((((((((((((((((((((((((hZ.new 2).sr 52 1 (some 53)).new 32).sr 52 2 (some 54)).new 32).sr 52 3 (some 55)).new 32).sr 52 4 (some 56)).new 32).sr 52 5 (some 57)).new 32).sr 52 6 (some 58)).new 32).sr 52 7 (some 59)).new 32).sr 52 8 (some 60)).new 32).sr 52 9 (some 61)).new 32).sr 52 10 (some 62)).new 512).sr 52 11 (some 63)).new 2).sr 52 12 (some 64)).new 240).sr 52 13 (some 65)).new 240).sr 52 14 (some 66)).new 240).sr 52 15 (some 67)).new 600).sr 52 17 (some 68)).new 400).sr 52 19 (some 69)).new 600).sr 52 21 (some 70))
  have hn9 : mm_n (mm_sr (mm_new (mm_sr (mm_new (mm_sr (mm_new (mm_sr (mm_new (mm_sr (mm_new (mm_sr (mm_new (mm_sr (mm_new (mm_sr (mm_new (mm_sr (mm_new (mm_sr (mm_new (mm_sr (mm_new (mm_sr (mm_new (mm_sr (mm_new (mm_sr (mm_new (mm_sr (mm_new (mm_sr (mm_new (mm_sr (mm_new (mm_sr (mm_new h 2) 52 1 (some 53)) 32) 52 2 (some 54)) 32) 52 3 (some 55)) 32) 52 4 (some 56)) 32) 52 5 (some 57)) 32) 52 6 (some 58)) 32) 52 7 (some 59)) 32) 52 8 (some 60)) 32) 52 9 (some 61)) 32) 52 10 (some 62)) 512) 52 11 (some 63)) 2) 52 12 (some 64)) 240) 52 13 (some 65)) 240) 52 14 (some 66)) 240) 52 15 (some 67)) 600) 52 17 (some 68)) 400) 52 19 (some 69)) 600) 52 21 (some 70)) = 71 := (by first | omega | (simp only [mm_nn, mm_ns, mm_cn, mm_cs, mm_sn, mm_ss] <;> omega))
  have hc9 : mm_c (mm_sr (mm_new (mm_sr (mm_new (mm_sr (mm_new (mm_sr (mm_new (mm_sr (mm_new (mm_sr (mm_new (mm_sr (mm_new (mm_sr (mm_new (mm_sr (mm_new (mm_sr (mm_new (mm_sr (mm_new (mm_sr (mm_new (mm_sr (mm_new (mm_sr (mm_new (mm_sr (mm_new (mm_sr (mm_new (mm_sr (mm_new (mm_sr (mm_new h 2) 52 1 (some 53)) 32) 52 2 (some 54)) 32) 52 3 (some 55)) 32) 52 4 (some 56)) 32) 52 5 (some 57)) 32) 52 6 (some 58)) 32) 52 7 (some 59)) 32) 52 8 (some 60)) 32) 52 9 (some 61)) 32) 52 10 (some 62)) 512) 52 11 (some 63)) 2) 52 12 (some 64)) 240) 52 13 (some 65)) 240) 52 14 (some 66)) 240) 52 15 (some 67)) 600) 52 17 (some 68)) 400) 52 19 (some 69)) 600) 52 21 (some 70)) + 1 = 71 := (by first | omega | (simp only [mm_nn, mm_ns, mm_cn, mm_cs, mm_sn, mm_ss] <;> omega))
  have hs8 : mm_s (mm_sr (mm_new (mm_sr (mm_new (mm_sr (mm_new (mm_sr (mm_new (mm_sr (mm_new (mm_sr (mm_new (mm_sr (mm_new (mm_sr (mm_new (mm_sr (mm_new (mm_sr (mm_new (mm_sr (mm_new (mm_sr (mm_new (mm_sr (mm_new (mm_sr (mm_new (mm_sr (mm_new (mm_sr (mm_new (mm_sr (mm_new (mm_sr (mm_new h 2) 52 1 (some 53)) 32) 52 2 (some 54)) 32) 52 3 (some 55)) 32) 52 4 (some 56)) 32) 52 5 (some 57)) 32) 52 6 (some 58)) 32) 52 7 (some 59)) 32) 52 8 (some 60)) 32) 52 9 (some 61)) 32) 52 10 (some 62)) 512) 52 11 (some 63)) 2) 52 12 (some 64)) 240) 52 13 (some 65)) 240) 52 14 (some 66)) 240) 52 15 (some 67)) 600) 52 17 (some 68)) 400) 52 19 (some 69)) 600) 52 21 (some 70)) = mm_s h + 3124 := (by first | omega | (simp only [mm_nn, mm_ns, mm_cn, mm_cs, mm_sn, mm_ss] <;> omega))
  have hg9 : ∀ q ∈ mm_moL, mm_gr (mm_sr (mm_new (mm_sr (mm_new (mm_sr (mm_new (mm_sr (mm_new (mm_sr (mm_new (mm_sr (mm_new (mm_sr (mm_new (mm_sr (mm_new (mm_sr (mm_new (mm_sr (mm_new (mm_sr (mm_new (mm_sr (mm_new (mm_sr (mm_new (mm_sr (mm_new (mm_sr (mm_new (mm_sr (mm_new (mm_sr (mm_new (mm_sr (mm_new h 2) 52 1 (some 53)) 32) 52 2 (some 54)) 32) 52 3 (some 55)) 32) 52 4 (some 56)) 32) 52 5 (some 57)) 32) 52 6 (some 58)) 32) 52 7 (some 59)) 32) 52 8 (some 60)) 32) 52 9 (some 61)) 32) 52 10 (some 62)) 512) 52 11 (some 63)) 2) 52 12 (some 64)) 240) 52 13 (some 65)) 240) 52 14 (some 66)) 240) 52 15 (some 67)) 600) 52 17 (some 68)) 400) 52 19 (some 69)) 600) 52 21 (some 70)) 52 q.1 = some q.2 := by
    intro q hq9
    simp only [mm_moL, List.mem_cons, List.not_mem_nil, or_false] at hq9
    rcases hq9 with rfl | rfl | rfl | rfl | rfl | rfl | rfl | rfl | rfl | rfl | rfl | rfl | rfl | rfl | rfl | rfl | rfl | rfl <;> simp [mm_grs, mm_grn, mm_nn, mm_ns, hn]
  revert hx hz9 hn9 hc9 hs8 hg9
  generalize (mm_sr (mm_new (mm_sr (mm_new (mm_sr (mm_new (mm_sr (mm_new (mm_sr (mm_new (mm_sr (mm_new (mm_sr (mm_new (mm_sr (mm_new (mm_sr (mm_new (mm_sr (mm_new (mm_sr (mm_new (mm_sr (mm_new (mm_sr (mm_new (mm_sr (mm_new (mm_sr (mm_new (mm_sr (mm_new (mm_sr (mm_new (mm_sr (mm_new h 2) 52 1 (some 53)) 32) 52 2 (some 54)) 32) 52 3 (some 55)) 32) 52 4 (some 56)) 32) 52 5 (some 57)) 32) 52 6 (some 58)) 32) 52 7 (some 59)) 32) 52 8 (some 60)) 32) 52 9 (some 61)) 32) 52 10 (some 62)) 512) 52 11 (some 63)) 2) 52 12 (some 64)) 240) 52 13 (some 65)) 240) 52 14 (some 66)) 240) 52 15 (some 67)) 600) 52 17 (some 68)) 400) 52 19 (some 69)) 600) 52 21 (some 70)) = h9
  intro hx hz9 hn9 hc9 hs8 hg9
  have hM : mm_Mo h9 := ⟨mm_atC (by decide +kernel) (by decide) (by omega), by omega, hg9⟩
  have hS : MS (mm_gi h9) a_0 [] [] [] := ⟨RM_0 hz9, ⟨hz9 _ _ (by omega), fun j hj => absurd hj (by simp)⟩, ⟨hz9 _ _ (by omega), fun j hj => absurd hj (by simp)⟩, ⟨hz9 _ _ (by omega), fun j hj => absurd hj (by simp)⟩, by simp, by simp⟩
  refine mv_aload_n (pc := 153) d_Mo_init_153 rfl ?_
  refine mr_callV0 (pc := 154) d_Mo_init_154 (d2 := (2, 48)) ok_Mo_save li_Mo_65 sv_Mo_save hM.1 ⟨by decide, rfl⟩ ⟨by decide, Nat.le_of_ble_eq_true rfl, rfl, by decide, by decide⟩ ?_
  refine c_msave (h := h9) hM hS (by rw [a_cnt0]; omega) (fun F1 s1 c1 f1 => ?_)
  refine mv_istore_n (pc := 157) d_Mo_init_157 (by decide) ?_
  refine mv_ret (pc := 158) d_Mo_init_158 rfl ?_
  exact hq (mm_wi h9 F1) hM s1 hn9 hc9 hs8 ⟨hx.1, fun a k ha => ⟨(f1 a k ha).trans (hx.2 a k ha).1, (hx.2 a k ha).2⟩⟩
