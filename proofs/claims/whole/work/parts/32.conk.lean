/-! CONTRACTS: the law's small methods: call, catch, answer a number (rows by program: con_k.py) -/
theorem mm_V_mono {G : mm_G} {d : Nat × Nat} {M : mm_M} {Q Q' : mm_O → mm_H → Prop} {pc : Nat} {ls : List (Option Value)} {st : List Value} {h : mm_H} (hV : mm_V G d M Q pc ls st h) (hq : ∀ r h', Q r h' → Q' r h') : mm_V G d M Q' pc ls st h := by
  intro p e R s m args below meth c n0 c0 s0 H locs cells slots lr C I L T hT X
  obtain ⟨t, t1, u, u1, u2, r, h', a, b, k, v1, v2, v3, v4, v5⟩ := hV p e R s m args below meth c n0 c0 s0 H locs cells slots lr C I L T hT X
  exact ⟨t, t1, u, u1, u2, r, h', a, b, k, v1, v2, v3, v4, hq r h' v5⟩
/-- what the law makes of what comes out: an answer goes into the row o, an exception becomes its number -/
def lk (Q : mm_O → mm_H → Prop) (o : Nat) (f : Nat → Int32) : mm_O → mm_H → Prop := fun r h => match r with
  | .inl none => False
  | .inl (some (.int v)) => mm_at h o 103 1 ∧ Q (.inl (some (.int 0))) (mm_sl h o 0 v.toInt64)
  | .inl (some _) => False
  | .inr x => f x ≠ 0 ∧ Q (.inl (some (.int (f x)))) h
def lk0 (Q : mm_O → mm_H → Prop) (f : Nat → Int32) : mm_O → mm_H → Prop := fun r h => match r with
  | .inl none => Q (.inl (some (.int 0))) h
  | .inl (some _) => False
  | .inr x => f x ≠ 0 ∧ Q (.inl (some (.int (f x)))) h
theorem mm_in01 : vp_in 0 1 := vp_in_nI (n := 0) (by decide) (by decide)
theorem w_cl_La_13 : Cond.classLink "TickArenaLaw" 13 (mm_xn 0) ∈ mm_WS := mm_mw (i := 266) (by decide +kernel) (by decide +kernel)
theorem w_cl_La_15 : Cond.classLink "TickArenaLaw" 15 (mm_xn 1) ∈ mm_WS := mm_mw (i := 267) (by decide +kernel) (by decide +kernel)
theorem w_cl_La_17 : Cond.classLink "TickArenaLaw" 17 (mm_xn 2) ∈ mm_WS := mm_mw (i := 268) (by decide +kernel) (by decide +kernel)
theorem w_cl_La_41 : Cond.classLink "TickArenaLaw" 41 (mm_xn 3) ∈ mm_WS := mm_mw (i := 546) (by decide +kernel) (by decide +kernel)
theorem w_nc_01 : (mm_xn 0, mm_xn 1) ∈ mm_NC := by decide +kernel
theorem w_nc_02 : (mm_xn 0, mm_xn 2) ∈ mm_NC := by decide +kernel
theorem w_nc_03 : (mm_xn 0, mm_xn 3) ∈ mm_NC := by decide +kernel
theorem w_nc_10 : (mm_xn 1, mm_xn 0) ∈ mm_NC := by decide +kernel
theorem w_nc_12 : (mm_xn 1, mm_xn 2) ∈ mm_NC := by decide +kernel
theorem w_nc_13 : (mm_xn 1, mm_xn 3) ∈ mm_NC := by decide +kernel
theorem w_nc_20 : (mm_xn 2, mm_xn 0) ∈ mm_NC := by decide +kernel
theorem w_nc_21 : (mm_xn 2, mm_xn 1) ∈ mm_NC := by decide +kernel
theorem w_nc_23 : (mm_xn 2, mm_xn 3) ∈ mm_NC := by decide +kernel
theorem w_nc_30 : (mm_xn 3, mm_xn 0) ∈ mm_NC := by decide +kernel
theorem w_nc_31 : (mm_xn 3, mm_xn 1) ∈ mm_NC := by decide +kernel
theorem w_nc_32 : (mm_xn 3, mm_xn 2) ∈ mm_NC := by decide +kernel
set_option maxRecDepth 20000 in
theorem c_La_create {G : mm_G} {Q : mm_O → mm_H → Prop} {h : mm_H} {o : Nat} {x y : Int32} (ht : mm_at h 1 6 4) (hV : mm_V G (7, 111) M_Ta_create (lk Q o (fun e => match e with | 0 => 1 | 1 => 2 | 2 => 3 | _ => 0)) 0 (mm_ent 3 [.ref 1, .int x, .int y]) [] h) : mm_V G (8, 133) M_La_create Q 0 (mm_ent 5 [.ref 1, .int x, .int y, .ref o]) [] h := by
  show mm_V G (8, 133) M_La_create Q 0 [some (.ref 1), some (.int x), some (.int y), some (.ref o), none] [] h
  refine mv_aload_n (pc := 0) d_La_create_0 rfl ?_
  refine mv_iconst (v := 0) (pc := 1) d_La_create_1 (by decide) ?_
  refine mv_aload_n (pc := 2) d_La_create_2 rfl ?_
  refine mv_iload_n (pc := 3) d_La_create_3 rfl ?_
  refine mv_iload_n (pc := 4) d_La_create_4 rfl ?_
  refine mv_callC (pc := 5) (av := [.int x, .int y]) d_La_create_5 (d2 := (7, 111)) ok_Ta_create li_La_7 sv_Ta_create ht ⟨by decide, rfl⟩ ⟨rfl, by decide⟩ (by intro w hw; simp at hw; rcases hw with rfl | rfl <;> rfl) (Nat.le_of_ble_eq_true rfl) (by decide) ?_
  refine mm_V_mono hV (fun r h2 hk => ?_)
  match r, hk with
  | .inl (some (.int v)), hk =>
    refine mv_i2l (pc := 8) d_La_create_8 ?_
    refine mr_last (pc := 9) d_La_create_9 hk.1 mm_in01 ?_
    refine mv_goto 25 (pc := 10) d_La_create_10 (by decide) ?_
    refine mv_iconst (v := 0) (pc := 25) d_La_create_25 (by decide) ?_
    refine mv_iret (pc := 26) d_La_create_26 rfl rfl ?_
    exact hk.2
  | .inr 0, hk =>
    refine ⟨13, ⟨by decide, Or.inl ⟨w_cl_La_13, rfl⟩⟩, fun a => ?_⟩
    refine mv_astore (pc := 13) d_La_create_13 (by decide) ?_
    refine mv_iconst (v := 1) (pc := 15) d_La_create_15 (by decide) ?_
    refine mv_iret (pc := 16) d_La_create_16 rfl rfl ?_
    exact hk.2
  | .inr 1, hk =>
    refine ⟨17, ⟨by decide, Or.inr ⟨0, w_cl_La_13, w_nc_10, ⟨by decide, Or.inl ⟨w_cl_La_15, rfl⟩⟩⟩⟩, fun a => ?_⟩
    refine mv_astore (pc := 17) d_La_create_17 (by decide) ?_
    refine mv_iconst (v := 2) (pc := 19) d_La_create_19 (by decide) ?_
    refine mv_iret (pc := 20) d_La_create_20 rfl rfl ?_
    exact hk.2
  | .inr 2, hk =>
    refine ⟨21, ⟨by decide, Or.inr ⟨0, w_cl_La_13, w_nc_20, ⟨by decide, Or.inr ⟨1, w_cl_La_15, w_nc_21, ⟨by decide, Or.inl ⟨w_cl_La_17, rfl⟩⟩⟩⟩⟩⟩, fun a => ?_⟩
    refine mv_astore (pc := 21) d_La_create_21 (by decide) ?_
    refine mv_iconst (v := 3) (pc := 23) d_La_create_23 (by decide) ?_
    refine mv_iret (pc := 24) d_La_create_24 rfl rfl ?_
    exact hk.2
  | .inr (_ + 3), hk => exact absurd rfl hk.1
set_option maxRecDepth 20000 in
theorem c_La_destroy {G : mm_G} {Q : mm_O → mm_H → Prop} {h : mm_H} {x : Int32} (ht : mm_at h 1 6 4) (hV : mm_V G (7, 111) M_Ta_destroy (lk0 Q (fun e => match e with | 0 => 1 | 2 => 2 | _ => 0)) 0 (mm_ent 2 [.ref 1, .int x]) [] h) : mm_V G (8, 132) M_La_destroy Q 0 (mm_ent 3 [.ref 1, .int x]) [] h := by
  show mm_V G (8, 132) M_La_destroy Q 0 [some (.ref 1), some (.int x), none] [] h
  refine mv_aload_n (pc := 0) d_La_destroy_0 rfl ?_
  refine mv_iload_n (pc := 1) d_La_destroy_1 rfl ?_
  refine mv_callC (pc := 2) (av := [.int x]) d_La_destroy_2 (d2 := (7, 111)) ok_Ta_destroy li_La_19 sv_Ta_destroy ht ⟨by decide, rfl⟩ ⟨rfl, by decide⟩ (by intro w hw; simp at hw; subst hw; rfl) (Nat.le_of_ble_eq_true rfl) (by decide) ?_
  refine mm_V_mono hV (fun r h2 hk => ?_)
  match r, hk with
  | .inl none, hk =>
    refine mv_goto 14 (pc := 5) d_La_destroy_5 (by decide) ?_
    refine mv_iconst (v := 0) (pc := 14) d_La_destroy_14 (by decide) ?_
    refine mv_iret (pc := 15) d_La_destroy_15 rfl rfl ?_
    exact hk
  | .inr 0, hk =>
    refine ⟨8, ⟨by decide, Or.inl ⟨w_cl_La_13, rfl⟩⟩, fun a => ?_⟩
    refine mv_astore_n (pc := 8) d_La_destroy_8 (by decide) ?_
    refine mv_iconst (v := 1) (pc := 9) d_La_destroy_9 (by decide) ?_
    refine mv_iret (pc := 10) d_La_destroy_10 rfl rfl ?_
    exact hk.2
  | .inr 2, hk =>
    refine ⟨11, ⟨by decide, Or.inr ⟨0, w_cl_La_13, w_nc_20, ⟨by decide, Or.inl ⟨w_cl_La_17, rfl⟩⟩⟩⟩, fun a => ?_⟩
    refine mv_astore_n (pc := 11) d_La_destroy_11 (by decide) ?_
    refine mv_iconst (v := 2) (pc := 12) d_La_destroy_12 (by decide) ?_
    refine mv_iret (pc := 13) d_La_destroy_13 rfl rfl ?_
    exact hk.2
  | .inr 1, hk => exact absurd rfl hk.1
  | .inr (_ + 3), hk => exact absurd rfl hk.1
set_option maxRecDepth 20000 in
theorem c_La_speed {G : mm_G} {Q : mm_O → mm_H → Prop} {h : mm_H} {x y z : Int32} (ht : mm_at h 1 6 4) (hV : mm_V G (7, 111) M_Ta_speed (lk0 Q (fun e => match e with | 0 => 1 | 2 => 2 | _ => 0)) 0 (mm_ent 4 [.ref 1, .int x, .int y, .int z]) [] h) : mm_V G (8, 134) M_La_speed Q 0 (mm_ent 5 [.ref 1, .int x, .int y, .int z]) [] h := by
  show mm_V G (8, 134) M_La_speed Q 0 [some (.ref 1), some (.int x), some (.int y), some (.int z), none] [] h
  refine mv_aload_n (pc := 0) d_La_speed_0 rfl ?_
  refine mv_iload_n (pc := 1) d_La_speed_1 rfl ?_
  refine mv_iload_n (pc := 2) d_La_speed_2 rfl ?_
  refine mv_iload_n (pc := 3) d_La_speed_3 rfl ?_
  refine mv_callC (pc := 4) (av := [.int x, .int y, .int z]) d_La_speed_4 (d2 := (7, 111)) ok_Ta_speed li_La_23 sv_Ta_speed ht ⟨by decide, rfl⟩ ⟨rfl, by decide⟩ (by intro w hw; simp at hw; rcases hw with rfl | rfl | rfl <;> rfl) (Nat.le_of_ble_eq_true rfl) (by decide) ?_
  refine mm_V_mono hV (fun r h2 hk => ?_)
  match r, hk with
  | .inl none, hk =>
    refine mv_goto 18 (pc := 7) d_La_speed_7 (by decide) ?_
    refine mv_iconst (v := 0) (pc := 18) d_La_speed_18 (by decide) ?_
    refine mv_iret (pc := 19) d_La_speed_19 rfl rfl ?_
    exact hk
  | .inr 0, hk =>
    refine ⟨10, ⟨by decide, Or.inl ⟨w_cl_La_13, rfl⟩⟩, fun a => ?_⟩
    refine mv_astore (pc := 10) d_La_speed_10 (by decide) ?_
    refine mv_iconst (v := 1) (pc := 12) d_La_speed_12 (by decide) ?_
    refine mv_iret (pc := 13) d_La_speed_13 rfl rfl ?_
    exact hk.2
  | .inr 2, hk =>
    refine ⟨14, ⟨by decide, Or.inr ⟨0, w_cl_La_13, w_nc_20, ⟨by decide, Or.inl ⟨w_cl_La_17, rfl⟩⟩⟩⟩, fun a => ?_⟩
    refine mv_astore (pc := 14) d_La_speed_14 (by decide) ?_
    refine mv_iconst (v := 2) (pc := 16) d_La_speed_16 (by decide) ?_
    refine mv_iret (pc := 17) d_La_speed_17 rfl rfl ?_
    exact hk.2
  | .inr 1, hk => exact absurd rfl hk.1
  | .inr (_ + 3), hk => exact absurd rfl hk.1
set_option maxRecDepth 20000 in
theorem c_La_shape {G : mm_G} {Q : mm_O → mm_H → Prop} {h : mm_H} {x y z : Int32} (ht : mm_at h 1 6 4) (hV : mm_V G (7, 111) M_Ta_shape (lk0 Q (fun e => match e with | 0 => 1 | 2 => 2 | _ => 0)) 0 (mm_ent 4 [.ref 1, .int x, .int y, .int z]) [] h) : mm_V G (8, 134) M_La_shape Q 0 (mm_ent 5 [.ref 1, .int x, .int y, .int z]) [] h := by
  show mm_V G (8, 134) M_La_shape Q 0 [some (.ref 1), some (.int x), some (.int y), some (.int z), none] [] h
  refine mv_aload_n (pc := 0) d_La_shape_0 rfl ?_
  refine mv_iload_n (pc := 1) d_La_shape_1 rfl ?_
  refine mv_iload_n (pc := 2) d_La_shape_2 rfl ?_
  refine mv_iload_n (pc := 3) d_La_shape_3 rfl ?_
  refine mv_callC (pc := 4) (av := [.int x, .int y, .int z]) d_La_shape_4 (d2 := (7, 111)) ok_Ta_shape li_La_27 sv_Ta_shape ht ⟨by decide, rfl⟩ ⟨rfl, by decide⟩ (by intro w hw; simp at hw; rcases hw with rfl | rfl | rfl <;> rfl) (Nat.le_of_ble_eq_true rfl) (by decide) ?_
  refine mm_V_mono hV (fun r h2 hk => ?_)
  match r, hk with
  | .inl none, hk =>
    refine mv_goto 18 (pc := 7) d_La_shape_7 (by decide) ?_
    refine mv_iconst (v := 0) (pc := 18) d_La_shape_18 (by decide) ?_
    refine mv_iret (pc := 19) d_La_shape_19 rfl rfl ?_
    exact hk
  | .inr 0, hk =>
    refine ⟨10, ⟨by decide, Or.inl ⟨w_cl_La_13, rfl⟩⟩, fun a => ?_⟩
    refine mv_astore (pc := 10) d_La_shape_10 (by decide) ?_
    refine mv_iconst (v := 1) (pc := 12) d_La_shape_12 (by decide) ?_
    refine mv_iret (pc := 13) d_La_shape_13 rfl rfl ?_
    exact hk.2
  | .inr 2, hk =>
    refine ⟨14, ⟨by decide, Or.inr ⟨0, w_cl_La_13, w_nc_20, ⟨by decide, Or.inl ⟨w_cl_La_17, rfl⟩⟩⟩⟩, fun a => ?_⟩
    refine mv_astore (pc := 14) d_La_shape_14 (by decide) ?_
    refine mv_iconst (v := 2) (pc := 16) d_La_shape_16 (by decide) ?_
    refine mv_iret (pc := 17) d_La_shape_17 rfl rfl ?_
    exact hk.2
  | .inr 1, hk => exact absurd rfl hk.1
  | .inr (_ + 3), hk => exact absurd rfl hk.1
set_option maxRecDepth 20000 in
theorem c_La_timer {G : mm_G} {Q : mm_O → mm_H → Prop} {h : mm_H} {x y : Int32} (ht : mm_at h 1 6 4) (hV : mm_V G (7, 111) M_Ta_timer (lk0 Q (fun e => match e with | 0 => 1 | 2 => 2 | _ => 0)) 0 (mm_ent 3 [.ref 1, .int x, .int y]) [] h) : mm_V G (8, 133) M_La_timer Q 0 (mm_ent 4 [.ref 1, .int x, .int y]) [] h := by
  show mm_V G (8, 133) M_La_timer Q 0 [some (.ref 1), some (.int x), some (.int y), none] [] h
  refine mv_aload_n (pc := 0) d_La_timer_0 rfl ?_
  refine mv_iload_n (pc := 1) d_La_timer_1 rfl ?_
  refine mv_iload_n (pc := 2) d_La_timer_2 rfl ?_
  refine mv_callC (pc := 3) (av := [.int x, .int y]) d_La_timer_3 (d2 := (7, 111)) ok_Ta_timer li_La_30 sv_Ta_timer ht ⟨by decide, rfl⟩ ⟨rfl, by decide⟩ (by intro w hw; simp at hw; rcases hw with rfl | rfl <;> rfl) (Nat.le_of_ble_eq_true rfl) (by decide) ?_
  refine mm_V_mono hV (fun r h2 hk => ?_)
  match r, hk with
  | .inl none, hk =>
    refine mv_goto 15 (pc := 6) d_La_timer_6 (by decide) ?_
    refine mv_iconst (v := 0) (pc := 15) d_La_timer_15 (by decide) ?_
    refine mv_iret (pc := 16) d_La_timer_16 rfl rfl ?_
    exact hk
  | .inr 0, hk =>
    refine ⟨9, ⟨by decide, Or.inl ⟨w_cl_La_13, rfl⟩⟩, fun a => ?_⟩
    refine mv_astore_n (pc := 9) d_La_timer_9 (by decide) ?_
    refine mv_iconst (v := 1) (pc := 10) d_La_timer_10 (by decide) ?_
    refine mv_iret (pc := 11) d_La_timer_11 rfl rfl ?_
    exact hk.2
  | .inr 2, hk =>
    refine ⟨12, ⟨by decide, Or.inr ⟨0, w_cl_La_13, w_nc_20, ⟨by decide, Or.inl ⟨w_cl_La_17, rfl⟩⟩⟩⟩, fun a => ?_⟩
    refine mv_astore_n (pc := 12) d_La_timer_12 (by decide) ?_
    refine mv_iconst (v := 2) (pc := 13) d_La_timer_13 (by decide) ?_
    refine mv_iret (pc := 14) d_La_timer_14 rfl rfl ?_
    exact hk.2
  | .inr 1, hk => exact absurd rfl hk.1
  | .inr (_ + 3), hk => exact absurd rfl hk.1
set_option maxRecDepth 20000 in
theorem c_La_tick {G : mm_G} {Q : mm_O → mm_H → Prop} {h : mm_H} {o : Nat} {x : Int32} (ht : mm_at h 1 6 4) (hV : mm_V G (7, 111) M_Ta_tick (lk Q o (fun e => match e with | 0 => 1 | 2 => 2 | _ => 0)) 0 (mm_ent 3 [.ref 1, .int x]) [] h) : mm_V G (8, 133) M_La_tick Q 0 (mm_ent 4 [.ref 1, .int x, .ref o]) [] h := by
  show mm_V G (8, 133) M_La_tick Q 0 [some (.ref 1), some (.int x), some (.ref o), none] [] h
  refine mv_aload_n (pc := 0) d_La_tick_0 rfl ?_
  refine mv_iconst (v := 0) (pc := 1) d_La_tick_1 (by decide) ?_
  refine mv_aload_n (pc := 2) d_La_tick_2 rfl ?_
  refine mv_iload_n (pc := 3) d_La_tick_3 rfl ?_
  refine mv_callC (pc := 4) (av := [.int x]) d_La_tick_4 (d2 := (7, 111)) ok_Ta_tick li_La_34 sv_Ta_tick ht ⟨by decide, rfl⟩ ⟨rfl, by decide⟩ (by intro w hw; simp at hw; subst hw; rfl) (Nat.le_of_ble_eq_true rfl) (by decide) ?_
  refine mm_V_mono hV (fun r h2 hk => ?_)
  match r, hk with
  | .inl (some (.int v)), hk =>
    refine mv_i2l (pc := 7) d_La_tick_7 ?_
    refine mr_last (pc := 8) d_La_tick_8 hk.1 mm_in01 ?_
    refine mv_goto 18 (pc := 9) d_La_tick_9 (by decide) ?_
    refine mv_iconst (v := 0) (pc := 18) d_La_tick_18 (by decide) ?_
    refine mv_iret (pc := 19) d_La_tick_19 rfl rfl ?_
    exact hk.2
  | .inr 0, hk =>
    refine ⟨12, ⟨by decide, Or.inl ⟨w_cl_La_13, rfl⟩⟩, fun a => ?_⟩
    refine mv_astore_n (pc := 12) d_La_tick_12 (by decide) ?_
    refine mv_iconst (v := 1) (pc := 13) d_La_tick_13 (by decide) ?_
    refine mv_iret (pc := 14) d_La_tick_14 rfl rfl ?_
    exact hk.2
  | .inr 2, hk =>
    refine ⟨15, ⟨by decide, Or.inr ⟨0, w_cl_La_13, w_nc_20, ⟨by decide, Or.inl ⟨w_cl_La_17, rfl⟩⟩⟩⟩, fun a => ?_⟩
    refine mv_astore_n (pc := 15) d_La_tick_15 (by decide) ?_
    refine mv_iconst (v := 2) (pc := 16) d_La_tick_16 (by decide) ?_
    refine mv_iret (pc := 17) d_La_tick_17 rfl rfl ?_
    exact hk.2
  | .inr 1, hk => exact absurd rfl hk.1
  | .inr (_ + 3), hk => exact absurd rfl hk.1
set_option maxRecDepth 20000 in
theorem c_La_event {G : mm_G} {Q : mm_O → mm_H → Prop} {h : mm_H} {o : Nat} {x y : Int32} (ht : mm_at h 1 6 4) (hV : mm_V G (6, 90) M_Ta_event (lk Q o (fun e => match e with | 3 => 1 | 0 => 2 | _ => 0)) 0 (mm_ent 4 [.ref 1, .int x, .int y]) [] h) : mm_V G (7, 113) M_La_event Q 0 (mm_ent 5 [.ref 1, .int x, .int y, .ref o]) [] h := by
  show mm_V G (7, 113) M_La_event Q 0 [some (.ref 1), some (.int x), some (.int y), some (.ref o), none] [] h
  refine mv_aload_n (pc := 0) d_La_event_0 rfl ?_
  refine mv_iconst (v := 0) (pc := 1) d_La_event_1 (by decide) ?_
  refine mv_aload_n (pc := 2) d_La_event_2 rfl ?_
  refine mv_iload_n (pc := 3) d_La_event_3 rfl ?_
  refine mv_iload_n (pc := 4) d_La_event_4 rfl ?_
  refine mv_callC (pc := 5) (av := [.int x, .int y]) d_La_event_5 (d2 := (6, 90)) ok_Ta_event li_La_38 sv_Ta_event ht ⟨by decide, rfl⟩ ⟨rfl, by decide⟩ (by intro w hw; simp at hw; rcases hw with rfl | rfl <;> rfl) (Nat.le_of_ble_eq_true rfl) (by decide) ?_
  refine mm_V_mono hV (fun r h2 hk => ?_)
  match r, hk with
  | .inl (some (.int v)), hk =>
    refine mv_i2l (pc := 8) d_La_event_8 ?_
    refine mr_last (pc := 9) d_La_event_9 hk.1 mm_in01 ?_
    refine mv_goto 21 (pc := 10) d_La_event_10 (by decide) ?_
    refine mv_iconst (v := 0) (pc := 21) d_La_event_21 (by decide) ?_
    refine mv_iret (pc := 22) d_La_event_22 rfl rfl ?_
    exact hk.2
  | .inr 3, hk =>
    refine ⟨13, ⟨by decide, Or.inl ⟨w_cl_La_41, rfl⟩⟩, fun a => ?_⟩
    refine mv_astore (pc := 13) d_La_event_13 (by decide) ?_
    refine mv_iconst (v := 1) (pc := 15) d_La_event_15 (by decide) ?_
    refine mv_iret (pc := 16) d_La_event_16 rfl rfl ?_
    exact hk.2
  | .inr 0, hk =>
    refine ⟨17, ⟨by decide, Or.inr ⟨3, w_cl_La_41, w_nc_03, ⟨by decide, Or.inl ⟨w_cl_La_13, rfl⟩⟩⟩⟩, fun a => ?_⟩
    refine mv_astore (pc := 17) d_La_event_17 (by decide) ?_
    refine mv_iconst (v := 2) (pc := 19) d_La_event_19 (by decide) ?_
    refine mv_iret (pc := 20) d_La_event_20 rfl rfl ?_
    exact hk.2
  | .inr 1, hk => exact absurd rfl hk.1
  | .inr 2, hk => exact absurd rfl hk.1
  | .inr (_ + 4), hk => exact absurd rfl hk.1
set_option maxRecDepth 20000 in
theorem c_La_about {G : mm_G} {Q : mm_O → mm_H → Prop} {h : mm_H} {o : Nat} {x y : Int32} (ht : mm_at h 1 6 4) (hV : mm_V G (7, 111) M_Ta_about (lk Q o (fun e => match e with | 0 => 1 | 3 => 2 | _ => 0)) 0 (mm_ent 4 [.ref 1, .int x, .int y]) [] h) : mm_V G (8, 134) M_La_about Q 0 (mm_ent 5 [.ref 1, .int x, .int y, .ref o]) [] h := by
  show mm_V G (8, 134) M_La_about Q 0 [some (.ref 1), some (.int x), some (.int y), some (.ref o), none] [] h
  refine mv_aload_n (pc := 0) d_La_about_0 rfl ?_
  refine mv_iconst (v := 0) (pc := 1) d_La_about_1 (by decide) ?_
  refine mv_aload_n (pc := 2) d_La_about_2 rfl ?_
  refine mv_iload_n (pc := 3) d_La_about_3 rfl ?_
  refine mv_iload_n (pc := 4) d_La_about_4 rfl ?_
  refine mv_callC (pc := 5) (av := [.int x, .int y]) d_La_about_5 (d2 := (7, 111)) ok_Ta_about li_La_43 sv_Ta_about ht ⟨by decide, rfl⟩ ⟨rfl, by decide⟩ (by intro w hw; simp at hw; rcases hw with rfl | rfl <;> rfl) (Nat.le_of_ble_eq_true rfl) (by decide) ?_
  refine mm_V_mono hV (fun r h2 hk => ?_)
  match r, hk with
  | .inl (some (.int v)), hk =>
    refine mv_i2l (pc := 8) d_La_about_8 ?_
    refine mr_last (pc := 9) d_La_about_9 hk.1 mm_in01 ?_
    refine mv_goto 21 (pc := 10) d_La_about_10 (by decide) ?_
    refine mv_iconst (v := 0) (pc := 21) d_La_about_21 (by decide) ?_
    refine mv_iret (pc := 22) d_La_about_22 rfl rfl ?_
    exact hk.2
  | .inr 0, hk =>
    refine ⟨13, ⟨by decide, Or.inl ⟨w_cl_La_13, rfl⟩⟩, fun a => ?_⟩
    refine mv_astore (pc := 13) d_La_about_13 (by decide) ?_
    refine mv_iconst (v := 1) (pc := 15) d_La_about_15 (by decide) ?_
    refine mv_iret (pc := 16) d_La_about_16 rfl rfl ?_
    exact hk.2
  | .inr 3, hk =>
    refine ⟨17, ⟨by decide, Or.inr ⟨0, w_cl_La_13, w_nc_30, ⟨by decide, Or.inl ⟨w_cl_La_41, rfl⟩⟩⟩⟩, fun a => ?_⟩
    refine mv_astore (pc := 17) d_La_about_17 (by decide) ?_
    refine mv_iconst (v := 2) (pc := 19) d_La_about_19 (by decide) ?_
    refine mv_iret (pc := 20) d_La_about_20 rfl rfl ?_
    exact hk.2
  | .inr 1, hk => exact absurd rfl hk.1
  | .inr 2, hk => exact absurd rfl hk.1
  | .inr (_ + 4), hk => exact absurd rfl hk.1
set_option maxRecDepth 20000 in
theorem c_La_handleOf {G : mm_G} {Q : mm_O → mm_H → Prop} {h : mm_H} {o : Nat} {x : Int32} (ht : mm_at h 1 6 4) (hV : mm_V G (6, 90) M_Ta_handleOf (lk Q o (fun e => match e with | 3 => 1 | _ => 0)) 0 (mm_ent 2 [.ref 1, .int x]) [] h) : mm_V G (7, 111) M_La_handleOf Q 0 (mm_ent 4 [.ref 1, .int x, .ref o]) [] h := by
  show mm_V G (7, 111) M_La_handleOf Q 0 [some (.ref 1), some (.int x), some (.ref o), none] [] h
  refine mv_aload_n (pc := 0) d_La_handleOf_0 rfl ?_
  refine mv_iconst (v := 0) (pc := 1) d_La_handleOf_1 (by decide) ?_
  refine mv_aload_n (pc := 2) d_La_handleOf_2 rfl ?_
  refine mv_iload_n (pc := 3) d_La_handleOf_3 rfl ?_
  refine mv_callC (pc := 4) (av := [.int x]) d_La_handleOf_4 (d2 := (6, 90)) ok_Ta_handleOf li_La_46 sv_Ta_handleOf ht ⟨by decide, rfl⟩ ⟨rfl, by decide⟩ (by intro w hw; simp at hw; subst hw; rfl) (Nat.le_of_ble_eq_true rfl) (by decide) ?_
  refine mm_V_mono hV (fun r h2 hk => ?_)
  match r, hk with
  | .inl (some (.int v)), hk =>
    refine mv_i2l (pc := 7) d_La_handleOf_7 ?_
    refine mr_last (pc := 8) d_La_handleOf_8 hk.1 mm_in01 ?_
    refine mv_goto 15 (pc := 9) d_La_handleOf_9 (by decide) ?_
    refine mv_iconst (v := 0) (pc := 15) d_La_handleOf_15 (by decide) ?_
    refine mv_iret (pc := 16) d_La_handleOf_16 rfl rfl ?_
    exact hk.2
  | .inr 3, hk =>
    refine ⟨12, ⟨by decide, Or.inl ⟨w_cl_La_41, rfl⟩⟩, fun a => ?_⟩
    refine mv_astore_n (pc := 12) d_La_handleOf_12 (by decide) ?_
    refine mv_iconst (v := 1) (pc := 13) d_La_handleOf_13 (by decide) ?_
    refine mv_iret (pc := 14) d_La_handleOf_14 rfl rfl ?_
    exact hk.2
  | .inr 0, hk => exact absurd rfl hk.1
  | .inr 1, hk => exact absurd rfl hk.1
  | .inr 2, hk => exact absurd rfl hk.1
  | .inr (_ + 4), hk => exact absurd rfl hk.1
set_option maxRecDepth 20000 in
theorem c_La_under {G : mm_G} {Q : mm_O → mm_H → Prop} {h : mm_H} {o : Nat} {x y : Int32} (ht : mm_at h 1 6 4) (hV : mm_V G (6, 90) M_Ta_under (lk Q o (fun e => match e with | 0 => 1 | _ => 0)) 0 (mm_ent 3 [.ref 1, .int x, .int y]) [] h) : mm_V G (7, 112) M_La_under Q 0 (mm_ent 5 [.ref 1, .int x, .int y, .ref o]) [] h := by
  show mm_V G (7, 112) M_La_under Q 0 [some (.ref 1), some (.int x), some (.int y), some (.ref o), none] [] h
  refine mv_aload_n (pc := 0) d_La_under_0 rfl ?_
  refine mv_iconst (v := 0) (pc := 1) d_La_under_1 (by decide) ?_
  refine mv_aload_n (pc := 2) d_La_under_2 rfl ?_
  refine mv_iload_n (pc := 3) d_La_under_3 rfl ?_
  refine mv_iload_n (pc := 4) d_La_under_4 rfl ?_
  refine mv_callC (pc := 5) (av := [.int x, .int y]) d_La_under_5 (d2 := (6, 90)) ok_Ta_under li_La_49 sv_Ta_under ht ⟨by decide, rfl⟩ ⟨rfl, by decide⟩ (by intro w hw; simp at hw; rcases hw with rfl | rfl <;> rfl) (Nat.le_of_ble_eq_true rfl) (by decide) ?_
  refine mm_V_mono hV (fun r h2 hk => ?_)
  match r, hk with
  | .inl (some (.int v)), hk =>
    refine mv_i2l (pc := 8) d_La_under_8 ?_
    refine mr_last (pc := 9) d_La_under_9 hk.1 mm_in01 ?_
    refine mv_goto 17 (pc := 10) d_La_under_10 (by decide) ?_
    refine mv_iconst (v := 0) (pc := 17) d_La_under_17 (by decide) ?_
    refine mv_iret (pc := 18) d_La_under_18 rfl rfl ?_
    exact hk.2
  | .inr 0, hk =>
    refine ⟨13, ⟨by decide, Or.inl ⟨w_cl_La_13, rfl⟩⟩, fun a => ?_⟩
    refine mv_astore (pc := 13) d_La_under_13 (by decide) ?_
    refine mv_iconst (v := 1) (pc := 15) d_La_under_15 (by decide) ?_
    refine mv_iret (pc := 16) d_La_under_16 rfl rfl ?_
    exact hk.2
  | .inr 1, hk => exact absurd rfl hk.1
  | .inr 2, hk => exact absurd rfl hk.1
  | .inr (_ + 3), hk => exact absurd rfl hk.1
set_option maxRecDepth 20000 in
theorem c_La_load {G : mm_G} {Q : mm_O → mm_H → Prop} {h : mm_H} (ht : mm_at h 1 6 4) (hV : mm_V G (6, 135) M_Ta_load (lk0 Q (fun e => match e with | 1 => 1 | _ => 0)) 0 (mm_ent 1 [.ref 1]) [] h) : mm_V G (7, 155) M_La_load Q 0 (mm_ent 2 [.ref 1]) [] h := by
  show mm_V G (7, 155) M_La_load Q 0 [some (.ref 1), none] [] h
  refine mv_aload_n (pc := 0) d_La_load_0 rfl ?_
  refine mv_callC (pc := 1) (av := []) d_La_load_1 (d2 := (6, 135)) ok_Ta_load li_La_52 sv_Ta_load ht ⟨by decide, rfl⟩ ⟨rfl, by decide⟩ (by intro w hw; simp at hw) (Nat.le_of_ble_eq_true rfl) (by decide) ?_
  refine mm_V_mono hV (fun r h2 hk => ?_)
  match r, hk with
  | .inl none, hk =>
    refine mv_goto 10 (pc := 4) d_La_load_4 (by decide) ?_
    refine mv_iconst (v := 0) (pc := 10) d_La_load_10 (by decide) ?_
    refine mv_iret (pc := 11) d_La_load_11 rfl rfl ?_
    exact hk
  | .inr 1, hk =>
    refine ⟨7, ⟨by decide, Or.inl ⟨w_cl_La_15, rfl⟩⟩, fun a => ?_⟩
    refine mv_astore_n (pc := 7) d_La_load_7 (by decide) ?_
    refine mv_iconst (v := 1) (pc := 8) d_La_load_8 (by decide) ?_
    refine mv_iret (pc := 9) d_La_load_9 rfl rfl ?_
    exact hk.2
  | .inr 0, hk => exact absurd rfl hk.1
  | .inr 2, hk => exact absurd rfl hk.1
  | .inr (_ + 3), hk => exact absurd rfl hk.1
set_option maxRecDepth 20000 in
theorem c_La_replay {G : mm_G} {Q : mm_O → mm_H → Prop} {h : mm_H} {o : Nat} (ht : mm_at h 1 6 4) (hV : mm_V G (6, 135) M_Ta_replay (lk Q o (fun e => match e with | 1 => 1 | _ => 0)) 0 (mm_ent 2 [.ref 1]) [] h) : mm_V G (7, 156) M_La_replay Q 0 (mm_ent 3 [.ref 1, .ref o]) [] h := by
  show mm_V G (7, 156) M_La_replay Q 0 [some (.ref 1), some (.ref o), none] [] h
  refine mv_aload_n (pc := 0) d_La_replay_0 rfl ?_
  refine mv_iconst (v := 0) (pc := 1) d_La_replay_1 (by decide) ?_
  refine mv_aload_n (pc := 2) d_La_replay_2 rfl ?_
  refine mv_callC (pc := 3) (av := []) d_La_replay_3 (d2 := (6, 135)) ok_Ta_replay li_La_55 sv_Ta_replay ht ⟨by decide, rfl⟩ ⟨rfl, by decide⟩ (by intro w hw; simp at hw) (Nat.le_of_ble_eq_true rfl) (by decide) ?_
  refine mm_V_mono hV (fun r h2 hk => ?_)
  match r, hk with
  | .inl (some (.int v)), hk =>
    refine mv_i2l (pc := 6) d_La_replay_6 ?_
    refine mr_last (pc := 7) d_La_replay_7 hk.1 mm_in01 ?_
    refine mv_goto 14 (pc := 8) d_La_replay_8 (by decide) ?_
    refine mv_iconst (v := 0) (pc := 14) d_La_replay_14 (by decide) ?_
    refine mv_iret (pc := 15) d_La_replay_15 rfl rfl ?_
    exact hk.2
  | .inr 1, hk =>
    refine ⟨11, ⟨by decide, Or.inl ⟨w_cl_La_15, rfl⟩⟩, fun a => ?_⟩
    refine mv_astore_n (pc := 11) d_La_replay_11 (by decide) ?_
    refine mv_iconst (v := 1) (pc := 12) d_La_replay_12 (by decide) ?_
    refine mv_iret (pc := 13) d_La_replay_13 rfl rfl ?_
    exact hk.2
  | .inr 0, hk => exact absurd rfl hk.1
  | .inr 2, hk => exact absurd rfl hk.1
  | .inr (_ + 3), hk => exact absurd rfl hk.1
set_option maxRecDepth 20000 in
theorem c_La_at {G : mm_G} {Q : mm_O → mm_H → Prop} {h : mm_H} {o : Nat} {x y : Int32} (ht : mm_at h 1 6 4) (hV : mm_V G (6, 90) M_Ta_at (lk Q o (fun e => match e with | 3 => 1 | _ => 0)) 0 (mm_ent 4 [.ref 1, .int x, .int y]) [] h) : mm_V G (7, 113) M_La_at Q 0 (mm_ent 5 [.ref 1, .int x, .int y, .ref o]) [] h := by
  show mm_V G (7, 113) M_La_at Q 0 [some (.ref 1), some (.int x), some (.int y), some (.ref o), none] [] h
  refine mv_aload_n (pc := 0) d_La_at_0 rfl ?_
  refine mv_iconst (v := 0) (pc := 1) d_La_at_1 (by decide) ?_
  refine mv_aload_n (pc := 2) d_La_at_2 rfl ?_
  refine mv_iload_n (pc := 3) d_La_at_3 rfl ?_
  refine mv_iload_n (pc := 4) d_La_at_4 rfl ?_
  refine mv_callC (pc := 5) (av := [.int x, .int y]) d_La_at_5 (d2 := (6, 90)) ok_Ta_at li_La_59 sv_Ta_at ht ⟨by decide, rfl⟩ ⟨rfl, by decide⟩ (by intro w hw; simp at hw; rcases hw with rfl | rfl <;> rfl) (Nat.le_of_ble_eq_true rfl) (by decide) ?_
  refine mm_V_mono hV (fun r h2 hk => ?_)
  match r, hk with
  | .inl (some (.int v)), hk =>
    refine mv_i2l (pc := 8) d_La_at_8 ?_
    refine mr_last (pc := 9) d_La_at_9 hk.1 mm_in01 ?_
    refine mv_goto 17 (pc := 10) d_La_at_10 (by decide) ?_
    refine mv_iconst (v := 0) (pc := 17) d_La_at_17 (by decide) ?_
    refine mv_iret (pc := 18) d_La_at_18 rfl rfl ?_
    exact hk.2
  | .inr 3, hk =>
    refine ⟨13, ⟨by decide, Or.inl ⟨w_cl_La_41, rfl⟩⟩, fun a => ?_⟩
    refine mv_astore (pc := 13) d_La_at_13 (by decide) ?_
    refine mv_iconst (v := 1) (pc := 15) d_La_at_15 (by decide) ?_
    refine mv_iret (pc := 16) d_La_at_16 rfl rfl ?_
    exact hk.2
  | .inr 0, hk => exact absurd rfl hk.1
  | .inr 1, hk => exact absurd rfl hk.1
  | .inr 2, hk => exact absurd rfl hk.1
  | .inr (_ + 4), hk => exact absurd rfl hk.1
set_option maxRecDepth 20000 in
theorem c_La_corrupt {G : mm_G} {Q : mm_O → mm_H → Prop} {h : mm_H} {x y z : Int32} (ht : mm_at h 1 6 4) (hV : mm_V G (6, 90) M_Ta_corrupt (lk0 Q (fun e => match e with | 3 => 1 | 0 => 2 | _ => 0)) 0 (mm_ent 5 [.ref 1, .int x, .int y, .int z]) [] h) : mm_V G (7, 114) M_La_corrupt Q 0 (mm_ent 5 [.ref 1, .int x, .int y, .int z]) [] h := by
  show mm_V G (7, 114) M_La_corrupt Q 0 [some (.ref 1), some (.int x), some (.int y), some (.int z), none] [] h
  refine mv_aload_n (pc := 0) d_La_corrupt_0 rfl ?_
  refine mv_iload_n (pc := 1) d_La_corrupt_1 rfl ?_
  refine mv_iload_n (pc := 2) d_La_corrupt_2 rfl ?_
  refine mv_iload_n (pc := 3) d_La_corrupt_3 rfl ?_
  refine mv_callC (pc := 4) (av := [.int x, .int y, .int z]) d_La_corrupt_4 (d2 := (6, 90)) ok_Ta_corrupt li_La_63 sv_Ta_corrupt ht ⟨by decide, rfl⟩ ⟨rfl, by decide⟩ (by intro w hw; simp at hw; rcases hw with rfl | rfl | rfl <;> rfl) (Nat.le_of_ble_eq_true rfl) (by decide) ?_
  refine mm_V_mono hV (fun r h2 hk => ?_)
  match r, hk with
  | .inl none, hk =>
    refine mv_goto 18 (pc := 7) d_La_corrupt_7 (by decide) ?_
    refine mv_iconst (v := 0) (pc := 18) d_La_corrupt_18 (by decide) ?_
    refine mv_iret (pc := 19) d_La_corrupt_19 rfl rfl ?_
    exact hk
  | .inr 3, hk =>
    refine ⟨10, ⟨by decide, Or.inl ⟨w_cl_La_41, rfl⟩⟩, fun a => ?_⟩
    refine mv_astore (pc := 10) d_La_corrupt_10 (by decide) ?_
    refine mv_iconst (v := 1) (pc := 12) d_La_corrupt_12 (by decide) ?_
    refine mv_iret (pc := 13) d_La_corrupt_13 rfl rfl ?_
    exact hk.2
  | .inr 0, hk =>
    refine ⟨14, ⟨by decide, Or.inr ⟨3, w_cl_La_41, w_nc_03, ⟨by decide, Or.inl ⟨w_cl_La_13, rfl⟩⟩⟩⟩, fun a => ?_⟩
    refine mv_astore (pc := 14) d_La_corrupt_14 (by decide) ?_
    refine mv_iconst (v := 2) (pc := 16) d_La_corrupt_16 (by decide) ?_
    refine mv_iret (pc := 17) d_La_corrupt_17 rfl rfl ?_
    exact hk.2
  | .inr 1, hk => exact absurd rfl hk.1
  | .inr 2, hk => exact absurd rfl hk.1
  | .inr (_ + 4), hk => exact absurd rfl hk.1
