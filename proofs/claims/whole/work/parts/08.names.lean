/-! NAMES: the methods, what a call asks of them, what the pools link (by program: gen_names.py) -/
theorem mm_XL_of {own : String} {index ic x : Nat} {names : List String} (h1 : Cond.classLink own index (mm_xn x) ∈ mm_WS) (h2 : Cond.initialized (mm_xn x) ∈ mm_WS) (h3 : Bundle.fit (mm_xn x) = true) (h4 : ∀ n ∈ names, Bundle.fit n = true) (h5 : names.length ≤ 2)
    (h6 : (Bundle.ownAtoms0 own ic (mm_xn x) names).all (fun w => (decide (w ∈ lw_tbl) && mm_okw w) || mm_XS.any (fun z => decide (w = Cond.isRef (.static z.1 z.2.1 z.2.2)))) = true) : mm_XL own index ic x names := by
  refine ⟨h1, h2, h3, h4, h5, fun w hw => ?_⟩
  have h := List.all_eq_true.mp h6 w hw
  simp only [Bool.or_eq_true, Bool.and_eq_true, decide_eq_true_eq, List.any_eq_true] at h
  rcases h with ⟨a, b⟩ | ⟨z, hz, e⟩
  · exact Or.inl (List.mem_filter.mpr ⟨a, b⟩)
  · exact Or.inr ⟨z, hz, e⟩
theorem cf_By : mm_CF "TickArena$Bytes" TC_By 3 := by
  refine ⟨fun w hw => ?_, ⟨fun k => match k with | 0 => (.array .int) | 1 => .int | _ => .int, by decide +kernel⟩, by decide +kernel⟩
  unfold u_ws at hw
  obtain ⟨k, hk, rfl⟩ := List.mem_map.mp hw
  rw [List.mem_range] at hk
  match k, hk with
  | 0, _ => exact mm_mw (i := 146) (by decide +kernel) (by decide +kernel)
  | 1, _ => exact mm_mw (i := 148) (by decide +kernel) (by decide +kernel)
  | 2, _ => exact mm_mw (i := 150) (by decide +kernel) (by decide +kernel)
  | k + 3, h => exact absurd h (by omega)
theorem cf_Ev : mm_CF "TickArena$Events" TC_Ev 3 := by
  refine ⟨fun w hw => ?_, ⟨fun k => match k with | 0 => (.array .int) | 1 => (.array .int) | _ => .int, by decide +kernel⟩, by decide +kernel⟩
  unfold u_ws at hw
  obtain ⟨k, hk, rfl⟩ := List.mem_map.mp hw
  rw [List.mem_range] at hk
  match k, hk with
  | 0, _ => exact mm_mw (i := 44) (by decide +kernel) (by decide +kernel)
  | 1, _ => exact mm_mw (i := 46) (by decide +kernel) (by decide +kernel)
  | 2, _ => exact mm_mw (i := 48) (by decide +kernel) (by decide +kernel)
  | k + 3, h => exact absurd h (by omega)
theorem cf_Lg : mm_CF "TickArena$LogBytes" TC_Lg 1 := by
  refine ⟨fun w hw => ?_, ⟨fun k => match k with | _ => (.object "TickArena$Bytes"), by decide +kernel⟩, by decide +kernel⟩
  unfold u_ws at hw
  obtain ⟨k, hk, rfl⟩ := List.mem_map.mp hw
  rw [List.mem_range] at hk
  match k, hk with
  | 0, _ => exact mm_mw (i := 168) (by decide +kernel) (by decide +kernel)
  | k + 1, h => exact absurd h (by omega)
theorem cf_Sl : mm_CF "TickArena$Slot" TC_Sl 9 := by
  refine ⟨fun w hw => ?_, ⟨fun k => match k with | 0 => .int | 1 => .boolean | 2 => .int | 3 => .int | 4 => .int | 5 => .int | 6 => .int | 7 => .int | _ => .int, by decide +kernel⟩, by decide +kernel⟩
  unfold u_ws at hw
  obtain ⟨k, hk, rfl⟩ := List.mem_map.mp hw
  rw [List.mem_range] at hk
  match k, hk with
  | 0, _ => exact mm_mw (i := 88) (by decide +kernel) (by decide +kernel)
  | 1, _ => exact mm_mw (i := 90) (by decide +kernel) (by decide +kernel)
  | 2, _ => exact mm_mw (i := 92) (by decide +kernel) (by decide +kernel)
  | 3, _ => exact mm_mw (i := 94) (by decide +kernel) (by decide +kernel)
  | 4, _ => exact mm_mw (i := 96) (by decide +kernel) (by decide +kernel)
  | 5, _ => exact mm_mw (i := 98) (by decide +kernel) (by decide +kernel)
  | 6, _ => exact mm_mw (i := 100) (by decide +kernel) (by decide +kernel)
  | 7, _ => exact mm_mw (i := 102) (by decide +kernel) (by decide +kernel)
  | 8, _ => exact mm_mw (i := 104) (by decide +kernel) (by decide +kernel)
  | k + 9, h => exact absurd h (by omega)
theorem cf_Sb : mm_CF "TickArena$StateBytes" TC_Sb 1 := by
  refine ⟨fun w hw => ?_, ⟨fun k => match k with | _ => (.object "TickArena$Bytes"), by decide +kernel⟩, by decide +kernel⟩
  unfold u_ws at hw
  obtain ⟨k, hk, rfl⟩ := List.mem_map.mp hw
  rw [List.mem_range] at hk
  match k, hk with
  | 0, _ => exact mm_mw (i := 155) (by decide +kernel) (by decide +kernel)
  | k + 1, h => exact absurd h (by omega)
theorem cf_Wo : mm_CF "TickArena$World" TC_Wo 4 := by
  refine ⟨fun w hw => ?_, ⟨fun k => match k with | 0 => (.array (.object "TickArena$Slot")) | 1 => (.array .boolean) | 2 => (.object "TickArena$Events") | _ => .int, by decide +kernel⟩, by decide +kernel⟩
  unfold u_ws at hw
  obtain ⟨k, hk, rfl⟩ := List.mem_map.mp hw
  rw [List.mem_range] at hk
  match k, hk with
  | 0, _ => exact mm_mw (i := 117) (by decide +kernel) (by decide +kernel)
  | 1, _ => exact mm_mw (i := 119) (by decide +kernel) (by decide +kernel)
  | 2, _ => exact mm_mw (i := 121) (by decide +kernel) (by decide +kernel)
  | 3, _ => exact mm_mw (i := 123) (by decide +kernel) (by decide +kernel)
  | k + 4, h => exact absurd h (by omega)
theorem cf_Ta : mm_CF "TickArena" TC_Ta 4 := by
  refine ⟨fun w hw => ?_, ⟨fun k => match k with | 0 => (.object "TickArena$World") | 1 => (.object "TickArena$World") | 2 => (.object "TickArena$StateBytes") | _ => (.object "TickArena$LogBytes"), by decide +kernel⟩, by decide +kernel⟩
  unfold u_ws at hw
  obtain ⟨k, hk, rfl⟩ := List.mem_map.mp hw
  rw [List.mem_range] at hk
  match k, hk with
  | 0, _ => exact mm_mw (i := 218) (by decide +kernel) (by decide +kernel)
  | 1, _ => exact mm_mw (i := 220) (by decide +kernel) (by decide +kernel)
  | 2, _ => exact mm_mw (i := 222) (by decide +kernel) (by decide +kernel)
  | 3, _ => exact mm_mw (i := 224) (by decide +kernel) (by decide +kernel)
  | k + 4, h => exact absurd h (by omega)
theorem cf_Mo : mm_CF "TickArenaModel" TC_Mo 24 := by
  refine ⟨fun w hw => ?_, ⟨fun k => match k with | 0 => .int | 1 => (.array .int) | 2 => (.array .int) | 3 => (.array .boolean) | 4 => (.array .int) | 5 => (.array .int) | 6 => (.array .int) | 7 => (.array .int) | 8 => (.array .int) | 9 => (.array .int) | 10 => (.array .int) | 11 => (.array .boolean) | 12 => (.array .int) | 13 => (.array .int) | 14 => (.array .int) | 15 => (.array .int) | 16 => .int | 17 => (.array .int) | 18 => .int | 19 => (.array .int) | 20 => .int | 21 => (.array .int) | 22 => .int | _ => .boolean, by decide +kernel⟩, by decide +kernel⟩
  unfold u_ws at hw
  obtain ⟨k, hk, rfl⟩ := List.mem_map.mp hw
  rw [List.mem_range] at hk
  match k, hk with
  | 0, _ => exact mm_mw (i := 789) (by decide +kernel) (by decide +kernel)
  | 1, _ => exact mm_mw (i := 791) (by decide +kernel) (by decide +kernel)
  | 2, _ => exact mm_mw (i := 793) (by decide +kernel) (by decide +kernel)
  | 3, _ => exact mm_mw (i := 795) (by decide +kernel) (by decide +kernel)
  | 4, _ => exact mm_mw (i := 797) (by decide +kernel) (by decide +kernel)
  | 5, _ => exact mm_mw (i := 799) (by decide +kernel) (by decide +kernel)
  | 6, _ => exact mm_mw (i := 801) (by decide +kernel) (by decide +kernel)
  | 7, _ => exact mm_mw (i := 803) (by decide +kernel) (by decide +kernel)
  | 8, _ => exact mm_mw (i := 805) (by decide +kernel) (by decide +kernel)
  | 9, _ => exact mm_mw (i := 807) (by decide +kernel) (by decide +kernel)
  | 10, _ => exact mm_mw (i := 809) (by decide +kernel) (by decide +kernel)
  | 11, _ => exact mm_mw (i := 811) (by decide +kernel) (by decide +kernel)
  | 12, _ => exact mm_mw (i := 813) (by decide +kernel) (by decide +kernel)
  | 13, _ => exact mm_mw (i := 815) (by decide +kernel) (by decide +kernel)
  | 14, _ => exact mm_mw (i := 817) (by decide +kernel) (by decide +kernel)
  | 15, _ => exact mm_mw (i := 819) (by decide +kernel) (by decide +kernel)
  | 16, _ => exact mm_mw (i := 821) (by decide +kernel) (by decide +kernel)
  | 17, _ => exact mm_mw (i := 823) (by decide +kernel) (by decide +kernel)
  | 18, _ => exact mm_mw (i := 825) (by decide +kernel) (by decide +kernel)
  | 19, _ => exact mm_mw (i := 827) (by decide +kernel) (by decide +kernel)
  | 20, _ => exact mm_mw (i := 829) (by decide +kernel) (by decide +kernel)
  | 21, _ => exact mm_mw (i := 831) (by decide +kernel) (by decide +kernel)
  | 22, _ => exact mm_mw (i := 833) (by decide +kernel) (by decide +kernel)
  | 23, _ => exact mm_mw (i := 835) (by decide +kernel) (by decide +kernel)
  | k + 24, h => exact absurd h (by omega)
abbrev M_By_init : mm_M := (⟨"TickArena$Bytes", "<init>", "(I)V"⟩, prog_2_method_1_code, 2, (none : Option FieldType), [])
theorem ok_By_init : mm_OK M_By_init 1 := ⟨by decide +kernel, Or.inl ⟨rfl, mm_mw (i := 136) (by decide +kernel) (by decide +kernel)⟩, mm_mw (i := 6) (by decide +kernel) (by decide +kernel), ⟨by decide +kernel, by decide +kernel⟩, by decide +kernel⟩
theorem sv_By_init : Cond.instanceMethod M_By_init.1 ∈ mm_WS := mm_mw (i := 135) (by decide +kernel) (by decide +kernel)
theorem sw_By_init : Cond.code M_By_init.1 M_By_init.2.1 M_By_init.2.2.1 M_By_init.2.2.2.1 ∈ mm_WS := mm_mw (i := 136) (by decide +kernel) (by decide +kernel)
abbrev M_By_clear : mm_M := (⟨"TickArena$Bytes", "clear", "()V"⟩, prog_2_method_2_code, 1, (none : Option FieldType), [])
theorem ok_By_clear : mm_OK M_By_clear 0 := ⟨by decide +kernel, Or.inl ⟨rfl, mm_mw (i := 178) (by decide +kernel) (by decide +kernel)⟩, mm_mw (i := 6) (by decide +kernel) (by decide +kernel), ⟨by decide +kernel, by decide +kernel⟩, by decide +kernel⟩
theorem sv_By_clear : Cond.instanceMethod M_By_clear.1 ∈ mm_WS ∧ Cond.selects M_By_clear.1.cls M_By_clear.1 M_By_clear.1 ∈ mm_WS := ⟨mm_mw (i := 176) (by decide +kernel) (by decide +kernel), mm_mw (i := 177) (by decide +kernel) (by decide +kernel)⟩
abbrev M_By_has : mm_M := (⟨"TickArena$Bytes", "has", "(I)Z"⟩, prog_2_method_3_code, 2, (some FieldType.boolean), [])
theorem ok_By_has : mm_OK M_By_has 1 := ⟨by decide +kernel, Or.inl ⟨rfl, mm_mw (i := 628) (by decide +kernel) (by decide +kernel)⟩, mm_mw (i := 6) (by decide +kernel) (by decide +kernel), ⟨by decide +kernel, by decide +kernel⟩, by decide +kernel⟩
theorem sv_By_has : Cond.instanceMethod M_By_has.1 ∈ mm_WS ∧ Cond.selects M_By_has.1.cls M_By_has.1 M_By_has.1 ∈ mm_WS := ⟨mm_mw (i := 626) (by decide +kernel) (by decide +kernel), mm_mw (i := 627) (by decide +kernel) (by decide +kernel)⟩
abbrev M_By_hasRoom : mm_M := (⟨"TickArena$Bytes", "hasRoom", "(I)Z"⟩, prog_2_method_4_code, 2, (some FieldType.boolean), [])
theorem ok_By_hasRoom : mm_OK M_By_hasRoom 1 := ⟨by decide +kernel, Or.inl ⟨rfl, mm_mw (i := 186) (by decide +kernel) (by decide +kernel)⟩, mm_mw (i := 6) (by decide +kernel) (by decide +kernel), ⟨by decide +kernel, by decide +kernel⟩, by decide +kernel⟩
theorem sv_By_hasRoom : Cond.instanceMethod M_By_hasRoom.1 ∈ mm_WS ∧ Cond.selects M_By_hasRoom.1.cls M_By_hasRoom.1 M_By_hasRoom.1 ∈ mm_WS := ⟨mm_mw (i := 184) (by decide +kernel) (by decide +kernel), mm_mw (i := 185) (by decide +kernel) (by decide +kernel)⟩
abbrev M_By_add : mm_M := (⟨"TickArena$Bytes", "add", "(II)V"⟩, prog_2_method_5_code, 4, (none : Option FieldType), [])
theorem ok_By_add : mm_OK M_By_add 2 := ⟨by decide +kernel, Or.inl ⟨rfl, mm_mw (i := 182) (by decide +kernel) (by decide +kernel)⟩, mm_mw (i := 6) (by decide +kernel) (by decide +kernel), ⟨by decide +kernel, by decide +kernel⟩, by decide +kernel⟩
theorem sv_By_add : Cond.instanceMethod M_By_add.1 ∈ mm_WS ∧ Cond.selects M_By_add.1.cls M_By_add.1 M_By_add.1 ∈ mm_WS := ⟨mm_mw (i := 180) (by decide +kernel) (by decide +kernel), mm_mw (i := 181) (by decide +kernel) (by decide +kernel)⟩
abbrev M_By_next : mm_M := (⟨"TickArena$Bytes", "next", "(I)I"⟩, prog_2_method_6_code, 4, (some FieldType.int), [])
theorem ok_By_next : mm_OK M_By_next 1 := ⟨by decide +kernel, Or.inl ⟨rfl, mm_mw (i := 624) (by decide +kernel) (by decide +kernel)⟩, mm_mw (i := 6) (by decide +kernel) (by decide +kernel), ⟨by decide +kernel, by decide +kernel⟩, by decide +kernel⟩
theorem sv_By_next : Cond.instanceMethod M_By_next.1 ∈ mm_WS ∧ Cond.selects M_By_next.1.cls M_By_next.1 M_By_next.1 ∈ mm_WS := ⟨mm_mw (i := 622) (by decide +kernel) (by decide +kernel), mm_mw (i := 623) (by decide +kernel) (by decide +kernel)⟩
abbrev M_By_isAtEnd : mm_M := (⟨"TickArena$Bytes", "isAtEnd", "()Z"⟩, prog_2_method_7_code, 1, (some FieldType.boolean), [])
theorem ok_By_isAtEnd : mm_OK M_By_isAtEnd 0 := ⟨by decide +kernel, Or.inl ⟨rfl, mm_mw (i := 678) (by decide +kernel) (by decide +kernel)⟩, mm_mw (i := 6) (by decide +kernel) (by decide +kernel), ⟨by decide +kernel, by decide +kernel⟩, by decide +kernel⟩
theorem sv_By_isAtEnd : Cond.instanceMethod M_By_isAtEnd.1 ∈ mm_WS ∧ Cond.selects M_By_isAtEnd.1.cls M_By_isAtEnd.1 M_By_isAtEnd.1 ∈ mm_WS := ⟨mm_mw (i := 676) (by decide +kernel) (by decide +kernel), mm_mw (i := 677) (by decide +kernel) (by decide +kernel)⟩
abbrev M_By_checkOfFirst : mm_M := (⟨"TickArena$Bytes", "checkOfFirst", "(I)I"⟩, prog_2_method_8_code, 5, (some FieldType.int), [])
theorem ok_By_checkOfFirst : mm_OK M_By_checkOfFirst 1 := ⟨by decide +kernel, Or.inl ⟨rfl, mm_mw (i := 213) (by decide +kernel) (by decide +kernel)⟩, mm_mw (i := 6) (by decide +kernel) (by decide +kernel), ⟨by decide +kernel, by decide +kernel⟩, by decide +kernel⟩
theorem sv_By_checkOfFirst : Cond.instanceMethod M_By_checkOfFirst.1 ∈ mm_WS ∧ Cond.selects M_By_checkOfFirst.1.cls M_By_checkOfFirst.1 M_By_checkOfFirst.1 ∈ mm_WS := ⟨mm_mw (i := 211) (by decide +kernel) (by decide +kernel), mm_mw (i := 212) (by decide +kernel) (by decide +kernel)⟩
abbrev M_Ev_init : mm_M := (⟨"TickArena$Events", "<init>", "()V"⟩, prog_3_method_1_code, 1, (none : Option FieldType), [])
theorem ok_Ev_init : mm_OK M_Ev_init 0 := ⟨by decide +kernel, Or.inl ⟨rfl, mm_mw (i := 36) (by decide +kernel) (by decide +kernel)⟩, mm_mw (i := 3) (by decide +kernel) (by decide +kernel), ⟨by decide +kernel, by decide +kernel⟩, by decide +kernel⟩
theorem sv_Ev_init : Cond.instanceMethod M_Ev_init.1 ∈ mm_WS := mm_mw (i := 35) (by decide +kernel) (by decide +kernel)
theorem sw_Ev_init : Cond.code M_Ev_init.1 M_Ev_init.2.1 M_Ev_init.2.2.1 M_Ev_init.2.2.2.1 ∈ mm_WS := mm_mw (i := 36) (by decide +kernel) (by decide +kernel)
abbrev M_Ev_clear : mm_M := (⟨"TickArena$Events", "clear", "()V"⟩, prog_3_method_2_code, 1, (none : Option FieldType), [])
theorem ok_Ev_clear : mm_OK M_Ev_clear 0 := ⟨by decide +kernel, Or.inl ⟨rfl, mm_mw (i := 254) (by decide +kernel) (by decide +kernel)⟩, mm_mw (i := 3) (by decide +kernel) (by decide +kernel), ⟨by decide +kernel, by decide +kernel⟩, by decide +kernel⟩
theorem sv_Ev_clear : Cond.instanceMethod M_Ev_clear.1 ∈ mm_WS ∧ Cond.selects M_Ev_clear.1.cls M_Ev_clear.1 M_Ev_clear.1 ∈ mm_WS := ⟨mm_mw (i := 252) (by decide +kernel) (by decide +kernel), mm_mw (i := 253) (by decide +kernel) (by decide +kernel)⟩
abbrev M_Ev_has : mm_M := (⟨"TickArena$Events", "has", "(I)Z"⟩, prog_3_method_3_code, 2, (some FieldType.boolean), [])
theorem ok_Ev_has : mm_OK M_Ev_has 1 := ⟨by decide +kernel, Or.inl ⟨rfl, mm_mw (i := 554) (by decide +kernel) (by decide +kernel)⟩, mm_mw (i := 3) (by decide +kernel) (by decide +kernel), ⟨by decide +kernel, by decide +kernel⟩, by decide +kernel⟩
theorem sv_Ev_has : Cond.instanceMethod M_Ev_has.1 ∈ mm_WS ∧ Cond.selects M_Ev_has.1.cls M_Ev_has.1 M_Ev_has.1 ∈ mm_WS := ⟨mm_mw (i := 552) (by decide +kernel) (by decide +kernel), mm_mw (i := 553) (by decide +kernel) (by decide +kernel)⟩
abbrev M_Ev_add : mm_M := (⟨"TickArena$Events", "add", "(II)V"⟩, prog_3_method_4_code, 3, (none : Option FieldType), [])
theorem ok_Ev_add : mm_OK M_Ev_add 2 := ⟨by decide +kernel, Or.inl ⟨rfl, mm_mw (i := 542) (by decide +kernel) (by decide +kernel)⟩, mm_mw (i := 3) (by decide +kernel) (by decide +kernel), ⟨by decide +kernel, by decide +kernel⟩, by decide +kernel⟩
theorem sv_Ev_add : Cond.instanceMethod M_Ev_add.1 ∈ mm_WS ∧ Cond.selects M_Ev_add.1.cls M_Ev_add.1 M_Ev_add.1 ∈ mm_WS := ⟨mm_mw (i := 540) (by decide +kernel) (by decide +kernel), mm_mw (i := 541) (by decide +kernel) (by decide +kernel)⟩
abbrev M_Lg_init : mm_M := (⟨"TickArena$LogBytes", "<init>", "()V"⟩, prog_4_method_1_code, 1, (none : Option FieldType), [])
theorem ok_Lg_init : mm_OK M_Lg_init 0 := ⟨by decide +kernel, Or.inl ⟨rfl, mm_mw (i := 162) (by decide +kernel) (by decide +kernel)⟩, mm_mw (i := 7) (by decide +kernel) (by decide +kernel), ⟨by decide +kernel, by decide +kernel⟩, by decide +kernel⟩
theorem sv_Lg_init : Cond.instanceMethod M_Lg_init.1 ∈ mm_WS := mm_mw (i := 161) (by decide +kernel) (by decide +kernel)
theorem sw_Lg_init : Cond.code M_Lg_init.1 M_Lg_init.2.1 M_Lg_init.2.2.1 M_Lg_init.2.2.2.1 ∈ mm_WS := mm_mw (i := 162) (by decide +kernel) (by decide +kernel)
abbrev M_Lg_addCreate : mm_M := (⟨"TickArena$LogBytes", "addCreate", "(II)V"⟩, prog_4_method_2_code, 3, (none : Option FieldType), [])
theorem ok_Lg_addCreate : mm_OK M_Lg_addCreate 2 := ⟨by decide +kernel, Or.inl ⟨rfl, mm_mw (i := 385) (by decide +kernel) (by decide +kernel)⟩, mm_mw (i := 7) (by decide +kernel) (by decide +kernel), ⟨by decide +kernel, by decide +kernel⟩, by decide +kernel⟩
theorem sv_Lg_addCreate : Cond.instanceMethod M_Lg_addCreate.1 ∈ mm_WS ∧ Cond.selects M_Lg_addCreate.1.cls M_Lg_addCreate.1 M_Lg_addCreate.1 ∈ mm_WS := ⟨mm_mw (i := 383) (by decide +kernel) (by decide +kernel), mm_mw (i := 384) (by decide +kernel) (by decide +kernel)⟩
abbrev M_Lg_addDestroy : mm_M := (⟨"TickArena$LogBytes", "addDestroy", "(I)V"⟩, prog_4_method_3_code, 2, (none : Option FieldType), [])
theorem ok_Lg_addDestroy : mm_OK M_Lg_addDestroy 1 := ⟨by decide +kernel, Or.inl ⟨rfl, mm_mw (i := 422) (by decide +kernel) (by decide +kernel)⟩, mm_mw (i := 7) (by decide +kernel) (by decide +kernel), ⟨by decide +kernel, by decide +kernel⟩, by decide +kernel⟩
theorem sv_Lg_addDestroy : Cond.instanceMethod M_Lg_addDestroy.1 ∈ mm_WS ∧ Cond.selects M_Lg_addDestroy.1.cls M_Lg_addDestroy.1 M_Lg_addDestroy.1 ∈ mm_WS := ⟨mm_mw (i := 420) (by decide +kernel) (by decide +kernel), mm_mw (i := 421) (by decide +kernel) (by decide +kernel)⟩
abbrev M_Lg_addSpeed : mm_M := (⟨"TickArena$LogBytes", "addSpeed", "(III)V"⟩, prog_4_method_4_code, 4, (none : Option FieldType), [])
theorem ok_Lg_addSpeed : mm_OK M_Lg_addSpeed 3 := ⟨by decide +kernel, Or.inl ⟨rfl, mm_mw (i := 449) (by decide +kernel) (by decide +kernel)⟩, mm_mw (i := 7) (by decide +kernel) (by decide +kernel), ⟨by decide +kernel, by decide +kernel⟩, by decide +kernel⟩
theorem sv_Lg_addSpeed : Cond.instanceMethod M_Lg_addSpeed.1 ∈ mm_WS ∧ Cond.selects M_Lg_addSpeed.1.cls M_Lg_addSpeed.1 M_Lg_addSpeed.1 ∈ mm_WS := ⟨mm_mw (i := 447) (by decide +kernel) (by decide +kernel), mm_mw (i := 448) (by decide +kernel) (by decide +kernel)⟩
abbrev M_Lg_addShape : mm_M := (⟨"TickArena$LogBytes", "addShape", "(III)V"⟩, prog_4_method_5_code, 4, (none : Option FieldType), [])
theorem ok_Lg_addShape : mm_OK M_Lg_addShape 3 := ⟨by decide +kernel, Or.inl ⟨rfl, mm_mw (i := 468) (by decide +kernel) (by decide +kernel)⟩, mm_mw (i := 7) (by decide +kernel) (by decide +kernel), ⟨by decide +kernel, by decide +kernel⟩, by decide +kernel⟩
theorem sv_Lg_addShape : Cond.instanceMethod M_Lg_addShape.1 ∈ mm_WS ∧ Cond.selects M_Lg_addShape.1.cls M_Lg_addShape.1 M_Lg_addShape.1 ∈ mm_WS := ⟨mm_mw (i := 466) (by decide +kernel) (by decide +kernel), mm_mw (i := 467) (by decide +kernel) (by decide +kernel)⟩
abbrev M_Lg_addTimer : mm_M := (⟨"TickArena$LogBytes", "addTimer", "(II)V"⟩, prog_4_method_6_code, 3, (none : Option FieldType), [])
theorem ok_Lg_addTimer : mm_OK M_Lg_addTimer 2 := ⟨by decide +kernel, Or.inl ⟨rfl, mm_mw (i := 487) (by decide +kernel) (by decide +kernel)⟩, mm_mw (i := 7) (by decide +kernel) (by decide +kernel), ⟨by decide +kernel, by decide +kernel⟩, by decide +kernel⟩
theorem sv_Lg_addTimer : Cond.instanceMethod M_Lg_addTimer.1 ∈ mm_WS ∧ Cond.selects M_Lg_addTimer.1.cls M_Lg_addTimer.1 M_Lg_addTimer.1 ∈ mm_WS := ⟨mm_mw (i := 485) (by decide +kernel) (by decide +kernel), mm_mw (i := 486) (by decide +kernel) (by decide +kernel)⟩
abbrev M_Lg_addTick : mm_M := (⟨"TickArena$LogBytes", "addTick", "()V"⟩, prog_4_method_7_code, 1, (none : Option FieldType), [])
theorem ok_Lg_addTick : mm_OK M_Lg_addTick 0 := ⟨by decide +kernel, Or.inl ⟨rfl, mm_mw (i := 498) (by decide +kernel) (by decide +kernel)⟩, mm_mw (i := 7) (by decide +kernel) (by decide +kernel), ⟨by decide +kernel, by decide +kernel⟩, by decide +kernel⟩
theorem sv_Lg_addTick : Cond.instanceMethod M_Lg_addTick.1 ∈ mm_WS ∧ Cond.selects M_Lg_addTick.1.cls M_Lg_addTick.1 M_Lg_addTick.1 ∈ mm_WS := ⟨mm_mw (i := 496) (by decide +kernel) (by decide +kernel), mm_mw (i := 497) (by decide +kernel) (by decide +kernel)⟩
abbrev M_Lg_redoOn : mm_M := (⟨"TickArena$LogBytes", "redoOn", "(LTickArena$World;)I"⟩, prog_4_method_8_code, 4, (some FieldType.int), [])
theorem ok_Lg_redoOn : mm_OK M_Lg_redoOn 1 := ⟨by decide +kernel, Or.inl ⟨rfl, mm_mw (i := 693) (by decide +kernel) (by decide +kernel)⟩, mm_mw (i := 7) (by decide +kernel) (by decide +kernel), ⟨by decide +kernel, by decide +kernel⟩, by decide +kernel⟩
theorem sv_Lg_redoOn : Cond.instanceMethod M_Lg_redoOn.1 ∈ mm_WS ∧ Cond.selects M_Lg_redoOn.1.cls M_Lg_redoOn.1 M_Lg_redoOn.1 ∈ mm_WS := ⟨mm_mw (i := 691) (by decide +kernel) (by decide +kernel), mm_mw (i := 692) (by decide +kernel) (by decide +kernel)⟩
abbrev M_Lg_redoEntry : mm_M := (⟨"TickArena$LogBytes", "redoEntry", "(LTickArena$World;)Z"⟩, prog_4_method_9_code, 2, (some FieldType.boolean), [])
theorem ok_Lg_redoEntry : mm_OK M_Lg_redoEntry 1 := ⟨by decide +kernel, Or.inl ⟨rfl, mm_mw (i := 698) (by decide +kernel) (by decide +kernel)⟩, mm_mw (i := 7) (by decide +kernel) (by decide +kernel), ⟨by decide +kernel, by decide +kernel⟩, by decide +kernel⟩
theorem sv_Lg_redoEntry : Cond.instanceMethod M_Lg_redoEntry.1 ∈ mm_WS ∧ Cond.selects M_Lg_redoEntry.1.cls M_Lg_redoEntry.1 M_Lg_redoEntry.1 ∈ mm_WS := ⟨mm_mw (i := 697) (by decide +kernel) (by decide +kernel), mm_ms (q := (M_Lg_redoEntry.1, 1)) (List.mem_of_getElem? (i := 19) (by decide +kernel)) (by decide +kernel)⟩
abbrev M_Lg_redoCreate : mm_M := (⟨"TickArena$LogBytes", "redoCreate", "(LTickArena$World;)Z"⟩, prog_4_method_10_code, 4, (some FieldType.boolean), [])
theorem ok_Lg_redoCreate : mm_OK M_Lg_redoCreate 1 := ⟨by decide +kernel, Or.inl ⟨rfl, mm_mw (i := 703) (by decide +kernel) (by decide +kernel)⟩, mm_mw (i := 7) (by decide +kernel) (by decide +kernel), ⟨by decide +kernel, by decide +kernel⟩, by decide +kernel⟩
theorem sv_Lg_redoCreate : Cond.instanceMethod M_Lg_redoCreate.1 ∈ mm_WS ∧ Cond.selects M_Lg_redoCreate.1.cls M_Lg_redoCreate.1 M_Lg_redoCreate.1 ∈ mm_WS := ⟨mm_mw (i := 702) (by decide +kernel) (by decide +kernel), mm_ms (q := (M_Lg_redoCreate.1, 1)) (List.mem_of_getElem? (i := 20) (by decide +kernel)) (by decide +kernel)⟩
abbrev M_Lg_redoDestroy : mm_M := (⟨"TickArena$LogBytes", "redoDestroy", "(LTickArena$World;)Z"⟩, prog_4_method_11_code, 3, (some FieldType.boolean), [])
theorem ok_Lg_redoDestroy : mm_OK M_Lg_redoDestroy 1 := ⟨by decide +kernel, Or.inl ⟨rfl, mm_mw (i := 709) (by decide +kernel) (by decide +kernel)⟩, mm_mw (i := 7) (by decide +kernel) (by decide +kernel), ⟨by decide +kernel, by decide +kernel⟩, by decide +kernel⟩
theorem sv_Lg_redoDestroy : Cond.instanceMethod M_Lg_redoDestroy.1 ∈ mm_WS ∧ Cond.selects M_Lg_redoDestroy.1.cls M_Lg_redoDestroy.1 M_Lg_redoDestroy.1 ∈ mm_WS := ⟨mm_mw (i := 708) (by decide +kernel) (by decide +kernel), mm_ms (q := (M_Lg_redoDestroy.1, 1)) (List.mem_of_getElem? (i := 21) (by decide +kernel)) (by decide +kernel)⟩
abbrev M_Lg_redoSpeed : mm_M := (⟨"TickArena$LogBytes", "redoSpeed", "(LTickArena$World;)Z"⟩, prog_4_method_12_code, 5, (some FieldType.boolean), [])
theorem ok_Lg_redoSpeed : mm_OK M_Lg_redoSpeed 1 := ⟨by decide +kernel, Or.inl ⟨rfl, mm_mw (i := 716) (by decide +kernel) (by decide +kernel)⟩, mm_mw (i := 7) (by decide +kernel) (by decide +kernel), ⟨by decide +kernel, by decide +kernel⟩, by decide +kernel⟩
theorem sv_Lg_redoSpeed : Cond.instanceMethod M_Lg_redoSpeed.1 ∈ mm_WS ∧ Cond.selects M_Lg_redoSpeed.1.cls M_Lg_redoSpeed.1 M_Lg_redoSpeed.1 ∈ mm_WS := ⟨mm_mw (i := 715) (by decide +kernel) (by decide +kernel), mm_ms (q := (M_Lg_redoSpeed.1, 1)) (List.mem_of_getElem? (i := 22) (by decide +kernel)) (by decide +kernel)⟩
abbrev M_Lg_redoShape : mm_M := (⟨"TickArena$LogBytes", "redoShape", "(LTickArena$World;)Z"⟩, prog_4_method_13_code, 5, (some FieldType.boolean), [])
theorem ok_Lg_redoShape : mm_OK M_Lg_redoShape 1 := ⟨by decide +kernel, Or.inl ⟨rfl, mm_mw (i := 723) (by decide +kernel) (by decide +kernel)⟩, mm_mw (i := 7) (by decide +kernel) (by decide +kernel), ⟨by decide +kernel, by decide +kernel⟩, by decide +kernel⟩
theorem sv_Lg_redoShape : Cond.instanceMethod M_Lg_redoShape.1 ∈ mm_WS ∧ Cond.selects M_Lg_redoShape.1.cls M_Lg_redoShape.1 M_Lg_redoShape.1 ∈ mm_WS := ⟨mm_mw (i := 722) (by decide +kernel) (by decide +kernel), mm_ms (q := (M_Lg_redoShape.1, 1)) (List.mem_of_getElem? (i := 23) (by decide +kernel)) (by decide +kernel)⟩
abbrev M_Lg_redoTimer : mm_M := (⟨"TickArena$LogBytes", "redoTimer", "(LTickArena$World;)Z"⟩, prog_4_method_14_code, 4, (some FieldType.boolean), [])
theorem ok_Lg_redoTimer : mm_OK M_Lg_redoTimer 1 := ⟨by decide +kernel, Or.inl ⟨rfl, mm_mw (i := 729) (by decide +kernel) (by decide +kernel)⟩, mm_mw (i := 7) (by decide +kernel) (by decide +kernel), ⟨by decide +kernel, by decide +kernel⟩, by decide +kernel⟩
theorem sv_Lg_redoTimer : Cond.instanceMethod M_Lg_redoTimer.1 ∈ mm_WS ∧ Cond.selects M_Lg_redoTimer.1.cls M_Lg_redoTimer.1 M_Lg_redoTimer.1 ∈ mm_WS := ⟨mm_mw (i := 728) (by decide +kernel) (by decide +kernel), mm_ms (q := (M_Lg_redoTimer.1, 1)) (List.mem_of_getElem? (i := 24) (by decide +kernel)) (by decide +kernel)⟩
abbrev M_Sl_init : mm_M := (⟨"TickArena$Slot", "<init>", "()V"⟩, prog_5_method_1_code, 1, (none : Option FieldType), [])
theorem ok_Sl_init : mm_OK M_Sl_init 0 := ⟨by decide +kernel, Or.inl ⟨rfl, mm_mw (i := 56) (by decide +kernel) (by decide +kernel)⟩, mm_mw (i := 4) (by decide +kernel) (by decide +kernel), ⟨by decide +kernel, by decide +kernel⟩, by decide +kernel⟩
theorem sv_Sl_init : Cond.instanceMethod M_Sl_init.1 ∈ mm_WS := mm_mw (i := 55) (by decide +kernel) (by decide +kernel)
theorem sw_Sl_init : Cond.code M_Sl_init.1 M_Sl_init.2.1 M_Sl_init.2.2.1 M_Sl_init.2.2.2.1 ∈ mm_WS := mm_mw (i := 56) (by decide +kernel) (by decide +kernel)
abbrev M_Sl_settle : mm_M := (⟨"TickArena$Slot", "settle", "(II)V"⟩, prog_5_method_2_code, 3, (none : Option FieldType), [])
theorem ok_Sl_settle : mm_OK M_Sl_settle 2 := ⟨by decide +kernel, Or.inl ⟨rfl, mm_mw (i := 395) (by decide +kernel) (by decide +kernel)⟩, mm_mw (i := 4) (by decide +kernel) (by decide +kernel), ⟨by decide +kernel, by decide +kernel⟩, by decide +kernel⟩
theorem sv_Sl_settle : Cond.instanceMethod M_Sl_settle.1 ∈ mm_WS ∧ Cond.selects M_Sl_settle.1.cls M_Sl_settle.1 M_Sl_settle.1 ∈ mm_WS := ⟨mm_mw (i := 393) (by decide +kernel) (by decide +kernel), mm_mw (i := 394) (by decide +kernel) (by decide +kernel)⟩
abbrev M_Sl_vacate : mm_M := (⟨"TickArena$Slot", "vacate", "()V"⟩, prog_5_method_3_code, 1, (none : Option FieldType), [])
theorem ok_Sl_vacate : mm_OK M_Sl_vacate 0 := ⟨by decide +kernel, Or.inl ⟨rfl, mm_mw (i := 431) (by decide +kernel) (by decide +kernel)⟩, mm_mw (i := 4) (by decide +kernel) (by decide +kernel), ⟨by decide +kernel, by decide +kernel⟩, by decide +kernel⟩
theorem sv_Sl_vacate : Cond.instanceMethod M_Sl_vacate.1 ∈ mm_WS ∧ Cond.selects M_Sl_vacate.1.cls M_Sl_vacate.1 M_Sl_vacate.1 ∈ mm_WS := ⟨mm_mw (i := 429) (by decide +kernel) (by decide +kernel), mm_mw (i := 430) (by decide +kernel) (by decide +kernel)⟩
abbrev M_Sl_setSpeed : mm_M := (⟨"TickArena$Slot", "setSpeed", "(II)V"⟩, prog_5_method_4_code, 3, (none : Option FieldType), [])
theorem ok_Sl_setSpeed : mm_OK M_Sl_setSpeed 2 := ⟨by decide +kernel, Or.inl ⟨rfl, mm_mw (i := 399) (by decide +kernel) (by decide +kernel)⟩, mm_mw (i := 4) (by decide +kernel) (by decide +kernel), ⟨by decide +kernel, by decide +kernel⟩, by decide +kernel⟩
theorem sv_Sl_setSpeed : Cond.instanceMethod M_Sl_setSpeed.1 ∈ mm_WS ∧ Cond.selects M_Sl_setSpeed.1.cls M_Sl_setSpeed.1 M_Sl_setSpeed.1 ∈ mm_WS := ⟨mm_mw (i := 397) (by decide +kernel) (by decide +kernel), mm_mw (i := 398) (by decide +kernel) (by decide +kernel)⟩
abbrev M_Sl_setShape : mm_M := (⟨"TickArena$Slot", "setShape", "(II)V"⟩, prog_5_method_5_code, 3, (none : Option FieldType), [])
theorem ok_Sl_setShape : mm_OK M_Sl_setShape 2 := ⟨by decide +kernel, Or.inl ⟨rfl, mm_mw (i := 403) (by decide +kernel) (by decide +kernel)⟩, mm_mw (i := 4) (by decide +kernel) (by decide +kernel), ⟨by decide +kernel, by decide +kernel⟩, by decide +kernel⟩
theorem sv_Sl_setShape : Cond.instanceMethod M_Sl_setShape.1 ∈ mm_WS ∧ Cond.selects M_Sl_setShape.1.cls M_Sl_setShape.1 M_Sl_setShape.1 ∈ mm_WS := ⟨mm_mw (i := 401) (by decide +kernel) (by decide +kernel), mm_mw (i := 402) (by decide +kernel) (by decide +kernel)⟩
abbrev M_Sl_hasShape : mm_M := (⟨"TickArena$Slot", "hasShape", "()Z"⟩, prog_5_method_6_code, 1, (some FieldType.boolean), [])
theorem ok_Sl_hasShape : mm_OK M_Sl_hasShape 0 := ⟨by decide +kernel, Or.inl ⟨rfl, mm_mw (i := 197) (by decide +kernel) (by decide +kernel)⟩, mm_mw (i := 4) (by decide +kernel) (by decide +kernel), ⟨by decide +kernel, by decide +kernel⟩, by decide +kernel⟩
theorem sv_Sl_hasShape : Cond.instanceMethod M_Sl_hasShape.1 ∈ mm_WS ∧ Cond.selects M_Sl_hasShape.1.cls M_Sl_hasShape.1 M_Sl_hasShape.1 ∈ mm_WS := ⟨mm_mw (i := 195) (by decide +kernel) (by decide +kernel), mm_mw (i := 196) (by decide +kernel) (by decide +kernel)⟩
abbrev M_Sl_hasTimer : mm_M := (⟨"TickArena$Slot", "hasTimer", "()Z"⟩, prog_5_method_7_code, 1, (some FieldType.boolean), [])
theorem ok_Sl_hasTimer : mm_OK M_Sl_hasTimer 0 := ⟨by decide +kernel, Or.inl ⟨rfl, mm_mw (i := 201) (by decide +kernel) (by decide +kernel)⟩, mm_mw (i := 4) (by decide +kernel) (by decide +kernel), ⟨by decide +kernel, by decide +kernel⟩, by decide +kernel⟩
theorem sv_Sl_hasTimer : Cond.instanceMethod M_Sl_hasTimer.1 ∈ mm_WS ∧ Cond.selects M_Sl_hasTimer.1.cls M_Sl_hasTimer.1 M_Sl_hasTimer.1 ∈ mm_WS := ⟨mm_mw (i := 199) (by decide +kernel) (by decide +kernel), mm_mw (i := 200) (by decide +kernel) (by decide +kernel)⟩
abbrev M_Sl_covers : mm_M := (⟨"TickArena$Slot", "covers", "(II)Z"⟩, prog_5_method_8_code, 3, (some FieldType.boolean), [])
theorem ok_Sl_covers : mm_OK M_Sl_covers 2 := ⟨by decide +kernel, Or.inl ⟨rfl, mm_mw (i := 605) (by decide +kernel) (by decide +kernel)⟩, mm_mw (i := 4) (by decide +kernel) (by decide +kernel), ⟨by decide +kernel, by decide +kernel⟩, by decide +kernel⟩
theorem sv_Sl_covers : Cond.instanceMethod M_Sl_covers.1 ∈ mm_WS ∧ Cond.selects M_Sl_covers.1.cls M_Sl_covers.1 M_Sl_covers.1 ∈ mm_WS := ⟨mm_mw (i := 603) (by decide +kernel) (by decide +kernel), mm_mw (i := 604) (by decide +kernel) (by decide +kernel)⟩
abbrev M_Sl_overlaps : mm_M := (⟨"TickArena$Slot", "overlaps", "(LTickArena$Slot;)Z"⟩, prog_5_method_9_code, 2, (some FieldType.boolean), [])
theorem ok_Sl_overlaps : mm_OK M_Sl_overlaps 1 := ⟨by decide +kernel, Or.inl ⟨rfl, mm_mw (i := 530) (by decide +kernel) (by decide +kernel)⟩, mm_mw (i := 4) (by decide +kernel) (by decide +kernel), ⟨by decide +kernel, by decide +kernel⟩, by decide +kernel⟩
theorem sv_Sl_overlaps : Cond.instanceMethod M_Sl_overlaps.1 ∈ mm_WS ∧ Cond.selects M_Sl_overlaps.1.cls M_Sl_overlaps.1 M_Sl_overlaps.1 ∈ mm_WS := ⟨mm_mw (i := 528) (by decide +kernel) (by decide +kernel), mm_mw (i := 529) (by decide +kernel) (by decide +kernel)⟩
abbrev M_Sl_move : mm_M := (⟨"TickArena$Slot", "move", "()V"⟩, prog_5_method_10_code, 1, (none : Option FieldType), [])
theorem ok_Sl_move : mm_OK M_Sl_move 0 := ⟨by decide +kernel, Or.inl ⟨rfl, mm_mw (i := 517) (by decide +kernel) (by decide +kernel)⟩, mm_mw (i := 4) (by decide +kernel) (by decide +kernel), ⟨by decide +kernel, by decide +kernel⟩, by decide +kernel⟩
theorem sv_Sl_move : Cond.instanceMethod M_Sl_move.1 ∈ mm_WS ∧ Cond.selects M_Sl_move.1.cls M_Sl_move.1 M_Sl_move.1 ∈ mm_WS := ⟨mm_mw (i := 515) (by decide +kernel) (by decide +kernel), mm_mw (i := 516) (by decide +kernel) (by decide +kernel)⟩
abbrev M_Sl_thrownBack : mm_M := (⟨"TickArena$Slot", "thrownBack", "(I)I"⟩, prog_5_method_11_code, 1, (some FieldType.int), [])
theorem ok_Sl_thrownBack : mm_OK M_Sl_thrownBack 1 := ⟨by decide +kernel, Or.inl ⟨rfl, mm_mw (i := 521) (by decide +kernel) (by decide +kernel)⟩, mm_mw (i := 4) (by decide +kernel) (by decide +kernel), ⟨by decide +kernel, by decide +kernel⟩, by decide +kernel⟩
theorem sv_Sl_thrownBack : Cond.static M_Sl_thrownBack.1 ∈ mm_WS := mm_mw (i := 520) (by decide +kernel) (by decide +kernel)
abbrev M_Sb_init : mm_M := (⟨"TickArena$StateBytes", "<init>", "()V"⟩, prog_6_method_1_code, 1, (none : Option FieldType), [])
theorem ok_Sb_init : mm_OK M_Sb_init 0 := ⟨by decide +kernel, Or.inl ⟨rfl, mm_mw (i := 130) (by decide +kernel) (by decide +kernel)⟩, mm_mw (i := 5) (by decide +kernel) (by decide +kernel), ⟨by decide +kernel, by decide +kernel⟩, by decide +kernel⟩
theorem sv_Sb_init : Cond.instanceMethod M_Sb_init.1 ∈ mm_WS := mm_mw (i := 129) (by decide +kernel) (by decide +kernel)
theorem sw_Sb_init : Cond.code M_Sb_init.1 M_Sb_init.2.1 M_Sb_init.2.2.1 M_Sb_init.2.2.2.1 ∈ mm_WS := mm_mw (i := 130) (by decide +kernel) (by decide +kernel)
abbrev M_Sb_write : mm_M := (⟨"TickArena$StateBytes", "write", "(LTickArena$World;)V"⟩, prog_6_method_2_code, 3, (none : Option FieldType), [])
theorem ok_Sb_write : mm_OK M_Sb_write 1 := ⟨by decide +kernel, Or.inl ⟨rfl, mm_mw (i := 174) (by decide +kernel) (by decide +kernel)⟩, mm_mw (i := 5) (by decide +kernel) (by decide +kernel), ⟨by decide +kernel, by decide +kernel⟩, by decide +kernel⟩
theorem sv_Sb_write : Cond.instanceMethod M_Sb_write.1 ∈ mm_WS ∧ Cond.selects M_Sb_write.1.cls M_Sb_write.1 M_Sb_write.1 ∈ mm_WS := ⟨mm_mw (i := 172) (by decide +kernel) (by decide +kernel), mm_mw (i := 173) (by decide +kernel) (by decide +kernel)⟩
abbrev M_Sb_writeSlot : mm_M := (⟨"TickArena$StateBytes", "writeSlot", "(LTickArena$Slot;)V"⟩, prog_6_method_3_code, 2, (none : Option FieldType), [])
theorem ok_Sb_writeSlot : mm_OK M_Sb_writeSlot 1 := ⟨by decide +kernel, Or.inl ⟨rfl, mm_mw (i := 190) (by decide +kernel) (by decide +kernel)⟩, mm_mw (i := 5) (by decide +kernel) (by decide +kernel), ⟨by decide +kernel, by decide +kernel⟩, by decide +kernel⟩
theorem sv_Sb_writeSlot : Cond.instanceMethod M_Sb_writeSlot.1 ∈ mm_WS ∧ Cond.selects M_Sb_writeSlot.1.cls M_Sb_writeSlot.1 M_Sb_writeSlot.1 ∈ mm_WS := ⟨mm_mw (i := 189) (by decide +kernel) (by decide +kernel), mm_ms (q := (M_Sb_writeSlot.1, 1)) (List.mem_of_getElem? (i := 0) (by decide +kernel)) (by decide +kernel)⟩
abbrev M_Sb_kindOf : mm_M := (⟨"TickArena$StateBytes", "kindOf", "(LTickArena$Slot;)I"⟩, prog_6_method_4_code, 1, (some FieldType.int), [])
theorem ok_Sb_kindOf : mm_OK M_Sb_kindOf 1 := ⟨by decide +kernel, Or.inl ⟨rfl, mm_mw (i := 193) (by decide +kernel) (by decide +kernel)⟩, mm_mw (i := 5) (by decide +kernel) (by decide +kernel), ⟨by decide +kernel, by decide +kernel⟩, by decide +kernel⟩
theorem sv_Sb_kindOf : Cond.static M_Sb_kindOf.1 ∈ mm_WS := mm_mw (i := 192) (by decide +kernel) (by decide +kernel)
abbrev M_Sb_writePairs : mm_M := (⟨"TickArena$StateBytes", "writePairs", "(LTickArena$World;)V"⟩, prog_6_method_5_code, 3, (none : Option FieldType), [])
theorem ok_Sb_writePairs : mm_OK M_Sb_writePairs 1 := ⟨by decide +kernel, Or.inl ⟨rfl, mm_mw (i := 205) (by decide +kernel) (by decide +kernel)⟩, mm_mw (i := 5) (by decide +kernel) (by decide +kernel), ⟨by decide +kernel, by decide +kernel⟩, by decide +kernel⟩
theorem sv_Sb_writePairs : Cond.instanceMethod M_Sb_writePairs.1 ∈ mm_WS ∧ Cond.selects M_Sb_writePairs.1.cls M_Sb_writePairs.1 M_Sb_writePairs.1 ∈ mm_WS := ⟨mm_mw (i := 204) (by decide +kernel) (by decide +kernel), mm_ms (q := (M_Sb_writePairs.1, 1)) (List.mem_of_getElem? (i := 1) (by decide +kernel)) (by decide +kernel)⟩
abbrev M_Sb_readInto : mm_M := (⟨"TickArena$StateBytes", "readInto", "(LTickArena$World;)Z"⟩, prog_6_method_6_code, 2, (some FieldType.boolean), [])
theorem ok_Sb_readInto : mm_OK M_Sb_readInto 1 := ⟨by decide +kernel, Or.inl ⟨rfl, mm_mw (i := 616) (by decide +kernel) (by decide +kernel)⟩, mm_mw (i := 5) (by decide +kernel) (by decide +kernel), ⟨by decide +kernel, by decide +kernel⟩, by decide +kernel⟩
theorem sv_Sb_readInto : Cond.instanceMethod M_Sb_readInto.1 ∈ mm_WS ∧ Cond.selects M_Sb_readInto.1.cls M_Sb_readInto.1 M_Sb_readInto.1 ∈ mm_WS := ⟨mm_mw (i := 614) (by decide +kernel) (by decide +kernel), mm_mw (i := 615) (by decide +kernel) (by decide +kernel)⟩
abbrev M_Sb_readHead : mm_M := (⟨"TickArena$StateBytes", "readHead", "(LTickArena$World;)Z"⟩, prog_6_method_7_code, 3, (some FieldType.boolean), [])
theorem ok_Sb_readHead : mm_OK M_Sb_readHead 1 := ⟨by decide +kernel, Or.inl ⟨rfl, mm_mw (i := 620) (by decide +kernel) (by decide +kernel)⟩, mm_mw (i := 5) (by decide +kernel) (by decide +kernel), ⟨by decide +kernel, by decide +kernel⟩, by decide +kernel⟩
theorem sv_Sb_readHead : Cond.instanceMethod M_Sb_readHead.1 ∈ mm_WS ∧ Cond.selects M_Sb_readHead.1.cls M_Sb_readHead.1 M_Sb_readHead.1 ∈ mm_WS := ⟨mm_mw (i := 619) (by decide +kernel) (by decide +kernel), mm_ms (q := (M_Sb_readHead.1, 1)) (List.mem_of_getElem? (i := 10) (by decide +kernel)) (by decide +kernel)⟩
abbrev M_Sb_readSlots : mm_M := (⟨"TickArena$StateBytes", "readSlots", "(LTickArena$World;)Z"⟩, prog_6_method_8_code, 3, (some FieldType.boolean), [])
theorem ok_Sb_readSlots : mm_OK M_Sb_readSlots 1 := ⟨by decide +kernel, Or.inl ⟨rfl, mm_mw (i := 632) (by decide +kernel) (by decide +kernel)⟩, mm_mw (i := 5) (by decide +kernel) (by decide +kernel), ⟨by decide +kernel, by decide +kernel⟩, by decide +kernel⟩
theorem sv_Sb_readSlots : Cond.instanceMethod M_Sb_readSlots.1 ∈ mm_WS ∧ Cond.selects M_Sb_readSlots.1.cls M_Sb_readSlots.1 M_Sb_readSlots.1 ∈ mm_WS := ⟨mm_mw (i := 631) (by decide +kernel) (by decide +kernel), mm_ms (q := (M_Sb_readSlots.1, 1)) (List.mem_of_getElem? (i := 11) (by decide +kernel)) (by decide +kernel)⟩
abbrev M_Sb_readSlot : mm_M := (⟨"TickArena$StateBytes", "readSlot", "(LTickArena$Slot;)Z"⟩, prog_6_method_9_code, 4, (some FieldType.boolean), [])
theorem ok_Sb_readSlot : mm_OK M_Sb_readSlot 1 := ⟨by decide +kernel, Or.inl ⟨rfl, mm_mw (i := 636) (by decide +kernel) (by decide +kernel)⟩, mm_mw (i := 5) (by decide +kernel) (by decide +kernel), ⟨by decide +kernel, by decide +kernel⟩, by decide +kernel⟩
theorem sv_Sb_readSlot : Cond.instanceMethod M_Sb_readSlot.1 ∈ mm_WS ∧ Cond.selects M_Sb_readSlot.1.cls M_Sb_readSlot.1 M_Sb_readSlot.1 ∈ mm_WS := ⟨mm_mw (i := 635) (by decide +kernel) (by decide +kernel), mm_ms (q := (M_Sb_readSlot.1, 1)) (List.mem_of_getElem? (i := 12) (by decide +kernel)) (by decide +kernel)⟩
abbrev M_Sb_readThing : mm_M := (⟨"TickArena$StateBytes", "readThing", "(LTickArena$Slot;)Z"⟩, prog_6_method_10_code, 6, (some FieldType.boolean), [])
theorem ok_Sb_readThing : mm_OK M_Sb_readThing 1 := ⟨by decide +kernel, Or.inl ⟨rfl, mm_mw (i := 641) (by decide +kernel) (by decide +kernel)⟩, mm_mw (i := 5) (by decide +kernel) (by decide +kernel), ⟨by decide +kernel, by decide +kernel⟩, by decide +kernel⟩
theorem sv_Sb_readThing : Cond.instanceMethod M_Sb_readThing.1 ∈ mm_WS ∧ Cond.selects M_Sb_readThing.1.cls M_Sb_readThing.1 M_Sb_readThing.1 ∈ mm_WS := ⟨mm_mw (i := 640) (by decide +kernel) (by decide +kernel), mm_ms (q := (M_Sb_readThing.1, 1)) (List.mem_of_getElem? (i := 13) (by decide +kernel)) (by decide +kernel)⟩
abbrev M_Sb_readShape : mm_M := (⟨"TickArena$StateBytes", "readShape", "(LTickArena$Slot;Z)Z"⟩, prog_6_method_11_code, 5, (some FieldType.boolean), [])
theorem ok_Sb_readShape : mm_OK M_Sb_readShape 2 := ⟨by decide +kernel, Or.inl ⟨rfl, mm_mw (i := 649) (by decide +kernel) (by decide +kernel)⟩, mm_mw (i := 5) (by decide +kernel) (by decide +kernel), ⟨by decide +kernel, by decide +kernel⟩, by decide +kernel⟩
theorem sv_Sb_readShape : Cond.instanceMethod M_Sb_readShape.1 ∈ mm_WS ∧ Cond.selects M_Sb_readShape.1.cls M_Sb_readShape.1 M_Sb_readShape.1 ∈ mm_WS := ⟨mm_mw (i := 648) (by decide +kernel) (by decide +kernel), mm_ms (q := (M_Sb_readShape.1, 1)) (List.mem_of_getElem? (i := 14) (by decide +kernel)) (by decide +kernel)⟩
abbrev M_Sb_readTimer : mm_M := (⟨"TickArena$StateBytes", "readTimer", "(LTickArena$Slot;Z)Z"⟩, prog_6_method_12_code, 3, (some FieldType.boolean), [])
theorem ok_Sb_readTimer : mm_OK M_Sb_readTimer 2 := ⟨by decide +kernel, Or.inl ⟨rfl, mm_mw (i := 655) (by decide +kernel) (by decide +kernel)⟩, mm_mw (i := 5) (by decide +kernel) (by decide +kernel), ⟨by decide +kernel, by decide +kernel⟩, by decide +kernel⟩
theorem sv_Sb_readTimer : Cond.instanceMethod M_Sb_readTimer.1 ∈ mm_WS ∧ Cond.selects M_Sb_readTimer.1.cls M_Sb_readTimer.1 M_Sb_readTimer.1 ∈ mm_WS := ⟨mm_mw (i := 654) (by decide +kernel) (by decide +kernel), mm_ms (q := (M_Sb_readTimer.1, 1)) (List.mem_of_getElem? (i := 15) (by decide +kernel)) (by decide +kernel)⟩
abbrev M_Sb_readPairs : mm_M := (⟨"TickArena$StateBytes", "readPairs", "(LTickArena$World;)Z"⟩, prog_6_method_13_code, 6, (some FieldType.boolean), [])
theorem ok_Sb_readPairs : mm_OK M_Sb_readPairs 1 := ⟨by decide +kernel, Or.inl ⟨rfl, mm_mw (i := 660) (by decide +kernel) (by decide +kernel)⟩, mm_mw (i := 5) (by decide +kernel) (by decide +kernel), ⟨by decide +kernel, by decide +kernel⟩, by decide +kernel⟩
theorem sv_Sb_readPairs : Cond.instanceMethod M_Sb_readPairs.1 ∈ mm_WS ∧ Cond.selects M_Sb_readPairs.1.cls M_Sb_readPairs.1 M_Sb_readPairs.1 ∈ mm_WS := ⟨mm_mw (i := 659) (by decide +kernel) (by decide +kernel), mm_ms (q := (M_Sb_readPairs.1, 1)) (List.mem_of_getElem? (i := 16) (by decide +kernel)) (by decide +kernel)⟩
abbrev M_Sb_readCheck : mm_M := (⟨"TickArena$StateBytes", "readCheck", "()Z"⟩, prog_6_method_14_code, 2, (some FieldType.boolean), [])
theorem ok_Sb_readCheck : mm_OK M_Sb_readCheck 0 := ⟨by decide +kernel, Or.inl ⟨rfl, mm_mw (i := 674) (by decide +kernel) (by decide +kernel)⟩, mm_mw (i := 5) (by decide +kernel) (by decide +kernel), ⟨by decide +kernel, by decide +kernel⟩, by decide +kernel⟩
theorem sv_Sb_readCheck : Cond.instanceMethod M_Sb_readCheck.1 ∈ mm_WS ∧ Cond.selects M_Sb_readCheck.1.cls M_Sb_readCheck.1 M_Sb_readCheck.1 ∈ mm_WS := ⟨mm_mw (i := 673) (by decide +kernel) (by decide +kernel), mm_ms (q := (M_Sb_readCheck.1, 1)) (List.mem_of_getElem? (i := 17) (by decide +kernel)) (by decide +kernel)⟩
abbrev M_Wo_init : mm_M := (⟨"TickArena$World", "<init>", "()V"⟩, prog_7_method_1_code, 2, (none : Option FieldType), [])
theorem ok_Wo_init : mm_OK M_Wo_init 0 := ⟨by decide +kernel, Or.inl ⟨rfl, mm_mw (i := 28) (by decide +kernel) (by decide +kernel)⟩, mm_mw (i := 2) (by decide +kernel) (by decide +kernel), ⟨by decide +kernel, by decide +kernel⟩, by decide +kernel⟩
theorem sv_Wo_init : Cond.instanceMethod M_Wo_init.1 ∈ mm_WS := mm_mw (i := 27) (by decide +kernel) (by decide +kernel)
theorem sw_Wo_init : Cond.code M_Wo_init.1 M_Wo_init.2.1 M_Wo_init.2.2.1 M_Wo_init.2.2.2.1 ∈ mm_WS := mm_mw (i := 28) (by decide +kernel) (by decide +kernel)
abbrev M_Wo_isGood : mm_M := (⟨"TickArena$World", "isGood", "(I)Z"⟩, prog_7_method_2_code, 3, (some FieldType.boolean), [])
theorem ok_Wo_isGood : mm_OK M_Wo_isGood 1 := ⟨by decide +kernel, Or.inl ⟨rfl, mm_mw (i := 234) (by decide +kernel) (by decide +kernel)⟩, mm_mw (i := 2) (by decide +kernel) (by decide +kernel), ⟨by decide +kernel, by decide +kernel⟩, by decide +kernel⟩
theorem sv_Wo_isGood : Cond.instanceMethod M_Wo_isGood.1 ∈ mm_WS ∧ Cond.selects M_Wo_isGood.1.cls M_Wo_isGood.1 M_Wo_isGood.1 ∈ mm_WS := ⟨mm_mw (i := 232) (by decide +kernel) (by decide +kernel), mm_mw (i := 233) (by decide +kernel) (by decide +kernel)⟩
abbrev M_Wo_slotOf : mm_M := (⟨"TickArena$World", "slotOf", "(I)LTickArena$Slot;"⟩, prog_7_method_3_code, 2, (some (FieldType.object "TickArena$Slot")), [])
theorem ok_Wo_slotOf : mm_OK M_Wo_slotOf 1 := ⟨by decide +kernel, Or.inl ⟨rfl, mm_mw (i := 238) (by decide +kernel) (by decide +kernel)⟩, mm_mw (i := 2) (by decide +kernel) (by decide +kernel), ⟨by decide +kernel, by decide +kernel⟩, by decide +kernel⟩
theorem sv_Wo_slotOf : Cond.instanceMethod M_Wo_slotOf.1 ∈ mm_WS ∧ Cond.selects M_Wo_slotOf.1.cls M_Wo_slotOf.1 M_Wo_slotOf.1 ∈ mm_WS := ⟨mm_mw (i := 236) (by decide +kernel) (by decide +kernel), mm_mw (i := 237) (by decide +kernel) (by decide +kernel)⟩
abbrev M_Wo_handleIn : mm_M := (⟨"TickArena$World", "handleIn", "(I)I"⟩, prog_7_method_4_code, 2, (some FieldType.int), [])
theorem ok_Wo_handleIn : mm_OK M_Wo_handleIn 1 := ⟨by decide +kernel, Or.inl ⟨rfl, mm_mw (i := 407) (by decide +kernel) (by decide +kernel)⟩, mm_mw (i := 2) (by decide +kernel) (by decide +kernel), ⟨by decide +kernel, by decide +kernel⟩, by decide +kernel⟩
theorem sv_Wo_handleIn : Cond.instanceMethod M_Wo_handleIn.1 ∈ mm_WS ∧ Cond.selects M_Wo_handleIn.1.cls M_Wo_handleIn.1 M_Wo_handleIn.1 ∈ mm_WS := ⟨mm_mw (i := 405) (by decide +kernel) (by decide +kernel), mm_mw (i := 406) (by decide +kernel) (by decide +kernel)⟩
abbrev M_Wo_lowestEmpty : mm_M := (⟨"TickArena$World", "lowestEmpty", "()I"⟩, prog_7_method_5_code, 2, (some FieldType.int), [])
theorem ok_Wo_lowestEmpty : mm_OK M_Wo_lowestEmpty 0 := ⟨by decide +kernel, Or.inl ⟨rfl, mm_mw (i := 346) (by decide +kernel) (by decide +kernel)⟩, mm_mw (i := 2) (by decide +kernel) (by decide +kernel), ⟨by decide +kernel, by decide +kernel⟩, by decide +kernel⟩
theorem sv_Wo_lowestEmpty : Cond.instanceMethod M_Wo_lowestEmpty.1 ∈ mm_WS ∧ Cond.selects M_Wo_lowestEmpty.1.cls M_Wo_lowestEmpty.1 M_Wo_lowestEmpty.1 ∈ mm_WS := ⟨mm_mw (i := 344) (by decide +kernel) (by decide +kernel), mm_mw (i := 345) (by decide +kernel) (by decide +kernel)⟩
abbrev M_Wo_addThing : mm_M := (⟨"TickArena$World", "addThing", "(II)I"⟩, prog_7_method_6_code, 4, (some FieldType.int), [])
theorem ok_Wo_addThing : mm_OK M_Wo_addThing 2 := ⟨by decide +kernel, Or.inl ⟨rfl, mm_mw (i := 390) (by decide +kernel) (by decide +kernel)⟩, mm_mw (i := 2) (by decide +kernel) (by decide +kernel), ⟨by decide +kernel, by decide +kernel⟩, by decide +kernel⟩
theorem sv_Wo_addThing : Cond.instanceMethod M_Wo_addThing.1 ∈ mm_WS ∧ Cond.selects M_Wo_addThing.1.cls M_Wo_addThing.1 M_Wo_addThing.1 ∈ mm_WS := ⟨mm_mw (i := 388) (by decide +kernel) (by decide +kernel), mm_mw (i := 389) (by decide +kernel) (by decide +kernel)⟩
abbrev M_Wo_removeThing : mm_M := (⟨"TickArena$World", "removeThing", "(I)V"⟩, prog_7_method_7_code, 3, (none : Option FieldType), [])
theorem ok_Wo_removeThing : mm_OK M_Wo_removeThing 1 := ⟨by decide +kernel, Or.inl ⟨rfl, mm_mw (i := 427) (by decide +kernel) (by decide +kernel)⟩, mm_mw (i := 2) (by decide +kernel) (by decide +kernel), ⟨by decide +kernel, by decide +kernel⟩, by decide +kernel⟩
theorem sv_Wo_removeThing : Cond.instanceMethod M_Wo_removeThing.1 ∈ mm_WS ∧ Cond.selects M_Wo_removeThing.1.cls M_Wo_removeThing.1 M_Wo_removeThing.1 ∈ mm_WS := ⟨mm_mw (i := 425) (by decide +kernel) (by decide +kernel), mm_mw (i := 426) (by decide +kernel) (by decide +kernel)⟩
abbrev M_Wo_covering : mm_M := (⟨"TickArena$World", "covering", "(II)I"⟩, prog_7_method_8_code, 5, (some FieldType.int), [])
theorem ok_Wo_covering : mm_OK M_Wo_covering 2 := ⟨by decide +kernel, Or.inl ⟨rfl, mm_mw (i := 601) (by decide +kernel) (by decide +kernel)⟩, mm_mw (i := 2) (by decide +kernel) (by decide +kernel), ⟨by decide +kernel, by decide +kernel⟩, by decide +kernel⟩
theorem sv_Wo_covering : Cond.instanceMethod M_Wo_covering.1 ∈ mm_WS ∧ Cond.selects M_Wo_covering.1.cls M_Wo_covering.1 M_Wo_covering.1 ∈ mm_WS := ⟨mm_mw (i := 599) (by decide +kernel) (by decide +kernel), mm_mw (i := 600) (by decide +kernel) (by decide +kernel)⟩
abbrev M_Wo_step : mm_M := (⟨"TickArena$World", "step", "()V"⟩, prog_7_method_9_code, 1, (none : Option FieldType), [])
theorem ok_Wo_step : mm_OK M_Wo_step 0 := ⟨by decide +kernel, Or.inl ⟨rfl, mm_mw (i := 502) (by decide +kernel) (by decide +kernel)⟩, mm_mw (i := 2) (by decide +kernel) (by decide +kernel), ⟨by decide +kernel, by decide +kernel⟩, by decide +kernel⟩
theorem sv_Wo_step : Cond.instanceMethod M_Wo_step.1 ∈ mm_WS ∧ Cond.selects M_Wo_step.1.cls M_Wo_step.1 M_Wo_step.1 ∈ mm_WS := ⟨mm_mw (i := 500) (by decide +kernel) (by decide +kernel), mm_mw (i := 501) (by decide +kernel) (by decide +kernel)⟩
abbrev M_Wo_countDown : mm_M := (⟨"TickArena$World", "countDown", "()V"⟩, prog_7_method_10_code, 2, (none : Option FieldType), [])
theorem ok_Wo_countDown : mm_OK M_Wo_countDown 0 := ⟨by decide +kernel, Or.inl ⟨rfl, mm_mw (i := 507) (by decide +kernel) (by decide +kernel)⟩, mm_mw (i := 2) (by decide +kernel) (by decide +kernel), ⟨by decide +kernel, by decide +kernel⟩, by decide +kernel⟩
theorem sv_Wo_countDown : Cond.instanceMethod M_Wo_countDown.1 ∈ mm_WS ∧ Cond.selects M_Wo_countDown.1.cls M_Wo_countDown.1 M_Wo_countDown.1 ∈ mm_WS := ⟨mm_mw (i := 506) (by decide +kernel) (by decide +kernel), mm_ms (q := (M_Wo_countDown.1, 4)) (List.mem_of_getElem? (i := 6) (by decide +kernel)) (by decide +kernel)⟩
abbrev M_Wo_moveAll : mm_M := (⟨"TickArena$World", "moveAll", "()V"⟩, prog_7_method_11_code, 2, (none : Option FieldType), [])
theorem ok_Wo_moveAll : mm_OK M_Wo_moveAll 0 := ⟨by decide +kernel, Or.inl ⟨rfl, mm_mw (i := 513) (by decide +kernel) (by decide +kernel)⟩, mm_mw (i := 2) (by decide +kernel) (by decide +kernel), ⟨by decide +kernel, by decide +kernel⟩, by decide +kernel⟩
theorem sv_Wo_moveAll : Cond.instanceMethod M_Wo_moveAll.1 ∈ mm_WS ∧ Cond.selects M_Wo_moveAll.1.cls M_Wo_moveAll.1 M_Wo_moveAll.1 ∈ mm_WS := ⟨mm_mw (i := 512) (by decide +kernel) (by decide +kernel), mm_ms (q := (M_Wo_moveAll.1, 4)) (List.mem_of_getElem? (i := 7) (by decide +kernel)) (by decide +kernel)⟩
abbrev M_Wo_makeEvents : mm_M := (⟨"TickArena$World", "makeEvents", "()V"⟩, prog_7_method_12_code, 3, (none : Option FieldType), [])
theorem ok_Wo_makeEvents : mm_OK M_Wo_makeEvents 0 := ⟨by decide +kernel, Or.inl ⟨rfl, mm_mw (i := 525) (by decide +kernel) (by decide +kernel)⟩, mm_mw (i := 2) (by decide +kernel) (by decide +kernel), ⟨by decide +kernel, by decide +kernel⟩, by decide +kernel⟩
theorem sv_Wo_makeEvents : Cond.instanceMethod M_Wo_makeEvents.1 ∈ mm_WS ∧ Cond.selects M_Wo_makeEvents.1.cls M_Wo_makeEvents.1 M_Wo_makeEvents.1 ∈ mm_WS := ⟨mm_mw (i := 524) (by decide +kernel) (by decide +kernel), mm_ms (q := (M_Wo_makeEvents.1, 4)) (List.mem_of_getElem? (i := 8) (by decide +kernel)) (by decide +kernel)⟩
abbrev M_Wo_meet : mm_M := (⟨"TickArena$World", "meet", "(IZ)V"⟩, prog_7_method_13_code, 3, (none : Option FieldType), [])
theorem ok_Wo_meet : mm_OK M_Wo_meet 2 := ⟨by decide +kernel, Or.inl ⟨rfl, mm_mw (i := 538) (by decide +kernel) (by decide +kernel)⟩, mm_mw (i := 2) (by decide +kernel) (by decide +kernel), ⟨by decide +kernel, by decide +kernel⟩, by decide +kernel⟩
theorem sv_Wo_meet : Cond.instanceMethod M_Wo_meet.1 ∈ mm_WS ∧ Cond.selects M_Wo_meet.1.cls M_Wo_meet.1 M_Wo_meet.1 ∈ mm_WS := ⟨mm_mw (i := 537) (by decide +kernel) (by decide +kernel), mm_ms (q := (M_Wo_meet.1, 4)) (List.mem_of_getElem? (i := 9) (by decide +kernel)) (by decide +kernel)⟩
abbrev M_Wo_isPairOfThings : mm_M := (⟨"TickArena$World", "isPairOfThings", "(I)Z"⟩, prog_7_method_14_code, 4, (some FieldType.boolean), [])
theorem ok_Wo_isPairOfThings : mm_OK M_Wo_isPairOfThings 1 := ⟨by decide +kernel, Or.inl ⟨rfl, mm_mw (i := 668) (by decide +kernel) (by decide +kernel)⟩, mm_mw (i := 2) (by decide +kernel) (by decide +kernel), ⟨by decide +kernel, by decide +kernel⟩, by decide +kernel⟩
theorem sv_Wo_isPairOfThings : Cond.instanceMethod M_Wo_isPairOfThings.1 ∈ mm_WS ∧ Cond.selects M_Wo_isPairOfThings.1.cls M_Wo_isPairOfThings.1 M_Wo_isPairOfThings.1 ∈ mm_WS := ⟨mm_mw (i := 666) (by decide +kernel) (by decide +kernel), mm_mw (i := 667) (by decide +kernel) (by decide +kernel)⟩
abbrev M_Wo_countTouching : mm_M := (⟨"TickArena$World", "countTouching", "()I"⟩, prog_7_method_15_code, 3, (some FieldType.int), [])
theorem ok_Wo_countTouching : mm_OK M_Wo_countTouching 0 := ⟨by decide +kernel, Or.inl ⟨rfl, mm_mw (i := 209) (by decide +kernel) (by decide +kernel)⟩, mm_mw (i := 2) (by decide +kernel) (by decide +kernel), ⟨by decide +kernel, by decide +kernel⟩, by decide +kernel⟩
theorem sv_Wo_countTouching : Cond.instanceMethod M_Wo_countTouching.1 ∈ mm_WS ∧ Cond.selects M_Wo_countTouching.1.cls M_Wo_countTouching.1 M_Wo_countTouching.1 ∈ mm_WS := ⟨mm_mw (i := 207) (by decide +kernel) (by decide +kernel), mm_mw (i := 208) (by decide +kernel) (by decide +kernel)⟩
abbrev M_Wo_forgetTouching : mm_M := (⟨"TickArena$World", "forgetTouching", "()V"⟩, prog_7_method_16_code, 2, (none : Option FieldType), [])
theorem ok_Wo_forgetTouching : mm_OK M_Wo_forgetTouching 0 := ⟨by decide +kernel, Or.inl ⟨rfl, mm_mw (i := 664) (by decide +kernel) (by decide +kernel)⟩, mm_mw (i := 2) (by decide +kernel) (by decide +kernel), ⟨by decide +kernel, by decide +kernel⟩, by decide +kernel⟩
theorem sv_Wo_forgetTouching : Cond.instanceMethod M_Wo_forgetTouching.1 ∈ mm_WS ∧ Cond.selects M_Wo_forgetTouching.1.cls M_Wo_forgetTouching.1 M_Wo_forgetTouching.1 ∈ mm_WS := ⟨mm_mw (i := 662) (by decide +kernel) (by decide +kernel), mm_mw (i := 663) (by decide +kernel) (by decide +kernel)⟩
abbrev M_Ta_init : mm_M := (⟨"TickArena", "<init>", "()V"⟩, prog_1_method_1_code, 1, (none : Option FieldType), [])
theorem ok_Ta_init : mm_OK M_Ta_init 0 := ⟨by decide +kernel, Or.inl ⟨rfl, mm_mw (i := 20) (by decide +kernel) (by decide +kernel)⟩, mm_mw (i := 1) (by decide +kernel) (by decide +kernel), ⟨by decide +kernel, by decide +kernel⟩, by decide +kernel⟩
theorem sv_Ta_init : Cond.instanceMethod M_Ta_init.1 ∈ mm_WS := mm_mw (i := 19) (by decide +kernel) (by decide +kernel)
theorem sw_Ta_init : Cond.code M_Ta_init.1 M_Ta_init.2.1 M_Ta_init.2.2.1 M_Ta_init.2.2.2.1 ∈ mm_WS := mm_mw (i := 20) (by decide +kernel) (by decide +kernel)
abbrev M_Ta_create : mm_M := (⟨"TickArena", "create", "(II)I"⟩, prog_1_method_2_code, 3, (some FieldType.int), [])
theorem ok_Ta_create : mm_OK M_Ta_create 2 := ⟨by decide +kernel, Or.inl ⟨rfl, mm_mw (i := 272) (by decide +kernel) (by decide +kernel)⟩, mm_mw (i := 1) (by decide +kernel) (by decide +kernel), ⟨by decide +kernel, by decide +kernel⟩, by decide +kernel⟩
theorem sv_Ta_create : Cond.instanceMethod M_Ta_create.1 ∈ mm_WS ∧ Cond.selects M_Ta_create.1.cls M_Ta_create.1 M_Ta_create.1 ∈ mm_WS := ⟨mm_mw (i := 270) (by decide +kernel) (by decide +kernel), mm_mw (i := 271) (by decide +kernel) (by decide +kernel)⟩
abbrev M_Ta_destroy : mm_M := (⟨"TickArena", "destroy", "(I)V"⟩, prog_1_method_3_code, 2, (none : Option FieldType), [])
theorem ok_Ta_destroy : mm_OK M_Ta_destroy 1 := ⟨by decide +kernel, Or.inl ⟨rfl, mm_mw (i := 414) (by decide +kernel) (by decide +kernel)⟩, mm_mw (i := 1) (by decide +kernel) (by decide +kernel), ⟨by decide +kernel, by decide +kernel⟩, by decide +kernel⟩
theorem sv_Ta_destroy : Cond.instanceMethod M_Ta_destroy.1 ∈ mm_WS ∧ Cond.selects M_Ta_destroy.1.cls M_Ta_destroy.1 M_Ta_destroy.1 ∈ mm_WS := ⟨mm_mw (i := 412) (by decide +kernel) (by decide +kernel), mm_mw (i := 413) (by decide +kernel) (by decide +kernel)⟩
abbrev M_Ta_speed : mm_M := (⟨"TickArena", "speed", "(III)V"⟩, prog_1_method_4_code, 4, (none : Option FieldType), [])
theorem ok_Ta_speed : mm_OK M_Ta_speed 3 := ⟨by decide +kernel, Or.inl ⟨rfl, mm_mw (i := 442) (by decide +kernel) (by decide +kernel)⟩, mm_mw (i := 1) (by decide +kernel) (by decide +kernel), ⟨by decide +kernel, by decide +kernel⟩, by decide +kernel⟩
theorem sv_Ta_speed : Cond.instanceMethod M_Ta_speed.1 ∈ mm_WS ∧ Cond.selects M_Ta_speed.1.cls M_Ta_speed.1 M_Ta_speed.1 ∈ mm_WS := ⟨mm_mw (i := 440) (by decide +kernel) (by decide +kernel), mm_mw (i := 441) (by decide +kernel) (by decide +kernel)⟩
abbrev M_Ta_shape : mm_M := (⟨"TickArena", "shape", "(III)V"⟩, prog_1_method_5_code, 4, (none : Option FieldType), [])
theorem ok_Ta_shape : mm_OK M_Ta_shape 3 := ⟨by decide +kernel, Or.inl ⟨rfl, mm_mw (i := 458) (by decide +kernel) (by decide +kernel)⟩, mm_mw (i := 1) (by decide +kernel) (by decide +kernel), ⟨by decide +kernel, by decide +kernel⟩, by decide +kernel⟩
theorem sv_Ta_shape : Cond.instanceMethod M_Ta_shape.1 ∈ mm_WS ∧ Cond.selects M_Ta_shape.1.cls M_Ta_shape.1 M_Ta_shape.1 ∈ mm_WS := ⟨mm_mw (i := 456) (by decide +kernel) (by decide +kernel), mm_mw (i := 457) (by decide +kernel) (by decide +kernel)⟩
abbrev M_Ta_timer : mm_M := (⟨"TickArena", "timer", "(II)V"⟩, prog_1_method_6_code, 3, (none : Option FieldType), [])
theorem ok_Ta_timer : mm_OK M_Ta_timer 2 := ⟨by decide +kernel, Or.inl ⟨rfl, mm_mw (i := 476) (by decide +kernel) (by decide +kernel)⟩, mm_mw (i := 1) (by decide +kernel) (by decide +kernel), ⟨by decide +kernel, by decide +kernel⟩, by decide +kernel⟩
theorem sv_Ta_timer : Cond.instanceMethod M_Ta_timer.1 ∈ mm_WS ∧ Cond.selects M_Ta_timer.1.cls M_Ta_timer.1 M_Ta_timer.1 ∈ mm_WS := ⟨mm_mw (i := 474) (by decide +kernel) (by decide +kernel), mm_mw (i := 475) (by decide +kernel) (by decide +kernel)⟩
abbrev M_Ta_tick : mm_M := (⟨"TickArena", "tick", "(I)I"⟩, prog_1_method_7_code, 3, (some FieldType.int), [])
theorem ok_Ta_tick : mm_OK M_Ta_tick 1 := ⟨by decide +kernel, Or.inl ⟨rfl, mm_mw (i := 494) (by decide +kernel) (by decide +kernel)⟩, mm_mw (i := 1) (by decide +kernel) (by decide +kernel), ⟨by decide +kernel, by decide +kernel⟩, by decide +kernel⟩
theorem sv_Ta_tick : Cond.instanceMethod M_Ta_tick.1 ∈ mm_WS ∧ Cond.selects M_Ta_tick.1.cls M_Ta_tick.1 M_Ta_tick.1 ∈ mm_WS := ⟨mm_mw (i := 492) (by decide +kernel) (by decide +kernel), mm_mw (i := 493) (by decide +kernel) (by decide +kernel)⟩
abbrev M_Ta_event : mm_M := (⟨"TickArena", "event", "(II)I"⟩, prog_1_method_8_code, 4, (some FieldType.int), [])
theorem ok_Ta_event : mm_OK M_Ta_event 2 := ⟨by decide +kernel, Or.inl ⟨rfl, mm_mw (i := 550) (by decide +kernel) (by decide +kernel)⟩, mm_mw (i := 1) (by decide +kernel) (by decide +kernel), ⟨by decide +kernel, by decide +kernel⟩, by decide +kernel⟩
theorem sv_Ta_event : Cond.instanceMethod M_Ta_event.1 ∈ mm_WS ∧ Cond.selects M_Ta_event.1.cls M_Ta_event.1 M_Ta_event.1 ∈ mm_WS := ⟨mm_mw (i := 548) (by decide +kernel) (by decide +kernel), mm_mw (i := 549) (by decide +kernel) (by decide +kernel)⟩
abbrev M_Ta_good : mm_M := (⟨"TickArena", "good", "(I)Z"⟩, prog_1_method_9_code, 2, (some FieldType.boolean), [])
theorem ok_Ta_good : mm_OK M_Ta_good 1 := ⟨by decide +kernel, Or.inl ⟨rfl, mm_mw (i := 230) (by decide +kernel) (by decide +kernel)⟩, mm_mw (i := 1) (by decide +kernel) (by decide +kernel), ⟨by decide +kernel, by decide +kernel⟩, by decide +kernel⟩
theorem sv_Ta_good : Cond.instanceMethod M_Ta_good.1 ∈ mm_WS ∧ Cond.selects M_Ta_good.1.cls M_Ta_good.1 M_Ta_good.1 ∈ mm_WS := ⟨mm_mw (i := 228) (by decide +kernel) (by decide +kernel), mm_mw (i := 229) (by decide +kernel) (by decide +kernel)⟩
abbrev M_Ta_about : mm_M := (⟨"TickArena", "about", "(II)I"⟩, prog_1_method_10_code, 4, (some FieldType.int), [])
theorem ok_Ta_about : mm_OK M_Ta_about 2 := ⟨by decide +kernel, Or.inl ⟨rfl, mm_mw (i := 582) (by decide +kernel) (by decide +kernel)⟩, mm_mw (i := 1) (by decide +kernel) (by decide +kernel), ⟨by decide +kernel, by decide +kernel⟩, by decide +kernel⟩
theorem sv_Ta_about : Cond.instanceMethod M_Ta_about.1 ∈ mm_WS ∧ Cond.selects M_Ta_about.1.cls M_Ta_about.1 M_Ta_about.1 ∈ mm_WS := ⟨mm_mw (i := 580) (by decide +kernel) (by decide +kernel), mm_mw (i := 581) (by decide +kernel) (by decide +kernel)⟩
abbrev M_Ta_handleOf : mm_M := (⟨"TickArena", "handleOf", "(I)I"⟩, prog_1_method_11_code, 2, (some FieldType.int), [])
theorem ok_Ta_handleOf : mm_OK M_Ta_handleOf 1 := ⟨by decide +kernel, Or.inl ⟨rfl, mm_mw (i := 589) (by decide +kernel) (by decide +kernel)⟩, mm_mw (i := 1) (by decide +kernel) (by decide +kernel), ⟨by decide +kernel, by decide +kernel⟩, by decide +kernel⟩
theorem sv_Ta_handleOf : Cond.instanceMethod M_Ta_handleOf.1 ∈ mm_WS ∧ Cond.selects M_Ta_handleOf.1.cls M_Ta_handleOf.1 M_Ta_handleOf.1 ∈ mm_WS := ⟨mm_mw (i := 587) (by decide +kernel) (by decide +kernel), mm_mw (i := 588) (by decide +kernel) (by decide +kernel)⟩
abbrev M_Ta_under : mm_M := (⟨"TickArena", "under", "(II)I"⟩, prog_1_method_12_code, 3, (some FieldType.int), [])
theorem ok_Ta_under : mm_OK M_Ta_under 2 := ⟨by decide +kernel, Or.inl ⟨rfl, mm_mw (i := 597) (by decide +kernel) (by decide +kernel)⟩, mm_mw (i := 1) (by decide +kernel) (by decide +kernel), ⟨by decide +kernel, by decide +kernel⟩, by decide +kernel⟩
theorem sv_Ta_under : Cond.instanceMethod M_Ta_under.1 ∈ mm_WS ∧ Cond.selects M_Ta_under.1.cls M_Ta_under.1 M_Ta_under.1 ∈ mm_WS := ⟨mm_mw (i := 595) (by decide +kernel) (by decide +kernel), mm_mw (i := 596) (by decide +kernel) (by decide +kernel)⟩
abbrev M_Ta_clock : mm_M := (⟨"TickArena", "clock", "()I"⟩, prog_1_method_13_code, 1, (some FieldType.int), [])
theorem ok_Ta_clock : mm_OK M_Ta_clock 0 := ⟨by decide +kernel, Or.inl ⟨rfl, mm_mw (i := 245) (by decide +kernel) (by decide +kernel)⟩, mm_mw (i := 1) (by decide +kernel) (by decide +kernel), ⟨by decide +kernel, by decide +kernel⟩, by decide +kernel⟩
theorem sv_Ta_clock : Cond.instanceMethod M_Ta_clock.1 ∈ mm_WS ∧ Cond.selects M_Ta_clock.1.cls M_Ta_clock.1 M_Ta_clock.1 ∈ mm_WS := ⟨mm_mw (i := 243) (by decide +kernel) (by decide +kernel), mm_mw (i := 244) (by decide +kernel) (by decide +kernel)⟩
abbrev M_Ta_save : mm_M := (⟨"TickArena", "save", "()I"⟩, prog_1_method_14_code, 1, (some FieldType.int), [])
theorem ok_Ta_save : mm_OK M_Ta_save 0 := ⟨by decide +kernel, Or.inl ⟨rfl, mm_mw (i := 249) (by decide +kernel) (by decide +kernel)⟩, mm_mw (i := 1) (by decide +kernel) (by decide +kernel), ⟨by decide +kernel, by decide +kernel⟩, by decide +kernel⟩
theorem sv_Ta_save : Cond.instanceMethod M_Ta_save.1 ∈ mm_WS ∧ Cond.selects M_Ta_save.1.cls M_Ta_save.1 M_Ta_save.1 ∈ mm_WS := ⟨mm_mw (i := 247) (by decide +kernel) (by decide +kernel), mm_mw (i := 248) (by decide +kernel) (by decide +kernel)⟩
abbrev M_Ta_load : mm_M := (⟨"TickArena", "load", "()V"⟩, prog_1_method_15_code, 1, (none : Option FieldType), [])
theorem ok_Ta_load : mm_OK M_Ta_load 0 := ⟨by decide +kernel, Or.inl ⟨rfl, mm_mw (i := 612) (by decide +kernel) (by decide +kernel)⟩, mm_mw (i := 1) (by decide +kernel) (by decide +kernel), ⟨by decide +kernel, by decide +kernel⟩, by decide +kernel⟩
theorem sv_Ta_load : Cond.instanceMethod M_Ta_load.1 ∈ mm_WS ∧ Cond.selects M_Ta_load.1.cls M_Ta_load.1 M_Ta_load.1 ∈ mm_WS := ⟨mm_mw (i := 610) (by decide +kernel) (by decide +kernel), mm_mw (i := 611) (by decide +kernel) (by decide +kernel)⟩
abbrev M_Ta_replay : mm_M := (⟨"TickArena", "replay", "()I"⟩, prog_1_method_16_code, 2, (some FieldType.int), [])
theorem ok_Ta_replay : mm_OK M_Ta_replay 0 := ⟨by decide +kernel, Or.inl ⟨rfl, mm_mw (i := 689) (by decide +kernel) (by decide +kernel)⟩, mm_mw (i := 1) (by decide +kernel) (by decide +kernel), ⟨by decide +kernel, by decide +kernel⟩, by decide +kernel⟩
theorem sv_Ta_replay : Cond.instanceMethod M_Ta_replay.1 ∈ mm_WS ∧ Cond.selects M_Ta_replay.1.cls M_Ta_replay.1 M_Ta_replay.1 ∈ mm_WS := ⟨mm_mw (i := 687) (by decide +kernel) (by decide +kernel), mm_mw (i := 688) (by decide +kernel) (by decide +kernel)⟩
abbrev M_Ta_size : mm_M := (⟨"TickArena", "size", "(Z)I"⟩, prog_1_method_17_code, 2, (some FieldType.int), [])
theorem ok_Ta_size : mm_OK M_Ta_size 1 := ⟨by decide +kernel, Or.inl ⟨rfl, mm_mw (i := 258) (by decide +kernel) (by decide +kernel)⟩, mm_mw (i := 1) (by decide +kernel) (by decide +kernel), ⟨by decide +kernel, by decide +kernel⟩, by decide +kernel⟩
theorem sv_Ta_size : Cond.instanceMethod M_Ta_size.1 ∈ mm_WS ∧ Cond.selects M_Ta_size.1.cls M_Ta_size.1 M_Ta_size.1 ∈ mm_WS := ⟨mm_mw (i := 256) (by decide +kernel) (by decide +kernel), mm_mw (i := 257) (by decide +kernel) (by decide +kernel)⟩
abbrev M_Ta_at : mm_M := (⟨"TickArena", "at", "(IZ)I"⟩, prog_1_method_18_code, 4, (some FieldType.int), [])
theorem ok_Ta_at : mm_OK M_Ta_at 2 := ⟨by decide +kernel, Or.inl ⟨rfl, mm_mw (i := 738) (by decide +kernel) (by decide +kernel)⟩, mm_mw (i := 1) (by decide +kernel) (by decide +kernel), ⟨by decide +kernel, by decide +kernel⟩, by decide +kernel⟩
theorem sv_Ta_at : Cond.instanceMethod M_Ta_at.1 ∈ mm_WS ∧ Cond.selects M_Ta_at.1.cls M_Ta_at.1 M_Ta_at.1 ∈ mm_WS := ⟨mm_mw (i := 736) (by decide +kernel) (by decide +kernel), mm_mw (i := 737) (by decide +kernel) (by decide +kernel)⟩
abbrev M_Ta_corrupt : mm_M := (⟨"TickArena", "corrupt", "(IIZ)V"⟩, prog_1_method_19_code, 5, (none : Option FieldType), [])
theorem ok_Ta_corrupt : mm_OK M_Ta_corrupt 3 := ⟨by decide +kernel, Or.inl ⟨rfl, mm_mw (i := 746) (by decide +kernel) (by decide +kernel)⟩, mm_mw (i := 1) (by decide +kernel) (by decide +kernel), ⟨by decide +kernel, by decide +kernel⟩, by decide +kernel⟩
theorem sv_Ta_corrupt : Cond.instanceMethod M_Ta_corrupt.1 ∈ mm_WS ∧ Cond.selects M_Ta_corrupt.1.cls M_Ta_corrupt.1 M_Ta_corrupt.1 ∈ mm_WS := ⟨mm_mw (i := 744) (by decide +kernel) (by decide +kernel), mm_mw (i := 745) (by decide +kernel) (by decide +kernel)⟩
abbrev M_Ta_bytesOf : mm_M := (⟨"TickArena", "bytesOf", "(Z)LTickArena$Bytes;"⟩, prog_1_method_20_code, 2, (some (FieldType.object "TickArena$Bytes")), [])
theorem ok_Ta_bytesOf : mm_OK M_Ta_bytesOf 1 := ⟨by decide +kernel, Or.inl ⟨rfl, mm_mw (i := 262) (by decide +kernel) (by decide +kernel)⟩, mm_mw (i := 1) (by decide +kernel) (by decide +kernel), ⟨by decide +kernel, by decide +kernel⟩, by decide +kernel⟩
theorem sv_Ta_bytesOf : Cond.instanceMethod M_Ta_bytesOf.1 ∈ mm_WS ∧ Cond.selects M_Ta_bytesOf.1.cls M_Ta_bytesOf.1 M_Ta_bytesOf.1 ∈ mm_WS := ⟨mm_mw (i := 261) (by decide +kernel) (by decide +kernel), mm_ms (q := (M_Ta_bytesOf.1, 4)) (List.mem_of_getElem? (i := 2) (by decide +kernel)) (by decide +kernel)⟩
abbrev M_Ta_needGood : mm_M := (⟨"TickArena", "needGood", "(I)V"⟩, prog_1_method_21_code, 2, (none : Option FieldType), [])
theorem ok_Ta_needGood : mm_OK M_Ta_needGood 1 := ⟨by decide +kernel, Or.inl ⟨rfl, mm_mw (i := 418) (by decide +kernel) (by decide +kernel)⟩, mm_mw (i := 1) (by decide +kernel) (by decide +kernel), ⟨by decide +kernel, by decide +kernel⟩, by decide +kernel⟩
theorem sv_Ta_needGood : Cond.instanceMethod M_Ta_needGood.1 ∈ mm_WS ∧ Cond.selects M_Ta_needGood.1.cls M_Ta_needGood.1 M_Ta_needGood.1 ∈ mm_WS := ⟨mm_mw (i := 417) (by decide +kernel) (by decide +kernel), mm_ms (q := (M_Ta_needGood.1, 4)) (List.mem_of_getElem? (i := 5) (by decide +kernel)) (by decide +kernel)⟩
abbrev M_Ta_needRoom : mm_M := (⟨"TickArena", "needRoom", "(I)V"⟩, prog_1_method_22_code, 2, (none : Option FieldType), [])
theorem ok_Ta_needRoom : mm_OK M_Ta_needRoom 1 := ⟨by decide +kernel, Or.inl ⟨rfl, mm_mw (i := 365) (by decide +kernel) (by decide +kernel)⟩, mm_mw (i := 1) (by decide +kernel) (by decide +kernel), ⟨by decide +kernel, by decide +kernel⟩, by decide +kernel⟩
theorem sv_Ta_needRoom : Cond.instanceMethod M_Ta_needRoom.1 ∈ mm_WS ∧ Cond.selects M_Ta_needRoom.1.cls M_Ta_needRoom.1 M_Ta_needRoom.1 ∈ mm_WS := ⟨mm_mw (i := 364) (by decide +kernel) (by decide +kernel), mm_ms (q := (M_Ta_needRoom.1, 4)) (List.mem_of_getElem? (i := 4) (by decide +kernel)) (by decide +kernel)⟩
abbrev M_Ta_takeSpare : mm_M := (⟨"TickArena", "takeSpare", "()V"⟩, prog_1_method_23_code, 2, (none : Option FieldType), [])
theorem ok_Ta_takeSpare : mm_OK M_Ta_takeSpare 0 := ⟨by decide +kernel, Or.inl ⟨rfl, mm_mw (i := 682) (by decide +kernel) (by decide +kernel)⟩, mm_mw (i := 1) (by decide +kernel) (by decide +kernel), ⟨by decide +kernel, by decide +kernel⟩, by decide +kernel⟩
theorem sv_Ta_takeSpare : Cond.instanceMethod M_Ta_takeSpare.1 ∈ mm_WS ∧ Cond.selects M_Ta_takeSpare.1.cls M_Ta_takeSpare.1 M_Ta_takeSpare.1 ∈ mm_WS := ⟨mm_mw (i := 681) (by decide +kernel) (by decide +kernel), mm_ms (q := (M_Ta_takeSpare.1, 4)) (List.mem_of_getElem? (i := 18) (by decide +kernel)) (by decide +kernel)⟩
abbrev M_Ta_isWithin : mm_M := (⟨"TickArena", "isWithin", "(III)Z"⟩, prog_1_method_24_code, 3, (some FieldType.boolean), [])
theorem ok_Ta_isWithin : mm_OK M_Ta_isWithin 3 := ⟨by decide +kernel, Or.inl ⟨rfl, mm_mw (i := 278) (by decide +kernel) (by decide +kernel)⟩, mm_mw (i := 1) (by decide +kernel) (by decide +kernel), ⟨by decide +kernel, by decide +kernel⟩, by decide +kernel⟩
theorem sv_Ta_isWithin : Cond.static M_Ta_isWithin.1 ∈ mm_WS := mm_mw (i := 277) (by decide +kernel) (by decide +kernel)
abbrev M_Ta_isPlace : mm_M := (⟨"TickArena", "isPlace", "(II)Z"⟩, prog_1_method_25_code, 2, (some FieldType.boolean), [])
theorem ok_Ta_isPlace : mm_OK M_Ta_isPlace 2 := ⟨by decide +kernel, Or.inl ⟨rfl, mm_mw (i := 275) (by decide +kernel) (by decide +kernel)⟩, mm_mw (i := 1) (by decide +kernel) (by decide +kernel), ⟨by decide +kernel, by decide +kernel⟩, by decide +kernel⟩
theorem sv_Ta_isPlace : Cond.static M_Ta_isPlace.1 ∈ mm_WS := mm_mw (i := 274) (by decide +kernel) (by decide +kernel)
abbrev M_Ta_isSpeed : mm_M := (⟨"TickArena", "isSpeed", "(II)Z"⟩, prog_1_method_26_code, 2, (some FieldType.boolean), [])
theorem ok_Ta_isSpeed : mm_OK M_Ta_isSpeed 2 := ⟨by decide +kernel, Or.inl ⟨rfl, mm_mw (i := 445) (by decide +kernel) (by decide +kernel)⟩, mm_mw (i := 1) (by decide +kernel) (by decide +kernel), ⟨by decide +kernel, by decide +kernel⟩, by decide +kernel⟩
theorem sv_Ta_isSpeed : Cond.static M_Ta_isSpeed.1 ∈ mm_WS := mm_mw (i := 444) (by decide +kernel) (by decide +kernel)
abbrev M_Ta_isShape : mm_M := (⟨"TickArena", "isShape", "(II)Z"⟩, prog_1_method_27_code, 2, (some FieldType.boolean), [])
theorem ok_Ta_isShape : mm_OK M_Ta_isShape 2 := ⟨by decide +kernel, Or.inl ⟨rfl, mm_mw (i := 464) (by decide +kernel) (by decide +kernel)⟩, mm_mw (i := 1) (by decide +kernel) (by decide +kernel), ⟨by decide +kernel, by decide +kernel⟩, by decide +kernel⟩
theorem sv_Ta_isShape : Cond.static M_Ta_isShape.1 ∈ mm_WS := mm_mw (i := 463) (by decide +kernel) (by decide +kernel)
abbrev M_Ta_isShapeOrNone : mm_M := (⟨"TickArena", "isShapeOrNone", "(II)Z"⟩, prog_1_method_28_code, 2, (some FieldType.boolean), [])
theorem ok_Ta_isShapeOrNone : mm_OK M_Ta_isShapeOrNone 2 := ⟨by decide +kernel, Or.inl ⟨rfl, mm_mw (i := 461) (by decide +kernel) (by decide +kernel)⟩, mm_mw (i := 1) (by decide +kernel) (by decide +kernel), ⟨by decide +kernel, by decide +kernel⟩, by decide +kernel⟩
theorem sv_Ta_isShapeOrNone : Cond.static M_Ta_isShapeOrNone.1 ∈ mm_WS := mm_mw (i := 460) (by decide +kernel) (by decide +kernel)
abbrev M_Ta_isTimer : mm_M := (⟨"TickArena", "isTimer", "(I)Z"⟩, prog_1_method_29_code, 1, (some FieldType.boolean), [])
theorem ok_Ta_isTimer : mm_OK M_Ta_isTimer 1 := ⟨by decide +kernel, Or.inl ⟨rfl, mm_mw (i := 482) (by decide +kernel) (by decide +kernel)⟩, mm_mw (i := 1) (by decide +kernel) (by decide +kernel), ⟨by decide +kernel, by decide +kernel⟩, by decide +kernel⟩
theorem sv_Ta_isTimer : Cond.static M_Ta_isTimer.1 ∈ mm_WS := mm_mw (i := 481) (by decide +kernel) (by decide +kernel)
abbrev M_Ta_isTimerOrNone : mm_M := (⟨"TickArena", "isTimerOrNone", "(I)Z"⟩, prog_1_method_30_code, 1, (some FieldType.boolean), [])
theorem ok_Ta_isTimerOrNone : mm_OK M_Ta_isTimerOrNone 1 := ⟨by decide +kernel, Or.inl ⟨rfl, mm_mw (i := 479) (by decide +kernel) (by decide +kernel)⟩, mm_mw (i := 1) (by decide +kernel) (by decide +kernel), ⟨by decide +kernel, by decide +kernel⟩, by decide +kernel⟩
theorem sv_Ta_isTimerOrNone : Cond.static M_Ta_isTimerOrNone.1 ∈ mm_WS := mm_mw (i := 478) (by decide +kernel) (by decide +kernel)
abbrev M_Ta_areCloser : mm_M := (⟨"TickArena", "areCloser", "(III)Z"⟩, prog_1_method_31_code, 3, (some FieldType.boolean), [])
theorem ok_Ta_areCloser : mm_OK M_Ta_areCloser 3 := ⟨by decide +kernel, Or.inl ⟨rfl, mm_mw (i := 534) (by decide +kernel) (by decide +kernel)⟩, mm_mw (i := 1) (by decide +kernel) (by decide +kernel), ⟨by decide +kernel, by decide +kernel⟩, by decide +kernel⟩
theorem sv_Ta_areCloser : Cond.static M_Ta_areCloser.1 ∈ mm_WS := mm_mw (i := 533) (by decide +kernel) (by decide +kernel)
abbrev M_Ta_slotNumber : mm_M := (⟨"TickArena", "slotNumber", "(I)I"⟩, prog_1_method_32_code, 1, (some FieldType.int), [])
theorem ok_Ta_slotNumber : mm_OK M_Ta_slotNumber 1 := ⟨by decide +kernel, Or.inl ⟨rfl, mm_mw (i := 241) (by decide +kernel) (by decide +kernel)⟩, mm_mw (i := 1) (by decide +kernel) (by decide +kernel), ⟨by decide +kernel, by decide +kernel⟩, by decide +kernel⟩
theorem sv_Ta_slotNumber : Cond.static M_Ta_slotNumber.1 ∈ mm_WS := mm_mw (i := 240) (by decide +kernel) (by decide +kernel)
abbrev M_Ta_pairOf : mm_M := (⟨"TickArena", "pairOf", "(II)I"⟩, prog_1_method_33_code, 2, (some FieldType.int), [])
theorem ok_Ta_pairOf : mm_OK M_Ta_pairOf 2 := ⟨by decide +kernel, Or.inl ⟨rfl, mm_mw (i := 435) (by decide +kernel) (by decide +kernel)⟩, mm_mw (i := 1) (by decide +kernel) (by decide +kernel), ⟨by decide +kernel, by decide +kernel⟩, by decide +kernel⟩
theorem sv_Ta_pairOf : Cond.static M_Ta_pairOf.1 ∈ mm_WS := mm_mw (i := 434) (by decide +kernel) (by decide +kernel)
abbrev M_Ta_firstOf : mm_M := (⟨"TickArena", "firstOf", "(I)I"⟩, prog_1_method_34_code, 1, (some FieldType.int), [])
theorem ok_Ta_firstOf : mm_OK M_Ta_firstOf 1 := ⟨by decide +kernel, Or.inl ⟨rfl, mm_mw (i := 572) (by decide +kernel) (by decide +kernel)⟩, mm_mw (i := 1) (by decide +kernel) (by decide +kernel), ⟨by decide +kernel, by decide +kernel⟩, by decide +kernel⟩
theorem sv_Ta_firstOf : Cond.static M_Ta_firstOf.1 ∈ mm_WS := mm_mw (i := 571) (by decide +kernel) (by decide +kernel)
abbrev M_Ta_secondOf : mm_M := (⟨"TickArena", "secondOf", "(I)I"⟩, prog_1_method_35_code, 1, (some FieldType.int), [])
theorem ok_Ta_secondOf : mm_OK M_Ta_secondOf 1 := ⟨by decide +kernel, Or.inl ⟨rfl, mm_mw (i := 575) (by decide +kernel) (by decide +kernel)⟩, mm_mw (i := 1) (by decide +kernel) (by decide +kernel), ⟨by decide +kernel, by decide +kernel⟩, by decide +kernel⟩
theorem sv_Ta_secondOf : Cond.static M_Ta_secondOf.1 ∈ mm_WS := mm_mw (i := 574) (by decide +kernel) (by decide +kernel)
abbrev M_Mo_init : mm_M := (⟨"TickArenaModel", "<init>", "()V"⟩, prog_9_method_1_code, 2, (none : Option FieldType), [])
theorem ok_Mo_init : mm_OK M_Mo_init 0 := ⟨by decide +kernel, Or.inl ⟨rfl, mm_mw (i := 751) (by decide +kernel) (by decide +kernel)⟩, mm_mw (i := 8) (by decide +kernel) (by decide +kernel), ⟨by decide +kernel, by decide +kernel⟩, by decide +kernel⟩
theorem sv_Mo_init : Cond.instanceMethod M_Mo_init.1 ∈ mm_WS := mm_mw (i := 750) (by decide +kernel) (by decide +kernel)
theorem sw_Mo_init : Cond.code M_Mo_init.1 M_Mo_init.2.1 M_Mo_init.2.2.1 M_Mo_init.2.2.2.1 ∈ mm_WS := mm_mw (i := 751) (by decide +kernel) (by decide +kernel)
abbrev M_Mo_thrown : mm_M := (⟨"TickArenaModel", "thrown", "()I"⟩, prog_9_method_2_code, 1, (some FieldType.int), [])
theorem ok_Mo_thrown : mm_OK M_Mo_thrown 0 := ⟨by decide +kernel, Or.inl ⟨rfl, mm_mw (i := 841) (by decide +kernel) (by decide +kernel)⟩, mm_mw (i := 8) (by decide +kernel) (by decide +kernel), ⟨by decide +kernel, by decide +kernel⟩, by decide +kernel⟩
theorem sv_Mo_thrown : Cond.instanceMethod M_Mo_thrown.1 ∈ mm_WS ∧ Cond.selects M_Mo_thrown.1.cls M_Mo_thrown.1 M_Mo_thrown.1 ∈ mm_WS := ⟨mm_mw (i := 839) (by decide +kernel) (by decide +kernel), mm_mw (i := 840) (by decide +kernel) (by decide +kernel)⟩
abbrev M_Mo_seek : mm_M := (⟨"TickArenaModel", "seek", "(II)I"⟩, prog_9_method_3_code, 4, (some FieldType.int), [])
theorem ok_Mo_seek : mm_OK M_Mo_seek 2 := ⟨by decide +kernel, Or.inl ⟨rfl, mm_mw (i := 869) (by decide +kernel) (by decide +kernel)⟩, mm_mw (i := 8) (by decide +kernel) (by decide +kernel), ⟨by decide +kernel, by decide +kernel⟩, by decide +kernel⟩
theorem sv_Mo_seek : Cond.instanceMethod M_Mo_seek.1 ∈ mm_WS ∧ Cond.selects M_Mo_seek.1.cls M_Mo_seek.1 M_Mo_seek.1 ∈ mm_WS := ⟨mm_mw (i := 868) (by decide +kernel) (by decide +kernel), mm_ms (q := (M_Mo_seek.1, 24)) (List.mem_of_getElem? (i := 31) (by decide +kernel)) (by decide +kernel)⟩
abbrev M_Mo_emptySlot : mm_M := (⟨"TickArenaModel", "emptySlot", "(I)I"⟩, prog_9_method_4_code, 3, (some FieldType.int), [])
theorem ok_Mo_emptySlot : mm_OK M_Mo_emptySlot 1 := ⟨by decide +kernel, Or.inl ⟨rfl, mm_mw (i := 849) (by decide +kernel) (by decide +kernel)⟩, mm_mw (i := 8) (by decide +kernel) (by decide +kernel), ⟨by decide +kernel, by decide +kernel⟩, by decide +kernel⟩
theorem sv_Mo_emptySlot : Cond.instanceMethod M_Mo_emptySlot.1 ∈ mm_WS ∧ Cond.selects M_Mo_emptySlot.1.cls M_Mo_emptySlot.1 M_Mo_emptySlot.1 ∈ mm_WS := ⟨mm_mw (i := 848) (by decide +kernel) (by decide +kernel), mm_ms (q := (M_Mo_emptySlot.1, 24)) (List.mem_of_getElem? (i := 27) (by decide +kernel)) (by decide +kernel)⟩
abbrev M_Mo_make : mm_M := (⟨"TickArenaModel", "make", "(III)V"⟩, prog_9_method_5_code, 4, (none : Option FieldType), [])
theorem ok_Mo_make : mm_OK M_Mo_make 3 := ⟨by decide +kernel, Or.inl ⟨rfl, mm_mw (i := 857) (by decide +kernel) (by decide +kernel)⟩, mm_mw (i := 8) (by decide +kernel) (by decide +kernel), ⟨by decide +kernel, by decide +kernel⟩, by decide +kernel⟩
theorem sv_Mo_make : Cond.instanceMethod M_Mo_make.1 ∈ mm_WS ∧ Cond.selects M_Mo_make.1.cls M_Mo_make.1 M_Mo_make.1 ∈ mm_WS := ⟨mm_mw (i := 856) (by decide +kernel) (by decide +kernel), mm_ms (q := (M_Mo_make.1, 24)) (List.mem_of_getElem? (i := 29) (by decide +kernel)) (by decide +kernel)⟩
abbrev M_Mo_remove : mm_M := (⟨"TickArenaModel", "remove", "(I)V"⟩, prog_9_method_6_code, 4, (none : Option FieldType), [])
theorem ok_Mo_remove : mm_OK M_Mo_remove 1 := ⟨by decide +kernel, Or.inl ⟨rfl, mm_mw (i := 890) (by decide +kernel) (by decide +kernel)⟩, mm_mw (i := 8) (by decide +kernel) (by decide +kernel), ⟨by decide +kernel, by decide +kernel⟩, by decide +kernel⟩
theorem sv_Mo_remove : Cond.instanceMethod M_Mo_remove.1 ∈ mm_WS ∧ Cond.selects M_Mo_remove.1.cls M_Mo_remove.1 M_Mo_remove.1 ∈ mm_WS := ⟨mm_mw (i := 889) (by decide +kernel) (by decide +kernel), mm_ms (q := (M_Mo_remove.1, 24)) (List.mem_of_getElem? (i := 35) (by decide +kernel)) (by decide +kernel)⟩
abbrev M_Mo_near : mm_M := (⟨"TickArenaModel", "near", "(III)Z"⟩, prog_9_method_7_code, 4, (some FieldType.boolean), [])
theorem ok_Mo_near : mm_OK M_Mo_near 3 := ⟨by decide +kernel, Or.inl ⟨rfl, mm_mw (i := 898) (by decide +kernel) (by decide +kernel)⟩, mm_mw (i := 8) (by decide +kernel) (by decide +kernel), ⟨by decide +kernel, by decide +kernel⟩, by decide +kernel⟩
theorem sv_Mo_near : Cond.static M_Mo_near.1 ∈ mm_WS := mm_mw (i := 897) (by decide +kernel) (by decide +kernel)
abbrev M_Mo_overlap : mm_M := (⟨"TickArenaModel", "overlap", "(II)Z"⟩, prog_9_method_8_code, 3, (some FieldType.boolean), [])
theorem ok_Mo_overlap : mm_OK M_Mo_overlap 2 := ⟨by decide +kernel, Or.inl ⟨rfl, mm_mw (i := 895) (by decide +kernel) (by decide +kernel)⟩, mm_mw (i := 8) (by decide +kernel) (by decide +kernel), ⟨by decide +kernel, by decide +kernel⟩, by decide +kernel⟩
theorem sv_Mo_overlap : Cond.instanceMethod M_Mo_overlap.1 ∈ mm_WS ∧ Cond.selects M_Mo_overlap.1.cls M_Mo_overlap.1 M_Mo_overlap.1 ∈ mm_WS := ⟨mm_mw (i := 894) (by decide +kernel) (by decide +kernel), mm_ms (q := (M_Mo_overlap.1, 24)) (List.mem_of_getElem? (i := 36) (by decide +kernel)) (by decide +kernel)⟩
abbrev M_Mo_note : mm_M := (⟨"TickArenaModel", "note", "(IIII)V"⟩, prog_9_method_9_code, 6, (none : Option FieldType), [])
theorem ok_Mo_note : mm_OK M_Mo_note 4 := ⟨by decide +kernel, Or.inl ⟨rfl, mm_mw (i := 902) (by decide +kernel) (by decide +kernel)⟩, mm_mw (i := 8) (by decide +kernel) (by decide +kernel), ⟨by decide +kernel, by decide +kernel⟩, by decide +kernel⟩
theorem sv_Mo_note : Cond.instanceMethod M_Mo_note.1 ∈ mm_WS ∧ Cond.selects M_Mo_note.1.cls M_Mo_note.1 M_Mo_note.1 ∈ mm_WS := ⟨mm_mw (i := 901) (by decide +kernel) (by decide +kernel), mm_ms (q := (M_Mo_note.1, 24)) (List.mem_of_getElem? (i := 37) (by decide +kernel)) (by decide +kernel)⟩
abbrev M_Mo_step : mm_M := (⟨"TickArenaModel", "step", "(I)V"⟩, prog_9_method_10_code, 6, (none : Option FieldType), [])
theorem ok_Mo_step : mm_OK M_Mo_step 1 := ⟨by decide +kernel, Or.inl ⟨rfl, mm_mw (i := 885) (by decide +kernel) (by decide +kernel)⟩, mm_mw (i := 8) (by decide +kernel) (by decide +kernel), ⟨by decide +kernel, by decide +kernel⟩, by decide +kernel⟩
theorem sv_Mo_step : Cond.instanceMethod M_Mo_step.1 ∈ mm_WS ∧ Cond.selects M_Mo_step.1.cls M_Mo_step.1 M_Mo_step.1 ∈ mm_WS := ⟨mm_mw (i := 884) (by decide +kernel) (by decide +kernel), mm_ms (q := (M_Mo_step.1, 24)) (List.mem_of_getElem? (i := 34) (by decide +kernel)) (by decide +kernel)⟩
abbrev M_Mo_act : mm_M := (⟨"TickArenaModel", "act", "(IIIII)Z"⟩, prog_9_method_11_code, 8, (some FieldType.boolean), [])
theorem ok_Mo_act : mm_OK M_Mo_act 5 := ⟨by decide +kernel, Or.inl ⟨rfl, mm_mw (i := 881) (by decide +kernel) (by decide +kernel)⟩, mm_mw (i := 8) (by decide +kernel) (by decide +kernel), ⟨by decide +kernel, by decide +kernel⟩, by decide +kernel⟩
theorem sv_Mo_act : Cond.instanceMethod M_Mo_act.1 ∈ mm_WS ∧ Cond.selects M_Mo_act.1.cls M_Mo_act.1 M_Mo_act.1 ∈ mm_WS := ⟨mm_mw (i := 880) (by decide +kernel) (by decide +kernel), mm_ms (q := (M_Mo_act.1, 24)) (List.mem_of_getElem? (i := 33) (by decide +kernel)) (by decide +kernel)⟩
abbrev M_Mo_fits : mm_M := (⟨"TickArenaModel", "fits", "(III)Z"⟩, prog_9_method_12_code, 3, (some FieldType.boolean), [])
theorem ok_Mo_fits : mm_OK M_Mo_fits 3 := ⟨by decide +kernel, Or.inl ⟨rfl, mm_mw (i := 872) (by decide +kernel) (by decide +kernel)⟩, mm_mw (i := 8) (by decide +kernel) (by decide +kernel), ⟨by decide +kernel, by decide +kernel⟩, by decide +kernel⟩
theorem sv_Mo_fits : Cond.static M_Mo_fits.1 ∈ mm_WS := mm_mw (i := 871) (by decide +kernel) (by decide +kernel)
abbrev M_Mo_add : mm_M := (⟨"TickArenaModel", "add", "(I)V"⟩, prog_9_method_13_code, 2, (none : Option FieldType), [])
theorem ok_Mo_add : mm_OK M_Mo_add 1 := ⟨by decide +kernel, Or.inl ⟨rfl, mm_mw (i := 853) (by decide +kernel) (by decide +kernel)⟩, mm_mw (i := 8) (by decide +kernel) (by decide +kernel), ⟨by decide +kernel, by decide +kernel⟩, by decide +kernel⟩
theorem sv_Mo_add : Cond.instanceMethod M_Mo_add.1 ∈ mm_WS ∧ Cond.selects M_Mo_add.1.cls M_Mo_add.1 M_Mo_add.1 ∈ mm_WS := ⟨mm_mw (i := 852) (by decide +kernel) (by decide +kernel), mm_ms (q := (M_Mo_add.1, 24)) (List.mem_of_getElem? (i := 28) (by decide +kernel)) (by decide +kernel)⟩
abbrev M_Mo_addHandle : mm_M := (⟨"TickArenaModel", "addHandle", "(I)V"⟩, prog_9_method_14_code, 2, (none : Option FieldType), [])
theorem ok_Mo_addHandle : mm_OK M_Mo_addHandle 1 := ⟨by decide +kernel, Or.inl ⟨rfl, mm_mw (i := 877) (by decide +kernel) (by decide +kernel)⟩, mm_mw (i := 8) (by decide +kernel) (by decide +kernel), ⟨by decide +kernel, by decide +kernel⟩, by decide +kernel⟩
theorem sv_Mo_addHandle : Cond.instanceMethod M_Mo_addHandle.1 ∈ mm_WS ∧ Cond.selects M_Mo_addHandle.1.cls M_Mo_addHandle.1 M_Mo_addHandle.1 ∈ mm_WS := ⟨mm_mw (i := 876) (by decide +kernel) (by decide +kernel), mm_ms (q := (M_Mo_addHandle.1, 24)) (List.mem_of_getElem? (i := 32) (by decide +kernel)) (by decide +kernel)⟩
abbrev M_Mo_create : mm_M := (⟨"TickArenaModel", "create", "(II)I"⟩, prog_9_method_15_code, 4, (some FieldType.int), [])
theorem ok_Mo_create : mm_OK M_Mo_create 2 := ⟨by decide +kernel, Or.inl ⟨rfl, mm_mw (i := 845) (by decide +kernel) (by decide +kernel)⟩, mm_mw (i := 8) (by decide +kernel) (by decide +kernel), ⟨by decide +kernel, by decide +kernel⟩, by decide +kernel⟩
theorem sv_Mo_create : Cond.instanceMethod M_Mo_create.1 ∈ mm_WS ∧ Cond.selects M_Mo_create.1.cls M_Mo_create.1 M_Mo_create.1 ∈ mm_WS := ⟨mm_mw (i := 843) (by decide +kernel) (by decide +kernel), mm_mw (i := 844) (by decide +kernel) (by decide +kernel)⟩
abbrev M_Mo_allowed : mm_M := (⟨"TickArenaModel", "allowed", "(IIIII)Z"⟩, prog_9_method_16_code, 6, (some FieldType.boolean), [])
theorem ok_Mo_allowed : mm_OK M_Mo_allowed 5 := ⟨by decide +kernel, Or.inl ⟨rfl, mm_mw (i := 865) (by decide +kernel) (by decide +kernel)⟩, mm_mw (i := 8) (by decide +kernel) (by decide +kernel), ⟨by decide +kernel, by decide +kernel⟩, by decide +kernel⟩
theorem sv_Mo_allowed : Cond.instanceMethod M_Mo_allowed.1 ∈ mm_WS ∧ Cond.selects M_Mo_allowed.1.cls M_Mo_allowed.1 M_Mo_allowed.1 ∈ mm_WS := ⟨mm_mw (i := 864) (by decide +kernel) (by decide +kernel), mm_ms (q := (M_Mo_allowed.1, 24)) (List.mem_of_getElem? (i := 30) (by decide +kernel)) (by decide +kernel)⟩
abbrev M_Mo_destroy : mm_M := (⟨"TickArenaModel", "destroy", "(I)V"⟩, prog_9_method_17_code, 3, (none : Option FieldType), [])
theorem ok_Mo_destroy : mm_OK M_Mo_destroy 1 := ⟨by decide +kernel, Or.inl ⟨rfl, mm_mw (i := 861) (by decide +kernel) (by decide +kernel)⟩, mm_mw (i := 8) (by decide +kernel) (by decide +kernel), ⟨by decide +kernel, by decide +kernel⟩, by decide +kernel⟩
theorem sv_Mo_destroy : Cond.instanceMethod M_Mo_destroy.1 ∈ mm_WS ∧ Cond.selects M_Mo_destroy.1.cls M_Mo_destroy.1 M_Mo_destroy.1 ∈ mm_WS := ⟨mm_mw (i := 859) (by decide +kernel) (by decide +kernel), mm_mw (i := 860) (by decide +kernel) (by decide +kernel)⟩
abbrev M_Mo_speed : mm_M := (⟨"TickArenaModel", "speed", "(III)V"⟩, prog_9_method_18_code, 4, (none : Option FieldType), [])
theorem ok_Mo_speed : mm_OK M_Mo_speed 3 := ⟨by decide +kernel, Or.inl ⟨rfl, mm_mw (i := 906) (by decide +kernel) (by decide +kernel)⟩, mm_mw (i := 8) (by decide +kernel) (by decide +kernel), ⟨by decide +kernel, by decide +kernel⟩, by decide +kernel⟩
theorem sv_Mo_speed : Cond.instanceMethod M_Mo_speed.1 ∈ mm_WS ∧ Cond.selects M_Mo_speed.1.cls M_Mo_speed.1 M_Mo_speed.1 ∈ mm_WS := ⟨mm_mw (i := 904) (by decide +kernel) (by decide +kernel), mm_mw (i := 905) (by decide +kernel) (by decide +kernel)⟩
abbrev M_Mo_shape : mm_M := (⟨"TickArenaModel", "shape", "(III)V"⟩, prog_9_method_19_code, 4, (none : Option FieldType), [])
theorem ok_Mo_shape : mm_OK M_Mo_shape 3 := ⟨by decide +kernel, Or.inl ⟨rfl, mm_mw (i := 910) (by decide +kernel) (by decide +kernel)⟩, mm_mw (i := 8) (by decide +kernel) (by decide +kernel), ⟨by decide +kernel, by decide +kernel⟩, by decide +kernel⟩
theorem sv_Mo_shape : Cond.instanceMethod M_Mo_shape.1 ∈ mm_WS ∧ Cond.selects M_Mo_shape.1.cls M_Mo_shape.1 M_Mo_shape.1 ∈ mm_WS := ⟨mm_mw (i := 908) (by decide +kernel) (by decide +kernel), mm_mw (i := 909) (by decide +kernel) (by decide +kernel)⟩
abbrev M_Mo_timer : mm_M := (⟨"TickArenaModel", "timer", "(II)V"⟩, prog_9_method_20_code, 3, (none : Option FieldType), [])
theorem ok_Mo_timer : mm_OK M_Mo_timer 2 := ⟨by decide +kernel, Or.inl ⟨rfl, mm_mw (i := 914) (by decide +kernel) (by decide +kernel)⟩, mm_mw (i := 8) (by decide +kernel) (by decide +kernel), ⟨by decide +kernel, by decide +kernel⟩, by decide +kernel⟩
theorem sv_Mo_timer : Cond.instanceMethod M_Mo_timer.1 ∈ mm_WS ∧ Cond.selects M_Mo_timer.1.cls M_Mo_timer.1 M_Mo_timer.1 ∈ mm_WS := ⟨mm_mw (i := 912) (by decide +kernel) (by decide +kernel), mm_mw (i := 913) (by decide +kernel) (by decide +kernel)⟩
abbrev M_Mo_tick : mm_M := (⟨"TickArenaModel", "tick", "(I)I"⟩, prog_9_method_21_code, 3, (some FieldType.int), [])
theorem ok_Mo_tick : mm_OK M_Mo_tick 1 := ⟨by decide +kernel, Or.inl ⟨rfl, mm_mw (i := 918) (by decide +kernel) (by decide +kernel)⟩, mm_mw (i := 8) (by decide +kernel) (by decide +kernel), ⟨by decide +kernel, by decide +kernel⟩, by decide +kernel⟩
theorem sv_Mo_tick : Cond.instanceMethod M_Mo_tick.1 ∈ mm_WS ∧ Cond.selects M_Mo_tick.1.cls M_Mo_tick.1 M_Mo_tick.1 ∈ mm_WS := ⟨mm_mw (i := 916) (by decide +kernel) (by decide +kernel), mm_mw (i := 917) (by decide +kernel) (by decide +kernel)⟩
abbrev M_Mo_event : mm_M := (⟨"TickArenaModel", "event", "(II)I"⟩, prog_9_method_22_code, 3, (some FieldType.int), [])
theorem ok_Mo_event : mm_OK M_Mo_event 2 := ⟨by decide +kernel, Or.inl ⟨rfl, mm_mw (i := 922) (by decide +kernel) (by decide +kernel)⟩, mm_mw (i := 8) (by decide +kernel) (by decide +kernel), ⟨by decide +kernel, by decide +kernel⟩, by decide +kernel⟩
theorem sv_Mo_event : Cond.instanceMethod M_Mo_event.1 ∈ mm_WS ∧ Cond.selects M_Mo_event.1.cls M_Mo_event.1 M_Mo_event.1 ∈ mm_WS := ⟨mm_mw (i := 920) (by decide +kernel) (by decide +kernel), mm_mw (i := 921) (by decide +kernel) (by decide +kernel)⟩
abbrev M_Mo_good : mm_M := (⟨"TickArenaModel", "good", "(I)Z"⟩, prog_9_method_23_code, 2, (some FieldType.boolean), [])
theorem ok_Mo_good : mm_OK M_Mo_good 1 := ⟨by decide +kernel, Or.inl ⟨rfl, mm_mw (i := 926) (by decide +kernel) (by decide +kernel)⟩, mm_mw (i := 8) (by decide +kernel) (by decide +kernel), ⟨by decide +kernel, by decide +kernel⟩, by decide +kernel⟩
theorem sv_Mo_good : Cond.instanceMethod M_Mo_good.1 ∈ mm_WS ∧ Cond.selects M_Mo_good.1.cls M_Mo_good.1 M_Mo_good.1 ∈ mm_WS := ⟨mm_mw (i := 924) (by decide +kernel) (by decide +kernel), mm_mw (i := 925) (by decide +kernel) (by decide +kernel)⟩
abbrev M_Mo_about : mm_M := (⟨"TickArenaModel", "about", "(II)I"⟩, prog_9_method_24_code, 4, (some FieldType.int), [])
theorem ok_Mo_about : mm_OK M_Mo_about 2 := ⟨by decide +kernel, Or.inl ⟨rfl, mm_mw (i := 930) (by decide +kernel) (by decide +kernel)⟩, mm_mw (i := 8) (by decide +kernel) (by decide +kernel), ⟨by decide +kernel, by decide +kernel⟩, by decide +kernel⟩
theorem sv_Mo_about : Cond.instanceMethod M_Mo_about.1 ∈ mm_WS ∧ Cond.selects M_Mo_about.1.cls M_Mo_about.1 M_Mo_about.1 ∈ mm_WS := ⟨mm_mw (i := 928) (by decide +kernel) (by decide +kernel), mm_mw (i := 929) (by decide +kernel) (by decide +kernel)⟩
abbrev M_Mo_handleOf : mm_M := (⟨"TickArenaModel", "handleOf", "(I)I"⟩, prog_9_method_25_code, 2, (some FieldType.int), [])
theorem ok_Mo_handleOf : mm_OK M_Mo_handleOf 1 := ⟨by decide +kernel, Or.inl ⟨rfl, mm_mw (i := 934) (by decide +kernel) (by decide +kernel)⟩, mm_mw (i := 8) (by decide +kernel) (by decide +kernel), ⟨by decide +kernel, by decide +kernel⟩, by decide +kernel⟩
theorem sv_Mo_handleOf : Cond.instanceMethod M_Mo_handleOf.1 ∈ mm_WS ∧ Cond.selects M_Mo_handleOf.1.cls M_Mo_handleOf.1 M_Mo_handleOf.1 ∈ mm_WS := ⟨mm_mw (i := 932) (by decide +kernel) (by decide +kernel), mm_mw (i := 933) (by decide +kernel) (by decide +kernel)⟩
abbrev M_Mo_under : mm_M := (⟨"TickArenaModel", "under", "(II)I"⟩, prog_9_method_26_code, 6, (some FieldType.int), [])
theorem ok_Mo_under : mm_OK M_Mo_under 2 := ⟨by decide +kernel, Or.inl ⟨rfl, mm_mw (i := 938) (by decide +kernel) (by decide +kernel)⟩, mm_mw (i := 8) (by decide +kernel) (by decide +kernel), ⟨by decide +kernel, by decide +kernel⟩, by decide +kernel⟩
theorem sv_Mo_under : Cond.instanceMethod M_Mo_under.1 ∈ mm_WS ∧ Cond.selects M_Mo_under.1.cls M_Mo_under.1 M_Mo_under.1 ∈ mm_WS := ⟨mm_mw (i := 936) (by decide +kernel) (by decide +kernel), mm_mw (i := 937) (by decide +kernel) (by decide +kernel)⟩
abbrev M_Mo_clock : mm_M := (⟨"TickArenaModel", "clock", "()I"⟩, prog_9_method_27_code, 1, (some FieldType.int), [])
theorem ok_Mo_clock : mm_OK M_Mo_clock 0 := ⟨by decide +kernel, Or.inl ⟨rfl, mm_mw (i := 942) (by decide +kernel) (by decide +kernel)⟩, mm_mw (i := 8) (by decide +kernel) (by decide +kernel), ⟨by decide +kernel, by decide +kernel⟩, by decide +kernel⟩
theorem sv_Mo_clock : Cond.instanceMethod M_Mo_clock.1 ∈ mm_WS ∧ Cond.selects M_Mo_clock.1.cls M_Mo_clock.1 M_Mo_clock.1 ∈ mm_WS := ⟨mm_mw (i := 940) (by decide +kernel) (by decide +kernel), mm_mw (i := 941) (by decide +kernel) (by decide +kernel)⟩
abbrev M_Mo_write : mm_M := (⟨"TickArenaModel", "write", "(II)V"⟩, prog_9_method_28_code, 4, (none : Option FieldType), [])
theorem ok_Mo_write : mm_OK M_Mo_write 2 := ⟨by decide +kernel, Or.inl ⟨rfl, mm_mw (i := 764) (by decide +kernel) (by decide +kernel)⟩, mm_mw (i := 8) (by decide +kernel) (by decide +kernel), ⟨by decide +kernel, by decide +kernel⟩, by decide +kernel⟩
theorem sv_Mo_write : Cond.instanceMethod M_Mo_write.1 ∈ mm_WS ∧ Cond.selects M_Mo_write.1.cls M_Mo_write.1 M_Mo_write.1 ∈ mm_WS := ⟨mm_mw (i := 763) (by decide +kernel) (by decide +kernel), mm_ms (q := (M_Mo_write.1, 24)) (List.mem_of_getElem? (i := 26) (by decide +kernel)) (by decide +kernel)⟩
abbrev M_Mo_writeWorld : mm_M := (⟨"TickArenaModel", "writeWorld", "(I)V"⟩, prog_9_method_29_code, 6, (none : Option FieldType), [])
theorem ok_Mo_writeWorld : mm_OK M_Mo_writeWorld 1 := ⟨by decide +kernel, Or.inl ⟨rfl, mm_mw (i := 760) (by decide +kernel) (by decide +kernel)⟩, mm_mw (i := 8) (by decide +kernel) (by decide +kernel), ⟨by decide +kernel, by decide +kernel⟩, by decide +kernel⟩
theorem sv_Mo_writeWorld : Cond.instanceMethod M_Mo_writeWorld.1 ∈ mm_WS ∧ Cond.selects M_Mo_writeWorld.1.cls M_Mo_writeWorld.1 M_Mo_writeWorld.1 ∈ mm_WS := ⟨mm_mw (i := 759) (by decide +kernel) (by decide +kernel), mm_ms (q := (M_Mo_writeWorld.1, 24)) (List.mem_of_getElem? (i := 25) (by decide +kernel)) (by decide +kernel)⟩
abbrev M_Mo_save : mm_M := (⟨"TickArenaModel", "save", "()I"⟩, prog_9_method_30_code, 2, (some FieldType.int), [])
theorem ok_Mo_save : mm_OK M_Mo_save 0 := ⟨by decide +kernel, Or.inl ⟨rfl, mm_mw (i := 756) (by decide +kernel) (by decide +kernel)⟩, mm_mw (i := 8) (by decide +kernel) (by decide +kernel), ⟨by decide +kernel, by decide +kernel⟩, by decide +kernel⟩
theorem sv_Mo_save : Cond.instanceMethod M_Mo_save.1 ∈ mm_WS ∧ Cond.selects M_Mo_save.1.cls M_Mo_save.1 M_Mo_save.1 ∈ mm_WS := ⟨mm_mw (i := 754) (by decide +kernel) (by decide +kernel), mm_mw (i := 755) (by decide +kernel) (by decide +kernel)⟩
abbrev M_Mo_read : mm_M := (⟨"TickArenaModel", "read", "(I)I"⟩, prog_9_method_31_code, 4, (some FieldType.int), [])
theorem ok_Mo_read : mm_OK M_Mo_read 1 := ⟨by decide +kernel, Or.inl ⟨rfl, mm_mw (i := 959) (by decide +kernel) (by decide +kernel)⟩, mm_mw (i := 8) (by decide +kernel) (by decide +kernel), ⟨by decide +kernel, by decide +kernel⟩, by decide +kernel⟩
theorem sv_Mo_read : Cond.instanceMethod M_Mo_read.1 ∈ mm_WS ∧ Cond.selects M_Mo_read.1.cls M_Mo_read.1 M_Mo_read.1 ∈ mm_WS := ⟨mm_mw (i := 958) (by decide +kernel) (by decide +kernel), mm_ms (q := (M_Mo_read.1, 24)) (List.mem_of_getElem? (i := 40) (by decide +kernel)) (by decide +kernel)⟩
abbrev M_Mo_readIn : mm_M := (⟨"TickArenaModel", "readIn", "(III)I"⟩, prog_9_method_32_code, 5, (some FieldType.int), [])
theorem ok_Mo_readIn : mm_OK M_Mo_readIn 3 := ⟨by decide +kernel, Or.inl ⟨rfl, mm_mw (i := 955) (by decide +kernel) (by decide +kernel)⟩, mm_mw (i := 8) (by decide +kernel) (by decide +kernel), ⟨by decide +kernel, by decide +kernel⟩, by decide +kernel⟩
theorem sv_Mo_readIn : Cond.instanceMethod M_Mo_readIn.1 ∈ mm_WS ∧ Cond.selects M_Mo_readIn.1.cls M_Mo_readIn.1 M_Mo_readIn.1 ∈ mm_WS := ⟨mm_mw (i := 954) (by decide +kernel) (by decide +kernel), mm_ms (q := (M_Mo_readIn.1, 24)) (List.mem_of_getElem? (i := 39) (by decide +kernel)) (by decide +kernel)⟩
abbrev M_Mo_readThing : mm_M := (⟨"TickArenaModel", "readThing", "(I)V"⟩, prog_9_method_33_code, 3, (none : Option FieldType), [])
theorem ok_Mo_readThing : mm_OK M_Mo_readThing 1 := ⟨by decide +kernel, Or.inl ⟨rfl, mm_mw (i := 963) (by decide +kernel) (by decide +kernel)⟩, mm_mw (i := 8) (by decide +kernel) (by decide +kernel), ⟨by decide +kernel, by decide +kernel⟩, by decide +kernel⟩
theorem sv_Mo_readThing : Cond.instanceMethod M_Mo_readThing.1 ∈ mm_WS ∧ Cond.selects M_Mo_readThing.1.cls M_Mo_readThing.1 M_Mo_readThing.1 ∈ mm_WS := ⟨mm_mw (i := 962) (by decide +kernel) (by decide +kernel), mm_ms (q := (M_Mo_readThing.1, 24)) (List.mem_of_getElem? (i := 41) (by decide +kernel)) (by decide +kernel)⟩
abbrev M_Mo_restore : mm_M := (⟨"TickArenaModel", "restore", "()Z"⟩, prog_9_method_34_code, 5, (some FieldType.boolean), [])
theorem ok_Mo_restore : mm_OK M_Mo_restore 0 := ⟨by decide +kernel, Or.inl ⟨rfl, mm_mw (i := 951) (by decide +kernel) (by decide +kernel)⟩, mm_mw (i := 8) (by decide +kernel) (by decide +kernel), ⟨by decide +kernel, by decide +kernel⟩, by decide +kernel⟩
theorem sv_Mo_restore : Cond.instanceMethod M_Mo_restore.1 ∈ mm_WS ∧ Cond.selects M_Mo_restore.1.cls M_Mo_restore.1 M_Mo_restore.1 ∈ mm_WS := ⟨mm_mw (i := 950) (by decide +kernel) (by decide +kernel), mm_ms (q := (M_Mo_restore.1, 24)) (List.mem_of_getElem? (i := 38) (by decide +kernel)) (by decide +kernel)⟩
abbrev M_Mo_take : mm_M := (⟨"TickArenaModel", "take", "()V"⟩, prog_9_method_35_code, 2, (none : Option FieldType), [])
theorem ok_Mo_take : mm_OK M_Mo_take 0 := ⟨by decide +kernel, Or.inl ⟨rfl, mm_mw (i := 967) (by decide +kernel) (by decide +kernel)⟩, mm_mw (i := 8) (by decide +kernel) (by decide +kernel), ⟨by decide +kernel, by decide +kernel⟩, by decide +kernel⟩
theorem sv_Mo_take : Cond.instanceMethod M_Mo_take.1 ∈ mm_WS ∧ Cond.selects M_Mo_take.1.cls M_Mo_take.1 M_Mo_take.1 ∈ mm_WS := ⟨mm_mw (i := 966) (by decide +kernel) (by decide +kernel), mm_ms (q := (M_Mo_take.1, 24)) (List.mem_of_getElem? (i := 42) (by decide +kernel)) (by decide +kernel)⟩
abbrev M_Mo_load : mm_M := (⟨"TickArenaModel", "load", "()V"⟩, prog_9_method_36_code, 1, (none : Option FieldType), [])
theorem ok_Mo_load : mm_OK M_Mo_load 0 := ⟨by decide +kernel, Or.inl ⟨rfl, mm_mw (i := 947) (by decide +kernel) (by decide +kernel)⟩, mm_mw (i := 8) (by decide +kernel) (by decide +kernel), ⟨by decide +kernel, by decide +kernel⟩, by decide +kernel⟩
theorem sv_Mo_load : Cond.instanceMethod M_Mo_load.1 ∈ mm_WS ∧ Cond.selects M_Mo_load.1.cls M_Mo_load.1 M_Mo_load.1 ∈ mm_WS := ⟨mm_mw (i := 945) (by decide +kernel) (by decide +kernel), mm_mw (i := 946) (by decide +kernel) (by decide +kernel)⟩
abbrev M_Mo_logged : mm_M := (⟨"TickArenaModel", "logged", "(II)I"⟩, prog_9_method_37_code, 5, (some FieldType.int), [])
theorem ok_Mo_logged : mm_OK M_Mo_logged 2 := ⟨by decide +kernel, Or.inl ⟨rfl, mm_mw (i := 979) (by decide +kernel) (by decide +kernel)⟩, mm_mw (i := 8) (by decide +kernel) (by decide +kernel), ⟨by decide +kernel, by decide +kernel⟩, by decide +kernel⟩
theorem sv_Mo_logged : Cond.instanceMethod M_Mo_logged.1 ∈ mm_WS ∧ Cond.selects M_Mo_logged.1.cls M_Mo_logged.1 M_Mo_logged.1 ∈ mm_WS := ⟨mm_mw (i := 978) (by decide +kernel) (by decide +kernel), mm_ms (q := (M_Mo_logged.1, 24)) (List.mem_of_getElem? (i := 44) (by decide +kernel)) (by decide +kernel)⟩
abbrev M_Mo_entry : mm_M := (⟨"TickArenaModel", "entry", "(I)I"⟩, prog_9_method_38_code, 7, (some FieldType.int), [])
theorem ok_Mo_entry : mm_OK M_Mo_entry 1 := ⟨by decide +kernel, Or.inl ⟨rfl, mm_mw (i := 975) (by decide +kernel) (by decide +kernel)⟩, mm_mw (i := 8) (by decide +kernel) (by decide +kernel), ⟨by decide +kernel, by decide +kernel⟩, by decide +kernel⟩
theorem sv_Mo_entry : Cond.instanceMethod M_Mo_entry.1 ∈ mm_WS ∧ Cond.selects M_Mo_entry.1.cls M_Mo_entry.1 M_Mo_entry.1 ∈ mm_WS := ⟨mm_mw (i := 974) (by decide +kernel) (by decide +kernel), mm_ms (q := (M_Mo_entry.1, 24)) (List.mem_of_getElem? (i := 43) (by decide +kernel)) (by decide +kernel)⟩
abbrev M_Mo_replay : mm_M := (⟨"TickArenaModel", "replay", "()I"⟩, prog_9_method_39_code, 3, (some FieldType.int), [])
theorem ok_Mo_replay : mm_OK M_Mo_replay 0 := ⟨by decide +kernel, Or.inl ⟨rfl, mm_mw (i := 971) (by decide +kernel) (by decide +kernel)⟩, mm_mw (i := 8) (by decide +kernel) (by decide +kernel), ⟨by decide +kernel, by decide +kernel⟩, by decide +kernel⟩
theorem sv_Mo_replay : Cond.instanceMethod M_Mo_replay.1 ∈ mm_WS ∧ Cond.selects M_Mo_replay.1.cls M_Mo_replay.1 M_Mo_replay.1 ∈ mm_WS := ⟨mm_mw (i := 969) (by decide +kernel) (by decide +kernel), mm_mw (i := 970) (by decide +kernel) (by decide +kernel)⟩
abbrev M_Mo_size : mm_M := (⟨"TickArenaModel", "size", "(Z)I"⟩, prog_9_method_40_code, 2, (some FieldType.int), [])
theorem ok_Mo_size : mm_OK M_Mo_size 1 := ⟨by decide +kernel, Or.inl ⟨rfl, mm_mw (i := 983) (by decide +kernel) (by decide +kernel)⟩, mm_mw (i := 8) (by decide +kernel) (by decide +kernel), ⟨by decide +kernel, by decide +kernel⟩, by decide +kernel⟩
theorem sv_Mo_size : Cond.instanceMethod M_Mo_size.1 ∈ mm_WS ∧ Cond.selects M_Mo_size.1.cls M_Mo_size.1 M_Mo_size.1 ∈ mm_WS := ⟨mm_mw (i := 981) (by decide +kernel) (by decide +kernel), mm_mw (i := 982) (by decide +kernel) (by decide +kernel)⟩
abbrev M_Mo_at : mm_M := (⟨"TickArenaModel", "at", "(IZ)I"⟩, prog_9_method_41_code, 3, (some FieldType.int), [])
theorem ok_Mo_at : mm_OK M_Mo_at 2 := ⟨by decide +kernel, Or.inl ⟨rfl, mm_mw (i := 987) (by decide +kernel) (by decide +kernel)⟩, mm_mw (i := 8) (by decide +kernel) (by decide +kernel), ⟨by decide +kernel, by decide +kernel⟩, by decide +kernel⟩
theorem sv_Mo_at : Cond.instanceMethod M_Mo_at.1 ∈ mm_WS ∧ Cond.selects M_Mo_at.1.cls M_Mo_at.1 M_Mo_at.1 ∈ mm_WS := ⟨mm_mw (i := 985) (by decide +kernel) (by decide +kernel), mm_mw (i := 986) (by decide +kernel) (by decide +kernel)⟩
abbrev M_Mo_corrupt : mm_M := (⟨"TickArenaModel", "corrupt", "(IIZ)V"⟩, prog_9_method_42_code, 4, (none : Option FieldType), [])
theorem ok_Mo_corrupt : mm_OK M_Mo_corrupt 3 := ⟨by decide +kernel, Or.inl ⟨rfl, mm_mw (i := 991) (by decide +kernel) (by decide +kernel)⟩, mm_mw (i := 8) (by decide +kernel) (by decide +kernel), ⟨by decide +kernel, by decide +kernel⟩, by decide +kernel⟩
theorem sv_Mo_corrupt : Cond.instanceMethod M_Mo_corrupt.1 ∈ mm_WS ∧ Cond.selects M_Mo_corrupt.1.cls M_Mo_corrupt.1 M_Mo_corrupt.1 ∈ mm_WS := ⟨mm_mw (i := 989) (by decide +kernel) (by decide +kernel), mm_mw (i := 990) (by decide +kernel) (by decide +kernel)⟩
abbrev M_La_create : mm_M := (⟨"TickArenaLaw", "create", "(LTickArena;II[J)I"⟩, method_3_code, 5, (some FieldType.int), [(0, 10, 13, 13), (0, 10, 17, 15), (0, 10, 21, 17)])
theorem ok_La_create : mm_OK M_La_create 4 := ⟨by decide +kernel, Or.inr (mm_mw (i := 265) (by decide +kernel) (by decide +kernel)), mm_mw (i := 0) (by decide +kernel) (by decide +kernel), ⟨by decide +kernel, by decide +kernel⟩, by decide +kernel⟩
theorem sv_La_create : Cond.static M_La_create.1 ∈ mm_WS := mm_mw (i := 264) (by decide +kernel) (by decide +kernel)
abbrev M_La_destroy : mm_M := (⟨"TickArenaLaw", "destroy", "(LTickArena;I)I"⟩, method_4_code, 3, (some FieldType.int), [(0, 5, 8, 13), (0, 5, 11, 17)])
theorem ok_La_destroy : mm_OK M_La_destroy 2 := ⟨by decide +kernel, Or.inr (mm_mw (i := 410) (by decide +kernel) (by decide +kernel)), mm_mw (i := 0) (by decide +kernel) (by decide +kernel), ⟨by decide +kernel, by decide +kernel⟩, by decide +kernel⟩
theorem sv_La_destroy : Cond.static M_La_destroy.1 ∈ mm_WS := mm_mw (i := 409) (by decide +kernel) (by decide +kernel)
abbrev M_La_speed : mm_M := (⟨"TickArenaLaw", "speed", "(LTickArena;III)I"⟩, method_5_code, 5, (some FieldType.int), [(0, 7, 10, 13), (0, 7, 14, 17)])
theorem ok_La_speed : mm_OK M_La_speed 4 := ⟨by decide +kernel, Or.inr (mm_mw (i := 438) (by decide +kernel) (by decide +kernel)), mm_mw (i := 0) (by decide +kernel) (by decide +kernel), ⟨by decide +kernel, by decide +kernel⟩, by decide +kernel⟩
theorem sv_La_speed : Cond.static M_La_speed.1 ∈ mm_WS := mm_mw (i := 437) (by decide +kernel) (by decide +kernel)
abbrev M_La_shape : mm_M := (⟨"TickArenaLaw", "shape", "(LTickArena;III)I"⟩, method_6_code, 5, (some FieldType.int), [(0, 7, 10, 13), (0, 7, 14, 17)])
theorem ok_La_shape : mm_OK M_La_shape 4 := ⟨by decide +kernel, Or.inr (mm_mw (i := 454) (by decide +kernel) (by decide +kernel)), mm_mw (i := 0) (by decide +kernel) (by decide +kernel), ⟨by decide +kernel, by decide +kernel⟩, by decide +kernel⟩
theorem sv_La_shape : Cond.static M_La_shape.1 ∈ mm_WS := mm_mw (i := 453) (by decide +kernel) (by decide +kernel)
abbrev M_La_timer : mm_M := (⟨"TickArenaLaw", "timer", "(LTickArena;II)I"⟩, method_7_code, 4, (some FieldType.int), [(0, 6, 9, 13), (0, 6, 12, 17)])
theorem ok_La_timer : mm_OK M_La_timer 3 := ⟨by decide +kernel, Or.inr (mm_mw (i := 472) (by decide +kernel) (by decide +kernel)), mm_mw (i := 0) (by decide +kernel) (by decide +kernel), ⟨by decide +kernel, by decide +kernel⟩, by decide +kernel⟩
theorem sv_La_timer : Cond.static M_La_timer.1 ∈ mm_WS := mm_mw (i := 471) (by decide +kernel) (by decide +kernel)
abbrev M_La_tick : mm_M := (⟨"TickArenaLaw", "tick", "(LTickArena;I[J)I"⟩, method_8_code, 4, (some FieldType.int), [(0, 9, 12, 13), (0, 9, 15, 17)])
theorem ok_La_tick : mm_OK M_La_tick 3 := ⟨by decide +kernel, Or.inr (mm_mw (i := 490) (by decide +kernel) (by decide +kernel)), mm_mw (i := 0) (by decide +kernel) (by decide +kernel), ⟨by decide +kernel, by decide +kernel⟩, by decide +kernel⟩
theorem sv_La_tick : Cond.static M_La_tick.1 ∈ mm_WS := mm_mw (i := 489) (by decide +kernel) (by decide +kernel)
abbrev M_La_event : mm_M := (⟨"TickArenaLaw", "event", "(LTickArena;II[J)I"⟩, method_9_code, 5, (some FieldType.int), [(0, 10, 13, 41), (0, 10, 17, 13)])
theorem ok_La_event : mm_OK M_La_event 4 := ⟨by decide +kernel, Or.inr (mm_mw (i := 545) (by decide +kernel) (by decide +kernel)), mm_mw (i := 0) (by decide +kernel) (by decide +kernel), ⟨by decide +kernel, by decide +kernel⟩, by decide +kernel⟩
theorem sv_La_event : Cond.static M_La_event.1 ∈ mm_WS := mm_mw (i := 544) (by decide +kernel) (by decide +kernel)
abbrev M_La_about : mm_M := (⟨"TickArenaLaw", "about", "(LTickArena;II[J)I"⟩, method_10_code, 5, (some FieldType.int), [(0, 10, 13, 13), (0, 10, 17, 41)])
theorem ok_La_about : mm_OK M_La_about 4 := ⟨by decide +kernel, Or.inr (mm_mw (i := 578) (by decide +kernel) (by decide +kernel)), mm_mw (i := 0) (by decide +kernel) (by decide +kernel), ⟨by decide +kernel, by decide +kernel⟩, by decide +kernel⟩
theorem sv_La_about : Cond.static M_La_about.1 ∈ mm_WS := mm_mw (i := 577) (by decide +kernel) (by decide +kernel)
abbrev M_La_handleOf : mm_M := (⟨"TickArenaLaw", "handleOf", "(LTickArena;I[J)I"⟩, method_11_code, 4, (some FieldType.int), [(0, 9, 12, 41)])
theorem ok_La_handleOf : mm_OK M_La_handleOf 3 := ⟨by decide +kernel, Or.inr (mm_mw (i := 585) (by decide +kernel) (by decide +kernel)), mm_mw (i := 0) (by decide +kernel) (by decide +kernel), ⟨by decide +kernel, by decide +kernel⟩, by decide +kernel⟩
theorem sv_La_handleOf : Cond.static M_La_handleOf.1 ∈ mm_WS := mm_mw (i := 584) (by decide +kernel) (by decide +kernel)
abbrev M_La_under : mm_M := (⟨"TickArenaLaw", "under", "(LTickArena;II[J)I"⟩, method_12_code, 5, (some FieldType.int), [(0, 10, 13, 13)])
theorem ok_La_under : mm_OK M_La_under 4 := ⟨by decide +kernel, Or.inr (mm_mw (i := 593) (by decide +kernel) (by decide +kernel)), mm_mw (i := 0) (by decide +kernel) (by decide +kernel), ⟨by decide +kernel, by decide +kernel⟩, by decide +kernel⟩
theorem sv_La_under : Cond.static M_La_under.1 ∈ mm_WS := mm_mw (i := 592) (by decide +kernel) (by decide +kernel)
abbrev M_La_load : mm_M := (⟨"TickArenaLaw", "load", "(LTickArena;)I"⟩, method_13_code, 2, (some FieldType.int), [(0, 4, 7, 15)])
theorem ok_La_load : mm_OK M_La_load 1 := ⟨by decide +kernel, Or.inr (mm_mw (i := 608) (by decide +kernel) (by decide +kernel)), mm_mw (i := 0) (by decide +kernel) (by decide +kernel), ⟨by decide +kernel, by decide +kernel⟩, by decide +kernel⟩
theorem sv_La_load : Cond.static M_La_load.1 ∈ mm_WS := mm_mw (i := 607) (by decide +kernel) (by decide +kernel)
abbrev M_La_replay : mm_M := (⟨"TickArenaLaw", "replay", "(LTickArena;[J)I"⟩, method_14_code, 3, (some FieldType.int), [(0, 8, 11, 15)])
theorem ok_La_replay : mm_OK M_La_replay 2 := ⟨by decide +kernel, Or.inr (mm_mw (i := 685) (by decide +kernel) (by decide +kernel)), mm_mw (i := 0) (by decide +kernel) (by decide +kernel), ⟨by decide +kernel, by decide +kernel⟩, by decide +kernel⟩
theorem sv_La_replay : Cond.static M_La_replay.1 ∈ mm_WS := mm_mw (i := 684) (by decide +kernel) (by decide +kernel)
abbrev M_La_at : mm_M := (⟨"TickArenaLaw", "at", "(LTickArena;IZ[J)I"⟩, method_15_code, 5, (some FieldType.int), [(0, 10, 13, 41)])
theorem ok_La_at : mm_OK M_La_at 4 := ⟨by decide +kernel, Or.inr (mm_mw (i := 734) (by decide +kernel) (by decide +kernel)), mm_mw (i := 0) (by decide +kernel) (by decide +kernel), ⟨by decide +kernel, by decide +kernel⟩, by decide +kernel⟩
theorem sv_La_at : Cond.static M_La_at.1 ∈ mm_WS := mm_mw (i := 733) (by decide +kernel) (by decide +kernel)
abbrev M_La_corrupt : mm_M := (⟨"TickArenaLaw", "corrupt", "(LTickArena;IIZ)I"⟩, method_16_code, 5, (some FieldType.int), [(0, 7, 10, 41), (0, 7, 14, 13)])
theorem ok_La_corrupt : mm_OK M_La_corrupt 4 := ⟨by decide +kernel, Or.inr (mm_mw (i := 742) (by decide +kernel) (by decide +kernel)), mm_mw (i := 0) (by decide +kernel) (by decide +kernel), ⟨by decide +kernel, by decide +kernel⟩, by decide +kernel⟩
theorem sv_La_corrupt : Cond.static M_La_corrupt.1 ∈ mm_WS := mm_mw (i := 741) (by decide +kernel) (by decide +kernel)
abbrev M_La_law : mm_M := (⟨"TickArenaLaw", "law", "([I)Z"⟩, code, 7, some .boolean, [])
theorem oi_By_3 : Cond.methodLink "TickArena$Bytes" 3 objectInit ∈ mm_WS := mm_mw (i := 137) (by decide +kernel) (by decide +kernel)
theorem fl_By_9 : mm_FL "TickArena$Bytes" 9 0 0 (.array .int) true := ⟨"TickArena$Bytes", TC_By, 3, rfl, cf_By, by decide, rfl, by decide +kernel, rfl, by decide, Or.inl (mm_mw (i := 138) (by decide +kernel) (by decide +kernel))⟩
theorem ff_By_9 : mm_FLF "TickArena$Bytes" 9 0 0 (.array .int) := ⟨TC_By, 3, rfl, cf_By, by decide, rfl, by decide +kernel, rfl, by decide, mm_mw (i := 138) (by decide +kernel) (by decide +kernel)⟩
theorem fl_By_15 : mm_FL "TickArena$Bytes" 15 0 1 .int false := ⟨"TickArena$Bytes", TC_By, 3, rfl, cf_By, by decide, rfl, by decide +kernel, rfl, by decide, Or.inl (mm_mw (i := 140) (by decide +kernel) (by decide +kernel))⟩
theorem li_By_19 : mm_LI "TickArena$Bytes" 19 M_By_hasRoom.1 := Or.inl (mm_mw (i := 183) (by decide +kernel) (by decide +kernel))
theorem fl_By_23 : mm_FL "TickArena$Bytes" 23 0 2 .int false := ⟨"TickArena$Bytes", TC_By, 3, rfl, cf_By, by decide, rfl, by decide +kernel, rfl, by decide, Or.inl (mm_mw (i := 144) (by decide +kernel) (by decide +kernel))⟩
theorem li_By_26 : mm_LI "TickArena$Bytes" 26 M_By_has.1 := Or.inl (mm_mw (i := 625) (by decide +kernel) (by decide +kernel))
theorem oi_Ev_3 : Cond.methodLink "TickArena$Events" 3 objectInit ∈ mm_WS := mm_mw (i := 37) (by decide +kernel) (by decide +kernel)
theorem fl_Ev_9 : mm_FL "TickArena$Events" 9 1 0 (.array .int) true := ⟨"TickArena$Events", TC_Ev, 3, rfl, cf_Ev, by decide, rfl, by decide +kernel, rfl, by decide, Or.inl (mm_mw (i := 38) (by decide +kernel) (by decide +kernel))⟩
theorem ff_Ev_9 : mm_FLF "TickArena$Events" 9 1 0 (.array .int) := ⟨TC_Ev, 3, rfl, cf_Ev, by decide, rfl, by decide +kernel, rfl, by decide, mm_mw (i := 38) (by decide +kernel) (by decide +kernel)⟩
theorem fl_Ev_15 : mm_FL "TickArena$Events" 15 1 1 (.array .int) true := ⟨"TickArena$Events", TC_Ev, 3, rfl, cf_Ev, by decide, rfl, by decide +kernel, rfl, by decide, Or.inl (mm_mw (i := 40) (by decide +kernel) (by decide +kernel))⟩
theorem ff_Ev_15 : mm_FLF "TickArena$Events" 15 1 1 (.array .int) := ⟨TC_Ev, 3, rfl, cf_Ev, by decide, rfl, by decide +kernel, rfl, by decide, mm_mw (i := 40) (by decide +kernel) (by decide +kernel)⟩
theorem fl_Ev_18 : mm_FL "TickArena$Events" 18 1 2 .int false := ⟨"TickArena$Events", TC_Ev, 3, rfl, cf_Ev, by decide, rfl, by decide +kernel, rfl, by decide, Or.inl (mm_mw (i := 42) (by decide +kernel) (by decide +kernel))⟩
theorem oi_Lg_3 : Cond.methodLink "TickArena$LogBytes" 3 objectInit ∈ mm_WS := mm_mw (i := 163) (by decide +kernel) (by decide +kernel)
theorem nl_Lg_9 : mm_NL "TickArena$LogBytes" 9 0 3 := ⟨"TickArena$Bytes", TC_By, rfl, cf_By, by decide, mm_mw (i := 164) (by decide +kernel) (by decide +kernel), mm_mw (i := 133) (by decide +kernel) (by decide +kernel), mm_mw (i := 6) (by decide +kernel) (by decide +kernel), fun k hk => ⟨(fun k => match k with | 0 => (.array .int) | 1 => .int | _ => .int) k, (by decide +kernel : ∀ k, k < 3 → parseFieldDescriptor (TC_By k).2.2.1 = some ((fun k => match k with | 0 => (.array .int) | 1 => .int | _ => .int) k)) k hk, (by decide +kernel : ∀ k, k < 3 → defaultValue ((fun k => match k with | 0 => (.array .int) | 1 => .int | _ => .int) k) = if mm_isr 0 k = true then .null else .int 0) k hk⟩⟩
theorem li_Lg_11 : mm_LI "TickArena$LogBytes" 11 M_By_init.1 := Or.inl (mm_mw (i := 165) (by decide +kernel) (by decide +kernel))
theorem fl_Lg_14 : mm_FL "TickArena$LogBytes" 14 2 0 (.object "TickArena$Bytes") true := ⟨"TickArena$LogBytes", TC_Lg, 1, rfl, cf_Lg, by decide, rfl, by decide +kernel, rfl, by decide, Or.inl (mm_mw (i := 166) (by decide +kernel) (by decide +kernel))⟩
theorem ff_Lg_14 : mm_FLF "TickArena$LogBytes" 14 2 0 (.object "TickArena$Bytes") := ⟨TC_Lg, 1, rfl, cf_Lg, by decide, rfl, by decide +kernel, rfl, by decide, mm_mw (i := 166) (by decide +kernel) (by decide +kernel)⟩
theorem li_Lg_20 : mm_LI "TickArena$LogBytes" 20 M_By_add.1 := Or.inl (mm_mw (i := 386) (by decide +kernel) (by decide +kernel))
theorem fl_Lg_24 : mm_FL "TickArena$LogBytes" 24 0 2 .int false := ⟨"TickArena$Bytes", TC_By, 3, rfl, cf_By, by decide, rfl, by decide +kernel, rfl, by decide, Or.inl (mm_mw (i := 145) (by decide +kernel) (by decide +kernel))⟩
theorem li_Lg_28 : mm_LI "TickArena$LogBytes" 28 M_By_isAtEnd.1 := Or.inl (mm_mw (i := 694) (by decide +kernel) (by decide +kernel))
theorem li_Lg_32 : mm_LI "TickArena$LogBytes" 32 M_Lg_redoEntry.1 := Or.inl (mm_mw (i := 695) (by decide +kernel) (by decide +kernel))
theorem li_Lg_36 : mm_LI "TickArena$LogBytes" 36 M_By_next.1 := Or.inl (mm_mw (i := 699) (by decide +kernel) (by decide +kernel))
theorem li_Lg_40 : mm_LI "TickArena$LogBytes" 40 M_Lg_redoCreate.1 := Or.inl (mm_mw (i := 700) (by decide +kernel) (by decide +kernel))
theorem li_Lg_43 : mm_LI "TickArena$LogBytes" 43 M_Lg_redoDestroy.1 := Or.inl (mm_mw (i := 706) (by decide +kernel) (by decide +kernel))
theorem li_Lg_46 : mm_LI "TickArena$LogBytes" 46 M_Lg_redoSpeed.1 := Or.inl (mm_mw (i := 713) (by decide +kernel) (by decide +kernel))
theorem li_Lg_49 : mm_LI "TickArena$LogBytes" 49 M_Lg_redoShape.1 := Or.inl (mm_mw (i := 720) (by decide +kernel) (by decide +kernel))
theorem li_Lg_52 : mm_LI "TickArena$LogBytes" 52 M_Lg_redoTimer.1 := Or.inl (mm_mw (i := 726) (by decide +kernel) (by decide +kernel))
theorem li_Lg_55 : mm_LI "TickArena$LogBytes" 55 M_Wo_step.1 := Or.inl (mm_mw (i := 731) (by decide +kernel) (by decide +kernel))
theorem li_Lg_60 : mm_LI "TickArena$LogBytes" 60 M_Ta_isPlace.1 := Or.inr ⟨"TickArena", mm_mw (i := 704) (by decide +kernel) (by decide +kernel)⟩
theorem li_Lg_64 : mm_LI "TickArena$LogBytes" 64 M_Wo_addThing.1 := Or.inl (mm_mw (i := 705) (by decide +kernel) (by decide +kernel))
theorem li_Lg_68 : mm_LI "TickArena$LogBytes" 68 M_Wo_isGood.1 := Or.inl (mm_mw (i := 710) (by decide +kernel) (by decide +kernel))
theorem li_Lg_72 : mm_LI "TickArena$LogBytes" 72 M_Ta_slotNumber.1 := Or.inr ⟨"TickArena", mm_mw (i := 711) (by decide +kernel) (by decide +kernel)⟩
theorem li_Lg_75 : mm_LI "TickArena$LogBytes" 75 M_Wo_removeThing.1 := Or.inl (mm_mw (i := 712) (by decide +kernel) (by decide +kernel))
theorem li_Lg_78 : mm_LI "TickArena$LogBytes" 78 M_Ta_isSpeed.1 := Or.inr ⟨"TickArena", mm_mw (i := 717) (by decide +kernel) (by decide +kernel)⟩
theorem li_Lg_81 : mm_LI "TickArena$LogBytes" 81 M_Wo_slotOf.1 := Or.inl (mm_mw (i := 718) (by decide +kernel) (by decide +kernel))
theorem li_Lg_85 : mm_LI "TickArena$LogBytes" 85 M_Sl_setSpeed.1 := Or.inl (mm_mw (i := 719) (by decide +kernel) (by decide +kernel))
theorem li_Lg_90 : mm_LI "TickArena$LogBytes" 90 M_Ta_isShapeOrNone.1 := Or.inr ⟨"TickArena", mm_mw (i := 724) (by decide +kernel) (by decide +kernel)⟩
theorem li_Lg_93 : mm_LI "TickArena$LogBytes" 93 M_Sl_setShape.1 := Or.inl (mm_mw (i := 725) (by decide +kernel) (by decide +kernel))
theorem li_Lg_96 : mm_LI "TickArena$LogBytes" 96 M_Ta_isTimerOrNone.1 := Or.inr ⟨"TickArena", mm_mw (i := 730) (by decide +kernel) (by decide +kernel)⟩
theorem fl_Lg_99 : mm_FL "TickArena$LogBytes" 99 3 8 .int false := ⟨"TickArena$Slot", TC_Sl, 9, rfl, cf_Sl, by decide, rfl, by decide +kernel, rfl, by decide, Or.inl (mm_mw (i := 87) (by decide +kernel) (by decide +kernel))⟩
theorem oi_Sl_3 : Cond.methodLink "TickArena$Slot" 3 objectInit ∈ mm_WS := mm_mw (i := 57) (by decide +kernel) (by decide +kernel)
theorem fl_Sl_9 : mm_FL "TickArena$Slot" 9 3 1 .boolean false := ⟨"TickArena$Slot", TC_Sl, 9, rfl, cf_Sl, by decide, rfl, by decide +kernel, rfl, by decide, Or.inl (mm_mw (i := 61) (by decide +kernel) (by decide +kernel))⟩
theorem fl_Sl_15 : mm_FL "TickArena$Slot" 15 3 2 .int false := ⟨"TickArena$Slot", TC_Sl, 9, rfl, cf_Sl, by decide, rfl, by decide +kernel, rfl, by decide, Or.inl (mm_mw (i := 65) (by decide +kernel) (by decide +kernel))⟩
theorem fl_Sl_19 : mm_FL "TickArena$Slot" 19 3 3 .int false := ⟨"TickArena$Slot", TC_Sl, 9, rfl, cf_Sl, by decide, rfl, by decide +kernel, rfl, by decide, Or.inl (mm_mw (i := 68) (by decide +kernel) (by decide +kernel))⟩
theorem li_Sl_22 : mm_LI "TickArena$Slot" 22 M_Sl_setSpeed.1 := Or.inl (mm_mw (i := 396) (by decide +kernel) (by decide +kernel))
theorem li_Sl_26 : mm_LI "TickArena$Slot" 26 M_Sl_setShape.1 := Or.inl (mm_mw (i := 400) (by decide +kernel) (by decide +kernel))
theorem fl_Sl_29 : mm_FL "TickArena$Slot" 29 3 8 .int false := ⟨"TickArena$Slot", TC_Sl, 9, rfl, cf_Sl, by decide, rfl, by decide +kernel, rfl, by decide, Or.inl (mm_mw (i := 83) (by decide +kernel) (by decide +kernel))⟩
theorem fl_Sl_32 : mm_FL "TickArena$Slot" 32 3 0 .int false := ⟨"TickArena$Slot", TC_Sl, 9, rfl, cf_Sl, by decide, rfl, by decide +kernel, rfl, by decide, Or.inl (mm_mw (i := 60) (by decide +kernel) (by decide +kernel))⟩
theorem lc_Sl_35 : Jvm.Cond.constant "TickArena$Slot" 35 65536 ∈ mm_WS := mm_mw (i := 432) (by decide +kernel) (by decide +kernel)
theorem fl_Sl_36 : mm_FL "TickArena$Slot" 36 3 4 .int false := ⟨"TickArena$Slot", TC_Sl, 9, rfl, cf_Sl, by decide, rfl, by decide +kernel, rfl, by decide, Or.inl (mm_mw (i := 72) (by decide +kernel) (by decide +kernel))⟩
theorem fl_Sl_39 : mm_FL "TickArena$Slot" 39 3 5 .int false := ⟨"TickArena$Slot", TC_Sl, 9, rfl, cf_Sl, by decide, rfl, by decide +kernel, rfl, by decide, Or.inl (mm_mw (i := 75) (by decide +kernel) (by decide +kernel))⟩
theorem fl_Sl_42 : mm_FL "TickArena$Slot" 42 3 6 .int false := ⟨"TickArena$Slot", TC_Sl, 9, rfl, cf_Sl, by decide, rfl, by decide +kernel, rfl, by decide, Or.inl (mm_mw (i := 78) (by decide +kernel) (by decide +kernel))⟩
theorem fl_Sl_45 : mm_FL "TickArena$Slot" 45 3 7 .int false := ⟨"TickArena$Slot", TC_Sl, 9, rfl, cf_Sl, by decide, rfl, by decide +kernel, rfl, by decide, Or.inl (mm_mw (i := 81) (by decide +kernel) (by decide +kernel))⟩
theorem li_Sl_48 : mm_LI "TickArena$Slot" 48 M_Sl_hasShape.1 := Or.inl (mm_mw (i := 531) (by decide +kernel) (by decide +kernel))
theorem li_Sl_52 : mm_LI "TickArena$Slot" 52 M_Ta_areCloser.1 := Or.inr ⟨"TickArena", mm_mw (i := 532) (by decide +kernel) (by decide +kernel)⟩
theorem li_Sl_56 : mm_LI "TickArena$Slot" 56 M_Ta_isWithin.1 := Or.inr ⟨"TickArena", mm_mw (i := 518) (by decide +kernel) (by decide +kernel)⟩
theorem li_Sl_59 : mm_LI "TickArena$Slot" 59 M_Sl_thrownBack.1 := Or.inl (mm_mw (i := 519) (by decide +kernel) (by decide +kernel))
theorem oi_Sb_3 : Cond.methodLink "TickArena$StateBytes" 3 objectInit ∈ mm_WS := mm_mw (i := 131) (by decide +kernel) (by decide +kernel)
theorem nl_Sb_9 : mm_NL "TickArena$StateBytes" 9 0 3 := ⟨"TickArena$Bytes", TC_By, rfl, cf_By, by decide, mm_mw (i := 132) (by decide +kernel) (by decide +kernel), mm_mw (i := 133) (by decide +kernel) (by decide +kernel), mm_mw (i := 6) (by decide +kernel) (by decide +kernel), fun k hk => ⟨(fun k => match k with | 0 => (.array .int) | 1 => .int | _ => .int) k, (by decide +kernel : ∀ k, k < 3 → parseFieldDescriptor (TC_By k).2.2.1 = some ((fun k => match k with | 0 => (.array .int) | 1 => .int | _ => .int) k)) k hk, (by decide +kernel : ∀ k, k < 3 → defaultValue ((fun k => match k with | 0 => (.array .int) | 1 => .int | _ => .int) k) = if mm_isr 0 k = true then .null else .int 0) k hk⟩⟩
theorem li_Sb_11 : mm_LI "TickArena$StateBytes" 11 M_By_init.1 := Or.inl (mm_mw (i := 134) (by decide +kernel) (by decide +kernel))
theorem fl_Sb_14 : mm_FL "TickArena$StateBytes" 14 4 0 (.object "TickArena$Bytes") true := ⟨"TickArena$StateBytes", TC_Sb, 1, rfl, cf_Sb, by decide, rfl, by decide +kernel, rfl, by decide, Or.inl (mm_mw (i := 153) (by decide +kernel) (by decide +kernel))⟩
theorem ff_Sb_14 : mm_FLF "TickArena$StateBytes" 14 4 0 (.object "TickArena$Bytes") := ⟨TC_Sb, 1, rfl, cf_Sb, by decide, rfl, by decide +kernel, rfl, by decide, mm_mw (i := 153) (by decide +kernel) (by decide +kernel)⟩
theorem li_Sb_20 : mm_LI "TickArena$StateBytes" 20 M_By_clear.1 := Or.inl (mm_mw (i := 175) (by decide +kernel) (by decide +kernel))
theorem li_Sb_23 : mm_LI "TickArena$StateBytes" 23 M_By_add.1 := Or.inl (mm_mw (i := 179) (by decide +kernel) (by decide +kernel))
theorem fl_Sb_27 : mm_FL "TickArena$StateBytes" 27 5 3 .int false := ⟨"TickArena$World", TC_Wo, 4, rfl, cf_Wo, by decide, rfl, by decide +kernel, rfl, by decide, Or.inl (mm_mw (i := 114) (by decide +kernel) (by decide +kernel))⟩
theorem fl_Sb_33 : mm_FL "TickArena$StateBytes" 33 5 0 (.array (.object "TickArena$Slot")) true := ⟨"TickArena$World", TC_Wo, 4, rfl, cf_Wo, by decide, rfl, by decide +kernel, rfl, by decide, Or.inl (mm_mw (i := 108) (by decide +kernel) (by decide +kernel))⟩
theorem li_Sb_37 : mm_LI "TickArena$StateBytes" 37 M_Sb_writeSlot.1 := Or.inl (mm_mw (i := 187) (by decide +kernel) (by decide +kernel))
theorem li_Sb_41 : mm_LI "TickArena$StateBytes" 41 M_Sb_writePairs.1 := Or.inl (mm_mw (i := 202) (by decide +kernel) (by decide +kernel))
theorem fl_Sb_45 : mm_FL "TickArena$StateBytes" 45 0 1 .int false := ⟨"TickArena$Bytes", TC_By, 3, rfl, cf_By, by decide, rfl, by decide +kernel, rfl, by decide, Or.inl (mm_mw (i := 141) (by decide +kernel) (by decide +kernel))⟩
theorem li_Sb_48 : mm_LI "TickArena$StateBytes" 48 M_By_checkOfFirst.1 := Or.inl (mm_mw (i := 210) (by decide +kernel) (by decide +kernel))
theorem fl_Sb_52 : mm_FL "TickArena$StateBytes" 52 3 0 .int false := ⟨"TickArena$Slot", TC_Sl, 9, rfl, cf_Sl, by decide, rfl, by decide +kernel, rfl, by decide, Or.inl (mm_mw (i := 59) (by decide +kernel) (by decide +kernel))⟩
theorem li_Sb_57 : mm_LI "TickArena$StateBytes" 57 M_Sb_kindOf.1 := Or.inl (mm_mw (i := 191) (by decide +kernel) (by decide +kernel))
theorem fl_Sb_61 : mm_FL "TickArena$StateBytes" 61 3 1 .boolean false := ⟨"TickArena$Slot", TC_Sl, 9, rfl, cf_Sl, by decide, rfl, by decide +kernel, rfl, by decide, Or.inl (mm_mw (i := 63) (by decide +kernel) (by decide +kernel))⟩
theorem fl_Sb_65 : mm_FL "TickArena$StateBytes" 65 3 2 .int false := ⟨"TickArena$Slot", TC_Sl, 9, rfl, cf_Sl, by decide, rfl, by decide +kernel, rfl, by decide, Or.inl (mm_mw (i := 66) (by decide +kernel) (by decide +kernel))⟩
theorem fl_Sb_68 : mm_FL "TickArena$StateBytes" 68 3 3 .int false := ⟨"TickArena$Slot", TC_Sl, 9, rfl, cf_Sl, by decide, rfl, by decide +kernel, rfl, by decide, Or.inl (mm_mw (i := 69) (by decide +kernel) (by decide +kernel))⟩
theorem fl_Sb_71 : mm_FL "TickArena$StateBytes" 71 3 4 .int false := ⟨"TickArena$Slot", TC_Sl, 9, rfl, cf_Sl, by decide, rfl, by decide +kernel, rfl, by decide, Or.inl (mm_mw (i := 71) (by decide +kernel) (by decide +kernel))⟩
theorem fl_Sb_74 : mm_FL "TickArena$StateBytes" 74 3 5 .int false := ⟨"TickArena$Slot", TC_Sl, 9, rfl, cf_Sl, by decide, rfl, by decide +kernel, rfl, by decide, Or.inl (mm_mw (i := 74) (by decide +kernel) (by decide +kernel))⟩
theorem li_Sb_77 : mm_LI "TickArena$StateBytes" 77 M_Sl_hasShape.1 := Or.inl (mm_mw (i := 194) (by decide +kernel) (by decide +kernel))
theorem fl_Sb_81 : mm_FL "TickArena$StateBytes" 81 3 6 .int false := ⟨"TickArena$Slot", TC_Sl, 9, rfl, cf_Sl, by decide, rfl, by decide +kernel, rfl, by decide, Or.inl (mm_mw (i := 77) (by decide +kernel) (by decide +kernel))⟩
theorem fl_Sb_84 : mm_FL "TickArena$StateBytes" 84 3 7 .int false := ⟨"TickArena$Slot", TC_Sl, 9, rfl, cf_Sl, by decide, rfl, by decide +kernel, rfl, by decide, Or.inl (mm_mw (i := 80) (by decide +kernel) (by decide +kernel))⟩
theorem li_Sb_87 : mm_LI "TickArena$StateBytes" 87 M_Sl_hasTimer.1 := Or.inl (mm_mw (i := 198) (by decide +kernel) (by decide +kernel))
theorem fl_Sb_90 : mm_FL "TickArena$StateBytes" 90 3 8 .int false := ⟨"TickArena$Slot", TC_Sl, 9, rfl, cf_Sl, by decide, rfl, by decide +kernel, rfl, by decide, Or.inl (mm_mw (i := 84) (by decide +kernel) (by decide +kernel))⟩
theorem li_Sb_93 : mm_LI "TickArena$StateBytes" 93 M_Wo_countTouching.1 := Or.inl (mm_mw (i := 206) (by decide +kernel) (by decide +kernel))
theorem fl_Sb_97 : mm_FL "TickArena$StateBytes" 97 5 1 (.array .boolean) true := ⟨"TickArena$World", TC_Wo, 4, rfl, cf_Wo, by decide, rfl, by decide +kernel, rfl, by decide, Or.inl (mm_mw (i := 111) (by decide +kernel) (by decide +kernel))⟩
theorem fl_Sb_101 : mm_FL "TickArena$StateBytes" 101 0 2 .int false := ⟨"TickArena$Bytes", TC_By, 3, rfl, cf_By, by decide, rfl, by decide +kernel, rfl, by decide, Or.inl (mm_mw (i := 143) (by decide +kernel) (by decide +kernel))⟩
theorem li_Sb_104 : mm_LI "TickArena$StateBytes" 104 M_Sb_readHead.1 := Or.inl (mm_mw (i := 617) (by decide +kernel) (by decide +kernel))
theorem li_Sb_108 : mm_LI "TickArena$StateBytes" 108 M_Sb_readSlots.1 := Or.inl (mm_mw (i := 629) (by decide +kernel) (by decide +kernel))
theorem li_Sb_111 : mm_LI "TickArena$StateBytes" 111 M_Sb_readPairs.1 := Or.inl (mm_mw (i := 657) (by decide +kernel) (by decide +kernel))
theorem li_Sb_114 : mm_LI "TickArena$StateBytes" 114 M_Sb_readCheck.1 := Or.inl (mm_mw (i := 671) (by decide +kernel) (by decide +kernel))
theorem li_Sb_117 : mm_LI "TickArena$StateBytes" 117 M_By_next.1 := Or.inl (mm_mw (i := 621) (by decide +kernel) (by decide +kernel))
theorem li_Sb_120 : mm_LI "TickArena$StateBytes" 120 M_Sb_readSlot.1 := Or.inl (mm_mw (i := 633) (by decide +kernel) (by decide +kernel))
theorem li_Sb_124 : mm_LI "TickArena$StateBytes" 124 M_Ta_isWithin.1 := Or.inr ⟨"TickArena", mm_mw (i := 637) (by decide +kernel) (by decide +kernel)⟩
theorem li_Sb_128 : mm_LI "TickArena$StateBytes" 128 M_Sb_readThing.1 := Or.inl (mm_mw (i := 638) (by decide +kernel) (by decide +kernel))
theorem li_Sb_131 : mm_LI "TickArena$StateBytes" 131 M_Sb_readShape.1 := Or.inl (mm_mw (i := 646) (by decide +kernel) (by decide +kernel))
theorem li_Sb_135 : mm_LI "TickArena$StateBytes" 135 M_Sb_readTimer.1 := Or.inl (mm_mw (i := 652) (by decide +kernel) (by decide +kernel))
theorem li_Sb_138 : mm_LI "TickArena$StateBytes" 138 M_Sl_settle.1 := Or.inl (mm_mw (i := 642) (by decide +kernel) (by decide +kernel))
theorem li_Sb_141 : mm_LI "TickArena$StateBytes" 141 M_Sl_setSpeed.1 := Or.inl (mm_mw (i := 643) (by decide +kernel) (by decide +kernel))
theorem li_Sb_144 : mm_LI "TickArena$StateBytes" 144 M_Ta_isPlace.1 := Or.inr ⟨"TickArena", mm_mw (i := 644) (by decide +kernel) (by decide +kernel)⟩
theorem li_Sb_148 : mm_LI "TickArena$StateBytes" 148 M_Ta_isSpeed.1 := Or.inr ⟨"TickArena", mm_mw (i := 645) (by decide +kernel) (by decide +kernel)⟩
theorem li_Sb_151 : mm_LI "TickArena$StateBytes" 151 M_Sl_setShape.1 := Or.inl (mm_mw (i := 650) (by decide +kernel) (by decide +kernel))
theorem li_Sb_154 : mm_LI "TickArena$StateBytes" 154 M_Ta_isShape.1 := Or.inr ⟨"TickArena", mm_mw (i := 651) (by decide +kernel) (by decide +kernel)⟩
theorem li_Sb_157 : mm_LI "TickArena$StateBytes" 157 M_Ta_isTimer.1 := Or.inr ⟨"TickArena", mm_mw (i := 656) (by decide +kernel) (by decide +kernel)⟩
theorem li_Sb_161 : mm_LI "TickArena$StateBytes" 161 M_Wo_forgetTouching.1 := Or.inl (mm_mw (i := 661) (by decide +kernel) (by decide +kernel))
theorem li_Sb_164 : mm_LI "TickArena$StateBytes" 164 M_Wo_isPairOfThings.1 := Or.inl (mm_mw (i := 665) (by decide +kernel) (by decide +kernel))
theorem li_Sb_167 : mm_LI "TickArena$StateBytes" 167 M_By_isAtEnd.1 := Or.inl (mm_mw (i := 675) (by decide +kernel) (by decide +kernel))
theorem oi_Wo_3 : Cond.methodLink "TickArena$World" 3 objectInit ∈ mm_WS := mm_mw (i := 29) (by decide +kernel) (by decide +kernel)
theorem fl_Wo_11 : mm_FL "TickArena$World" 11 5 0 (.array (.object "TickArena$Slot")) true := ⟨"TickArena$World", TC_Wo, 4, rfl, cf_Wo, by decide, rfl, by decide +kernel, rfl, by decide, Or.inl (mm_mw (i := 107) (by decide +kernel) (by decide +kernel))⟩
theorem ff_Wo_11 : mm_FLF "TickArena$World" 11 5 0 (.array (.object "TickArena$Slot")) := ⟨TC_Wo, 4, rfl, cf_Wo, by decide, rfl, by decide +kernel, rfl, by decide, mm_mw (i := 107) (by decide +kernel) (by decide +kernel)⟩
theorem fl_Wo_17 : mm_FL "TickArena$World" 17 5 1 (.array .boolean) true := ⟨"TickArena$World", TC_Wo, 4, rfl, cf_Wo, by decide, rfl, by decide +kernel, rfl, by decide, Or.inl (mm_mw (i := 110) (by decide +kernel) (by decide +kernel))⟩
theorem ff_Wo_17 : mm_FLF "TickArena$World" 17 5 1 (.array .boolean) := ⟨TC_Wo, 4, rfl, cf_Wo, by decide, rfl, by decide +kernel, rfl, by decide, mm_mw (i := 110) (by decide +kernel) (by decide +kernel)⟩
theorem nl_Wo_21 : mm_NL "TickArena$World" 21 1 3 := ⟨"TickArena$Events", TC_Ev, rfl, cf_Ev, by decide, mm_mw (i := 32) (by decide +kernel) (by decide +kernel), mm_mw (i := 33) (by decide +kernel) (by decide +kernel), mm_mw (i := 3) (by decide +kernel) (by decide +kernel), fun k hk => ⟨(fun k => match k with | 0 => (.array .int) | 1 => (.array .int) | _ => .int) k, (by decide +kernel : ∀ k, k < 3 → parseFieldDescriptor (TC_Ev k).2.2.1 = some ((fun k => match k with | 0 => (.array .int) | 1 => (.array .int) | _ => .int) k)) k hk, (by decide +kernel : ∀ k, k < 3 → defaultValue ((fun k => match k with | 0 => (.array .int) | 1 => (.array .int) | _ => .int) k) = if mm_isr 1 k = true then .null else .int 0) k hk⟩⟩
theorem li_Wo_23 : mm_LI "TickArena$World" 23 M_Ev_init.1 := Or.inr ⟨"TickArena", mm_mw (i := 34) (by decide +kernel) (by decide +kernel)⟩
theorem fl_Wo_24 : mm_FL "TickArena$World" 24 5 2 (.object "TickArena$Events") true := ⟨"TickArena$World", TC_Wo, 4, rfl, cf_Wo, by decide, rfl, by decide +kernel, rfl, by decide, Or.inl (mm_mw (i := 112) (by decide +kernel) (by decide +kernel))⟩
theorem ff_Wo_24 : mm_FLF "TickArena$World" 24 5 2 (.object "TickArena$Events") := ⟨TC_Wo, 4, rfl, cf_Wo, by decide, rfl, by decide +kernel, rfl, by decide, mm_mw (i := 112) (by decide +kernel) (by decide +kernel)⟩
theorem nl_Wo_9 : mm_NL "TickArena$World" 9 3 9 := ⟨"TickArena$Slot", TC_Sl, rfl, cf_Sl, by decide, mm_mw (i := 30) (by decide +kernel) (by decide +kernel), mm_mw (i := 53) (by decide +kernel) (by decide +kernel), mm_mw (i := 4) (by decide +kernel) (by decide +kernel), fun k hk => ⟨(fun k => match k with | 0 => .int | 1 => .boolean | 2 => .int | 3 => .int | 4 => .int | 5 => .int | 6 => .int | 7 => .int | _ => .int) k, (by decide +kernel : ∀ k, k < 9 → parseFieldDescriptor (TC_Sl k).2.2.1 = some ((fun k => match k with | 0 => .int | 1 => .boolean | 2 => .int | 3 => .int | 4 => .int | 5 => .int | 6 => .int | 7 => .int | _ => .int) k)) k hk, (by decide +kernel : ∀ k, k < 9 → defaultValue ((fun k => match k with | 0 => .int | 1 => .boolean | 2 => .int | 3 => .int | 4 => .int | 5 => .int | 6 => .int | 7 => .int | _ => .int) k) = if mm_isr 3 k = true then .null else .int 0) k hk⟩⟩
theorem li_Wo_28 : mm_LI "TickArena$World" 28 M_Sl_init.1 := Or.inr ⟨"TickArena", mm_mw (i := 54) (by decide +kernel) (by decide +kernel)⟩
theorem li_Wo_29 : mm_LI "TickArena$World" 29 M_Wo_slotOf.1 := Or.inl (mm_mw (i := 235) (by decide +kernel) (by decide +kernel))
theorem fl_Wo_33 : mm_FL "TickArena$World" 33 3 1 .boolean false := ⟨"TickArena$Slot", TC_Sl, 9, rfl, cf_Sl, by decide, rfl, by decide +kernel, rfl, by decide, Or.inl (mm_mw (i := 62) (by decide +kernel) (by decide +kernel))⟩
theorem fl_Wo_37 : mm_FL "TickArena$World" 37 3 0 .int false := ⟨"TickArena$Slot", TC_Sl, 9, rfl, cf_Sl, by decide, rfl, by decide +kernel, rfl, by decide, Or.inl (mm_mw (i := 58) (by decide +kernel) (by decide +kernel))⟩
theorem li_Wo_41 : mm_LI "TickArena$World" 41 M_Ta_slotNumber.1 := Or.inr ⟨"TickArena", mm_mw (i := 239) (by decide +kernel) (by decide +kernel)⟩
theorem li_Wo_45 : mm_LI "TickArena$World" 45 M_Wo_lowestEmpty.1 := Or.inl (mm_mw (i := 391) (by decide +kernel) (by decide +kernel))
theorem li_Wo_49 : mm_LI "TickArena$World" 49 M_Sl_settle.1 := Or.inl (mm_mw (i := 392) (by decide +kernel) (by decide +kernel))
theorem li_Wo_53 : mm_LI "TickArena$World" 53 M_Wo_handleIn.1 := Or.inl (mm_mw (i := 404) (by decide +kernel) (by decide +kernel))
theorem li_Wo_56 : mm_LI "TickArena$World" 56 M_Sl_vacate.1 := Or.inl (mm_mw (i := 428) (by decide +kernel) (by decide +kernel))
theorem li_Wo_59 : mm_LI "TickArena$World" 59 M_Ta_pairOf.1 := Or.inr ⟨"TickArena", mm_mw (i := 433) (by decide +kernel) (by decide +kernel)⟩
theorem li_Wo_63 : mm_LI "TickArena$World" 63 M_Sl_covers.1 := Or.inl (mm_mw (i := 602) (by decide +kernel) (by decide +kernel))
theorem fl_Wo_67 : mm_FL "TickArena$World" 67 5 3 .int false := ⟨"TickArena$World", TC_Wo, 4, rfl, cf_Wo, by decide, rfl, by decide +kernel, rfl, by decide, Or.inl (mm_mw (i := 115) (by decide +kernel) (by decide +kernel))⟩
theorem lc_Wo_70 : Jvm.Cond.constant "TickArena$World" 70 2147483647 ∈ mm_WS := mm_mw (i := 503) (by decide +kernel) (by decide +kernel)
theorem li_Wo_71 : mm_LI "TickArena$World" 71 M_Wo_countDown.1 := Or.inl (mm_mw (i := 504) (by decide +kernel) (by decide +kernel))
theorem li_Wo_74 : mm_LI "TickArena$World" 74 M_Wo_moveAll.1 := Or.inl (mm_mw (i := 510) (by decide +kernel) (by decide +kernel))
theorem li_Wo_77 : mm_LI "TickArena$World" 77 M_Wo_makeEvents.1 := Or.inl (mm_mw (i := 522) (by decide +kernel) (by decide +kernel))
theorem li_Wo_80 : mm_LI "TickArena$World" 80 M_Sl_hasTimer.1 := Or.inl (mm_mw (i := 508) (by decide +kernel) (by decide +kernel))
theorem fl_Wo_84 : mm_FL "TickArena$World" 84 3 8 .int false := ⟨"TickArena$Slot", TC_Sl, 9, rfl, cf_Sl, by decide, rfl, by decide +kernel, rfl, by decide, Or.inl (mm_mw (i := 86) (by decide +kernel) (by decide +kernel))⟩
theorem li_Wo_87 : mm_LI "TickArena$World" 87 M_Wo_removeThing.1 := Or.inl (mm_mw (i := 509) (by decide +kernel) (by decide +kernel))
theorem li_Wo_91 : mm_LI "TickArena$World" 91 M_Sl_move.1 := Or.inl (mm_mw (i := 514) (by decide +kernel) (by decide +kernel))
theorem li_Wo_94 : mm_LI "TickArena$World" 94 M_Ev_clear.1 := Or.inl (mm_mw (i := 526) (by decide +kernel) (by decide +kernel))
theorem li_Wo_97 : mm_LI "TickArena$World" 97 M_Sl_overlaps.1 := Or.inl (mm_mw (i := 527) (by decide +kernel) (by decide +kernel))
theorem li_Wo_101 : mm_LI "TickArena$World" 101 M_Wo_meet.1 := Or.inl (mm_mw (i := 535) (by decide +kernel) (by decide +kernel))
theorem li_Wo_105 : mm_LI "TickArena$World" 105 M_Ev_add.1 := Or.inl (mm_mw (i := 539) (by decide +kernel) (by decide +kernel))
theorem li_Wo_108 : mm_LI "TickArena$World" 108 M_Ta_firstOf.1 := Or.inr ⟨"TickArena", mm_mw (i := 669) (by decide +kernel) (by decide +kernel)⟩
theorem li_Wo_111 : mm_LI "TickArena$World" 111 M_Ta_secondOf.1 := Or.inr ⟨"TickArena", mm_mw (i := 670) (by decide +kernel) (by decide +kernel)⟩
theorem oi_Ta_1 : Cond.methodLink "TickArena" 1 objectInit ∈ mm_WS := mm_mw (i := 21) (by decide +kernel) (by decide +kernel)
theorem nl_Ta_7 : mm_NL "TickArena" 7 5 4 := ⟨"TickArena$World", TC_Wo, rfl, cf_Wo, by decide, mm_mw (i := 24) (by decide +kernel) (by decide +kernel), mm_mw (i := 25) (by decide +kernel) (by decide +kernel), mm_mw (i := 2) (by decide +kernel) (by decide +kernel), fun k hk => ⟨(fun k => match k with | 0 => (.array (.object "TickArena$Slot")) | 1 => (.array .boolean) | 2 => (.object "TickArena$Events") | _ => .int) k, (by decide +kernel : ∀ k, k < 4 → parseFieldDescriptor (TC_Wo k).2.2.1 = some ((fun k => match k with | 0 => (.array (.object "TickArena$Slot")) | 1 => (.array .boolean) | 2 => (.object "TickArena$Events") | _ => .int) k)) k hk, (by decide +kernel : ∀ k, k < 4 → defaultValue ((fun k => match k with | 0 => (.array (.object "TickArena$Slot")) | 1 => (.array .boolean) | 2 => (.object "TickArena$Events") | _ => .int) k) = if mm_isr 5 k = true then .null else .int 0) k hk⟩⟩
theorem li_Ta_9 : mm_LI "TickArena" 9 M_Wo_init.1 := Or.inl (mm_mw (i := 26) (by decide +kernel) (by decide +kernel))
theorem fl_Ta_10 : mm_FL "TickArena" 10 6 0 (.object "TickArena$World") false := ⟨"TickArena", TC_Ta, 4, rfl, cf_Ta, by decide, rfl, by decide +kernel, rfl, by decide, Or.inl (mm_mw (i := 214) (by decide +kernel) (by decide +kernel))⟩
theorem fl_Ta_16 : mm_FL "TickArena" 16 6 1 (.object "TickArena$World") false := ⟨"TickArena", TC_Ta, 4, rfl, cf_Ta, by decide, rfl, by decide +kernel, rfl, by decide, Or.inl (mm_mw (i := 215) (by decide +kernel) (by decide +kernel))⟩
theorem nl_Ta_19 : mm_NL "TickArena" 19 4 1 := ⟨"TickArena$StateBytes", TC_Sb, rfl, cf_Sb, by decide, mm_mw (i := 126) (by decide +kernel) (by decide +kernel), mm_mw (i := 127) (by decide +kernel) (by decide +kernel), mm_mw (i := 5) (by decide +kernel) (by decide +kernel), fun k hk => ⟨(fun k => match k with | _ => (.object "TickArena$Bytes")) k, (by decide +kernel : ∀ k, k < 1 → parseFieldDescriptor (TC_Sb k).2.2.1 = some ((fun k => match k with | _ => (.object "TickArena$Bytes")) k)) k hk, (by decide +kernel : ∀ k, k < 1 → defaultValue ((fun k => match k with | _ => (.object "TickArena$Bytes")) k) = if mm_isr 4 k = true then .null else .int 0) k hk⟩⟩
theorem li_Ta_21 : mm_LI "TickArena" 21 M_Sb_init.1 := Or.inr ⟨"TickArena", mm_mw (i := 128) (by decide +kernel) (by decide +kernel)⟩
theorem fl_Ta_22 : mm_FL "TickArena" 22 6 2 (.object "TickArena$StateBytes") true := ⟨"TickArena", TC_Ta, 4, rfl, cf_Ta, by decide, rfl, by decide +kernel, rfl, by decide, Or.inl (mm_mw (i := 216) (by decide +kernel) (by decide +kernel))⟩
theorem ff_Ta_22 : mm_FLF "TickArena" 22 6 2 (.object "TickArena$StateBytes") := ⟨TC_Ta, 4, rfl, cf_Ta, by decide, rfl, by decide +kernel, rfl, by decide, mm_mw (i := 216) (by decide +kernel) (by decide +kernel)⟩
theorem nl_Ta_26 : mm_NL "TickArena" 26 2 1 := ⟨"TickArena$LogBytes", TC_Lg, rfl, cf_Lg, by decide, mm_mw (i := 158) (by decide +kernel) (by decide +kernel), mm_mw (i := 159) (by decide +kernel) (by decide +kernel), mm_mw (i := 7) (by decide +kernel) (by decide +kernel), fun k hk => ⟨(fun k => match k with | _ => (.object "TickArena$Bytes")) k, (by decide +kernel : ∀ k, k < 1 → parseFieldDescriptor (TC_Lg k).2.2.1 = some ((fun k => match k with | _ => (.object "TickArena$Bytes")) k)) k hk, (by decide +kernel : ∀ k, k < 1 → defaultValue ((fun k => match k with | _ => (.object "TickArena$Bytes")) k) = if mm_isr 2 k = true then .null else .int 0) k hk⟩⟩
theorem li_Ta_28 : mm_LI "TickArena" 28 M_Lg_init.1 := Or.inr ⟨"TickArena", mm_mw (i := 160) (by decide +kernel) (by decide +kernel)⟩
theorem fl_Ta_29 : mm_FL "TickArena" 29 6 3 (.object "TickArena$LogBytes") true := ⟨"TickArena", TC_Ta, 4, rfl, cf_Ta, by decide, rfl, by decide +kernel, rfl, by decide, Or.inl (mm_mw (i := 217) (by decide +kernel) (by decide +kernel))⟩
theorem ff_Ta_29 : mm_FLF "TickArena" 29 6 3 (.object "TickArena$LogBytes") := ⟨TC_Ta, 4, rfl, cf_Ta, by decide, rfl, by decide +kernel, rfl, by decide, mm_mw (i := 217) (by decide +kernel) (by decide +kernel)⟩
theorem li_Ta_33 : mm_LI "TickArena" 33 M_Sb_write.1 := Or.inl (mm_mw (i := 171) (by decide +kernel) (by decide +kernel))
theorem li_Ta_37 : mm_LI "TickArena" 37 M_Ta_isPlace.1 := Or.inl (mm_mw (i := 273) (by decide +kernel) (by decide +kernel))
theorem xl_Ta_41 : mm_XL "TickArena" 41 43 0 ["java/lang/RuntimeException", "java/lang/Exception"] := mm_XL_of (mm_mw (i := 279) (by decide +kernel) (by decide +kernel)) (mm_mw (i := 12) (by decide +kernel) (by decide +kernel)) (by decide +kernel) (by decide +kernel) (by decide) (by decide +kernel)
theorem li_Ta_44 : mm_LI "TickArena" 44 M_Wo_lowestEmpty.1 := Or.inl (mm_mw (i := 343) (by decide +kernel) (by decide +kernel))
theorem xl_Ta_48 : mm_XL "TickArena" 48 50 1 ["java/lang/RuntimeException", "java/lang/Exception"] := mm_XL_of (mm_mw (i := 347) (by decide +kernel) (by decide +kernel)) (mm_mw (i := 13) (by decide +kernel) (by decide +kernel)) (by decide +kernel) (by decide +kernel) (by decide) (by decide +kernel)
theorem li_Ta_51 : mm_LI "TickArena" 51 M_Ta_needRoom.1 := Or.inl (mm_mw (i := 362) (by decide +kernel) (by decide +kernel))
theorem li_Ta_55 : mm_LI "TickArena" 55 M_Lg_addCreate.1 := Or.inl (mm_mw (i := 382) (by decide +kernel) (by decide +kernel))
theorem li_Ta_59 : mm_LI "TickArena" 59 M_Wo_addThing.1 := Or.inl (mm_mw (i := 387) (by decide +kernel) (by decide +kernel))
theorem li_Ta_63 : mm_LI "TickArena" 63 M_Ta_needGood.1 := Or.inl (mm_mw (i := 415) (by decide +kernel) (by decide +kernel))
theorem li_Ta_66 : mm_LI "TickArena" 66 M_Lg_addDestroy.1 := Or.inl (mm_mw (i := 419) (by decide +kernel) (by decide +kernel))
theorem li_Ta_69 : mm_LI "TickArena" 69 M_Ta_slotNumber.1 := Or.inl (mm_mw (i := 423) (by decide +kernel) (by decide +kernel))
theorem li_Ta_73 : mm_LI "TickArena" 73 M_Wo_removeThing.1 := Or.inl (mm_mw (i := 424) (by decide +kernel) (by decide +kernel))
theorem li_Ta_76 : mm_LI "TickArena" 76 M_Ta_isSpeed.1 := Or.inl (mm_mw (i := 443) (by decide +kernel) (by decide +kernel))
theorem li_Ta_79 : mm_LI "TickArena" 79 M_Lg_addSpeed.1 := Or.inl (mm_mw (i := 446) (by decide +kernel) (by decide +kernel))
theorem li_Ta_83 : mm_LI "TickArena" 83 M_Wo_slotOf.1 := Or.inl (mm_mw (i := 450) (by decide +kernel) (by decide +kernel))
theorem li_Ta_87 : mm_LI "TickArena" 87 M_Sl_setSpeed.1 := Or.inl (mm_mw (i := 451) (by decide +kernel) (by decide +kernel))
theorem li_Ta_92 : mm_LI "TickArena" 92 M_Ta_isShapeOrNone.1 := Or.inl (mm_mw (i := 459) (by decide +kernel) (by decide +kernel))
theorem li_Ta_95 : mm_LI "TickArena" 95 M_Lg_addShape.1 := Or.inl (mm_mw (i := 465) (by decide +kernel) (by decide +kernel))
theorem li_Ta_98 : mm_LI "TickArena" 98 M_Sl_setShape.1 := Or.inl (mm_mw (i := 469) (by decide +kernel) (by decide +kernel))
theorem li_Ta_101 : mm_LI "TickArena" 101 M_Ta_isTimerOrNone.1 := Or.inl (mm_mw (i := 477) (by decide +kernel) (by decide +kernel))
theorem li_Ta_105 : mm_LI "TickArena" 105 M_Lg_addTimer.1 := Or.inl (mm_mw (i := 484) (by decide +kernel) (by decide +kernel))
theorem fl_Ta_108 : mm_FL "TickArena" 108 3 8 .int false := ⟨"TickArena$Slot", TC_Sl, 9, rfl, cf_Sl, by decide, rfl, by decide +kernel, rfl, by decide, Or.inl (mm_mw (i := 85) (by decide +kernel) (by decide +kernel))⟩
theorem li_Ta_112 : mm_LI "TickArena" 112 M_Ta_isWithin.1 := Or.inl (mm_mw (i := 276) (by decide +kernel) (by decide +kernel))
theorem li_Ta_116 : mm_LI "TickArena" 116 M_Lg_addTick.1 := Or.inl (mm_mw (i := 495) (by decide +kernel) (by decide +kernel))
theorem li_Ta_119 : mm_LI "TickArena" 119 M_Wo_step.1 := Or.inl (mm_mw (i := 499) (by decide +kernel) (by decide +kernel))
theorem fl_Ta_122 : mm_FL "TickArena" 122 5 2 (.object "TickArena$Events") true := ⟨"TickArena$World", TC_Wo, 4, rfl, cf_Wo, by decide, rfl, by decide +kernel, rfl, by decide, Or.inl (mm_mw (i := 113) (by decide +kernel) (by decide +kernel))⟩
theorem fl_Ta_126 : mm_FL "TickArena" 126 1 2 .int false := ⟨"TickArena$Events", TC_Ev, 3, rfl, cf_Ev, by decide, rfl, by decide +kernel, rfl, by decide, Or.inl (mm_mw (i := 43) (by decide +kernel) (by decide +kernel))⟩
theorem li_Ta_131 : mm_LI "TickArena" 131 M_Ev_has.1 := Or.inl (mm_mw (i := 551) (by decide +kernel) (by decide +kernel))
theorem xl_Ta_134 : mm_XL "TickArena" 134 136 3 ["java/lang/RuntimeException", "java/lang/Exception"] := mm_XL_of (mm_mw (i := 555) (by decide +kernel) (by decide +kernel)) (mm_mw (i := 15) (by decide +kernel) (by decide +kernel)) (by decide +kernel) (by decide +kernel) (by decide) (by decide +kernel)
theorem fl_Ta_137 : mm_FL "TickArena" 137 1 0 (.array .int) true := ⟨"TickArena$Events", TC_Ev, 3, rfl, cf_Ev, by decide, rfl, by decide +kernel, rfl, by decide, Or.inl (mm_mw (i := 39) (by decide +kernel) (by decide +kernel))⟩
theorem fl_Ta_141 : mm_FL "TickArena" 141 1 1 (.array .int) true := ⟨"TickArena$Events", TC_Ev, 3, rfl, cf_Ev, by decide, rfl, by decide +kernel, rfl, by decide, Or.inl (mm_mw (i := 41) (by decide +kernel) (by decide +kernel))⟩
theorem li_Ta_144 : mm_LI "TickArena" 144 M_Ta_firstOf.1 := Or.inl (mm_mw (i := 570) (by decide +kernel) (by decide +kernel))
theorem li_Ta_147 : mm_LI "TickArena" 147 M_Ta_secondOf.1 := Or.inl (mm_mw (i := 573) (by decide +kernel) (by decide +kernel))
theorem li_Ta_150 : mm_LI "TickArena" 150 M_Wo_isGood.1 := Or.inl (mm_mw (i := 231) (by decide +kernel) (by decide +kernel))
theorem fl_Ta_153 : mm_FL "TickArena" 153 3 2 .int false := ⟨"TickArena$Slot", TC_Sl, 9, rfl, cf_Sl, by decide, rfl, by decide +kernel, rfl, by decide, Or.inl (mm_mw (i := 67) (by decide +kernel) (by decide +kernel))⟩
theorem fl_Ta_156 : mm_FL "TickArena" 156 3 3 .int false := ⟨"TickArena$Slot", TC_Sl, 9, rfl, cf_Sl, by decide, rfl, by decide +kernel, rfl, by decide, Or.inl (mm_mw (i := 70) (by decide +kernel) (by decide +kernel))⟩
theorem fl_Ta_159 : mm_FL "TickArena" 159 3 4 .int false := ⟨"TickArena$Slot", TC_Sl, 9, rfl, cf_Sl, by decide, rfl, by decide +kernel, rfl, by decide, Or.inl (mm_mw (i := 73) (by decide +kernel) (by decide +kernel))⟩
theorem fl_Ta_162 : mm_FL "TickArena" 162 3 5 .int false := ⟨"TickArena$Slot", TC_Sl, 9, rfl, cf_Sl, by decide, rfl, by decide +kernel, rfl, by decide, Or.inl (mm_mw (i := 76) (by decide +kernel) (by decide +kernel))⟩
theorem fl_Ta_165 : mm_FL "TickArena" 165 3 6 .int false := ⟨"TickArena$Slot", TC_Sl, 9, rfl, cf_Sl, by decide, rfl, by decide +kernel, rfl, by decide, Or.inl (mm_mw (i := 79) (by decide +kernel) (by decide +kernel))⟩
theorem fl_Ta_168 : mm_FL "TickArena" 168 3 7 .int false := ⟨"TickArena$Slot", TC_Sl, 9, rfl, cf_Sl, by decide, rfl, by decide +kernel, rfl, by decide, Or.inl (mm_mw (i := 82) (by decide +kernel) (by decide +kernel))⟩
theorem fl_Ta_171 : mm_FL "TickArena" 171 5 0 (.array (.object "TickArena$Slot")) true := ⟨"TickArena$World", TC_Wo, 4, rfl, cf_Wo, by decide, rfl, by decide +kernel, rfl, by decide, Or.inl (mm_mw (i := 109) (by decide +kernel) (by decide +kernel))⟩
theorem fl_Ta_175 : mm_FL "TickArena" 175 3 1 .boolean false := ⟨"TickArena$Slot", TC_Sl, 9, rfl, cf_Sl, by decide, rfl, by decide +kernel, rfl, by decide, Or.inl (mm_mw (i := 64) (by decide +kernel) (by decide +kernel))⟩
theorem li_Ta_179 : mm_LI "TickArena" 179 M_Wo_handleIn.1 := Or.inl (mm_mw (i := 590) (by decide +kernel) (by decide +kernel))
theorem li_Ta_182 : mm_LI "TickArena" 182 M_Wo_covering.1 := Or.inl (mm_mw (i := 598) (by decide +kernel) (by decide +kernel))
theorem fl_Ta_185 : mm_FL "TickArena" 185 5 3 .int false := ⟨"TickArena$World", TC_Wo, 4, rfl, cf_Wo, by decide, rfl, by decide +kernel, rfl, by decide, Or.inl (mm_mw (i := 116) (by decide +kernel) (by decide +kernel))⟩
theorem fl_Ta_188 : mm_FL "TickArena" 188 2 0 (.object "TickArena$Bytes") true := ⟨"TickArena$LogBytes", TC_Lg, 1, rfl, cf_Lg, by decide, rfl, by decide +kernel, rfl, by decide, Or.inl (mm_mw (i := 167) (by decide +kernel) (by decide +kernel))⟩
theorem li_Ta_192 : mm_LI "TickArena" 192 M_By_clear.1 := Or.inl (mm_mw (i := 250) (by decide +kernel) (by decide +kernel))
theorem li_Ta_197 : mm_LI "TickArena" 197 M_Ev_clear.1 := Or.inl (mm_mw (i := 251) (by decide +kernel) (by decide +kernel))
theorem fl_Ta_198 : mm_FL "TickArena" 198 4 0 (.object "TickArena$Bytes") true := ⟨"TickArena$StateBytes", TC_Sb, 1, rfl, cf_Sb, by decide, rfl, by decide +kernel, rfl, by decide, Or.inl (mm_mw (i := 154) (by decide +kernel) (by decide +kernel))⟩
theorem fl_Ta_199 : mm_FL "TickArena" 199 0 1 .int false := ⟨"TickArena$Bytes", TC_By, 3, rfl, cf_By, by decide, rfl, by decide +kernel, rfl, by decide, Or.inl (mm_mw (i := 142) (by decide +kernel) (by decide +kernel))⟩
theorem li_Ta_200 : mm_LI "TickArena" 200 M_Sb_readInto.1 := Or.inl (mm_mw (i := 613) (by decide +kernel) (by decide +kernel))
theorem li_Ta_204 : mm_LI "TickArena" 204 M_Ta_takeSpare.1 := Or.inl (mm_mw (i := 679) (by decide +kernel) (by decide +kernel))
theorem li_Ta_207 : mm_LI "TickArena" 207 M_Lg_redoOn.1 := Or.inl (mm_mw (i := 690) (by decide +kernel) (by decide +kernel))
theorem li_Ta_211 : mm_LI "TickArena" 211 M_Ta_bytesOf.1 := Or.inl (mm_mw (i := 259) (by decide +kernel) (by decide +kernel))
theorem li_Ta_215 : mm_LI "TickArena" 215 M_By_has.1 := Or.inl (mm_mw (i := 739) (by decide +kernel) (by decide +kernel))
theorem fl_Ta_216 : mm_FL "TickArena" 216 0 0 (.array .int) true := ⟨"TickArena$Bytes", TC_By, 3, rfl, cf_By, by decide, rfl, by decide +kernel, rfl, by decide, Or.inl (mm_mw (i := 139) (by decide +kernel) (by decide +kernel))⟩
theorem li_Ta_219 : mm_LI "TickArena" 219 M_By_hasRoom.1 := Or.inl (mm_mw (i := 366) (by decide +kernel) (by decide +kernel))
theorem xl_Ta_222 : mm_XL "TickArena" 222 224 2 ["java/lang/RuntimeException", "java/lang/Exception"] := mm_XL_of (mm_mw (i := 367) (by decide +kernel) (by decide +kernel)) (mm_mw (i := 14) (by decide +kernel) (by decide +kernel)) (by decide +kernel) (by decide +kernel) (by decide) (by decide +kernel)
theorem li_Ta_225 : mm_LI "TickArena" 225 M_Ta_isShape.1 := Or.inl (mm_mw (i := 462) (by decide +kernel) (by decide +kernel))
theorem lc_Ta_228 : Jvm.Cond.constant "TickArena" 228 60000 ∈ mm_WS := mm_mw (i := 483) (by decide +kernel) (by decide +kernel)
theorem li_Ta_229 : mm_LI "TickArena" 229 M_Ta_isTimer.1 := Or.inl (mm_mw (i := 480) (by decide +kernel) (by decide +kernel))
theorem oi_Mo_1 : Cond.methodLink "TickArenaModel" 1 objectInit ∈ mm_WS := mm_mw (i := 752) (by decide +kernel) (by decide +kernel)
theorem fl_Mo_7 : mm_FL "TickArenaModel" 7 7 1 (.array .int) true := ⟨"TickArenaModel", TC_Mo, 24, rfl, cf_Mo, by decide, rfl, by decide +kernel, rfl, by decide, Or.inl (mm_mw (i := 766) (by decide +kernel) (by decide +kernel))⟩
theorem ff_Mo_7 : mm_FLF "TickArenaModel" 7 7 1 (.array .int) := ⟨TC_Mo, 24, rfl, cf_Mo, by decide, rfl, by decide +kernel, rfl, by decide, mm_mw (i := 766) (by decide +kernel) (by decide +kernel)⟩
theorem fl_Mo_13 : mm_FL "TickArenaModel" 13 7 2 (.array .int) true := ⟨"TickArenaModel", TC_Mo, 24, rfl, cf_Mo, by decide, rfl, by decide +kernel, rfl, by decide, Or.inl (mm_mw (i := 767) (by decide +kernel) (by decide +kernel))⟩
theorem ff_Mo_13 : mm_FLF "TickArenaModel" 13 7 2 (.array .int) := ⟨TC_Mo, 24, rfl, cf_Mo, by decide, rfl, by decide +kernel, rfl, by decide, mm_mw (i := 767) (by decide +kernel) (by decide +kernel)⟩
theorem fl_Mo_16 : mm_FL "TickArenaModel" 16 7 3 (.array .boolean) true := ⟨"TickArenaModel", TC_Mo, 24, rfl, cf_Mo, by decide, rfl, by decide +kernel, rfl, by decide, Or.inl (mm_mw (i := 768) (by decide +kernel) (by decide +kernel))⟩
theorem ff_Mo_16 : mm_FLF "TickArenaModel" 16 7 3 (.array .boolean) := ⟨TC_Mo, 24, rfl, cf_Mo, by decide, rfl, by decide +kernel, rfl, by decide, mm_mw (i := 768) (by decide +kernel) (by decide +kernel)⟩
theorem fl_Mo_20 : mm_FL "TickArenaModel" 20 7 4 (.array .int) true := ⟨"TickArenaModel", TC_Mo, 24, rfl, cf_Mo, by decide, rfl, by decide +kernel, rfl, by decide, Or.inl (mm_mw (i := 769) (by decide +kernel) (by decide +kernel))⟩
theorem ff_Mo_20 : mm_FLF "TickArenaModel" 20 7 4 (.array .int) := ⟨TC_Mo, 24, rfl, cf_Mo, by decide, rfl, by decide +kernel, rfl, by decide, mm_mw (i := 769) (by decide +kernel) (by decide +kernel)⟩
theorem fl_Mo_23 : mm_FL "TickArenaModel" 23 7 5 (.array .int) true := ⟨"TickArenaModel", TC_Mo, 24, rfl, cf_Mo, by decide, rfl, by decide +kernel, rfl, by decide, Or.inl (mm_mw (i := 770) (by decide +kernel) (by decide +kernel))⟩
theorem ff_Mo_23 : mm_FLF "TickArenaModel" 23 7 5 (.array .int) := ⟨TC_Mo, 24, rfl, cf_Mo, by decide, rfl, by decide +kernel, rfl, by decide, mm_mw (i := 770) (by decide +kernel) (by decide +kernel)⟩
theorem fl_Mo_26 : mm_FL "TickArenaModel" 26 7 6 (.array .int) true := ⟨"TickArenaModel", TC_Mo, 24, rfl, cf_Mo, by decide, rfl, by decide +kernel, rfl, by decide, Or.inl (mm_mw (i := 771) (by decide +kernel) (by decide +kernel))⟩
theorem ff_Mo_26 : mm_FLF "TickArenaModel" 26 7 6 (.array .int) := ⟨TC_Mo, 24, rfl, cf_Mo, by decide, rfl, by decide +kernel, rfl, by decide, mm_mw (i := 771) (by decide +kernel) (by decide +kernel)⟩
theorem fl_Mo_29 : mm_FL "TickArenaModel" 29 7 7 (.array .int) true := ⟨"TickArenaModel", TC_Mo, 24, rfl, cf_Mo, by decide, rfl, by decide +kernel, rfl, by decide, Or.inl (mm_mw (i := 772) (by decide +kernel) (by decide +kernel))⟩
theorem ff_Mo_29 : mm_FLF "TickArenaModel" 29 7 7 (.array .int) := ⟨TC_Mo, 24, rfl, cf_Mo, by decide, rfl, by decide +kernel, rfl, by decide, mm_mw (i := 772) (by decide +kernel) (by decide +kernel)⟩
theorem fl_Mo_32 : mm_FL "TickArenaModel" 32 7 8 (.array .int) true := ⟨"TickArenaModel", TC_Mo, 24, rfl, cf_Mo, by decide, rfl, by decide +kernel, rfl, by decide, Or.inl (mm_mw (i := 773) (by decide +kernel) (by decide +kernel))⟩
theorem ff_Mo_32 : mm_FLF "TickArenaModel" 32 7 8 (.array .int) := ⟨TC_Mo, 24, rfl, cf_Mo, by decide, rfl, by decide +kernel, rfl, by decide, mm_mw (i := 773) (by decide +kernel) (by decide +kernel)⟩
theorem fl_Mo_35 : mm_FL "TickArenaModel" 35 7 9 (.array .int) true := ⟨"TickArenaModel", TC_Mo, 24, rfl, cf_Mo, by decide, rfl, by decide +kernel, rfl, by decide, Or.inl (mm_mw (i := 774) (by decide +kernel) (by decide +kernel))⟩
theorem ff_Mo_35 : mm_FLF "TickArenaModel" 35 7 9 (.array .int) := ⟨TC_Mo, 24, rfl, cf_Mo, by decide, rfl, by decide +kernel, rfl, by decide, mm_mw (i := 774) (by decide +kernel) (by decide +kernel)⟩
theorem fl_Mo_38 : mm_FL "TickArenaModel" 38 7 10 (.array .int) true := ⟨"TickArenaModel", TC_Mo, 24, rfl, cf_Mo, by decide, rfl, by decide +kernel, rfl, by decide, Or.inl (mm_mw (i := 775) (by decide +kernel) (by decide +kernel))⟩
theorem ff_Mo_38 : mm_FLF "TickArenaModel" 38 7 10 (.array .int) := ⟨TC_Mo, 24, rfl, cf_Mo, by decide, rfl, by decide +kernel, rfl, by decide, mm_mw (i := 775) (by decide +kernel) (by decide +kernel)⟩
theorem fl_Mo_41 : mm_FL "TickArenaModel" 41 7 11 (.array .boolean) true := ⟨"TickArenaModel", TC_Mo, 24, rfl, cf_Mo, by decide, rfl, by decide +kernel, rfl, by decide, Or.inl (mm_mw (i := 776) (by decide +kernel) (by decide +kernel))⟩
theorem ff_Mo_41 : mm_FLF "TickArenaModel" 41 7 11 (.array .boolean) := ⟨TC_Mo, 24, rfl, cf_Mo, by decide, rfl, by decide +kernel, rfl, by decide, mm_mw (i := 776) (by decide +kernel) (by decide +kernel)⟩
theorem fl_Mo_44 : mm_FL "TickArenaModel" 44 7 12 (.array .int) true := ⟨"TickArenaModel", TC_Mo, 24, rfl, cf_Mo, by decide, rfl, by decide +kernel, rfl, by decide, Or.inl (mm_mw (i := 777) (by decide +kernel) (by decide +kernel))⟩
theorem ff_Mo_44 : mm_FLF "TickArenaModel" 44 7 12 (.array .int) := ⟨TC_Mo, 24, rfl, cf_Mo, by decide, rfl, by decide +kernel, rfl, by decide, mm_mw (i := 777) (by decide +kernel) (by decide +kernel)⟩
theorem fl_Mo_47 : mm_FL "TickArenaModel" 47 7 13 (.array .int) true := ⟨"TickArenaModel", TC_Mo, 24, rfl, cf_Mo, by decide, rfl, by decide +kernel, rfl, by decide, Or.inl (mm_mw (i := 778) (by decide +kernel) (by decide +kernel))⟩
theorem ff_Mo_47 : mm_FLF "TickArenaModel" 47 7 13 (.array .int) := ⟨TC_Mo, 24, rfl, cf_Mo, by decide, rfl, by decide +kernel, rfl, by decide, mm_mw (i := 778) (by decide +kernel) (by decide +kernel)⟩
theorem fl_Mo_50 : mm_FL "TickArenaModel" 50 7 14 (.array .int) true := ⟨"TickArenaModel", TC_Mo, 24, rfl, cf_Mo, by decide, rfl, by decide +kernel, rfl, by decide, Or.inl (mm_mw (i := 779) (by decide +kernel) (by decide +kernel))⟩
theorem ff_Mo_50 : mm_FLF "TickArenaModel" 50 7 14 (.array .int) := ⟨TC_Mo, 24, rfl, cf_Mo, by decide, rfl, by decide +kernel, rfl, by decide, mm_mw (i := 779) (by decide +kernel) (by decide +kernel)⟩
theorem fl_Mo_53 : mm_FL "TickArenaModel" 53 7 15 (.array .int) true := ⟨"TickArenaModel", TC_Mo, 24, rfl, cf_Mo, by decide, rfl, by decide +kernel, rfl, by decide, Or.inl (mm_mw (i := 780) (by decide +kernel) (by decide +kernel))⟩
theorem ff_Mo_53 : mm_FLF "TickArenaModel" 53 7 15 (.array .int) := ⟨TC_Mo, 24, rfl, cf_Mo, by decide, rfl, by decide +kernel, rfl, by decide, mm_mw (i := 780) (by decide +kernel) (by decide +kernel)⟩
theorem fl_Mo_56 : mm_FL "TickArenaModel" 56 7 17 (.array .int) true := ⟨"TickArenaModel", TC_Mo, 24, rfl, cf_Mo, by decide, rfl, by decide +kernel, rfl, by decide, Or.inl (mm_mw (i := 782) (by decide +kernel) (by decide +kernel))⟩
theorem ff_Mo_56 : mm_FLF "TickArenaModel" 56 7 17 (.array .int) := ⟨TC_Mo, 24, rfl, cf_Mo, by decide, rfl, by decide +kernel, rfl, by decide, mm_mw (i := 782) (by decide +kernel) (by decide +kernel)⟩
theorem fl_Mo_59 : mm_FL "TickArenaModel" 59 7 19 (.array .int) true := ⟨"TickArenaModel", TC_Mo, 24, rfl, cf_Mo, by decide, rfl, by decide +kernel, rfl, by decide, Or.inl (mm_mw (i := 784) (by decide +kernel) (by decide +kernel))⟩
theorem ff_Mo_59 : mm_FLF "TickArenaModel" 59 7 19 (.array .int) := ⟨TC_Mo, 24, rfl, cf_Mo, by decide, rfl, by decide +kernel, rfl, by decide, mm_mw (i := 784) (by decide +kernel) (by decide +kernel)⟩
theorem fl_Mo_62 : mm_FL "TickArenaModel" 62 7 21 (.array .int) true := ⟨"TickArenaModel", TC_Mo, 24, rfl, cf_Mo, by decide, rfl, by decide +kernel, rfl, by decide, Or.inl (mm_mw (i := 786) (by decide +kernel) (by decide +kernel))⟩
theorem ff_Mo_62 : mm_FLF "TickArenaModel" 62 7 21 (.array .int) := ⟨TC_Mo, 24, rfl, cf_Mo, by decide, rfl, by decide +kernel, rfl, by decide, mm_mw (i := 786) (by decide +kernel) (by decide +kernel)⟩
theorem li_Mo_65 : mm_LI "TickArenaModel" 65 M_Mo_save.1 := Or.inl (mm_mw (i := 753) (by decide +kernel) (by decide +kernel))
theorem fl_Mo_69 : mm_FL "TickArenaModel" 69 7 0 .int false := ⟨"TickArenaModel", TC_Mo, 24, rfl, cf_Mo, by decide, rfl, by decide +kernel, rfl, by decide, Or.inl (mm_mw (i := 765) (by decide +kernel) (by decide +kernel))⟩
theorem lc_Mo_73 : Jvm.Cond.constant "TickArenaModel" 73 65535 ∈ mm_WS := mm_mw (i := 891) (by decide +kernel) (by decide +kernel)
theorem li_Mo_74 : mm_LI "TickArenaModel" 74 M_Mo_near.1 := Or.inl (mm_mw (i := 896) (by decide +kernel) (by decide +kernel))
theorem lc_Mo_78 : Jvm.Cond.constant "TickArenaModel" 78 2147483647 ∈ mm_WS := mm_mw (i := 886) (by decide +kernel) (by decide +kernel)
theorem li_Mo_79 : mm_LI "TickArenaModel" 79 M_Mo_remove.1 := Or.inl (mm_mw (i := 887) (by decide +kernel) (by decide +kernel))
theorem li_Mo_83 : mm_LI "TickArenaModel" 83 M_Mo_overlap.1 := Or.inl (mm_mw (i := 892) (by decide +kernel) (by decide +kernel))
theorem li_Mo_87 : mm_LI "TickArenaModel" 87 M_Mo_note.1 := Or.inl (mm_mw (i := 899) (by decide +kernel) (by decide +kernel))
theorem li_Mo_91 : mm_LI "TickArenaModel" 91 M_Mo_step.1 := Or.inl (mm_mw (i := 882) (by decide +kernel) (by decide +kernel))
theorem li_Mo_94 : mm_LI "TickArenaModel" 94 M_Mo_emptySlot.1 := Or.inl (mm_mw (i := 846) (by decide +kernel) (by decide +kernel))
theorem li_Mo_98 : mm_LI "TickArenaModel" 98 M_Mo_make.1 := Or.inl (mm_mw (i := 854) (by decide +kernel) (by decide +kernel))
theorem li_Mo_102 : mm_LI "TickArenaModel" 102 M_Mo_seek.1 := Or.inl (mm_mw (i := 866) (by decide +kernel) (by decide +kernel))
theorem li_Mo_106 : mm_LI "TickArenaModel" 106 M_Mo_fits.1 := Or.inl (mm_mw (i := 870) (by decide +kernel) (by decide +kernel))
theorem lc_Mo_109 : Jvm.Cond.constant "TickArenaModel" 109 60000 ∈ mm_WS := mm_mw (i := 873) (by decide +kernel) (by decide +kernel)
theorem fl_Mo_110 : mm_FL "TickArenaModel" 110 7 18 .int false := ⟨"TickArenaModel", TC_Mo, 24, rfl, cf_Mo, by decide, rfl, by decide +kernel, rfl, by decide, Or.inl (mm_mw (i := 783) (by decide +kernel) (by decide +kernel))⟩
theorem li_Mo_113 : mm_LI "TickArenaModel" 113 M_Mo_add.1 := Or.inl (mm_mw (i := 850) (by decide +kernel) (by decide +kernel))
theorem li_Mo_116 : mm_LI "TickArenaModel" 116 M_Mo_addHandle.1 := Or.inl (mm_mw (i := 874) (by decide +kernel) (by decide +kernel))
theorem li_Mo_119 : mm_LI "TickArenaModel" 119 M_Mo_act.1 := Or.inl (mm_mw (i := 878) (by decide +kernel) (by decide +kernel))
theorem li_Mo_123 : mm_LI "TickArenaModel" 123 M_Mo_allowed.1 := Or.inl (mm_mw (i := 862) (by decide +kernel) (by decide +kernel))
theorem fl_Mo_126 : mm_FL "TickArenaModel" 126 7 20 .int false := ⟨"TickArenaModel", TC_Mo, 24, rfl, cf_Mo, by decide, rfl, by decide +kernel, rfl, by decide, Or.inl (mm_mw (i := 785) (by decide +kernel) (by decide +kernel))⟩
theorem li_Mo_129 : mm_LI "TickArenaModel" 129 M_Mo_write.1 := Or.inl (mm_mw (i := 761) (by decide +kernel) (by decide +kernel))
theorem li_Mo_133 : mm_LI "TickArenaModel" 133 M_Mo_writeWorld.1 := Or.inl (mm_mw (i := 757) (by decide +kernel) (by decide +kernel))
theorem fl_Mo_136 : mm_FL "TickArenaModel" 136 7 16 .int false := ⟨"TickArenaModel", TC_Mo, 24, rfl, cf_Mo, by decide, rfl, by decide +kernel, rfl, by decide, Or.inl (mm_mw (i := 781) (by decide +kernel) (by decide +kernel))⟩
theorem fl_Mo_139 : mm_FL "TickArenaModel" 139 7 23 .boolean false := ⟨"TickArenaModel", TC_Mo, 24, rfl, cf_Mo, by decide, rfl, by decide +kernel, rfl, by decide, Or.inl (mm_mw (i := 788) (by decide +kernel) (by decide +kernel))⟩
theorem fl_Mo_143 : mm_FL "TickArenaModel" 143 7 22 .int false := ⟨"TickArenaModel", TC_Mo, 24, rfl, cf_Mo, by decide, rfl, by decide +kernel, rfl, by decide, Or.inl (mm_mw (i := 787) (by decide +kernel) (by decide +kernel))⟩
theorem li_Mo_146 : mm_LI "TickArenaModel" 146 M_Mo_read.1 := Or.inl (mm_mw (i := 956) (by decide +kernel) (by decide +kernel))
theorem li_Mo_149 : mm_LI "TickArenaModel" 149 M_Mo_readIn.1 := Or.inl (mm_mw (i := 952) (by decide +kernel) (by decide +kernel))
theorem li_Mo_153 : mm_LI "TickArenaModel" 153 M_Mo_readThing.1 := Or.inl (mm_mw (i := 960) (by decide +kernel) (by decide +kernel))
theorem li_Mo_156 : mm_LI "TickArenaModel" 156 M_Mo_restore.1 := Or.inl (mm_mw (i := 948) (by decide +kernel) (by decide +kernel))
theorem li_Mo_160 : mm_LI "TickArenaModel" 160 M_Mo_take.1 := Or.inl (mm_mw (i := 964) (by decide +kernel) (by decide +kernel))
theorem li_Mo_163 : mm_LI "TickArenaModel" 163 M_Mo_logged.1 := Or.inl (mm_mw (i := 976) (by decide +kernel) (by decide +kernel))
theorem li_Mo_166 : mm_LI "TickArenaModel" 166 M_Mo_entry.1 := Or.inl (mm_mw (i := 972) (by decide +kernel) (by decide +kernel))
theorem li_La_7 : mm_LI "TickArenaLaw" 7 M_Ta_create.1 := Or.inl (mm_mw (i := 269) (by decide +kernel) (by decide +kernel))
theorem li_La_19 : mm_LI "TickArenaLaw" 19 M_Ta_destroy.1 := Or.inl (mm_mw (i := 411) (by decide +kernel) (by decide +kernel))
theorem li_La_23 : mm_LI "TickArenaLaw" 23 M_Ta_speed.1 := Or.inl (mm_mw (i := 439) (by decide +kernel) (by decide +kernel))
theorem li_La_27 : mm_LI "TickArenaLaw" 27 M_Ta_shape.1 := Or.inl (mm_mw (i := 455) (by decide +kernel) (by decide +kernel))
theorem li_La_30 : mm_LI "TickArenaLaw" 30 M_Ta_timer.1 := Or.inl (mm_mw (i := 473) (by decide +kernel) (by decide +kernel))
theorem li_La_34 : mm_LI "TickArenaLaw" 34 M_Ta_tick.1 := Or.inl (mm_mw (i := 491) (by decide +kernel) (by decide +kernel))
theorem li_La_38 : mm_LI "TickArenaLaw" 38 M_Ta_event.1 := Or.inl (mm_mw (i := 547) (by decide +kernel) (by decide +kernel))
theorem li_La_43 : mm_LI "TickArenaLaw" 43 M_Ta_about.1 := Or.inl (mm_mw (i := 579) (by decide +kernel) (by decide +kernel))
theorem li_La_46 : mm_LI "TickArenaLaw" 46 M_Ta_handleOf.1 := Or.inl (mm_mw (i := 586) (by decide +kernel) (by decide +kernel))
theorem li_La_49 : mm_LI "TickArenaLaw" 49 M_Ta_under.1 := Or.inl (mm_mw (i := 594) (by decide +kernel) (by decide +kernel))
theorem li_La_52 : mm_LI "TickArenaLaw" 52 M_Ta_load.1 := Or.inl (mm_mw (i := 609) (by decide +kernel) (by decide +kernel))
theorem li_La_55 : mm_LI "TickArenaLaw" 55 M_Ta_replay.1 := Or.inl (mm_mw (i := 686) (by decide +kernel) (by decide +kernel))
theorem li_La_59 : mm_LI "TickArenaLaw" 59 M_Ta_at.1 := Or.inl (mm_mw (i := 735) (by decide +kernel) (by decide +kernel))
theorem li_La_63 : mm_LI "TickArenaLaw" 63 M_Ta_corrupt.1 := Or.inl (mm_mw (i := 743) (by decide +kernel) (by decide +kernel))
theorem nl_La_8 : mm_NL "TickArenaLaw" 8 6 4 := ⟨"TickArena", TC_Ta, rfl, cf_Ta, by decide, mm_mw (i := 16) (by decide +kernel) (by decide +kernel), mm_mw (i := 17) (by decide +kernel) (by decide +kernel), mm_mw (i := 1) (by decide +kernel) (by decide +kernel), fun k hk => ⟨(fun k => match k with | 0 => (.object "TickArena$World") | 1 => (.object "TickArena$World") | 2 => (.object "TickArena$StateBytes") | _ => (.object "TickArena$LogBytes")) k, (by decide +kernel : ∀ k, k < 4 → parseFieldDescriptor (TC_Ta k).2.2.1 = some ((fun k => match k with | 0 => (.object "TickArena$World") | 1 => (.object "TickArena$World") | 2 => (.object "TickArena$StateBytes") | _ => (.object "TickArena$LogBytes")) k)) k hk, (by decide +kernel : ∀ k, k < 4 → defaultValue ((fun k => match k with | 0 => (.object "TickArena$World") | 1 => (.object "TickArena$World") | 2 => (.object "TickArena$StateBytes") | _ => (.object "TickArena$LogBytes")) k) = if mm_isr 6 k = true then .null else .int 0) k hk⟩⟩
theorem li_La_67 : mm_LI "TickArenaLaw" 67 M_Ta_init.1 := Or.inl (mm_mw (i := 18) (by decide +kernel) (by decide +kernel))
theorem nl_La_68 : mm_NL "TickArenaLaw" 68 7 24 := ⟨"TickArenaModel", TC_Mo, rfl, cf_Mo, by decide, mm_mw (i := 747) (by decide +kernel) (by decide +kernel), mm_mw (i := 748) (by decide +kernel) (by decide +kernel), mm_mw (i := 8) (by decide +kernel) (by decide +kernel), fun k hk => ⟨(fun k => match k with | 0 => .int | 1 => (.array .int) | 2 => (.array .int) | 3 => (.array .boolean) | 4 => (.array .int) | 5 => (.array .int) | 6 => (.array .int) | 7 => (.array .int) | 8 => (.array .int) | 9 => (.array .int) | 10 => (.array .int) | 11 => (.array .boolean) | 12 => (.array .int) | 13 => (.array .int) | 14 => (.array .int) | 15 => (.array .int) | 16 => .int | 17 => (.array .int) | 18 => .int | 19 => (.array .int) | 20 => .int | 21 => (.array .int) | 22 => .int | _ => .boolean) k, (by decide +kernel : ∀ k, k < 24 → parseFieldDescriptor (TC_Mo k).2.2.1 = some ((fun k => match k with | 0 => .int | 1 => (.array .int) | 2 => (.array .int) | 3 => (.array .boolean) | 4 => (.array .int) | 5 => (.array .int) | 6 => (.array .int) | 7 => (.array .int) | 8 => (.array .int) | 9 => (.array .int) | 10 => (.array .int) | 11 => (.array .boolean) | 12 => (.array .int) | 13 => (.array .int) | 14 => (.array .int) | 15 => (.array .int) | 16 => .int | 17 => (.array .int) | 18 => .int | 19 => (.array .int) | 20 => .int | 21 => (.array .int) | 22 => .int | _ => .boolean) k)) k hk, (by decide +kernel : ∀ k, k < 24 → defaultValue ((fun k => match k with | 0 => .int | 1 => (.array .int) | 2 => (.array .int) | 3 => (.array .boolean) | 4 => (.array .int) | 5 => (.array .int) | 6 => (.array .int) | 7 => (.array .int) | 8 => (.array .int) | 9 => (.array .int) | 10 => (.array .int) | 11 => (.array .boolean) | 12 => (.array .int) | 13 => (.array .int) | 14 => (.array .int) | 15 => (.array .int) | 16 => .int | 17 => (.array .int) | 18 => .int | 19 => (.array .int) | 20 => .int | 21 => (.array .int) | 22 => .int | _ => .boolean) k) = if mm_isr 7 k = true then .null else .int 0) k hk⟩⟩
theorem li_La_70 : mm_LI "TickArenaLaw" 70 M_Mo_init.1 := Or.inl (mm_mw (i := 749) (by decide +kernel) (by decide +kernel))
theorem li_La_71 : mm_LI "TickArenaLaw" 71 M_La_create.1 := Or.inl (mm_mw (i := 263) (by decide +kernel) (by decide +kernel))
theorem li_La_76 : mm_LI "TickArenaLaw" 76 M_Mo_create.1 := Or.inl (mm_mw (i := 842) (by decide +kernel) (by decide +kernel))
theorem li_La_77 : mm_LI "TickArenaLaw" 77 M_Mo_thrown.1 := Or.inl (mm_mw (i := 838) (by decide +kernel) (by decide +kernel))
theorem li_La_80 : mm_LI "TickArenaLaw" 80 M_La_destroy.1 := Or.inl (mm_mw (i := 408) (by decide +kernel) (by decide +kernel))
theorem li_La_83 : mm_LI "TickArenaLaw" 83 M_Mo_destroy.1 := Or.inl (mm_mw (i := 858) (by decide +kernel) (by decide +kernel))
theorem li_La_84 : mm_LI "TickArenaLaw" 84 M_La_speed.1 := Or.inl (mm_mw (i := 436) (by decide +kernel) (by decide +kernel))
theorem li_La_87 : mm_LI "TickArenaLaw" 87 M_Mo_speed.1 := Or.inl (mm_mw (i := 903) (by decide +kernel) (by decide +kernel))
theorem li_La_88 : mm_LI "TickArenaLaw" 88 M_La_shape.1 := Or.inl (mm_mw (i := 452) (by decide +kernel) (by decide +kernel))
theorem li_La_90 : mm_LI "TickArenaLaw" 90 M_Mo_shape.1 := Or.inl (mm_mw (i := 907) (by decide +kernel) (by decide +kernel))
theorem li_La_91 : mm_LI "TickArenaLaw" 91 M_La_timer.1 := Or.inl (mm_mw (i := 470) (by decide +kernel) (by decide +kernel))
theorem li_La_94 : mm_LI "TickArenaLaw" 94 M_Mo_timer.1 := Or.inl (mm_mw (i := 911) (by decide +kernel) (by decide +kernel))
theorem li_La_95 : mm_LI "TickArenaLaw" 95 M_La_tick.1 := Or.inl (mm_mw (i := 488) (by decide +kernel) (by decide +kernel))
theorem li_La_98 : mm_LI "TickArenaLaw" 98 M_Mo_tick.1 := Or.inl (mm_mw (i := 915) (by decide +kernel) (by decide +kernel))
theorem li_La_99 : mm_LI "TickArenaLaw" 99 M_La_event.1 := Or.inl (mm_mw (i := 543) (by decide +kernel) (by decide +kernel))
theorem li_La_101 : mm_LI "TickArenaLaw" 101 M_Mo_event.1 := Or.inl (mm_mw (i := 919) (by decide +kernel) (by decide +kernel))
theorem li_La_102 : mm_LI "TickArenaLaw" 102 M_Ta_good.1 := Or.inl (mm_mw (i := 227) (by decide +kernel) (by decide +kernel))
theorem li_La_106 : mm_LI "TickArenaLaw" 106 M_Mo_good.1 := Or.inl (mm_mw (i := 923) (by decide +kernel) (by decide +kernel))
theorem li_La_107 : mm_LI "TickArenaLaw" 107 M_La_about.1 := Or.inl (mm_mw (i := 576) (by decide +kernel) (by decide +kernel))
theorem li_La_109 : mm_LI "TickArenaLaw" 109 M_Mo_about.1 := Or.inl (mm_mw (i := 927) (by decide +kernel) (by decide +kernel))
theorem li_La_110 : mm_LI "TickArenaLaw" 110 M_La_handleOf.1 := Or.inl (mm_mw (i := 583) (by decide +kernel) (by decide +kernel))
theorem li_La_112 : mm_LI "TickArenaLaw" 112 M_Mo_handleOf.1 := Or.inl (mm_mw (i := 931) (by decide +kernel) (by decide +kernel))
theorem li_La_113 : mm_LI "TickArenaLaw" 113 M_La_under.1 := Or.inl (mm_mw (i := 591) (by decide +kernel) (by decide +kernel))
theorem li_La_115 : mm_LI "TickArenaLaw" 115 M_Mo_under.1 := Or.inl (mm_mw (i := 935) (by decide +kernel) (by decide +kernel))
theorem li_La_116 : mm_LI "TickArenaLaw" 116 M_Ta_clock.1 := Or.inl (mm_mw (i := 242) (by decide +kernel) (by decide +kernel))
theorem li_La_119 : mm_LI "TickArenaLaw" 119 M_Mo_clock.1 := Or.inl (mm_mw (i := 939) (by decide +kernel) (by decide +kernel))
theorem li_La_120 : mm_LI "TickArenaLaw" 120 M_Ta_save.1 := Or.inl (mm_mw (i := 246) (by decide +kernel) (by decide +kernel))
theorem li_La_123 : mm_LI "TickArenaLaw" 123 M_Mo_save.1 := Or.inl (mm_mw (i := 943) (by decide +kernel) (by decide +kernel))
theorem li_La_124 : mm_LI "TickArenaLaw" 124 M_La_load.1 := Or.inl (mm_mw (i := 606) (by decide +kernel) (by decide +kernel))
theorem li_La_127 : mm_LI "TickArenaLaw" 127 M_Mo_load.1 := Or.inl (mm_mw (i := 944) (by decide +kernel) (by decide +kernel))
theorem li_La_128 : mm_LI "TickArenaLaw" 128 M_La_replay.1 := Or.inl (mm_mw (i := 683) (by decide +kernel) (by decide +kernel))
theorem li_La_131 : mm_LI "TickArenaLaw" 131 M_Mo_replay.1 := Or.inl (mm_mw (i := 968) (by decide +kernel) (by decide +kernel))
theorem li_La_132 : mm_LI "TickArenaLaw" 132 M_Ta_size.1 := Or.inl (mm_mw (i := 255) (by decide +kernel) (by decide +kernel))
theorem li_La_136 : mm_LI "TickArenaLaw" 136 M_Mo_size.1 := Or.inl (mm_mw (i := 980) (by decide +kernel) (by decide +kernel))
theorem li_La_137 : mm_LI "TickArenaLaw" 137 M_La_at.1 := Or.inl (mm_mw (i := 732) (by decide +kernel) (by decide +kernel))
theorem li_La_140 : mm_LI "TickArenaLaw" 140 M_Mo_at.1 := Or.inl (mm_mw (i := 984) (by decide +kernel) (by decide +kernel))
theorem li_La_141 : mm_LI "TickArenaLaw" 141 M_La_corrupt.1 := Or.inl (mm_mw (i := 740) (by decide +kernel) (by decide +kernel))
theorem li_La_144 : mm_LI "TickArenaLaw" 144 M_Mo_corrupt.1 := Or.inl (mm_mw (i := 988) (by decide +kernel) (by decide +kernel))
theorem w_oi : Cond.instanceMethod objectInit ∈ mm_WS := mm_mw (i := 22) (by decide +kernel) (by decide +kernel)
theorem w_oc : Cond.code objectInit ⟨#[0xb1]⟩ 1 none ∈ mm_WS := mm_mw (i := 23) (by decide +kernel) (by decide +kernel)
theorem w_aint : Cond.arrayClass .int ∈ mm_WS := mm_mw (i := 52) (by decide +kernel) (by decide +kernel)
theorem w_aboolean : Cond.arrayClass .boolean ∈ mm_WS := mm_mw (i := 51) (by decide +kernel) (by decide +kernel)
theorem w_along : Cond.arrayClass .long ∈ mm_WS := mm_mw (i := 992) (by decide +kernel) (by decide +kernel)
theorem w_ao : Cond.arrayOver (.object mm_slotN) ∈ mm_WS := mm_mw (i := 31) (by decide +kernel) (by decide +kernel)
theorem w_cl_Wo_9 : Cond.classLink "TickArena$World" 9 mm_slotN ∈ mm_WS := mm_mw (i := 30) (by decide +kernel) (by decide +kernel)
