/-! CONTRACTS: the reference: restore: the tail when it is not sound (rows by program: con_rg.py) -/
set_option maxRecDepth 20000 in
theorem l_z65 {G : mm_G} {Q : mm_O → mm_H → Prop} {h : mm_H} {q9 : Int32} (hM : mm_Mo h) (F : mm_W) (h0 : F 52 23 = 0) (hq : ∀ F', mm_tfr F F' → Q (.inl (some (.int 0))) (mm_wi h F')) : mm_V G (3, 69) M_Mo_restore Q 65 [some (.ref 52), some (.int q9), some (.int (nI (16 * 1 + 16))), none, none] [] (mm_wi h F) := by
  refine mv_sipush (v := 256) (pc := 65) d_Mo_restore_65 (by decide) ?_
  refine mv_istore_n (pc := 68) d_Mo_restore_68 (by decide) ?_
  refine l_rstT hM F (fun F1 a1 a2 => ?_) 0 F (by omega) ⟨fun _ _ _ => rfl, fun k hk => absurd hk (by omega)⟩
  refine mv_aload_n (pc := 89) d_Mo_restore_89 rfl ?_
  refine mv_iconst (v := 1) (pc := 90) d_Mo_restore_90 (by decide) ?_
  refine mv_iconst (v := 0) (pc := 91) d_Mo_restore_91 (by decide) ?_
  refine mv_bipush (v := 120) (pc := 92) d_Mo_restore_92 (by decide) ?_
  refine mr_callV3 (pc := 94) d_Mo_restore_94 (d2 := (1, 23)) ok_Mo_readIn li_Mo_149 sv_Mo_readIn hM.1 ⟨by decide, rfl⟩ ⟨by decide, rfl, rfl, rfl, Nat.le_of_ble_eq_true rfl, rfl, by decide, by decide⟩ ?_
  refine c_mreadIn0 (h := mm_wi h F1) (n := 1) hM (by omega) ((a1 52 23 (by omega)).trans h0) (fun F2 r2 f2 => ?_)
  refine mv_istore_n (pc := 97) d_Mo_restore_97 (by decide) ?_
  refine mv_iconst (v := 0) (pc := 98) d_Mo_restore_98 (by decide) ?_
  refine mv_istore_n (pc := 99) d_Mo_restore_99 (by decide) ?_
  refine l_prx0 (c := 0) (n := 0) hM r2 (hq F2 (fun a k h1 h2 => (f2 a k h2).trans (a1 a k (by omega))))
