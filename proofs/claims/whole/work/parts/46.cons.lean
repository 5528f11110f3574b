/-! CONTRACTS: the reference: writeWorld, save (rows by program: con_s.py) -/
/-- bytes -/
def a_byt (l : List Int32) : Prop := ∀ b ∈ l, 0 ≤ b ∧ b ≤ 255
theorem a_byt.app {l r : List Int32} (h1 : a_byt l) (h2 : a_byt r) : a_byt (l ++ r) := fun b hb => (List.mem_append.mp hb).elim (h1 b) (h2 b)
theorem a_byt.nil : a_byt [] := fun _ h => by simp at h
theorem mm_and255 (x : Int32) : ∃ j, j < 256 ∧ x &&& 255 = nI j := pk_andE x (m := 255) 8 (by decide)
theorem mm_rng255 {j : Nat} (h : j < 256) : 0 ≤ nI j ∧ nI j ≤ 255 := ⟨nI_pos' (by omega), nI_le (b := 255) (by omega) (by decide)⟩
theorem mm_enc_byt (x : Int32) : ∀ n, a_byt (mm_enc x n)
  | 0 => a_byt.nil
  | n + 1 => by
    intro b hb
    rcases List.mem_cons.mp hb with rfl | hb
    · obtain ⟨j, hj, e⟩ := mm_and255 (x >>> (nI (8 * n) &&& 31))
      rw [e]; exact mm_rng255 hj
    · exact mm_enc_byt x n b hb
theorem a_encR_byt (f : Nat → Int32) : a_byt (a_encR f) := by
  unfold a_encR
  have e := mm_enc_byt
  refine ((e _ _).app (e _ _)).app ?_
  split
  · exact a_byt.nil
  · refine (((((e _ _).app (e _ _)).app (e _ _)).app (e _ _)).app ?_).app ?_
    · split
      · exact (e _ _).app (e _ _)
      · exact a_byt.nil
    · split
      · exact e _ _
      · exact a_byt.nil
theorem a_sls_byt (A : mm_W) : ∀ n, a_byt (a_sls A n)
  | 0 => a_byt.nil
  | n + 1 => (a_sls_byt A n).app (a_encR_byt _)
theorem a_prs_byt (T : Nat → Int32) : ∀ n, a_byt (a_prs T n)
  | 0 => a_byt.nil
  | n + 1 => by
    refine (a_prs_byt T n).app ?_
    split
    · exact a_byt.nil
    · exact mm_enc_byt _ _
theorem a_body_byt (A : mm_W) : a_byt (a_body A) := ((((mm_enc_byt _ _).app (mm_enc_byt _ _)).app (a_sls_byt A 16)).app (mm_enc_byt _ _)).app (a_prs_byt _ 256)
theorem a_byt.get {l : List Int32} (h : a_byt l) (j : Nat) : ∃ v, v < 256 ∧ l.getD j 0 = nI v := by
  have key : ∀ b : Int32, 0 ≤ b ∧ b ≤ 255 → ∃ v, v < 256 ∧ b = nI v := fun b hb => by
    obtain ⟨v, hv, e⟩ := nI_of2 (x := b) (M := 255) (n := 255) (by decide) (Int32.not_lt.mpr hb.1) hb.2
    exact ⟨v, by omega, e⟩
  rw [List.getD_eq_getElem?_getD]
  cases hc : l[j]? with
  | none => exact ⟨0, by omega, rfl⟩
  | some b => exact key b (h b (List.mem_of_getElem? hc))
theorem mm_251 {a b : Nat} (ha : a < 251) (hb : b < 256) : nI a + nI b - (nI a + nI b) / 251 * 251 = nI ((a + b) % 251) := by
  rw [nI_add]; exact pk_rem (d := 251) (by omega) (by decide) (by decide)
theorem mm_chk {bs : List Int32} (h : a_byt bs) : ∀ n, (∃ c, c < 251 ∧ mm_chc bs n = nI c) ∧ ∃ d, d < 251 ∧ mm_chd bs n = nI d
  | 0 => ⟨⟨1, by omega, rfl⟩, ⟨0, by omega, rfl⟩⟩
  | n + 1 => by
    obtain ⟨⟨c, hc, ec⟩, ⟨d, hd, ed⟩⟩ := mm_chk h n
    obtain ⟨v, hv, ev⟩ := h.get n
    have e1 : mm_chc bs (n + 1) = nI ((c + v) % 251) := by
      show (mm_chc bs n + bs.getD n 0) - (mm_chc bs n + bs.getD n 0) / 251 * 251 = _
      rw [ec, ev]; exact mm_251 hc hv
    refine ⟨⟨_, Nat.mod_lt _ (by decide), e1⟩, ⟨(d + (c + v) % 251) % 251, Nat.mod_lt _ (by decide), ?_⟩⟩
    show (mm_chd bs n + mm_chc bs (n + 1)) - (mm_chd bs n + mm_chc bs (n + 1)) / 251 * 251 = _
    rw [e1, ed]; exact mm_251 hd (by have := Nat.mod_lt (c + v) (show 0 < 251 by decide); omega)
theorem mm_pk8 {c d : Nat} (hc : c < 256) (hd : d < 256) : ((nI d <<< ((8 : Int32) &&& 31)) ||| nI c) = nI (d * 256 + c) := by
  have e0 : nI d <<< ((8 : Int32) &&& 31) = nI (d * 256) := pk_shlN ((8 : Int32) &&& 31) 8 (by decide) (by omega)
  have e : d * 256 ||| c = d * 256 + c := by
    have := Nat.two_pow_add_eq_or_of_lt (i := 8) hc d
    rw [Nat.mul_comm d 256]
    exact this.symm
  rw [e0]
  apply Int32.toBitVec_inj.mp
  rw [Int32.toBitVec_or]
  show BitVec.ofNat 32 (d * 256) ||| BitVec.ofNat 32 c = BitVec.ofNat 32 (d * 256 + c)
  rw [← BitVec.ofNat_or, e]
theorem mm_chk2 {c d : Nat} (hc : c < 256) (hd : d < 256) : mm_enc ((nI d <<< ((8 : Int32) &&& 31)) ||| nI c) 2 = mm_enc (nI d) 1 ++ mm_enc (nI c) 1 := by
  have a1 : ∀ n, n < 2 ^ 31 → nI n &&& 255 = nI (n % 256) := fun n hn => pk_andN (m := 255) (by omega) 8 (by decide)
  rw [mm_pk8 hc hd, mm_e1, mm_e1, mm_e2, pk_shrN (n := d * 256 + c) (by omega) ((8 : Int32) &&& 31) 8 (by decide), a1 _ (by omega), a1 _ (by omega), a1 _ (by omega), a1 _ (by omega)]
  rw [show (d * 256 + c) / 2 ^ 8 % 256 = d % 256 by omega, show (d * 256 + c) % 256 = c % 256 by omega]
  rfl
theorem a_encW_eq (A : mm_W) : a_encW A = a_body A ++ mm_enc (mm_chd (a_body A) (a_body A).length) 1 ++ mm_enc (mm_chc (a_body A) (a_body A).length) 1 := by
  obtain ⟨⟨c, hc, ec⟩, ⟨d, hd, ed⟩⟩ := mm_chk (a_body_byt A) (a_body A).length
  unfold a_encW
  rw [ec, ed, mm_chk2 (by omega) (by omega), List.append_assoc]
theorem a_cnt_le (T : Nat → Int32) : ∀ n, a_cnt T n ≤ n
  | 0 => Nat.le_refl _
  | n + 1 => by
    have := a_cnt_le T n
    simp only [a_cnt]
    split <;> omega
set_option maxRecDepth 20000 in
theorem l_ww4 {G : mm_G} {Q : mm_O → mm_H → Prop} {h : mm_H} {k : Nat} (hk : k < 2) {A : mm_W} {q : Int32} {ds : List Int32} (hM : mm_Mo h) (F0 F : mm_W) (R0 : RM F k A) (t0 : mm_dfr F0 F) (hD : DR F ds) (hl : ds.length + 2 ≤ 600) (hq : ∀ F', DR F' (ds ++ mm_enc (mm_chd ds ds.length) 1 ++ mm_enc (mm_chc ds ds.length) 1) → mm_dfr F0 F' → Q (.inl none) (mm_wi h F')) :
    ∀ (j : Nat) (_ : Unit), j ≤ ds.length → True → mm_V G (1, 23) M_Mo_writeWorld Q 311 [some (.ref 52), some (.int (nI k)), some (.int (q)), some (.int (mm_chc ds j)), some (.int (mm_chd ds j)), some (.int (nI j))] [] (mm_wi h F) := by
  refine mr_loop _ _ ds.length (fun _ _ => ?_) (fun j _ hj _ ih => ?_)
  · refine mv_iload (pc := 311) d_Mo_writeWorld_311 rfl ?_
    refine mv_aload_n (pc := 313) d_Mo_writeWorld_313 rfl ?_
    refine mr_geti (pc := 314) d_Mo_writeWorld_314 fl_Mo_126 hM.1 rfl (by decide) ?_
    rw [show mm_gi (mm_wi h F) 52 20 = nI ds.length from hD.1]
    refine mv_ic_ge 350 (pc := 317) d_Mo_writeWorld_317 (by decide) (fun h317 => ?_) (fun z => absurd z (fun z => z (nI_le (by omega) (by omega))))
    refine mv_aload_n (pc := 350) d_Mo_writeWorld_350 rfl ?_
    refine mv_iload (pc := 351) d_Mo_writeWorld_351 rfl ?_
    refine mv_iconst (v := 1) (pc := 353) d_Mo_writeWorld_353 (by decide) ?_
    refine mr_callV2 (pc := 354) d_Mo_writeWorld_354 (d2 := (0, 0)) ok_Mo_write li_Mo_129 sv_Mo_write hM.1 ⟨by decide, rfl⟩ ⟨by decide, rfl, rfl, Nat.le_of_ble_eq_true rfl, rfl, by decide, by decide⟩ ?_
    refine c_mwrite (h := mm_wi h F) (n := 1) hM (by omega) hD (by omega) (fun F1 d1 f1 => ?_)
    refine mv_aload_n (pc := 357) d_Mo_writeWorld_357 rfl ?_
    refine mv_iload_n (pc := 358) d_Mo_writeWorld_358 rfl ?_
    refine mv_iconst (v := 1) (pc := 359) d_Mo_writeWorld_359 (by decide) ?_
    refine mr_callV2 (pc := 360) d_Mo_writeWorld_360 (d2 := (0, 0)) ok_Mo_write li_Mo_129 sv_Mo_write hM.1 ⟨by decide, rfl⟩ ⟨by decide, rfl, rfl, Nat.le_of_ble_eq_true rfl, rfl, by decide, by decide⟩ ?_
    refine c_mwrite (h := mm_wi h F1) (n := 1) hM (by omega) d1 (by simp only [List.length_append, mm_enc_len]; omega) (fun F2 d2 f2 => ?_)
    refine mv_ret (pc := 363) d_Mo_writeWorld_363 rfl ?_
    exact hq F2 d2 ((t0.trans f1).trans f2)
  · refine mv_iload (pc := 311) d_Mo_writeWorld_311 rfl ?_
    refine mv_aload_n (pc := 313) d_Mo_writeWorld_313 rfl ?_
    refine mr_geti (pc := 314) d_Mo_writeWorld_314 fl_Mo_126 hM.1 rfl (by decide) ?_
    rw [show mm_gi (mm_wi h F) 52 20 = nI ds.length from hD.1]
    refine mv_ic_ge 350 (pc := 317) d_Mo_writeWorld_317 (by decide) (fun z => absurd z (nI_ge (by omega) (by omega))) (fun h317 => ?_)
    refine mv_iload_n (pc := 320) d_Mo_writeWorld_320 rfl ?_
    refine mv_aload_n (pc := 321) d_Mo_writeWorld_321 rfl ?_
    refine mr_getr (pc := 322) d_Mo_writeWorld_322 fl_Mo_62 hM.1 rfl (by decide) hM.g_draft ?_
    refine mv_iload (pc := 325) d_Mo_writeWorld_325 rfl ?_
    refine mr_iald (pc := 327) d_Mo_writeWorld_327 hM.a_draft (mm_inN (by omega) (by decide)) ?_
    rw [mm_cl (by omega), show mm_gi (mm_wi h F) 70 j = ds.getD j 0 from hD.2 j hj]
    refine mv_iadd (pc := 328) d_Mo_writeWorld_328 ?_
    refine mv_sipush (v := 251) (pc := 329) d_Mo_writeWorld_329 (by decide) ?_
    refine mv_irem (pc := 332) d_Mo_writeWorld_332 (by decide) ?_
    refine mv_istore_n (pc := 333) d_Mo_writeWorld_333 (by decide) ?_
    refine mv_iload (pc := 334) d_Mo_writeWorld_334 rfl ?_
    refine mv_iload_n (pc := 336) d_Mo_writeWorld_336 rfl ?_
    refine mv_iadd (pc := 337) d_Mo_writeWorld_337 ?_
    refine mv_sipush (v := 251) (pc := 338) d_Mo_writeWorld_338 (by decide) ?_
    refine mv_irem (pc := 341) d_Mo_writeWorld_341 (by decide) ?_
    refine mv_istore (pc := 342) d_Mo_writeWorld_342 (by decide) ?_
    refine mv_iinc (pc := 344) d_Mo_writeWorld_344 rfl rfl (by decide) ?_
    refine mv_goto 311 (pc := 347) d_Mo_writeWorld_347 (by decide) ?_
    refine mm_V_ls (ls' := [some (.ref 52), some (.int (nI k)), some (.int (q)), some (.int (mm_chc ds (j + 1))), some (.int (mm_chd ds (j + 1))), some (.int (nI (j + 1)))]) (by simp only [List.set]; rw [nI_succ]; rfl) (ih () trivial)
set_option maxRecDepth 20000 in
theorem l_ww3 {G : mm_G} {Q : mm_O → mm_H → Prop} {h : mm_H} {k : Nat} (hk : k < 2) {A : mm_W} {q : Int32} {ds : List Int32} (hM : mm_Mo h) (F0 : mm_W) (R0 : RM F0 k A) (hl : ds.length + 258 ≤ 600) (hq : ∀ F', DR F' ((ds ++ a_prs (A 9) 256) ++ mm_enc (mm_chd (ds ++ a_prs (A 9) 256) (ds ++ a_prs (A 9) 256).length) 1 ++ mm_enc (mm_chc (ds ++ a_prs (A 9) 256) (ds ++ a_prs (A 9) 256).length) 1) → mm_dfr F0 F' → Q (.inl none) (mm_wi h F')) :
    ∀ (p : Nat) (F : mm_W), p ≤ 256 → DR F (ds ++ a_prs (A 9) p) ∧ mm_dfr F0 F → mm_V G (1, 23) M_Mo_writeWorld Q 269 [some (.ref 52), some (.int (nI k)), some (.int (q)), some (.int (nI p)), none, none] [] (mm_wi h F) := by
  refine mr_loop _ _ 256 (fun F hI => ?_) (fun p F hp hI ih => ?_)
  · refine mv_iload_n (pc := 269) d_Mo_writeWorld_269 rfl ?_
    refine mv_sipush (v := 256) (pc := 270) d_Mo_writeWorld_270 (by decide) ?_
    refine mv_ic_ge 303 (pc := 273) d_Mo_writeWorld_273 (by decide) (fun h273 => ?_) (fun z => absurd z (mm_ge256))
    refine mv_iconst (v := 1) (pc := 303) d_Mo_writeWorld_303 (by decide) ?_
    refine mv_istore_n (pc := 304) d_Mo_writeWorld_304 (by decide) ?_
    refine mv_iconst (v := 0) (pc := 305) d_Mo_writeWorld_305 (by decide) ?_
    refine mv_istore (pc := 306) d_Mo_writeWorld_306 (by decide) ?_
    refine mv_iconst (v := 0) (pc := 308) d_Mo_writeWorld_308 (by decide) ?_
    refine mv_istore (pc := 309) d_Mo_writeWorld_309 (by decide) ?_
    have hl2 : (ds ++ a_prs (A 9) 256).length + 2 ≤ 600 := by rw [List.length_append, a_prs_len]; have := a_cnt_le (A 9) 256; omega
    exact l_ww4 hk hM F0 F (R0.dfr hI.2) hI.2 hI.1 hl2 hq 0 () (by omega) trivial
  · have R1 := R0.dfr hI.2
    have hc := a_cnt_le (A 9) p
    refine mv_iload_n (pc := 269) d_Mo_writeWorld_269 rfl ?_
    refine mv_sipush (v := 256) (pc := 270) d_Mo_writeWorld_270 (by decide) ?_
    refine mv_ic_ge 303 (pc := 273) d_Mo_writeWorld_273 (by decide) (fun z => absurd z (mm_lt256 hp)) (fun h273 => ?_)
    refine mv_aload_n (pc := 276) d_Mo_writeWorld_276 rfl ?_
    refine mr_getr (pc := 277) d_Mo_writeWorld_277 fl_Mo_41 hM.1 rfl (by decide) hM.g_touch ?_
    refine mv_sipush (v := 256) (pc := 280) d_Mo_writeWorld_280 (by decide) ?_
    refine mv_iload_n (pc := 283) d_Mo_writeWorld_283 rfl ?_
    refine mv_imul (pc := 284) d_Mo_writeWorld_284 ?_
    refine mv_iload_n (pc := 285) d_Mo_writeWorld_285 rfl ?_
    refine mv_iadd (pc := 286) d_Mo_writeWorld_286 ?_
    rw [mm_256, nI_add]
    refine mr_zald (pc := 287) d_Mo_writeWorld_287 hM.a_touch (mm_inN (by omega) (by decide)) ?_
    rw [mm_cl (by omega), show mm_gi (mm_wi h F) 63 (256 * k + p) = A 9 p from R1.2.2 p hp]
    refine mv_if_eq 297 (pc := 288) d_Mo_writeWorld_288 (by decide) (fun h288 => ?_) (fun h288 => ?_)
    · refine mv_iinc (pc := 297) d_Mo_writeWorld_297 rfl rfl (by decide) ?_
      refine mv_goto 269 (pc := 300) d_Mo_writeWorld_300 (by decide) ?_
      refine mm_V_ls (ls' := [some (.ref 52), some (.int (nI k)), some (.int (q)), some (.int (nI (p + 1))), none, none]) (by simp only [List.set]; rw [nI_succ]; rfl) (ih F ⟨?_, hI.2⟩)
      rw [show a_prs (A 9) (p + 1) = a_prs (A 9) p by simp [a_prs, h288]]
      exact hI.1
    · refine mv_aload_n (pc := 291) d_Mo_writeWorld_291 rfl ?_
      refine mv_iload_n (pc := 292) d_Mo_writeWorld_292 rfl ?_
      refine mv_iconst (v := 1) (pc := 293) d_Mo_writeWorld_293 (by decide) ?_
      refine mr_callV2 (pc := 294) d_Mo_writeWorld_294 (d2 := (0, 0)) ok_Mo_write li_Mo_129 sv_Mo_write hM.1 ⟨by decide, rfl⟩ ⟨by decide, rfl, rfl, Nat.le_of_ble_eq_true rfl, rfl, by decide, by decide⟩ ?_
      refine c_mwrite (h := mm_wi h F) (n := 1) hM (by omega) hI.1 (by rw [List.length_append, a_prs_len]; omega) (fun F1 d1 f1 => ?_)
      refine mv_iinc (pc := 297) d_Mo_writeWorld_297 rfl rfl (by decide) ?_
      refine mv_goto 269 (pc := 300) d_Mo_writeWorld_300 (by decide) ?_
      refine mm_V_ls (ls' := [some (.ref 52), some (.int (nI k)), some (.int (q)), some (.int (nI (p + 1))), none, none]) (by simp only [List.set]; rw [nI_succ]; rfl) (ih F1 ⟨?_, hI.2.trans f1⟩)
      rw [show a_prs (A 9) (p + 1) = a_prs (A 9) p ++ mm_enc (nI p) 1 by simp [a_prs, h288], ← List.append_assoc]
      exact d1
theorem mm_p256 (k : Nat) : nI k + 256 = nI (k + 256) := nI_add k 256
set_option maxRecDepth 20000 in
theorem l_ww2 {G : mm_G} {Q : mm_O → mm_H → Prop} {h : mm_H} {k : Nat} (hk : k < 2) {A : mm_W} (hM : mm_Mo h) (F : mm_W) (R0 : RM F k A) (hq : mm_V G (1, 23) M_Mo_writeWorld Q 261 [some (.ref 52), some (.int (nI k)), some (.int (nI (a_cnt (A 9) 256))), some (.int (nI (256 * k + 256))), none, none] [] (mm_wi h F)) :
    ∀ (p : Nat) (_ : Unit), p ≤ 256 → True → mm_V G (1, 23) M_Mo_writeWorld Q 225 [some (.ref 52), some (.int (nI k)), some (.int (nI (a_cnt (A 9) p))), some (.int (nI (256 * k + p))), none, none] [] (mm_wi h F) := by
  refine mr_loop _ _ 256 (fun _ _ => ?_) (fun p _ hp _ ih => ?_)
  · refine mv_iload_n (pc := 225) d_Mo_writeWorld_225 rfl ?_
    refine mv_sipush (v := 256) (pc := 226) d_Mo_writeWorld_226 (by decide) ?_
    refine mv_iload_n (pc := 229) d_Mo_writeWorld_229 rfl ?_
    refine mv_imul (pc := 230) d_Mo_writeWorld_230 ?_
    refine mv_sipush (v := 256) (pc := 231) d_Mo_writeWorld_231 (by decide) ?_
    refine mv_iadd (pc := 234) d_Mo_writeWorld_234 ?_
    rw [mm_256, mm_p256]
    refine mv_ic_ge 261 (pc := 235) d_Mo_writeWorld_235 (by decide) (fun h235 => ?_) (fun z => absurd z (fun z => z (nI_le (by omega) (by omega))))
    exact hq
  · refine mv_iload_n (pc := 225) d_Mo_writeWorld_225 rfl ?_
    refine mv_sipush (v := 256) (pc := 226) d_Mo_writeWorld_226 (by decide) ?_
    refine mv_iload_n (pc := 229) d_Mo_writeWorld_229 rfl ?_
    refine mv_imul (pc := 230) d_Mo_writeWorld_230 ?_
    refine mv_sipush (v := 256) (pc := 231) d_Mo_writeWorld_231 (by decide) ?_
    refine mv_iadd (pc := 234) d_Mo_writeWorld_234 ?_
    rw [mm_256, mm_p256]
    refine mv_ic_ge 261 (pc := 235) d_Mo_writeWorld_235 (by decide) (fun z => absurd z (nI_ge (by omega) (by omega))) (fun h235 => ?_)
    refine mv_aload_n (pc := 238) d_Mo_writeWorld_238 rfl ?_
    refine mr_getr (pc := 239) d_Mo_writeWorld_239 fl_Mo_41 hM.1 rfl (by decide) hM.g_touch ?_
    refine mv_iload_n (pc := 242) d_Mo_writeWorld_242 rfl ?_
    refine mr_zald (pc := 243) d_Mo_writeWorld_243 hM.a_touch (mm_inN (by omega) (by decide)) ?_
    rw [mm_cl (by omega), show mm_gi (mm_wi h F) 63 (256 * k + p) = A 9 p from R0.2.2 p hp]
    refine mv_if_eq 253 (pc := 244) d_Mo_writeWorld_244 (by decide) (fun h244 => ?_) (fun h244 => ?_)
    · refine mv_iload_n (pc := 253) d_Mo_writeWorld_253 rfl ?_
      refine mv_istore_n (pc := 254) d_Mo_writeWorld_254 (by decide) ?_
      refine mv_iinc (pc := 255) d_Mo_writeWorld_255 rfl rfl (by decide) ?_
      refine mv_goto 225 (pc := 258) d_Mo_writeWorld_258 (by decide) ?_
      refine mm_V_ls (ls' := [some (.ref 52), some (.int (nI k)), some (.int (nI (a_cnt (A 9) (p + 1)))), some (.int (nI (256 * k + (p + 1)))), none, none]) ?_ (ih () trivial)
      simp only [List.set, a_cnt, h244, if_true, if_false, ← Nat.add_assoc]
      simp only [nI_succ, Nat.add_zero]
      rfl
    · refine mv_iload_n (pc := 247) d_Mo_writeWorld_247 rfl ?_
      refine mv_iconst (v := 1) (pc := 248) d_Mo_writeWorld_248 (by decide) ?_
      refine mv_iadd (pc := 249) d_Mo_writeWorld_249 ?_
      refine mv_goto 254 (pc := 250) d_Mo_writeWorld_250 (by decide) ?_
      refine mv_istore_n (pc := 254) d_Mo_writeWorld_254 (by decide) ?_
      refine mv_iinc (pc := 255) d_Mo_writeWorld_255 rfl rfl (by decide) ?_
      refine mv_goto 225 (pc := 258) d_Mo_writeWorld_258 (by decide) ?_
      refine mm_V_ls (ls' := [some (.ref 52), some (.int (nI k)), some (.int (nI (a_cnt (A 9) (p + 1)))), some (.int (nI (256 * k + (p + 1)))), none, none]) ?_ (ih () trivial)
      simp only [List.set, a_cnt, h244, if_true, if_false, ← Nat.add_assoc]
      simp only [nI_succ, Nat.add_zero]
      rfl
set_option maxRecDepth 20000 in
theorem l_ww1 {G : mm_G} {Q : mm_O → mm_H → Prop} {h : mm_H} {k : Nat} (hk : k < 2) {A : mm_W} {ds : List Int32} (hM : mm_Mo h) (FZ : mm_W) (hl : ds.length + 208 ≤ 600) (hq : ∀ F', DR F' (ds ++ a_sls A 16) → RM F' k A → mm_dfr FZ F' → mm_V G (1, 23) M_Mo_writeWorld Q 217 [some (.ref 52), some (.int (nI k)), some (.int (nI (16 * k + 16))), none, none, none] [] (mm_wi h F')) :
    ∀ (i : Nat) (F0 : mm_W), i ≤ 16 → (DR F0 (ds ++ a_sls A i) ∧ RM F0 k A) ∧ mm_dfr FZ F0 → mm_V G (1, 23) M_Mo_writeWorld Q 28 [some (.ref 52), some (.int (nI k)), some (.int (nI (16 * k + i))), none, none, none] [] (mm_wi h F0) := by
  refine mr_loop _ _ 16 (fun F hI => ?_) (fun i F0 hi hI ih => ?_)
  · refine mv_iload_n (pc := 28) d_Mo_writeWorld_28 rfl ?_
    refine mv_bipush (v := 16) (pc := 29) d_Mo_writeWorld_29 (by decide) ?_
    refine mv_iload_n (pc := 31) d_Mo_writeWorld_31 rfl ?_
    refine mv_imul (pc := 32) d_Mo_writeWorld_32 ?_
    refine mv_bipush (v := 16) (pc := 33) d_Mo_writeWorld_33 (by decide) ?_
    refine mv_iadd (pc := 35) d_Mo_writeWorld_35 ?_
    rw [mm_16, mm_p16]
    refine mv_ic_ge 217 (pc := 36) d_Mo_writeWorld_36 (by decide) (fun h36 => ?_) (fun z => absurd z (fun z => z (nI_le (by omega) (by omega))))
    exact hq F hI.1.1 hI.1.2 hI.2
  · obtain ⟨⟨d0, R0⟩, t0⟩ := hI
    have hsl := a_sls_len A i
    refine mv_iload_n (pc := 28) d_Mo_writeWorld_28 rfl ?_
    refine mv_bipush (v := 16) (pc := 29) d_Mo_writeWorld_29 (by decide) ?_
    refine mv_iload_n (pc := 31) d_Mo_writeWorld_31 rfl ?_
    refine mv_imul (pc := 32) d_Mo_writeWorld_32 ?_
    refine mv_bipush (v := 16) (pc := 33) d_Mo_writeWorld_33 (by decide) ?_
    refine mv_iadd (pc := 35) d_Mo_writeWorld_35 ?_
    rw [mm_16, mm_p16]
    refine mv_ic_ge 217 (pc := 36) d_Mo_writeWorld_36 (by decide) (fun z => absurd z (nI_ge (by omega) (by omega))) (fun h36 => ?_)
    refine mv_aload_n (pc := 39) d_Mo_writeWorld_39 rfl ?_
    refine mv_aload_n (pc := 40) d_Mo_writeWorld_40 rfl ?_
    refine mr_getr (pc := 41) d_Mo_writeWorld_41 fl_Mo_13 hM.1 rfl (by decide) hM.g_generation ?_
    refine mv_iload_n (pc := 44) d_Mo_writeWorld_44 rfl ?_
    refine mr_iald (pc := 45) d_Mo_writeWorld_45 hM.a_generation (mm_inN (by omega) (by decide)) ?_
    rw [mm_cl (by omega), show mm_gi (mm_wi h F0) 54 (16 * k + i) = A 0 i from (R0.2.1 i hi).1]
    refine mv_iconst (v := 2) (pc := 46) d_Mo_writeWorld_46 (by decide) ?_
    refine mr_callV2 (pc := 47) d_Mo_writeWorld_47 (d2 := (0, 0)) ok_Mo_write li_Mo_129 sv_Mo_write hM.1 ⟨by decide, rfl⟩ ⟨by decide, rfl, rfl, Nat.le_of_ble_eq_true rfl, rfl, by decide, by decide⟩ ?_
    refine c_mwrite (h := mm_wi h F0) (n := 2) hM (by omega) d0 (by simp only [List.length_append, mm_enc_len]; omega) (fun F1 d1 f1 => ?_)
    rw [mm_wwi]
    have R1 : RM F1 k A := R0.dfr f1
    have t1 : mm_dfr FZ F1 := t0.trans f1
    refine mv_aload_n (pc := 50) d_Mo_writeWorld_50 rfl ?_
    refine mv_aload_n (pc := 51) d_Mo_writeWorld_51 rfl ?_
    refine mr_getr (pc := 52) d_Mo_writeWorld_52 fl_Mo_16 hM.1 rfl (by decide) hM.g_full ?_
    refine mv_iload_n (pc := 55) d_Mo_writeWorld_55 rfl ?_
    refine mr_zald (pc := 56) d_Mo_writeWorld_56 hM.a_full (mm_inN (by omega) (by decide)) ?_
    rw [mm_cl (by omega), show mm_gi (mm_wi h F1) 55 (16 * k + i) = A 1 i from (R1.2.1 i hi).2.1]
    refine mv_if_ne 64 (pc := 57) d_Mo_writeWorld_57 (by decide) (fun h57 => ?_) (fun h57 => ?_)
    · have hfull : ¬ A 1 i = 0 := h57
      refine mv_iconst (v := 1) (pc := 64) d_Mo_writeWorld_64 (by decide) ?_
      refine mv_aload_n (pc := 65) d_Mo_writeWorld_65 rfl ?_
      refine mr_getr (pc := 66) d_Mo_writeWorld_66 fl_Mo_32 hM.1 rfl (by decide) hM.g_wide ?_
      refine mv_iload_n (pc := 69) d_Mo_writeWorld_69 rfl ?_
      refine mr_iald (pc := 70) d_Mo_writeWorld_70 hM.a_wide (mm_inN (by omega) (by decide)) ?_
      rw [mm_cl (by omega), show mm_gi (mm_wi h F1) 60 (16 * k + i) = A 6 i from (R1.2.1 i hi).2.2 hfull 6 (by omega) (by omega)]
      refine mv_if_le 78 (pc := 71) d_Mo_writeWorld_71 (by decide) (fun h71 => ?_) (fun h71 => ?_)
      · refine mv_iconst (v := 0) (pc := 78) d_Mo_writeWorld_78 (by decide) ?_
        refine mv_iadd (pc := 79) d_Mo_writeWorld_79 ?_
        refine mv_aload_n (pc := 80) d_Mo_writeWorld_80 rfl ?_
        refine mr_getr (pc := 81) d_Mo_writeWorld_81 fl_Mo_38 hM.1 rfl (by decide) hM.g_left ?_
        refine mv_iload_n (pc := 84) d_Mo_writeWorld_84 rfl ?_
        refine mr_iald (pc := 85) d_Mo_writeWorld_85 hM.a_left (mm_inN (by omega) (by decide)) ?_
        rw [mm_cl (by omega), show mm_gi (mm_wi h F1) 62 (16 * k + i) = A 8 i from (R1.2.1 i hi).2.2 hfull 8 (by omega) (by omega)]
        refine mv_if_le 93 (pc := 86) d_Mo_writeWorld_86 (by decide) (fun h86 => ?_) (fun h86 => ?_)
        · refine mv_iconst (v := 0) (pc := 93) d_Mo_writeWorld_93 (by decide) ?_
          refine mv_iadd (pc := 94) d_Mo_writeWorld_94 ?_
          refine mv_iconst (v := 1) (pc := 95) d_Mo_writeWorld_95 (by decide) ?_
          refine mr_callV2 (pc := 96) d_Mo_writeWorld_96 (d2 := (0, 0)) ok_Mo_write li_Mo_129 sv_Mo_write hM.1 ⟨by decide, rfl⟩ ⟨by decide, rfl, rfl, Nat.le_of_ble_eq_true rfl, rfl, by decide, by decide⟩ ?_
          refine c_mwrite (h := mm_wi h F1) (n := 1) hM (by omega) d1 (by simp only [List.length_append, mm_enc_len]; omega) (fun F2 d2 f2 => ?_)
          rw [mm_wwi]
          have R2 : RM F2 k A := R1.dfr f2
          have t2 : mm_dfr FZ F2 := t1.trans f2
          refine mv_aload_n (pc := 99) d_Mo_writeWorld_99 rfl ?_
          refine mr_getr (pc := 100) d_Mo_writeWorld_100 fl_Mo_16 hM.1 rfl (by decide) hM.g_full ?_
          refine mv_iload_n (pc := 103) d_Mo_writeWorld_103 rfl ?_
          refine mr_zald (pc := 104) d_Mo_writeWorld_104 hM.a_full (mm_inN (by omega) (by decide)) ?_
          rw [mm_cl (by omega), show mm_gi (mm_wi h F2) 55 (16 * k + i) = A 1 i from (R2.2.1 i hi).2.1]
          refine mv_if_eq 211 (pc := 105) d_Mo_writeWorld_105 (by decide) (fun z => absurd z (h57)) (fun h105 => ?_)
          refine mv_aload_n (pc := 108) d_Mo_writeWorld_108 rfl ?_
          refine mv_aload_n (pc := 109) d_Mo_writeWorld_109 rfl ?_
          refine mr_getr (pc := 110) d_Mo_writeWorld_110 fl_Mo_20 hM.1 rfl (by decide) hM.g_px ?_
          refine mv_iload_n (pc := 113) d_Mo_writeWorld_113 rfl ?_
          refine mr_iald (pc := 114) d_Mo_writeWorld_114 hM.a_px (mm_inN (by omega) (by decide)) ?_
          rw [mm_cl (by omega), show mm_gi (mm_wi h F2) 56 (16 * k + i) = A 2 i from (R2.2.1 i hi).2.2 hfull 2 (by omega) (by omega)]
          refine mv_iconst (v := 2) (pc := 115) d_Mo_writeWorld_115 (by decide) ?_
          refine mr_callV2 (pc := 116) d_Mo_writeWorld_116 (d2 := (0, 0)) ok_Mo_write li_Mo_129 sv_Mo_write hM.1 ⟨by decide, rfl⟩ ⟨by decide, rfl, rfl, Nat.le_of_ble_eq_true rfl, rfl, by decide, by decide⟩ ?_
          refine c_mwrite (h := mm_wi h F2) (n := 2) hM (by omega) d2 (by simp only [List.length_append, mm_enc_len]; omega) (fun F3 d3 f3 => ?_)
          rw [mm_wwi]
          have R3 : RM F3 k A := R2.dfr f3
          have t3 : mm_dfr FZ F3 := t2.trans f3
          refine mv_aload_n (pc := 119) d_Mo_writeWorld_119 rfl ?_
          refine mv_aload_n (pc := 120) d_Mo_writeWorld_120 rfl ?_
          refine mr_getr (pc := 121) d_Mo_writeWorld_121 fl_Mo_23 hM.1 rfl (by decide) hM.g_py ?_
          refine mv_iload_n (pc := 124) d_Mo_writeWorld_124 rfl ?_
          refine mr_iald (pc := 125) d_Mo_writeWorld_125 hM.a_py (mm_inN (by omega) (by decide)) ?_
          rw [mm_cl (by omega), show mm_gi (mm_wi h F3) 57 (16 * k + i) = A 3 i from (R3.2.1 i hi).2.2 hfull 3 (by omega) (by omega)]
          refine mv_iconst (v := 2) (pc := 126) d_Mo_writeWorld_126 (by decide) ?_
          refine mr_callV2 (pc := 127) d_Mo_writeWorld_127 (d2 := (0, 0)) ok_Mo_write li_Mo_129 sv_Mo_write hM.1 ⟨by decide, rfl⟩ ⟨by decide, rfl, rfl, Nat.le_of_ble_eq_true rfl, rfl, by decide, by decide⟩ ?_
          refine c_mwrite (h := mm_wi h F3) (n := 2) hM (by omega) d3 (by simp only [List.length_append, mm_enc_len]; omega) (fun F4 d4 f4 => ?_)
          rw [mm_wwi]
          have R4 : RM F4 k A := R3.dfr f4
          have t4 : mm_dfr FZ F4 := t3.trans f4
          refine mv_aload_n (pc := 130) d_Mo_writeWorld_130 rfl ?_
          refine mv_aload_n (pc := 131) d_Mo_writeWorld_131 rfl ?_
          refine mr_getr (pc := 132) d_Mo_writeWorld_132 fl_Mo_26 hM.1 rfl (by decide) hM.g_sx ?_
          refine mv_iload_n (pc := 135) d_Mo_writeWorld_135 rfl ?_
          refine mr_iald (pc := 136) d_Mo_writeWorld_136 hM.a_sx (mm_inN (by omega) (by decide)) ?_
          rw [mm_cl (by omega), show mm_gi (mm_wi h F4) 58 (16 * k + i) = A 4 i from (R4.2.1 i hi).2.2 hfull 4 (by omega) (by omega)]
          refine mv_sipush (v := 128) (pc := 137) d_Mo_writeWorld_137 (by decide) ?_
          refine mv_iadd (pc := 140) d_Mo_writeWorld_140 ?_
          refine mv_iconst (v := 1) (pc := 141) d_Mo_writeWorld_141 (by decide) ?_
          refine mr_callV2 (pc := 142) d_Mo_writeWorld_142 (d2 := (0, 0)) ok_Mo_write li_Mo_129 sv_Mo_write hM.1 ⟨by decide, rfl⟩ ⟨by decide, rfl, rfl, Nat.le_of_ble_eq_true rfl, rfl, by decide, by decide⟩ ?_
          refine c_mwrite (h := mm_wi h F4) (n := 1) hM (by omega) d4 (by simp only [List.length_append, mm_enc_len]; omega) (fun F5 d5 f5 => ?_)
          rw [mm_wwi]
          have R5 : RM F5 k A := R4.dfr f5
          have t5 : mm_dfr FZ F5 := t4.trans f5
          refine mv_aload_n (pc := 145) d_Mo_writeWorld_145 rfl ?_
          refine mv_aload_n (pc := 146) d_Mo_writeWorld_146 rfl ?_
          refine mr_getr (pc := 147) d_Mo_writeWorld_147 fl_Mo_29 hM.1 rfl (by decide) hM.g_sy ?_
          refine mv_iload_n (pc := 150) d_Mo_writeWorld_150 rfl ?_
          refine mr_iald (pc := 151) d_Mo_writeWorld_151 hM.a_sy (mm_inN (by omega) (by decide)) ?_
          rw [mm_cl (by omega), show mm_gi (mm_wi h F5) 59 (16 * k + i) = A 5 i from (R5.2.1 i hi).2.2 hfull 5 (by omega) (by omega)]
          refine mv_sipush (v := 128) (pc := 152) d_Mo_writeWorld_152 (by decide) ?_
          refine mv_iadd (pc := 155) d_Mo_writeWorld_155 ?_
          refine mv_iconst (v := 1) (pc := 156) d_Mo_writeWorld_156 (by decide) ?_
          refine mr_callV2 (pc := 157) d_Mo_writeWorld_157 (d2 := (0, 0)) ok_Mo_write li_Mo_129 sv_Mo_write hM.1 ⟨by decide, rfl⟩ ⟨by decide, rfl, rfl, Nat.le_of_ble_eq_true rfl, rfl, by decide, by decide⟩ ?_
          refine c_mwrite (h := mm_wi h F5) (n := 1) hM (by omega) d5 (by simp only [List.length_append, mm_enc_len]; omega) (fun F6 d6 f6 => ?_)
          rw [mm_wwi]
          have R6 : RM F6 k A := R5.dfr f6
          have t6 : mm_dfr FZ F6 := t5.trans f6
          refine mv_aload_n (pc := 160) d_Mo_writeWorld_160 rfl ?_
          refine mr_getr (pc := 161) d_Mo_writeWorld_161 fl_Mo_32 hM.1 rfl (by decide) hM.g_wide ?_
          refine mv_iload_n (pc := 164) d_Mo_writeWorld_164 rfl ?_
          refine mr_iald (pc := 165) d_Mo_writeWorld_165 hM.a_wide (mm_inN (by omega) (by decide)) ?_
          rw [mm_cl (by omega), show mm_gi (mm_wi h F6) 60 (16 * k + i) = A 6 i from (R6.2.1 i hi).2.2 hfull 6 (by omega) (by omega)]
          refine mv_if_le 191 (pc := 166) d_Mo_writeWorld_166 (by decide) (fun h166 => ?_) (fun z => absurd z (fun z => z h71))
          refine mv_aload_n (pc := 191) d_Mo_writeWorld_191 rfl ?_
          refine mr_getr (pc := 192) d_Mo_writeWorld_192 fl_Mo_38 hM.1 rfl (by decide) hM.g_left ?_
          refine mv_iload_n (pc := 195) d_Mo_writeWorld_195 rfl ?_
          refine mr_iald (pc := 196) d_Mo_writeWorld_196 hM.a_left (mm_inN (by omega) (by decide)) ?_
          rw [mm_cl (by omega), show mm_gi (mm_wi h F6) 62 (16 * k + i) = A 8 i from (R6.2.1 i hi).2.2 hfull 8 (by omega) (by omega)]
          refine mv_if_le 211 (pc := 197) d_Mo_writeWorld_197 (by decide) (fun h197 => ?_) (fun z => absurd z (fun z => z h86))
          refine mv_iinc (pc := 211) d_Mo_writeWorld_211 rfl rfl (by decide) ?_
          refine mv_goto 28 (pc := 214) d_Mo_writeWorld_214 (by decide) ?_
          refine mm_V_ls (ls' := [some (.ref 52), some (.int (nI k)), some (.int (nI (16 * k + (i + 1)))), none, none, none]) (by simp only [List.set]; rw [← Nat.add_assoc, nI_succ]; rfl) (ih F6 ⟨⟨?_, R6⟩, t6⟩)
          have e : a_sls A (i + 1) = a_sls A i ++ a_encR (fun k => A k i) := rfl
          rw [e]
          have c6 : ¬ 0 < A 6 i := Int32.not_lt.mpr h71
          have c8 : ¬ 0 < A 8 i := Int32.not_lt.mpr h86
          have e2 : a_encR (fun k => A k i) = mm_enc (A 0 i) 2 ++ mm_enc (1 + 0 + 0) 1 ++ mm_enc (A 2 i) 2 ++ mm_enc (A 3 i) 2 ++ mm_enc (A 4 i + 128) 1 ++ mm_enc (A 5 i + 128) 1 := by
            simp only [a_encR, a_kind, h57, c6, c8, if_true, if_false, List.append_assoc, List.append_nil, List.nil_append]
          rw [e2]
          simpa only [List.append_assoc] using d6
        · refine mv_iconst (v := 4) (pc := 89) d_Mo_writeWorld_89 (by decide) ?_
          refine mv_goto 94 (pc := 90) d_Mo_writeWorld_90 (by decide) ?_
          refine mv_iadd (pc := 94) d_Mo_writeWorld_94 ?_
          refine mv_iconst (v := 1) (pc := 95) d_Mo_writeWorld_95 (by decide) ?_
          refine mr_callV2 (pc := 96) d_Mo_writeWorld_96 (d2 := (0, 0)) ok_Mo_write li_Mo_129 sv_Mo_write hM.1 ⟨by decide, rfl⟩ ⟨by decide, rfl, rfl, Nat.le_of_ble_eq_true rfl, rfl, by decide, by decide⟩ ?_
          refine c_mwrite (h := mm_wi h F1) (n := 1) hM (by omega) d1 (by simp only [List.length_append, mm_enc_len]; omega) (fun F2 d2 f2 => ?_)
          rw [mm_wwi]
          have R2 : RM F2 k A := R1.dfr f2
          have t2 : mm_dfr FZ F2 := t1.trans f2
          refine mv_aload_n (pc := 99) d_Mo_writeWorld_99 rfl ?_
          refine mr_getr (pc := 100) d_Mo_writeWorld_100 fl_Mo_16 hM.1 rfl (by decide) hM.g_full ?_
          refine mv_iload_n (pc := 103) d_Mo_writeWorld_103 rfl ?_
          refine mr_zald (pc := 104) d_Mo_writeWorld_104 hM.a_full (mm_inN (by omega) (by decide)) ?_
          rw [mm_cl (by omega), show mm_gi (mm_wi h F2) 55 (16 * k + i) = A 1 i from (R2.2.1 i hi).2.1]
          refine mv_if_eq 211 (pc := 105) d_Mo_writeWorld_105 (by decide) (fun z => absurd z (h57)) (fun h105 => ?_)
          refine mv_aload_n (pc := 108) d_Mo_writeWorld_108 rfl ?_
          refine mv_aload_n (pc := 109) d_Mo_writeWorld_109 rfl ?_
          refine mr_getr (pc := 110) d_Mo_writeWorld_110 fl_Mo_20 hM.1 rfl (by decide) hM.g_px ?_
          refine mv_iload_n (pc := 113) d_Mo_writeWorld_113 rfl ?_
          refine mr_iald (pc := 114) d_Mo_writeWorld_114 hM.a_px (mm_inN (by omega) (by decide)) ?_
          rw [mm_cl (by omega), show mm_gi (mm_wi h F2) 56 (16 * k + i) = A 2 i from (R2.2.1 i hi).2.2 hfull 2 (by omega) (by omega)]
          refine mv_iconst (v := 2) (pc := 115) d_Mo_writeWorld_115 (by decide) ?_
          refine mr_callV2 (pc := 116) d_Mo_writeWorld_116 (d2 := (0, 0)) ok_Mo_write li_Mo_129 sv_Mo_write hM.1 ⟨by decide, rfl⟩ ⟨by decide, rfl, rfl, Nat.le_of_ble_eq_true rfl, rfl, by decide, by decide⟩ ?_
          refine c_mwrite (h := mm_wi h F2) (n := 2) hM (by omega) d2 (by simp only [List.length_append, mm_enc_len]; omega) (fun F3 d3 f3 => ?_)
          rw [mm_wwi]
          have R3 : RM F3 k A := R2.dfr f3
          have t3 : mm_dfr FZ F3 := t2.trans f3
          refine mv_aload_n (pc := 119) d_Mo_writeWorld_119 rfl ?_
          refine mv_aload_n (pc := 120) d_Mo_writeWorld_120 rfl ?_
          refine mr_getr (pc := 121) d_Mo_writeWorld_121 fl_Mo_23 hM.1 rfl (by decide) hM.g_py ?_
          refine mv_iload_n (pc := 124) d_Mo_writeWorld_124 rfl ?_
          refine mr_iald (pc := 125) d_Mo_writeWorld_125 hM.a_py (mm_inN (by omega) (by decide)) ?_
          rw [mm_cl (by omega), show mm_gi (mm_wi h F3) 57 (16 * k + i) = A 3 i from (R3.2.1 i hi).2.2 hfull 3 (by omega) (by omega)]
          refine mv_iconst (v := 2) (pc := 126) d_Mo_writeWorld_126 (by decide) ?_
          refine mr_callV2 (pc := 127) d_Mo_writeWorld_127 (d2 := (0, 0)) ok_Mo_write li_Mo_129 sv_Mo_write hM.1 ⟨by decide, rfl⟩ ⟨by decide, rfl, rfl, Nat.le_of_ble_eq_true rfl, rfl, by decide, by decide⟩ ?_
          refine c_mwrite (h := mm_wi h F3) (n := 2) hM (by omega) d3 (by simp only [List.length_append, mm_enc_len]; omega) (fun F4 d4 f4 => ?_)
          rw [mm_wwi]
          have R4 : RM F4 k A := R3.dfr f4
          have t4 : mm_dfr FZ F4 := t3.trans f4
          refine mv_aload_n (pc := 130) d_Mo_writeWorld_130 rfl ?_
          refine mv_aload_n (pc := 131) d_Mo_writeWorld_131 rfl ?_
          refine mr_getr (pc := 132) d_Mo_writeWorld_132 fl_Mo_26 hM.1 rfl (by decide) hM.g_sx ?_
          refine mv_iload_n (pc := 135) d_Mo_writeWorld_135 rfl ?_
          refine mr_iald (pc := 136) d_Mo_writeWorld_136 hM.a_sx (mm_inN (by omega) (by decide)) ?_
          rw [mm_cl (by omega), show mm_gi (mm_wi h F4) 58 (16 * k + i) = A 4 i from (R4.2.1 i hi).2.2 hfull 4 (by omega) (by omega)]
          refine mv_sipush (v := 128) (pc := 137) d_Mo_writeWorld_137 (by decide) ?_
          refine mv_iadd (pc := 140) d_Mo_writeWorld_140 ?_
          refine mv_iconst (v := 1) (pc := 141) d_Mo_writeWorld_141 (by decide) ?_
          refine mr_callV2 (pc := 142) d_Mo_writeWorld_142 (d2 := (0, 0)) ok_Mo_write li_Mo_129 sv_Mo_write hM.1 ⟨by decide, rfl⟩ ⟨by decide, rfl, rfl, Nat.le_of_ble_eq_true rfl, rfl, by decide, by decide⟩ ?_
          refine c_mwrite (h := mm_wi h F4) (n := 1) hM (by omega) d4 (by simp only [List.length_append, mm_enc_len]; omega) (fun F5 d5 f5 => ?_)
          rw [mm_wwi]
          have R5 : RM F5 k A := R4.dfr f5
          have t5 : mm_dfr FZ F5 := t4.trans f5
          refine mv_aload_n (pc := 145) d_Mo_writeWorld_145 rfl ?_
          refine mv_aload_n (pc := 146) d_Mo_writeWorld_146 rfl ?_
          refine mr_getr (pc := 147) d_Mo_writeWorld_147 fl_Mo_29 hM.1 rfl (by decide) hM.g_sy ?_
          refine mv_iload_n (pc := 150) d_Mo_writeWorld_150 rfl ?_
          refine mr_iald (pc := 151) d_Mo_writeWorld_151 hM.a_sy (mm_inN (by omega) (by decide)) ?_
          rw [mm_cl (by omega), show mm_gi (mm_wi h F5) 59 (16 * k + i) = A 5 i from (R5.2.1 i hi).2.2 hfull 5 (by omega) (by omega)]
          refine mv_sipush (v := 128) (pc := 152) d_Mo_writeWorld_152 (by decide) ?_
          refine mv_iadd (pc := 155) d_Mo_writeWorld_155 ?_
          refine mv_iconst (v := 1) (pc := 156) d_Mo_writeWorld_156 (by decide) ?_
          refine mr_callV2 (pc := 157) d_Mo_writeWorld_157 (d2 := (0, 0)) ok_Mo_write li_Mo_129 sv_Mo_write hM.1 ⟨by decide, rfl⟩ ⟨by decide, rfl, rfl, Nat.le_of_ble_eq_true rfl, rfl, by decide, by decide⟩ ?_
          refine c_mwrite (h := mm_wi h F5) (n := 1) hM (by omega) d5 (by simp only [List.length_append, mm_enc_len]; omega) (fun F6 d6 f6 => ?_)
          rw [mm_wwi]
          have R6 : RM F6 k A := R5.dfr f6
          have t6 : mm_dfr FZ F6 := t5.trans f6
          refine mv_aload_n (pc := 160) d_Mo_writeWorld_160 rfl ?_
          refine mr_getr (pc := 161) d_Mo_writeWorld_161 fl_Mo_32 hM.1 rfl (by decide) hM.g_wide ?_
          refine mv_iload_n (pc := 164) d_Mo_writeWorld_164 rfl ?_
          refine mr_iald (pc := 165) d_Mo_writeWorld_165 hM.a_wide (mm_inN (by omega) (by decide)) ?_
          rw [mm_cl (by omega), show mm_gi (mm_wi h F6) 60 (16 * k + i) = A 6 i from (R6.2.1 i hi).2.2 hfull 6 (by omega) (by omega)]
          refine mv_if_le 191 (pc := 166) d_Mo_writeWorld_166 (by decide) (fun h166 => ?_) (fun z => absurd z (fun z => z h71))
          refine mv_aload_n (pc := 191) d_Mo_writeWorld_191 rfl ?_
          refine mr_getr (pc := 192) d_Mo_writeWorld_192 fl_Mo_38 hM.1 rfl (by decide) hM.g_left ?_
          refine mv_iload_n (pc := 195) d_Mo_writeWorld_195 rfl ?_
          refine mr_iald (pc := 196) d_Mo_writeWorld_196 hM.a_left (mm_inN (by omega) (by decide)) ?_
          rw [mm_cl (by omega), show mm_gi (mm_wi h F6) 62 (16 * k + i) = A 8 i from (R6.2.1 i hi).2.2 hfull 8 (by omega) (by omega)]
          refine mv_if_le 211 (pc := 197) d_Mo_writeWorld_197 (by decide) (fun z => absurd z (h86)) (fun h197 => ?_)
          refine mv_aload_n (pc := 200) d_Mo_writeWorld_200 rfl ?_
          refine mv_aload_n (pc := 201) d_Mo_writeWorld_201 rfl ?_
          refine mr_getr (pc := 202) d_Mo_writeWorld_202 fl_Mo_38 hM.1 rfl (by decide) hM.g_left ?_
          refine mv_iload_n (pc := 205) d_Mo_writeWorld_205 rfl ?_
          refine mr_iald (pc := 206) d_Mo_writeWorld_206 hM.a_left (mm_inN (by omega) (by decide)) ?_
          rw [mm_cl (by omega), show mm_gi (mm_wi h F6) 62 (16 * k + i) = A 8 i from (R6.2.1 i hi).2.2 hfull 8 (by omega) (by omega)]
          refine mv_iconst (v := 2) (pc := 207) d_Mo_writeWorld_207 (by decide) ?_
          refine mr_callV2 (pc := 208) d_Mo_writeWorld_208 (d2 := (0, 0)) ok_Mo_write li_Mo_129 sv_Mo_write hM.1 ⟨by decide, rfl⟩ ⟨by decide, rfl, rfl, Nat.le_of_ble_eq_true rfl, rfl, by decide, by decide⟩ ?_
          refine c_mwrite (h := mm_wi h F6) (n := 2) hM (by omega) d6 (by simp only [List.length_append, mm_enc_len]; omega) (fun F7 d7 f7 => ?_)
          rw [mm_wwi]
          have R7 : RM F7 k A := R6.dfr f7
          have t7 : mm_dfr FZ F7 := t6.trans f7
          refine mv_iinc (pc := 211) d_Mo_writeWorld_211 rfl rfl (by decide) ?_
          refine mv_goto 28 (pc := 214) d_Mo_writeWorld_214 (by decide) ?_
          refine mm_V_ls (ls' := [some (.ref 52), some (.int (nI k)), some (.int (nI (16 * k + (i + 1)))), none, none, none]) (by simp only [List.set]; rw [← Nat.add_assoc, nI_succ]; rfl) (ih F7 ⟨⟨?_, R7⟩, t7⟩)
          have e : a_sls A (i + 1) = a_sls A i ++ a_encR (fun k => A k i) := rfl
          rw [e]
          have c6 : ¬ 0 < A 6 i := Int32.not_lt.mpr h71
          have c8 : 0 < A 8 i := Int32.not_le.mp h86
          have e2 : a_encR (fun k => A k i) = mm_enc (A 0 i) 2 ++ mm_enc (1 + 0 + 4) 1 ++ mm_enc (A 2 i) 2 ++ mm_enc (A 3 i) 2 ++ mm_enc (A 4 i + 128) 1 ++ mm_enc (A 5 i + 128) 1 ++ mm_enc (A 8 i) 2 := by
            simp only [a_encR, a_kind, h57, c6, c8, if_true, if_false, List.append_assoc, List.append_nil, List.nil_append]
          rw [e2]
          simpa only [List.append_assoc] using d7
      · refine mv_iconst (v := 2) (pc := 74) d_Mo_writeWorld_74 (by decide) ?_
        refine mv_goto 79 (pc := 75) d_Mo_writeWorld_75 (by decide) ?_
        refine mv_iadd (pc := 79) d_Mo_writeWorld_79 ?_
        refine mv_aload_n (pc := 80) d_Mo_writeWorld_80 rfl ?_
        refine mr_getr (pc := 81) d_Mo_writeWorld_81 fl_Mo_38 hM.1 rfl (by decide) hM.g_left ?_
        refine mv_iload_n (pc := 84) d_Mo_writeWorld_84 rfl ?_
        refine mr_iald (pc := 85) d_Mo_writeWorld_85 hM.a_left (mm_inN (by omega) (by decide)) ?_
        rw [mm_cl (by omega), show mm_gi (mm_wi h F1) 62 (16 * k + i) = A 8 i from (R1.2.1 i hi).2.2 hfull 8 (by omega) (by omega)]
        refine mv_if_le 93 (pc := 86) d_Mo_writeWorld_86 (by decide) (fun h86 => ?_) (fun h86 => ?_)
        · refine mv_iconst (v := 0) (pc := 93) d_Mo_writeWorld_93 (by decide) ?_
          refine mv_iadd (pc := 94) d_Mo_writeWorld_94 ?_
          refine mv_iconst (v := 1) (pc := 95) d_Mo_writeWorld_95 (by decide) ?_
          refine mr_callV2 (pc := 96) d_Mo_writeWorld_96 (d2 := (0, 0)) ok_Mo_write li_Mo_129 sv_Mo_write hM.1 ⟨by decide, rfl⟩ ⟨by decide, rfl, rfl, Nat.le_of_ble_eq_true rfl, rfl, by decide, by decide⟩ ?_
          refine c_mwrite (h := mm_wi h F1) (n := 1) hM (by omega) d1 (by simp only [List.length_append, mm_enc_len]; omega) (fun F2 d2 f2 => ?_)
          rw [mm_wwi]
          have R2 : RM F2 k A := R1.dfr f2
          have t2 : mm_dfr FZ F2 := t1.trans f2
          refine mv_aload_n (pc := 99) d_Mo_writeWorld_99 rfl ?_
          refine mr_getr (pc := 100) d_Mo_writeWorld_100 fl_Mo_16 hM.1 rfl (by decide) hM.g_full ?_
          refine mv_iload_n (pc := 103) d_Mo_writeWorld_103 rfl ?_
          refine mr_zald (pc := 104) d_Mo_writeWorld_104 hM.a_full (mm_inN (by omega) (by decide)) ?_
          rw [mm_cl (by omega), show mm_gi (mm_wi h F2) 55 (16 * k + i) = A 1 i from (R2.2.1 i hi).2.1]
          refine mv_if_eq 211 (pc := 105) d_Mo_writeWorld_105 (by decide) (fun z => absurd z (h57)) (fun h105 => ?_)
          refine mv_aload_n (pc := 108) d_Mo_writeWorld_108 rfl ?_
          refine mv_aload_n (pc := 109) d_Mo_writeWorld_109 rfl ?_
          refine mr_getr (pc := 110) d_Mo_writeWorld_110 fl_Mo_20 hM.1 rfl (by decide) hM.g_px ?_
          refine mv_iload_n (pc := 113) d_Mo_writeWorld_113 rfl ?_
          refine mr_iald (pc := 114) d_Mo_writeWorld_114 hM.a_px (mm_inN (by omega) (by decide)) ?_
          rw [mm_cl (by omega), show mm_gi (mm_wi h F2) 56 (16 * k + i) = A 2 i from (R2.2.1 i hi).2.2 hfull 2 (by omega) (by omega)]
          refine mv_iconst (v := 2) (pc := 115) d_Mo_writeWorld_115 (by decide) ?_
          refine mr_callV2 (pc := 116) d_Mo_writeWorld_116 (d2 := (0, 0)) ok_Mo_write li_Mo_129 sv_Mo_write hM.1 ⟨by decide, rfl⟩ ⟨by decide, rfl, rfl, Nat.le_of_ble_eq_true rfl, rfl, by decide, by decide⟩ ?_
          refine c_mwrite (h := mm_wi h F2) (n := 2) hM (by omega) d2 (by simp only [List.length_append, mm_enc_len]; omega) (fun F3 d3 f3 => ?_)
          rw [mm_wwi]
          have R3 : RM F3 k A := R2.dfr f3
          have t3 : mm_dfr FZ F3 := t2.trans f3
          refine mv_aload_n (pc := 119) d_Mo_writeWorld_119 rfl ?_
          refine mv_aload_n (pc := 120) d_Mo_writeWorld_120 rfl ?_
          refine mr_getr (pc := 121) d_Mo_writeWorld_121 fl_Mo_23 hM.1 rfl (by decide) hM.g_py ?_
          refine mv_iload_n (pc := 124) d_Mo_writeWorld_124 rfl ?_
          refine mr_iald (pc := 125) d_Mo_writeWorld_125 hM.a_py (mm_inN (by omega) (by decide)) ?_
          rw [mm_cl (by omega), show mm_gi (mm_wi h F3) 57 (16 * k + i) = A 3 i from (R3.2.1 i hi).2.2 hfull 3 (by omega) (by omega)]
          refine mv_iconst (v := 2) (pc := 126) d_Mo_writeWorld_126 (by decide) ?_
          refine mr_callV2 (pc := 127) d_Mo_writeWorld_127 (d2 := (0, 0)) ok_Mo_write li_Mo_129 sv_Mo_write hM.1 ⟨by decide, rfl⟩ ⟨by decide, rfl, rfl, Nat.le_of_ble_eq_true rfl, rfl, by decide, by decide⟩ ?_
          refine c_mwrite (h := mm_wi h F3) (n := 2) hM (by omega) d3 (by simp only [List.length_append, mm_enc_len]; omega) (fun F4 d4 f4 => ?_)
          rw [mm_wwi]
          have R4 : RM F4 k A := R3.dfr f4
          have t4 : mm_dfr FZ F4 := t3.trans f4
          refine mv_aload_n (pc := 130) d_Mo_writeWorld_130 rfl ?_
          refine mv_aload_n (pc := 131) d_Mo_writeWorld_131 rfl ?_
          refine mr_getr (pc := 132) d_Mo_writeWorld_132 fl_Mo_26 hM.1 rfl (by decide) hM.g_sx ?_
          refine mv_iload_n (pc := 135) d_Mo_writeWorld_135 rfl ?_
          refine mr_iald (pc := 136) d_Mo_writeWorld_136 hM.a_sx (mm_inN (by omega) (by decide)) ?_
          rw [mm_cl (by omega), show mm_gi (mm_wi h F4) 58 (16 * k + i) = A 4 i from (R4.2.1 i hi).2.2 hfull 4 (by omega) (by omega)]
          refine mv_sipush (v := 128) (pc := 137) d_Mo_writeWorld_137 (by decide) ?_
          refine mv_iadd (pc := 140) d_Mo_writeWorld_140 ?_
          refine mv_iconst (v := 1) (pc := 141) d_Mo_writeWorld_141 (by decide) ?_
          refine mr_callV2 (pc := 142) d_Mo_writeWorld_142 (d2 := (0, 0)) ok_Mo_write li_Mo_129 sv_Mo_write hM.1 ⟨by decide, rfl⟩ ⟨by decide, rfl, rfl, Nat.le_of_ble_eq_true rfl, rfl, by decide, by decide⟩ ?_
          refine c_mwrite (h := mm_wi h F4) (n := 1) hM (by omega) d4 (by simp only [List.length_append, mm_enc_len]; omega) (fun F5 d5 f5 => ?_)
          rw [mm_wwi]
          have R5 : RM F5 k A := R4.dfr f5
          have t5 : mm_dfr FZ F5 := t4.trans f5
          refine mv_aload_n (pc := 145) d_Mo_writeWorld_145 rfl ?_
          refine mv_aload_n (pc := 146) d_Mo_writeWorld_146 rfl ?_
          refine mr_getr (pc := 147) d_Mo_writeWorld_147 fl_Mo_29 hM.1 rfl (by decide) hM.g_sy ?_
          refine mv_iload_n (pc := 150) d_Mo_writeWorld_150 rfl ?_
          refine mr_iald (pc := 151) d_Mo_writeWorld_151 hM.a_sy (mm_inN (by omega) (by decide)) ?_
          rw [mm_cl (by omega), show mm_gi (mm_wi h F5) 59 (16 * k + i) = A 5 i from (R5.2.1 i hi).2.2 hfull 5 (by omega) (by omega)]
          refine mv_sipush (v := 128) (pc := 152) d_Mo_writeWorld_152 (by decide) ?_
          refine mv_iadd (pc := 155) d_Mo_writeWorld_155 ?_
          refine mv_iconst (v := 1) (pc := 156) d_Mo_writeWorld_156 (by decide) ?_
          refine mr_callV2 (pc := 157) d_Mo_writeWorld_157 (d2 := (0, 0)) ok_Mo_write li_Mo_129 sv_Mo_write hM.1 ⟨by decide, rfl⟩ ⟨by decide, rfl, rfl, Nat.le_of_ble_eq_true rfl, rfl, by decide, by decide⟩ ?_
          refine c_mwrite (h := mm_wi h F5) (n := 1) hM (by omega) d5 (by simp only [List.length_append, mm_enc_len]; omega) (fun F6 d6 f6 => ?_)
          rw [mm_wwi]
          have R6 : RM F6 k A := R5.dfr f6
          have t6 : mm_dfr FZ F6 := t5.trans f6
          refine mv_aload_n (pc := 160) d_Mo_writeWorld_160 rfl ?_
          refine mr_getr (pc := 161) d_Mo_writeWorld_161 fl_Mo_32 hM.1 rfl (by decide) hM.g_wide ?_
          refine mv_iload_n (pc := 164) d_Mo_writeWorld_164 rfl ?_
          refine mr_iald (pc := 165) d_Mo_writeWorld_165 hM.a_wide (mm_inN (by omega) (by decide)) ?_
          rw [mm_cl (by omega), show mm_gi (mm_wi h F6) 60 (16 * k + i) = A 6 i from (R6.2.1 i hi).2.2 hfull 6 (by omega) (by omega)]
          refine mv_if_le 191 (pc := 166) d_Mo_writeWorld_166 (by decide) (fun z => absurd z (h71)) (fun h166 => ?_)
          refine mv_aload_n (pc := 169) d_Mo_writeWorld_169 rfl ?_
          refine mv_aload_n (pc := 170) d_Mo_writeWorld_170 rfl ?_
          refine mr_getr (pc := 171) d_Mo_writeWorld_171 fl_Mo_32 hM.1 rfl (by decide) hM.g_wide ?_
          refine mv_iload_n (pc := 174) d_Mo_writeWorld_174 rfl ?_
          refine mr_iald (pc := 175) d_Mo_writeWorld_175 hM.a_wide (mm_inN (by omega) (by decide)) ?_
          rw [mm_cl (by omega), show mm_gi (mm_wi h F6) 60 (16 * k + i) = A 6 i from (R6.2.1 i hi).2.2 hfull 6 (by omega) (by omega)]
          refine mv_iconst (v := 1) (pc := 176) d_Mo_writeWorld_176 (by decide) ?_
          refine mr_callV2 (pc := 177) d_Mo_writeWorld_177 (d2 := (0, 0)) ok_Mo_write li_Mo_129 sv_Mo_write hM.1 ⟨by decide, rfl⟩ ⟨by decide, rfl, rfl, Nat.le_of_ble_eq_true rfl, rfl, by decide, by decide⟩ ?_
          refine c_mwrite (h := mm_wi h F6) (n := 1) hM (by omega) d6 (by simp only [List.length_append, mm_enc_len]; omega) (fun F7 d7 f7 => ?_)
          rw [mm_wwi]
          have R7 : RM F7 k A := R6.dfr f7
          have t7 : mm_dfr FZ F7 := t6.trans f7
          refine mv_aload_n (pc := 180) d_Mo_writeWorld_180 rfl ?_
          refine mv_aload_n (pc := 181) d_Mo_writeWorld_181 rfl ?_
          refine mr_getr (pc := 182) d_Mo_writeWorld_182 fl_Mo_35 hM.1 rfl (by decide) hM.g_high ?_
          refine mv_iload_n (pc := 185) d_Mo_writeWorld_185 rfl ?_
          refine mr_iald (pc := 186) d_Mo_writeWorld_186 hM.a_high (mm_inN (by omega) (by decide)) ?_
          rw [mm_cl (by omega), show mm_gi (mm_wi h F7) 61 (16 * k + i) = A 7 i from (R7.2.1 i hi).2.2 hfull 7 (by omega) (by omega)]
          refine mv_iconst (v := 1) (pc := 187) d_Mo_writeWorld_187 (by decide) ?_
          refine mr_callV2 (pc := 188) d_Mo_writeWorld_188 (d2 := (0, 0)) ok_Mo_write li_Mo_129 sv_Mo_write hM.1 ⟨by decide, rfl⟩ ⟨by decide, rfl, rfl, Nat.le_of_ble_eq_true rfl, rfl, by decide, by decide⟩ ?_
          refine c_mwrite (h := mm_wi h F7) (n := 1) hM (by omega) d7 (by simp only [List.length_append, mm_enc_len]; omega) (fun F8 d8 f8 => ?_)
          rw [mm_wwi]
          have R8 : RM F8 k A := R7.dfr f8
          have t8 : mm_dfr FZ F8 := t7.trans f8
          refine mv_aload_n (pc := 191) d_Mo_writeWorld_191 rfl ?_
          refine mr_getr (pc := 192) d_Mo_writeWorld_192 fl_Mo_38 hM.1 rfl (by decide) hM.g_left ?_
          refine mv_iload_n (pc := 195) d_Mo_writeWorld_195 rfl ?_
          refine mr_iald (pc := 196) d_Mo_writeWorld_196 hM.a_left (mm_inN (by omega) (by decide)) ?_
          rw [mm_cl (by omega), show mm_gi (mm_wi h F8) 62 (16 * k + i) = A 8 i from (R8.2.1 i hi).2.2 hfull 8 (by omega) (by omega)]
          refine mv_if_le 211 (pc := 197) d_Mo_writeWorld_197 (by decide) (fun h197 => ?_) (fun z => absurd z (fun z => z h86))
          refine mv_iinc (pc := 211) d_Mo_writeWorld_211 rfl rfl (by decide) ?_
          refine mv_goto 28 (pc := 214) d_Mo_writeWorld_214 (by decide) ?_
          refine mm_V_ls (ls' := [some (.ref 52), some (.int (nI k)), some (.int (nI (16 * k + (i + 1)))), none, none, none]) (by simp only [List.set]; rw [← Nat.add_assoc, nI_succ]; rfl) (ih F8 ⟨⟨?_, R8⟩, t8⟩)
          have e : a_sls A (i + 1) = a_sls A i ++ a_encR (fun k => A k i) := rfl
          rw [e]
          have c6 : 0 < A 6 i := Int32.not_le.mp h71
          have c8 : ¬ 0 < A 8 i := Int32.not_lt.mpr h86
          have e2 : a_encR (fun k => A k i) = mm_enc (A 0 i) 2 ++ mm_enc (1 + 2 + 0) 1 ++ mm_enc (A 2 i) 2 ++ mm_enc (A 3 i) 2 ++ mm_enc (A 4 i + 128) 1 ++ mm_enc (A 5 i + 128) 1 ++ mm_enc (A 6 i) 1 ++ mm_enc (A 7 i) 1 := by
            simp only [a_encR, a_kind, h57, c6, c8, if_true, if_false, List.append_assoc, List.append_nil, List.nil_append]
          rw [e2]
          simpa only [List.append_assoc] using d8
        · refine mv_iconst (v := 4) (pc := 89) d_Mo_writeWorld_89 (by decide) ?_
          refine mv_goto 94 (pc := 90) d_Mo_writeWorld_90 (by decide) ?_
          refine mv_iadd (pc := 94) d_Mo_writeWorld_94 ?_
          refine mv_iconst (v := 1) (pc := 95) d_Mo_writeWorld_95 (by decide) ?_
          refine mr_callV2 (pc := 96) d_Mo_writeWorld_96 (d2 := (0, 0)) ok_Mo_write li_Mo_129 sv_Mo_write hM.1 ⟨by decide, rfl⟩ ⟨by decide, rfl, rfl, Nat.le_of_ble_eq_true rfl, rfl, by decide, by decide⟩ ?_
          refine c_mwrite (h := mm_wi h F1) (n := 1) hM (by omega) d1 (by simp only [List.length_append, mm_enc_len]; omega) (fun F2 d2 f2 => ?_)
          rw [mm_wwi]
          have R2 : RM F2 k A := R1.dfr f2
          have t2 : mm_dfr FZ F2 := t1.trans f2
          refine mv_aload_n (pc := 99) d_Mo_writeWorld_99 rfl ?_
          refine mr_getr (pc := 100) d_Mo_writeWorld_100 fl_Mo_16 hM.1 rfl (by decide) hM.g_full ?_
          refine mv_iload_n (pc := 103) d_Mo_writeWorld_103 rfl ?_
          refine mr_zald (pc := 104) d_Mo_writeWorld_104 hM.a_full (mm_inN (by omega) (by decide)) ?_
          rw [mm_cl (by omega), show mm_gi (mm_wi h F2) 55 (16 * k + i) = A 1 i from (R2.2.1 i hi).2.1]
          refine mv_if_eq 211 (pc := 105) d_Mo_writeWorld_105 (by decide) (fun z => absurd z (h57)) (fun h105 => ?_)
          refine mv_aload_n (pc := 108) d_Mo_writeWorld_108 rfl ?_
          refine mv_aload_n (pc := 109) d_Mo_writeWorld_109 rfl ?_
          refine mr_getr (pc := 110) d_Mo_writeWorld_110 fl_Mo_20 hM.1 rfl (by decide) hM.g_px ?_
          refine mv_iload_n (pc := 113) d_Mo_writeWorld_113 rfl ?_
          refine mr_iald (pc := 114) d_Mo_writeWorld_114 hM.a_px (mm_inN (by omega) (by decide)) ?_
          rw [mm_cl (by omega), show mm_gi (mm_wi h F2) 56 (16 * k + i) = A 2 i from (R2.2.1 i hi).2.2 hfull 2 (by omega) (by omega)]
          refine mv_iconst (v := 2) (pc := 115) d_Mo_writeWorld_115 (by decide) ?_
          refine mr_callV2 (pc := 116) d_Mo_writeWorld_116 (d2 := (0, 0)) ok_Mo_write li_Mo_129 sv_Mo_write hM.1 ⟨by decide, rfl⟩ ⟨by decide, rfl, rfl, Nat.le_of_ble_eq_true rfl, rfl, by decide, by decide⟩ ?_
          refine c_mwrite (h := mm_wi h F2) (n := 2) hM (by omega) d2 (by simp only [List.length_append, mm_enc_len]; omega) (fun F3 d3 f3 => ?_)
          rw [mm_wwi]
          have R3 : RM F3 k A := R2.dfr f3
          have t3 : mm_dfr FZ F3 := t2.trans f3
          refine mv_aload_n (pc := 119) d_Mo_writeWorld_119 rfl ?_
          refine mv_aload_n (pc := 120) d_Mo_writeWorld_120 rfl ?_
          refine mr_getr (pc := 121) d_Mo_writeWorld_121 fl_Mo_23 hM.1 rfl (by decide) hM.g_py ?_
          refine mv_iload_n (pc := 124) d_Mo_writeWorld_124 rfl ?_
          refine mr_iald (pc := 125) d_Mo_writeWorld_125 hM.a_py (mm_inN (by omega) (by decide)) ?_
          rw [mm_cl (by omega), show mm_gi (mm_wi h F3) 57 (16 * k + i) = A 3 i from (R3.2.1 i hi).2.2 hfull 3 (by omega) (by omega)]
          refine mv_iconst (v := 2) (pc := 126) d_Mo_writeWorld_126 (by decide) ?_
          refine mr_callV2 (pc := 127) d_Mo_writeWorld_127 (d2 := (0, 0)) ok_Mo_write li_Mo_129 sv_Mo_write hM.1 ⟨by decide, rfl⟩ ⟨by decide, rfl, rfl, Nat.le_of_ble_eq_true rfl, rfl, by decide, by decide⟩ ?_
          refine c_mwrite (h := mm_wi h F3) (n := 2) hM (by omega) d3 (by simp only [List.length_append, mm_enc_len]; omega) (fun F4 d4 f4 => ?_)
          rw [mm_wwi]
          have R4 : RM F4 k A := R3.dfr f4
          have t4 : mm_dfr FZ F4 := t3.trans f4
          refine mv_aload_n (pc := 130) d_Mo_writeWorld_130 rfl ?_
          refine mv_aload_n (pc := 131) d_Mo_writeWorld_131 rfl ?_
          refine mr_getr (pc := 132) d_Mo_writeWorld_132 fl_Mo_26 hM.1 rfl (by decide) hM.g_sx ?_
          refine mv_iload_n (pc := 135) d_Mo_writeWorld_135 rfl ?_
          refine mr_iald (pc := 136) d_Mo_writeWorld_136 hM.a_sx (mm_inN (by omega) (by decide)) ?_
          rw [mm_cl (by omega), show mm_gi (mm_wi h F4) 58 (16 * k + i) = A 4 i from (R4.2.1 i hi).2.2 hfull 4 (by omega) (by omega)]
          refine mv_sipush (v := 128) (pc := 137) d_Mo_writeWorld_137 (by decide) ?_
          refine mv_iadd (pc := 140) d_Mo_writeWorld_140 ?_
          refine mv_iconst (v := 1) (pc := 141) d_Mo_writeWorld_141 (by decide) ?_
          refine mr_callV2 (pc := 142) d_Mo_writeWorld_142 (d2 := (0, 0)) ok_Mo_write li_Mo_129 sv_Mo_write hM.1 ⟨by decide, rfl⟩ ⟨by decide, rfl, rfl, Nat.le_of_ble_eq_true rfl, rfl, by decide, by decide⟩ ?_
          refine c_mwrite (h := mm_wi h F4) (n := 1) hM (by omega) d4 (by simp only [List.length_append, mm_enc_len]; omega) (fun F5 d5 f5 => ?_)
          rw [mm_wwi]
          have R5 : RM F5 k A := R4.dfr f5
          have t5 : mm_dfr FZ F5 := t4.trans f5
          refine mv_aload_n (pc := 145) d_Mo_writeWorld_145 rfl ?_
          refine mv_aload_n (pc := 146) d_Mo_writeWorld_146 rfl ?_
          refine mr_getr (pc := 147) d_Mo_writeWorld_147 fl_Mo_29 hM.1 rfl (by decide) hM.g_sy ?_
          refine mv_iload_n (pc := 150) d_Mo_writeWorld_150 rfl ?_
          refine mr_iald (pc := 151) d_Mo_writeWorld_151 hM.a_sy (mm_inN (by omega) (by decide)) ?_
          rw [mm_cl (by omega), show mm_gi (mm_wi h F5) 59 (16 * k + i) = A 5 i from (R5.2.1 i hi).2.2 hfull 5 (by omega) (by omega)]
          refine mv_sipush (v := 128) (pc := 152) d_Mo_writeWorld_152 (by decide) ?_
          refine mv_iadd (pc := 155) d_Mo_writeWorld_155 ?_
          refine mv_iconst (v := 1) (pc := 156) d_Mo_writeWorld_156 (by decide) ?_
          refine mr_callV2 (pc := 157) d_Mo_writeWorld_157 (d2 := (0, 0)) ok_Mo_write li_Mo_129 sv_Mo_write hM.1 ⟨by decide, rfl⟩ ⟨by decide, rfl, rfl, Nat.le_of_ble_eq_true rfl, rfl, by decide, by decide⟩ ?_
          refine c_mwrite (h := mm_wi h F5) (n := 1) hM (by omega) d5 (by simp only [List.length_append, mm_enc_len]; omega) (fun F6 d6 f6 => ?_)
          rw [mm_wwi]
          have R6 : RM F6 k A := R5.dfr f6
          have t6 : mm_dfr FZ F6 := t5.trans f6
          refine mv_aload_n (pc := 160) d_Mo_writeWorld_160 rfl ?_
          refine mr_getr (pc := 161) d_Mo_writeWorld_161 fl_Mo_32 hM.1 rfl (by decide) hM.g_wide ?_
          refine mv_iload_n (pc := 164) d_Mo_writeWorld_164 rfl ?_
          refine mr_iald (pc := 165) d_Mo_writeWorld_165 hM.a_wide (mm_inN (by omega) (by decide)) ?_
          rw [mm_cl (by omega), show mm_gi (mm_wi h F6) 60 (16 * k + i) = A 6 i from (R6.2.1 i hi).2.2 hfull 6 (by omega) (by omega)]
          refine mv_if_le 191 (pc := 166) d_Mo_writeWorld_166 (by decide) (fun z => absurd z (h71)) (fun h166 => ?_)
          refine mv_aload_n (pc := 169) d_Mo_writeWorld_169 rfl ?_
          refine mv_aload_n (pc := 170) d_Mo_writeWorld_170 rfl ?_
          refine mr_getr (pc := 171) d_Mo_writeWorld_171 fl_Mo_32 hM.1 rfl (by decide) hM.g_wide ?_
          refine mv_iload_n (pc := 174) d_Mo_writeWorld_174 rfl ?_
          refine mr_iald (pc := 175) d_Mo_writeWorld_175 hM.a_wide (mm_inN (by omega) (by decide)) ?_
          rw [mm_cl (by omega), show mm_gi (mm_wi h F6) 60 (16 * k + i) = A 6 i from (R6.2.1 i hi).2.2 hfull 6 (by omega) (by omega)]
          refine mv_iconst (v := 1) (pc := 176) d_Mo_writeWorld_176 (by decide) ?_
          refine mr_callV2 (pc := 177) d_Mo_writeWorld_177 (d2 := (0, 0)) ok_Mo_write li_Mo_129 sv_Mo_write hM.1 ⟨by decide, rfl⟩ ⟨by decide, rfl, rfl, Nat.le_of_ble_eq_true rfl, rfl, by decide, by decide⟩ ?_
          refine c_mwrite (h := mm_wi h F6) (n := 1) hM (by omega) d6 (by simp only [List.length_append, mm_enc_len]; omega) (fun F7 d7 f7 => ?_)
          rw [mm_wwi]
          have R7 : RM F7 k A := R6.dfr f7
          have t7 : mm_dfr FZ F7 := t6.trans f7
          refine mv_aload_n (pc := 180) d_Mo_writeWorld_180 rfl ?_
          refine mv_aload_n (pc := 181) d_Mo_writeWorld_181 rfl ?_
          refine mr_getr (pc := 182) d_Mo_writeWorld_182 fl_Mo_35 hM.1 rfl (by decide) hM.g_high ?_
          refine mv_iload_n (pc := 185) d_Mo_writeWorld_185 rfl ?_
          refine mr_iald (pc := 186) d_Mo_writeWorld_186 hM.a_high (mm_inN (by omega) (by decide)) ?_
          rw [mm_cl (by omega), show mm_gi (mm_wi h F7) 61 (16 * k + i) = A 7 i from (R7.2.1 i hi).2.2 hfull 7 (by omega) (by omega)]
          refine mv_iconst (v := 1) (pc := 187) d_Mo_writeWorld_187 (by decide) ?_
          refine mr_callV2 (pc := 188) d_Mo_writeWorld_188 (d2 := (0, 0)) ok_Mo_write li_Mo_129 sv_Mo_write hM.1 ⟨by decide, rfl⟩ ⟨by decide, rfl, rfl, Nat.le_of_ble_eq_true rfl, rfl, by decide, by decide⟩ ?_
          refine c_mwrite (h := mm_wi h F7) (n := 1) hM (by omega) d7 (by simp only [List.length_append, mm_enc_len]; omega) (fun F8 d8 f8 => ?_)
          rw [mm_wwi]
          have R8 : RM F8 k A := R7.dfr f8
          have t8 : mm_dfr FZ F8 := t7.trans f8
          refine mv_aload_n (pc := 191) d_Mo_writeWorld_191 rfl ?_
          refine mr_getr (pc := 192) d_Mo_writeWorld_192 fl_Mo_38 hM.1 rfl (by decide) hM.g_left ?_
          refine mv_iload_n (pc := 195) d_Mo_writeWorld_195 rfl ?_
          refine mr_iald (pc := 196) d_Mo_writeWorld_196 hM.a_left (mm_inN (by omega) (by decide)) ?_
          rw [mm_cl (by omega), show mm_gi (mm_wi h F8) 62 (16 * k + i) = A 8 i from (R8.2.1 i hi).2.2 hfull 8 (by omega) (by omega)]
          refine mv_if_le 211 (pc := 197) d_Mo_writeWorld_197 (by decide) (fun z => absurd z (h86)) (fun h197 => ?_)
          refine mv_aload_n (pc := 200) d_Mo_writeWorld_200 rfl ?_
          refine mv_aload_n (pc := 201) d_Mo_writeWorld_201 rfl ?_
          refine mr_getr (pc := 202) d_Mo_writeWorld_202 fl_Mo_38 hM.1 rfl (by decide) hM.g_left ?_
          refine mv_iload_n (pc := 205) d_Mo_writeWorld_205 rfl ?_
          refine mr_iald (pc := 206) d_Mo_writeWorld_206 hM.a_left (mm_inN (by omega) (by decide)) ?_
          rw [mm_cl (by omega), show mm_gi (mm_wi h F8) 62 (16 * k + i) = A 8 i from (R8.2.1 i hi).2.2 hfull 8 (by omega) (by omega)]
          refine mv_iconst (v := 2) (pc := 207) d_Mo_writeWorld_207 (by decide) ?_
          refine mr_callV2 (pc := 208) d_Mo_writeWorld_208 (d2 := (0, 0)) ok_Mo_write li_Mo_129 sv_Mo_write hM.1 ⟨by decide, rfl⟩ ⟨by decide, rfl, rfl, Nat.le_of_ble_eq_true rfl, rfl, by decide, by decide⟩ ?_
          refine c_mwrite (h := mm_wi h F8) (n := 2) hM (by omega) d8 (by simp only [List.length_append, mm_enc_len]; omega) (fun F9 d9 f9 => ?_)
          rw [mm_wwi]
          have R9 : RM F9 k A := R8.dfr f9
          have t9 : mm_dfr FZ F9 := t8.trans f9
          refine mv_iinc (pc := 211) d_Mo_writeWorld_211 rfl rfl (by decide) ?_
          refine mv_goto 28 (pc := 214) d_Mo_writeWorld_214 (by decide) ?_
          refine mm_V_ls (ls' := [some (.ref 52), some (.int (nI k)), some (.int (nI (16 * k + (i + 1)))), none, none, none]) (by simp only [List.set]; rw [← Nat.add_assoc, nI_succ]; rfl) (ih F9 ⟨⟨?_, R9⟩, t9⟩)
          have e : a_sls A (i + 1) = a_sls A i ++ a_encR (fun k => A k i) := rfl
          rw [e]
          have c6 : 0 < A 6 i := Int32.not_le.mp h71
          have c8 : 0 < A 8 i := Int32.not_le.mp h86
          have e2 : a_encR (fun k => A k i) = mm_enc (A 0 i) 2 ++ mm_enc (1 + 2 + 4) 1 ++ mm_enc (A 2 i) 2 ++ mm_enc (A 3 i) 2 ++ mm_enc (A 4 i + 128) 1 ++ mm_enc (A 5 i + 128) 1 ++ mm_enc (A 6 i) 1 ++ mm_enc (A 7 i) 1 ++ mm_enc (A 8 i) 2 := by
            simp only [a_encR, a_kind, h57, c6, c8, if_true, if_false, List.append_assoc, List.append_nil, List.nil_append]
          rw [e2]
          simpa only [List.append_assoc] using d9
    · refine mv_iconst (v := 0) (pc := 60) d_Mo_writeWorld_60 (by decide) ?_
      refine mv_goto 95 (pc := 61) d_Mo_writeWorld_61 (by decide) ?_
      refine mv_iconst (v := 1) (pc := 95) d_Mo_writeWorld_95 (by decide) ?_
      refine mr_callV2 (pc := 96) d_Mo_writeWorld_96 (d2 := (0, 0)) ok_Mo_write li_Mo_129 sv_Mo_write hM.1 ⟨by decide, rfl⟩ ⟨by decide, rfl, rfl, Nat.le_of_ble_eq_true rfl, rfl, by decide, by decide⟩ ?_
      refine c_mwrite (h := mm_wi h F1) (n := 1) hM (by omega) d1 (by simp only [List.length_append, mm_enc_len]; omega) (fun F2 d2 f2 => ?_)
      rw [mm_wwi]
      have R2 : RM F2 k A := R1.dfr f2
      have t2 : mm_dfr FZ F2 := t1.trans f2
      refine mv_aload_n (pc := 99) d_Mo_writeWorld_99 rfl ?_
      refine mr_getr (pc := 100) d_Mo_writeWorld_100 fl_Mo_16 hM.1 rfl (by decide) hM.g_full ?_
      refine mv_iload_n (pc := 103) d_Mo_writeWorld_103 rfl ?_
      refine mr_zald (pc := 104) d_Mo_writeWorld_104 hM.a_full (mm_inN (by omega) (by decide)) ?_
      rw [mm_cl (by omega), show mm_gi (mm_wi h F2) 55 (16 * k + i) = A 1 i from (R2.2.1 i hi).2.1]
      refine mv_if_eq 211 (pc := 105) d_Mo_writeWorld_105 (by decide) (fun h105 => ?_) (fun z => absurd z (fun z => z h57))
      refine mv_iinc (pc := 211) d_Mo_writeWorld_211 rfl rfl (by decide) ?_
      refine mv_goto 28 (pc := 214) d_Mo_writeWorld_214 (by decide) ?_
      refine mm_V_ls (ls' := [some (.ref 52), some (.int (nI k)), some (.int (nI (16 * k + (i + 1)))), none, none, none]) (by simp only [List.set]; rw [← Nat.add_assoc, nI_succ]; rfl) (ih F2 ⟨⟨?_, R2⟩, t2⟩)
      have e : a_sls A (i + 1) = a_sls A i ++ a_encR (fun k => A k i) := rfl
      rw [e]
      have e2 : a_encR (fun k => A k i) = mm_enc (A 0 i) 2 ++ mm_enc 0 1 := by simp [a_encR, a_kind, h57]
      rw [e2]
      simpa only [List.append_assoc] using d2
set_option maxRecDepth 20000 in
theorem c_mww {G : mm_G} {Q : mm_O → mm_H → Prop} {h : mm_H} {k : Nat} (hk : k < 2) {A : mm_W} (hM : mm_Mo h) (hR : RM (mm_gi h) k A) (hq : ∀ F', DR F' (a_encW A) → mm_dfr (mm_gi h) F' → Q (.inl none) (mm_wi h F')) : mm_V G (1, 23) M_Mo_writeWorld Q 0 (mm_ent 6 [.ref 52, .int (nI k)]) [] h := by
  show mm_V G (1, 23) M_Mo_writeWorld Q 0 [some (.ref 52), some (.int (nI k)), none, none, none, none] [] h
  refine mv_aload_n (pc := 0) d_Mo_writeWorld_0 rfl ?_
  refine mv_iconst (v := 0) (pc := 1) d_Mo_writeWorld_1 (by decide) ?_
  refine mr_puti (pc := 2) d_Mo_writeWorld_2 fl_Mo_126 hM.1 rfl (by decide) ⟨rfl, rfl⟩ ?_
  refine mv_aload_n (pc := 5) d_Mo_writeWorld_5 rfl ?_
  refine mv_bipush (v := 84) (pc := 6) d_Mo_writeWorld_6 (by decide) ?_
  refine mv_iconst (v := 1) (pc := 8) d_Mo_writeWorld_8 (by decide) ?_
  refine mr_callV2 (pc := 9) d_Mo_writeWorld_9 (d2 := (0, 0)) ok_Mo_write li_Mo_129 sv_Mo_write hM.1 ⟨by decide, rfl⟩ ⟨by decide, rfl, rfl, Nat.le_of_ble_eq_true rfl, rfl, by decide, by decide⟩ ?_
  refine c_mwrite (h := mm_si h 52 20 0) (n := 1) (ds := []) hM (by omega) ⟨by simp [mm_gsi]; rfl, fun j hj => absurd hj (by simp)⟩ (by simp) (fun Fa da fa => ?_)
  have ta : mm_dfr (mm_gi h) Fa := mm_dfr.trans (fun a j h1 h2 => by simp [mm_gsi, h2]) fa
  have Ra : RM Fa k A := hR.dfr ta
  rw [List.nil_append] at da
  refine mv_aload_n (pc := 12) d_Mo_writeWorld_12 rfl ?_
  refine mv_aload_n (pc := 13) d_Mo_writeWorld_13 rfl ?_
  refine mr_getr (pc := 14) d_Mo_writeWorld_14 fl_Mo_7 hM.1 rfl (by decide) hM.g_clocks ?_
  refine mv_iload_n (pc := 17) d_Mo_writeWorld_17 rfl ?_
  refine mr_iald (pc := 18) d_Mo_writeWorld_18 hM.a_clocks (mm_inN (by omega) (by decide)) ?_
  rw [mm_cl (by omega), show mm_gi (mm_wi (mm_si h 52 20 0) Fa) 53 k = A 10 0 from Ra.1]
  refine mv_iconst (v := 4) (pc := 19) d_Mo_writeWorld_19 (by decide) ?_
  refine mr_callV2 (pc := 20) d_Mo_writeWorld_20 (d2 := (0, 0)) ok_Mo_write li_Mo_129 sv_Mo_write hM.1 ⟨by decide, rfl⟩ ⟨by decide, rfl, rfl, Nat.le_of_ble_eq_true rfl, rfl, by decide, by decide⟩ ?_
  refine c_mwrite (h := mm_wi h Fa) (n := 4) hM (by omega) da (by simp [mm_enc_len]) (fun Fb db fb => ?_)
  have tb := ta.trans fb
  have Rb := Ra.dfr fb
  refine mv_bipush (v := 16) (pc := 23) d_Mo_writeWorld_23 (by decide) ?_
  refine mv_iload_n (pc := 25) d_Mo_writeWorld_25 rfl ?_
  refine mv_imul (pc := 26) d_Mo_writeWorld_26 ?_
  rw [mm_16]
  refine mv_istore_n (pc := 27) d_Mo_writeWorld_27 (by decide) ?_
  have hsl := a_sls_len A 16
  refine l_ww1 hk hM (mm_gi h) (ds := mm_enc 84 1 ++ mm_enc (A 10 0) 4) (by simp only [List.length_append, mm_enc_len]; omega) (fun F1 d1 R1 t1 => ?_) 0 Fb (by omega) ⟨⟨by rw [show a_sls A 0 = [] from rfl, List.append_nil]; exact db, Rb⟩, tb⟩
  have hd1 : (mm_enc 84 1 ++ mm_enc (A 10 0) 4 ++ a_sls A 16).length ≤ 213 := by simp only [List.length_append, mm_enc_len]; omega
  refine mv_iconst (v := 0) (pc := 217) d_Mo_writeWorld_217 (by decide) ?_
  refine mv_istore_n (pc := 218) d_Mo_writeWorld_218 (by decide) ?_
  refine mv_sipush (v := 256) (pc := 219) d_Mo_writeWorld_219 (by decide) ?_
  refine mv_iload_n (pc := 222) d_Mo_writeWorld_222 rfl ?_
  refine mv_imul (pc := 223) d_Mo_writeWorld_223 ?_
  rw [mm_256]
  refine mv_istore_n (pc := 224) d_Mo_writeWorld_224 (by decide) ?_
  refine l_ww2 hk hM F1 R1 ?_ 0 () (by omega) trivial
  refine mv_aload_n (pc := 261) d_Mo_writeWorld_261 rfl ?_
  refine mv_iload_n (pc := 262) d_Mo_writeWorld_262 rfl ?_
  refine mv_iconst (v := 1) (pc := 263) d_Mo_writeWorld_263 (by decide) ?_
  refine mr_callV2 (pc := 264) d_Mo_writeWorld_264 (d2 := (0, 0)) ok_Mo_write li_Mo_129 sv_Mo_write hM.1 ⟨by decide, rfl⟩ ⟨by decide, rfl, rfl, Nat.le_of_ble_eq_true rfl, rfl, by decide, by decide⟩ ?_
  refine c_mwrite (h := mm_wi h F1) (n := 1) hM (by omega) d1 (by omega) (fun F2 d2 f2 => ?_)
  refine mv_iconst (v := 0) (pc := 267) d_Mo_writeWorld_267 (by decide) ?_
  refine mv_istore_n (pc := 268) d_Mo_writeWorld_268 (by decide) ?_
  refine l_ww3 (ds := mm_enc 84 1 ++ mm_enc (A 10 0) 4 ++ a_sls A 16 ++ mm_enc (nI (a_cnt (A 9) 256)) 1) hk hM (mm_gi h) hR (by simp only [List.length_append, mm_enc_len]; omega) (fun F3 d3 f3 => hq F3 ?_ f3) 0 F2 (by omega) ⟨?_, t1.trans f2⟩
  · rw [a_encW_eq]; exact d3
  · rw [show a_prs (A 9) 0 = [] from rfl, List.append_nil]; exact d2
