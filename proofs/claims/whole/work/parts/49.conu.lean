/-! CONTRACTS: StateBytes: readSlot, readSlots (rows by program: con_u.py) -/
def WSf (f : Nat → Int32) : Prop := WS (fun k _ => f k) 0
/-- what comes behind a slot's kind -/
def a_sh (f : Nat → Int32) : List Int32 := if 0 < f 6 then mm_enc (f 6) 1 ++ mm_enc (f 7) 1 else []
def a_ti (f : Nat → Int32) : List Int32 := if 0 < f 8 then mm_enc (f 8) 2 else []
theorem a_encR0 {f : Nat → Int32} (h : f 1 = 0) : a_encR f = mm_enc (f 0) 2 ++ mm_enc 0 1 := by simp [a_encR, a_kind, h]
theorem a_encR1 {f : Nat → Int32} (h : ¬ f 1 = 0) (r : List Int32) : a_encR f ++ r = mm_enc (f 0) 2 ++ (mm_enc (a_kind f) 1 ++ (mm_enc (f 2) 2 ++ (mm_enc (f 3) 2 ++ (mm_enc (f 4 + 128) 1 ++ (mm_enc (f 5 + 128) 1 ++ (a_sh f ++ (a_ti f ++ r))))))) := by
  simp only [a_encR, h, if_false, a_sh, a_ti, List.append_assoc]
theorem f_1 {x : Int32} (h : 0 ≤ x ∧ x ≤ 255) : x.toBitVec.toNat < 256 ^ 1 := b_fit (M := 255) h (by decide) (by decide)
theorem f_2 {x : Int32} (h : 0 ≤ x ∧ x ≤ 65535) : x.toBitVec.toNat < 256 ^ 2 := b_fit (M := 65535) h (by decide) (by decide)
theorem f_le {x a b c d : Int32} (h : a ≤ x ∧ x ≤ b) (h1 : c ≤ a) (h2 : b ≤ d) : c ≤ x ∧ x ≤ d := ⟨Int32.le_trans h1 h.1, Int32.le_trans h.2 h2⟩
theorem f_128 {x : Int32} (h : -100 ≤ x ∧ x ≤ 100) : (28 ≤ x + 128 ∧ x + 128 ≤ 228) ∧ x + 128 - 128 = x := by
  refine ⟨?_, ?_⟩
  · simp only [Int32.le_iff_toInt_le, i_m100, i_100, i_28, i_228] at h ⊢
    have e := i_add (x := x) (y := 128) (by rw [i_128]; omega) (by rw [i_128]; omega)
    rw [i_128] at e
    omega
  · exact Int32.add_sub_cancel x 128
theorem f_m128 {x : Int32} (h : -100 ≤ x - 128 ∧ x - 128 ≤ 100) (hx : -1 ≤ x ∧ x ≤ 255) : 28 ≤ x := by
  simp only [Int32.le_iff_toInt_le, i_m100, i_100, i_28, i_255, show (-1 : Int32).toInt = -1 from by decide] at h hx ⊢
  have e := i_sub (x := x) (y := 128) (by rw [i_128]; omega) (by rw [i_128]; omega)
  rw [i_128] at e
  omega
theorem nv_rng1 {bs : List Int32} (hb : a_byt bs) (p : Nat) : -1 ≤ mm_nv bs p 1 ∧ mm_nv bs p 1 ≤ 255 := by
  unfold mm_nv
  split
  · obtain ⟨t, ht, e⟩ := b_dec hb p 1 (by omega)
    rw [e]
    exact ⟨Int32.le_trans (by decide) (nI_pos' (by omega)), nI_le (b := 255) (by omega) (by decide)⟩
  · decide
theorem nv_rng2 {bs : List Int32} (hb : a_byt bs) {p : Nat} (h : ¬ mm_nv bs p 2 = -1) : 0 ≤ mm_nv bs p 2 ∧ mm_nv bs p 2 ≤ 65535 := by
  unfold mm_nv at *
  split at h
  · rename_i c
    obtain ⟨t, ht, e⟩ := b_dec hb p 2 (by omega)
    rw [if_pos c, e]
    exact ⟨nI_pos' (by omega), nI_le (b := 65535) (by omega) (by decide)⟩
  · exact absurd rfl h
/-- behind the end there is nothing -/
theorem nv_end {bs : List Int32} {p n m : Nat} (h0 : 0 < m) (h : mm_nv bs p n = -1) (hb : a_byt bs) (hn : n ≤ 3) : mm_nv bs (mm_np bs p n) m = -1 := by
  unfold mm_nv mm_np at *
  split at h
  · rename_i c
    obtain ⟨t, ht, e⟩ := b_dec hb p n (by omega)
    rw [e] at h
    have h3 : 256 ^ n ≤ 16777216 := by
      have hc : n = 0 ∨ n = 1 ∨ n = 2 ∨ n = 3 := by omega
      rcases hc with rfl | rfl | rfl | rfl <;> decide
    have := nI_pos' (n := t) (by omega)
    rw [h] at this
    exact absurd this (by decide)
  · rename_i c
    rw [if_neg c, if_neg (by omega)]
def rT (bs : List Int32) (p : Nat) : Nat := mm_np bs (mm_np bs (mm_np bs (mm_np bs p 2) 2) 1) 1
def cT (bs : List Int32) (p : Nat) : Prop := ((0 ≤ mm_nv bs p 2 ∧ mm_nv bs p 2 ≤ 4095) ∧ (0 ≤ mm_nv bs (mm_np bs p 2) 2 ∧ mm_nv bs (mm_np bs p 2) 2 ≤ 4095)) ∧ ((-100 ≤ mm_nv bs (mm_np bs (mm_np bs p 2) 2) 1 - 128 ∧ mm_nv bs (mm_np bs (mm_np bs p 2) 2) 1 - 128 ≤ 100) ∧ (-100 ≤ mm_nv bs (mm_np bs (mm_np bs (mm_np bs p 2) 2) 1) 1 - 128 ∧ mm_nv bs (mm_np bs (mm_np bs (mm_np bs p 2) 2) 1) 1 - 128 ≤ 100))
theorem th_ok {bs : List Int32} (hb : a_byt bs) {p : Nat} (h : cT bs p) : bs.drop p = mm_enc (mm_nv bs p 2) 2 ++ (mm_enc (mm_nv bs (mm_np bs p 2) 2) 2 ++ (mm_enc (mm_nv bs (mm_np bs (mm_np bs p 2) 2) 1) 1 ++ (mm_enc (mm_nv bs (mm_np bs (mm_np bs (mm_np bs p 2) 2) 1) 1) 1 ++ bs.drop (rT bs p)))) := by
  obtain ⟨⟨a1, a2⟩, ⟨a3, a4⟩⟩ := h
  have e1 := nv_pos hb (n := 2) (by omega) (nv_ge (a := 0) (by decide) a1.1)
  have e2 := nv_pos hb (n := 2) (by omega) (nv_ge (a := 0) (by decide) a2.1)
  have e3 := nv_pos hb (n := 1) (by omega) (nv_ge (a := 28) (by decide) (f_m128 a3 (nv_rng1 hb _)))
  have e4 := nv_pos hb (n := 1) (by omega) (nv_ge (a := 28) (by decide) (f_m128 a4 (nv_rng1 hb _)))
  rw [e1, e2, e3, e4]
  rfl
theorem th_use {bs r : List Int32} (hb : a_byt bs) {p : Nat} {x y vx vy : Int32} (hx : 0 ≤ x ∧ x ≤ 4095) (hy : 0 ≤ y ∧ y ≤ 4095) (hvx : -100 ≤ vx ∧ vx ≤ 100) (hvy : -100 ≤ vy ∧ vy ≤ 100) (e : bs.drop p = mm_enc x 2 ++ (mm_enc y 2 ++ (mm_enc (vx + 128) 1 ++ (mm_enc (vy + 128) 1 ++ r)))) : cT bs p ∧ bs.drop (rT bs p) = r := by
  obtain ⟨b1, c1⟩ := f_128 hvx
  obtain ⟨b2, c2⟩ := f_128 hvy
  obtain ⟨v1, e1⟩ := nv_use hb (by omega) (by omega) (f_2 (f_le hx (by decide) (by decide))) e
  obtain ⟨v2, e2⟩ := nv_use hb (by omega) (by omega) (f_2 (f_le hy (by decide) (by decide))) e1
  obtain ⟨v3, e3⟩ := nv_use hb (by omega) (by omega) (f_1 (f_le b1 (by decide) (by decide))) e2
  obtain ⟨v4, e4⟩ := nv_use hb (by omega) (by omega) (f_1 (f_le b2 (by decide) (by decide))) e3
  unfold cT rT
  rw [v1, v2, v3, v4, c1, c2]
  exact ⟨⟨⟨hx, hy⟩, ⟨hvx, hvy⟩⟩, e4⟩
/-- kinds -/
theorem kd_val {x : Int32} (h : 1 ≤ x ∧ x ≤ 7) (h1 : ¬ x &&& 1 = 0) : x = 1 + (if x &&& 2 = 0 then 0 else 2) + (if x &&& 4 = 0 then 0 else 4) := by
  obtain ⟨j, hj, rfl⟩ := nI_of2 (x := x) (M := 7) (n := 7) (by decide) (fun z => absurd (Int32.le_trans h.1 (Int32.le_of_lt z)) (by decide)) h.2
  have : j = 0 ∨ j = 1 ∨ j = 2 ∨ j = 3 ∨ j = 4 ∨ j = 5 ∨ j = 6 ∨ j = 7 := by omega
  rcases this with rfl | rfl | rfl | rfl | rfl | rfl | rfl | rfl <;> revert h1 <;> decide
theorem a_kind_bits {f : Nat → Int32} (h : ¬ f 1 = 0) : (1 ≤ a_kind f ∧ a_kind f ≤ 7) ∧ ¬ a_kind f &&& 1 = 0 ∧ ¬ a_kind f = 0 ∧ (a_kind f &&& 2 = 0 ↔ ¬ 0 < f 6) ∧ (a_kind f &&& 4 = 0 ↔ ¬ 0 < f 8) := by
  unfold a_kind
  rw [if_neg h]
  by_cases a : 0 < f 6 <;> by_cases b : 0 < f 8 <;> simp only [a, b, if_true, if_false, not_true, not_false_iff] <;> decide
theorem a_kind_rng (f : Nat → Int32) : 0 ≤ a_kind f ∧ a_kind f ≤ 7 := by
  unfold a_kind
  split
  · decide
  · split <;> split <;> decide
/-- if the bytes from p on are a slot's, they are read as that -/
theorem rs_use {bs r : List Int32} (hb : a_byt bs) {p : Nat} {g : Nat → Int32} (hg : WSf g) (e : bs.drop p = a_encR g ++ r) :
    mm_nv bs (mm_np bs p 2) 1 = a_kind g ∧ (¬ g 1 = 0 → cT bs (mm_np bs (mm_np bs p 2) 1) ∧ bs.drop (rT bs (mm_np bs (mm_np bs p 2) 1)) = a_sh g ++ (a_ti g ++ r)) := by
  have hg0 : 0 ≤ g 0 ∧ g 0 ≤ 65535 := hg.2.1
  by_cases c : g 1 = 0
  · rw [a_encR0 c, List.append_assoc] at e
    obtain ⟨v1, e1⟩ := nv_use hb (by omega) (by omega) (f_2 hg0) e
    obtain ⟨v2, e2⟩ := nv_use hb (by omega) (by omega) (f_1 (by decide)) e1
    exact ⟨by rw [v2]; simp [a_kind, c], fun z => absurd c z⟩
  · rw [a_encR1 c] at e
    obtain ⟨w2, w3, w4, w5, w6, w8⟩ := hg.2.2 c
    obtain ⟨v1, e1⟩ := nv_use hb (by omega) (by omega) (f_2 hg0) e
    obtain ⟨v2, e2⟩ := nv_use hb (by omega) (by omega) (f_1 (f_le (a_kind_rng g) (by decide) (by decide))) e1
    exact ⟨v2, fun _ => th_use hb w2 w3 w4 w5 e2⟩
theorem sh_use {bs r : List Int32} (hb : a_byt bs) {q : Nat} {g : Nat → Int32} (hg : WSf g) (c : ¬ g 1 = 0) (c6 : 0 < g 6) (e : bs.drop q = a_sh g ++ r) : ((1 ≤ mm_nv bs q 1 ∧ mm_nv bs q 1 ≤ 200) ∧ (1 ≤ mm_nv bs (mm_np bs q 1) 1 ∧ mm_nv bs (mm_np bs q 1) 1 ≤ 200)) ∧ bs.drop (mm_np bs (mm_np bs q 1) 1) = r := by
  obtain ⟨-, -, -, -, w6, -⟩ := hg.2.2 c
  have w7 : (1 ≤ g 6 ∧ g 6 ≤ 200) ∧ (1 ≤ g 7 ∧ g 7 ≤ 200) := w6.resolve_left fun z => by have z1 : g 6 = 0 := z.1; rw [z1] at c6; exact absurd c6 (by decide)
  rw [a_sh, if_pos c6, List.append_assoc] at e
  obtain ⟨v1, e1⟩ := nv_use hb (by omega) (by omega) (f_1 (f_le w7.1 (by decide) (by decide))) e
  obtain ⟨v2, e2⟩ := nv_use hb (by omega) (by omega) (f_1 (f_le w7.2 (by decide) (by decide))) e1
  rw [v1, v2]
  exact ⟨w7, e2⟩
theorem sh_ok {bs : List Int32} (hb : a_byt bs) {q : Nat} (h : (1 ≤ mm_nv bs q 1 ∧ mm_nv bs q 1 ≤ 200) ∧ (1 ≤ mm_nv bs (mm_np bs q 1) 1 ∧ mm_nv bs (mm_np bs q 1) 1 ≤ 200)) : bs.drop q = mm_enc (mm_nv bs q 1) 1 ++ (mm_enc (mm_nv bs (mm_np bs q 1) 1) 1 ++ bs.drop (mm_np bs (mm_np bs q 1) 1)) := by
  have e1 := nv_pos hb (n := 1) (by omega) (nv_ge (a := 1) (by decide) h.1.1)
  have e2 := nv_pos hb (n := 1) (by omega) (nv_ge (a := 1) (by decide) h.2.1)
  rw [e1, e2]
theorem ti_use {bs r : List Int32} (hb : a_byt bs) {q : Nat} {g : Nat → Int32} (hg : WSf g) (c : ¬ g 1 = 0) (c8 : 0 < g 8) (e : bs.drop q = a_ti g ++ r) : 1 ≤ mm_nv bs q 2 ∧ mm_nv bs q 2 ≤ 60000 := by
  obtain ⟨-, -, -, -, -, w8⟩ := hg.2.2 c
  have w8 : 0 ≤ g 8 ∧ g 8 ≤ 60000 := w8
  rw [a_ti, if_pos c8] at e
  obtain ⟨v1, e1⟩ := nv_use hb (by omega) (by omega) (f_2 (f_le w8 (by decide) (by decide))) e
  rw [v1]
  refine ⟨?_, w8.2⟩
  simp only [Int32.le_iff_toInt_le, Int32.lt_iff_toInt_lt, i_0, i_1] at c8 ⊢
  omega
/-- a slot that was read is one -/
theorem rs_full {bs : List Int32} (hb : a_byt bs) {p q : Nat} {f : Nat → Int32} {kd : Int32} (ek : kd = mm_nv bs (mm_np bs p 2) 1) (hk : (1 ≤ kd ∧ kd ≤ 7) ∧ ¬ kd &&& 1 = 0) (ht : cT bs (mm_np bs (mm_np bs p 2) 1))
    (f0 : f 0 = mm_nv bs p 2) (f1 : f 1 = 1) (f2 : f 2 = mm_nv bs (mm_np bs (mm_np bs p 2) 1) 2) (f3 : f 3 = mm_nv bs (mm_np bs (mm_np bs (mm_np bs p 2) 1) 2) 2) (f4 : f 4 = mm_nv bs (mm_np bs (mm_np bs (mm_np bs (mm_np bs p 2) 1) 2) 2) 1 - 128) (f5 : f 5 = mm_nv bs (mm_np bs (mm_np bs (mm_np bs (mm_np bs (mm_np bs p 2) 1) 2) 2) 1) 1 - 128)
    (h6 : (kd &&& 2 = 0 ∧ f 6 = 0 ∧ f 7 = 0) ∨ (¬ kd &&& 2 = 0 ∧ (1 ≤ f 6 ∧ f 6 ≤ 200) ∧ (1 ≤ f 7 ∧ f 7 ≤ 200))) (h8 : (kd &&& 4 = 0 ∧ f 8 = 0) ∨ (¬ kd &&& 4 = 0 ∧ (1 ≤ f 8 ∧ f 8 ≤ 60000))) (er : bs.drop (rT bs (mm_np bs (mm_np bs p 2) 1)) = a_sh f ++ (a_ti f ++ bs.drop q)) :
    bs.drop p = a_encR f ++ bs.drop q ∧ WSf f := by
  have hne : ¬ mm_nv bs (mm_np bs p 2) 1 = -1 := nv_ge (a := 1) (by decide) (by rw [← ek]; exact hk.1.1)
  have hg : ¬ mm_nv bs p 2 = -1 := fun z => hne (nv_end (by omega) z hb (by omega))
  have e1 := nv_pos hb (n := 2) (by omega) hg
  have e2 := nv_pos hb (n := 1) (by omega) hne
  have e3 := th_ok hb ht
  have c1 : ¬ f 1 = 0 := by rw [f1]; decide
  have c6 : 0 < f 6 ↔ ¬ kd &&& 2 = 0 := by
    rcases h6 with ⟨a, b, -⟩ | ⟨a, b, -⟩
    · rw [b]; simp [a]
    · have : 0 < f 6 := Int32.lt_of_lt_of_le (by decide) b.1
      simp [a, this]
  have c8 : 0 < f 8 ↔ ¬ kd &&& 4 = 0 := by
    rcases h8 with ⟨a, b⟩ | ⟨a, b⟩
    · rw [b]; simp [a]
    · have : 0 < f 8 := Int32.lt_of_lt_of_le (by decide) b.1
      simp [a, this]
  have ekd : a_kind f = kd := by
    have := kd_val hk.1 hk.2
    unfold a_kind
    rw [if_neg c1]
    by_cases a : kd &&& 2 = 0 <;> by_cases b : kd &&& 4 = 0 <;> simp only [c6, c8, a, b, not_true, not_false_iff, if_true, if_false] at this ⊢ <;> exact this.symm
  have s1 : ∀ x : Int32, x - 128 + 128 = x := fun x => Int32.sub_add_cancel x 128
  refine ⟨?_, ?_⟩
  · rw [a_encR1 c1, e1, e2, e3, er, ekd, ek, f0, f2, f3, f4, f5, s1, s1]
  · obtain ⟨⟨t1, t2⟩, ⟨t3, t4⟩⟩ := ht
    refine ⟨Or.inr f1, by show 0 ≤ f 0 ∧ f 0 ≤ 65535; rw [f0]; exact nv_rng2 hb hg, fun _ => ?_⟩
    show (0 ≤ f 2 ∧ f 2 ≤ 4095) ∧ (0 ≤ f 3 ∧ f 3 ≤ 4095) ∧ (-100 ≤ f 4 ∧ f 4 ≤ 100) ∧ (-100 ≤ f 5 ∧ f 5 ≤ 100) ∧ ((f 6 = 0 ∧ f 7 = 0) ∨ ((1 ≤ f 6 ∧ f 6 ≤ 200) ∧ (1 ≤ f 7 ∧ f 7 ≤ 200))) ∧ (0 ≤ f 8 ∧ f 8 ≤ 60000)
    rw [f2, f3, f4, f5]
    refine ⟨t1, t2, t3, t4, ?_, ?_⟩
    · rcases h6 with ⟨-, b⟩ | ⟨-, b⟩
      · exact Or.inl b
      · exact Or.inr b
    · rcases h8 with ⟨-, b⟩ | ⟨-, b⟩
      · rw [b]; decide
      · exact ⟨Int32.le_trans (by decide) b.1, b.2⟩
theorem rs_empty {bs : List Int32} (hb : a_byt bs) {p : Nat} {f : Nat → Int32} (ek : mm_nv bs (mm_np bs p 2) 1 = 0) (f0 : f 0 = mm_nv bs p 2) (f1 : f 1 = 0) : bs.drop p = a_encR f ++ bs.drop (mm_np bs (mm_np bs p 2) 1) ∧ WSf f := by
  have hne : ¬ mm_nv bs (mm_np bs p 2) 1 = -1 := by rw [ek]; decide
  have hg : ¬ mm_nv bs p 2 = -1 := fun z => hne (nv_end (by omega) z hb (by omega))
  have e1 := nv_pos hb (n := 2) (by omega) hg
  have e2 := nv_pos hb (n := 1) (by omega) hne
  refine ⟨by rw [a_encR0 f1, List.append_assoc, f0, e1, e2, ek], Or.inl f1, by show 0 ≤ f 0 ∧ f 0 ≤ 65535; rw [f0]; exact nv_rng2 hb hg, fun z => absurd f1 z⟩
set_option maxRecDepth 20000 in
theorem c_readSlot {G : mm_G} {Q : mm_O → mm_H → Prop} {h : mm_H} {z y N s p : Nat} {bs : List Int32} (hz : mm_Hd h z 4 y N) (hs : mm_at h s 3 9) (n1 : s ≠ y) (n2 : s ≠ y + 1) (hb : a_byt bs) (hN : bs.length ≤ N) (hB : mm_By (mm_gi h) y bs) (hp : p ≤ bs.length) (hpl : mm_gi h y 2 = nI p) (hq1 : ∀ F' p', mm_rfr y s (mm_gi h) F' → F' y 2 = nI p' → p' ≤ bs.length → bs.drop p = a_encR (F' s) ++ bs.drop p' → WSf (F' s) → Q (.inl (some (.int 1))) (mm_wi h F')) (hq0 : ∀ F', mm_rfr y s (mm_gi h) F' → (∀ g r, WSf g → ¬ bs.drop p = a_encR g ++ r) → Q (.inl (some (.int 0))) (mm_wi h F')) : mm_V G (3, 69) M_Sb_readSlot Q 0 (mm_ent 4 [.ref z, .ref s]) [] h := by
  show mm_V G (3, 69) M_Sb_readSlot Q 0 [some (.ref z), some (.ref s), none, none] [] h
  refine mv_aload_n (pc := 0) d_Sb_readSlot_0 rfl ?_
  refine mv_aload_n (pc := 1) d_Sb_readSlot_1 rfl ?_
  refine mr_getr (pc := 2) d_Sb_readSlot_2 fl_Sb_14 hz.1 rfl (by decide) hz.2.1 ?_
  refine mv_iconst (v := 2) (pc := 5) d_Sb_readSlot_5 (by decide) ?_
  refine mr_callV1 (pc := 6) d_Sb_readSlot_6 (d2 := (1, 21)) ok_By_next li_Sb_117 sv_By_next hz.2.2.1 ⟨by decide, rfl⟩ ⟨by decide, rfl, Nat.le_of_ble_eq_true rfl, rfl, by decide, by decide⟩ ?_
  refine c_nx (h := h) (n := 2) (p := p) hz.2.2 (by omega) hN hB (by first | exact hp | exact mm_np_le _ _ _) hpl ?_
  refine mr_puti (pc := 9) d_Sb_readSlot_9 fl_Sb_52 hs rfl (by decide) ⟨rfl, rfl⟩ ?_
  refine mv_aload_n (pc := 12) d_Sb_readSlot_12 rfl ?_
  refine mr_getr (pc := 13) d_Sb_readSlot_13 fl_Sb_14 hz.1 rfl (by decide) hz.2.1 ?_
  refine mv_iconst (v := 1) (pc := 16) d_Sb_readSlot_16 (by decide) ?_
  refine mr_callV1 (pc := 17) d_Sb_readSlot_17 (d2 := (1, 21)) ok_By_next li_Sb_117 sv_By_next hz.2.2.1 ⟨by decide, rfl⟩ ⟨by decide, rfl, Nat.le_of_ble_eq_true rfl, rfl, by decide, by decide⟩ ?_
  refine c_nx (h := (mm_si (mm_si h y 2 (nI (mm_np bs p 2))) s 0 (mm_nv bs p 2))) (n := 1) (p := (mm_np bs p 2)) hz.2.2 (by omega) hN ((hB.pl _).sl _ n1 n2) (by first | exact hp | exact mm_np_le _ _ _) (by simp [mm_gsi, Ne.symm n1]) ?_
  refine mv_istore_n (pc := 20) d_Sb_readSlot_20 (by decide) ?_
  refine mv_aload_n (pc := 21) d_Sb_readSlot_21 rfl ?_
  refine mv_iload_n (pc := 22) d_Sb_readSlot_22 rfl ?_
  refine mv_if_eq 30 (pc := 23) d_Sb_readSlot_23 (by decide) (fun h23 => ?_) (fun h23 => ?_)
  · refine mv_iconst (v := 0) (pc := 30) d_Sb_readSlot_30 (by decide) ?_
    refine mr_puti (pc := 31) d_Sb_readSlot_31 fl_Sb_61 hs rfl (by decide) ⟨rfl, rfl⟩ ?_
    refine mv_iload_n (pc := 34) d_Sb_readSlot_34 rfl ?_
    refine mv_if_ne 40 (pc := 35) d_Sb_readSlot_35 (by decide) (fun z => absurd z (fun z => z h23)) (fun h35 => ?_)
    refine mv_iconst (v := 1) (pc := 38) d_Sb_readSlot_38 (by decide) ?_
    refine mv_iret (pc := 39) d_Sb_readSlot_39 rfl rfl ?_
    have ny : ¬ y = s := fun z => n1 z.symm
    have ek := h23
    obtain ⟨r1, r2⟩ := rs_empty (f := mm_gi (mm_si (mm_si (mm_si (mm_si h y 2 (nI (mm_np bs p 2))) s 0 (mm_nv bs p 2)) y 2 (nI (mm_np bs (mm_np bs p 2) 1))) s 1 0) s) hb ek (by simp [mm_gsi, n1, ny]) (by simp [mm_gsi])
    exact hq1 _ _ (fun a k ha2 hb2 => by simp [mm_u2, mm_usi, mm_g0, mm_gsi, ha2, hb2]) (by simp [mm_u2, mm_usi, mm_g0, mm_gsi, n1, ny]) (mm_np_le _ _ _) r1 r2
  · refine mv_iconst (v := 1) (pc := 26) d_Sb_readSlot_26 (by decide) ?_
    refine mv_goto 31 (pc := 27) d_Sb_readSlot_27 (by decide) ?_
    refine mr_puti (pc := 31) d_Sb_readSlot_31 fl_Sb_61 hs rfl (by decide) ⟨rfl, rfl⟩ ?_
    refine mv_iload_n (pc := 34) d_Sb_readSlot_34 rfl ?_
    refine mv_if_ne 40 (pc := 35) d_Sb_readSlot_35 (by decide) (fun h35 => ?_) (fun z => absurd z (h23))
    refine mv_iload_n (pc := 40) d_Sb_readSlot_40 rfl ?_
    refine mv_iconst (v := 1) (pc := 41) d_Sb_readSlot_41 (by decide) ?_
    refine mv_bipush (v := 7) (pc := 42) d_Sb_readSlot_42 (by decide) ?_
    refine mr_callS3 (pc := 44) d_Sb_readSlot_44 (d2 := (0, 0)) ok_Ta_isWithin li_Sb_124 sv_Ta_isWithin ⟨by decide, rfl, rfl, rfl, Nat.le_of_ble_eq_true rfl, rfl, by decide, by decide⟩ ?_
    refine c_isWithin (fun hw => ?_) (fun hw => ?_)
    · refine mv_if_eq 60 (pc := 47) d_Sb_readSlot_47 (by decide) (fun z => absurd z (by decide)) (fun _ => ?_)
      refine mv_iload_n (pc := 50) d_Sb_readSlot_50 rfl ?_
      refine mv_iconst (v := 1) (pc := 51) d_Sb_readSlot_51 (by decide) ?_
      refine mv_iand (pc := 52) d_Sb_readSlot_52 ?_
      refine mv_if_eq 60 (pc := 53) d_Sb_readSlot_53 (by decide) (fun h53 => ?_) (fun h53 => ?_)
      · refine mv_iconst (v := 0) (pc := 60) d_Sb_readSlot_60 (by decide) ?_
        refine mv_istore_n (pc := 61) d_Sb_readSlot_61 (by decide) ?_
        refine mv_iload_n (pc := 62) d_Sb_readSlot_62 rfl ?_
        refine mv_if_eq 116 (pc := 63) d_Sb_readSlot_63 (by decide) (fun _ => ?_) (fun z => absurd z (by decide))
        refine mv_iconst (v := 0) (pc := 116) d_Sb_readSlot_116 (by decide) ?_
        refine mv_iret (pc := 117) d_Sb_readSlot_117 rfl rfl ?_
        have ny : ¬ y = s := fun z => n1 z.symm
        refine hq0 _ (fun a k ha2 hb2 => by simp [mm_u2, mm_usi, mm_g0, mm_gsi, ha2, hb2]) (fun g r hg e => ?_)
        obtain ⟨u1, u2⟩ := rs_use hb hg e
        have gn : ¬ g 1 = 0 := fun z => h23 (by rw [u1]; simp [a_kind, z])
        exact (a_kind_bits gn).2.1 (by rw [← u1]; exact h53)
      · refine mv_iconst (v := 1) (pc := 56) d_Sb_readSlot_56 (by decide) ?_
        refine mv_goto 61 (pc := 57) d_Sb_readSlot_57 (by decide) ?_
        refine mv_istore_n (pc := 61) d_Sb_readSlot_61 (by decide) ?_
        refine mv_iload_n (pc := 62) d_Sb_readSlot_62 rfl ?_
        refine mv_if_eq 116 (pc := 63) d_Sb_readSlot_63 (by decide) (fun z => absurd z (by decide)) (fun _ => ?_)
        have hB1 : mm_By (mm_gi (mm_si (mm_si (mm_si (mm_si h y 2 (nI (mm_np bs p 2))) s 0 (mm_nv bs p 2)) y 2 (nI (mm_np bs (mm_np bs p 2) 1))) s 1 1)) y bs := (((hB.pl _).sl _ n1 n2).pl _).sl _ n1 n2
        refine mv_aload_n (pc := 66) d_Sb_readSlot_66 rfl ?_
        refine mv_aload_n (pc := 67) d_Sb_readSlot_67 rfl ?_
        refine mr_callV1 (pc := 68) d_Sb_readSlot_68 (d2 := (2, 44)) ok_Sb_readThing li_Sb_128 sv_Sb_readThing hz.1 ⟨by decide, rfl⟩ ⟨by decide, rfl, Nat.le_of_ble_eq_true rfl, rfl, by decide, by decide⟩ ?_
        refine c_readThing (h := (mm_si (mm_si (mm_si (mm_si h y 2 (nI (mm_np bs p 2))) s 0 (mm_nv bs p 2)) y 2 (nI (mm_np bs (mm_np bs p 2) 1))) s 1 1)) (p := (mm_np bs (mm_np bs p 2) 1)) hz hs n1 n2 hb hN hB1 (mm_np_le _ _ _) (by simp [mm_gsi, Ne.symm n1]) (fun F1 t1 c1 => ?_) (fun F1 t1 c1 => ?_)
        · refine mv_if_eq 116 (pc := 71) d_Sb_readSlot_71 (by decide) (fun z => absurd z (by decide)) (fun _ => ?_)
          refine mv_aload_n (pc := 74) d_Sb_readSlot_74 rfl ?_
          refine mv_aload_n (pc := 75) d_Sb_readSlot_75 rfl ?_
          refine mv_iload_n (pc := 76) d_Sb_readSlot_76 rfl ?_
          refine mv_iconst (v := 2) (pc := 77) d_Sb_readSlot_77 (by decide) ?_
          refine mv_iand (pc := 78) d_Sb_readSlot_78 ?_
          refine mv_if_eq 86 (pc := 79) d_Sb_readSlot_79 (by decide) (fun h79 => ?_) (fun h79 => ?_)
          · refine mv_iconst (v := 0) (pc := 86) d_Sb_readSlot_86 (by decide) ?_
            refine mr_callV2 (pc := 87) d_Sb_readSlot_87 (d2 := (2, 44)) ok_Sb_readShape li_Sb_131 sv_Sb_readShape hz.1 ⟨by decide, rfl⟩ ⟨by decide, rfl, rfl, Nat.le_of_ble_eq_true rfl, rfl, by decide, by decide⟩ ?_
            refine c_readShape (h := mm_wi h F1) (p := (rT bs (mm_np bs (mm_np bs p 2) 1))) hz hs n1 n2 hb hN (hB1.rfr t1.1 n1 n2) (mm_np_le _ _ _) t1.2.1 (fun _ => ?_) (fun _ hn => absurd rfl hn) (fun _ hn => absurd rfl hn)
            refine mv_if_eq 116 (pc := 90) d_Sb_readSlot_90 (by decide) (fun z => absurd z (by decide)) (fun _ => ?_)
            refine mv_aload_n (pc := 93) d_Sb_readSlot_93 rfl ?_
            refine mv_aload_n (pc := 94) d_Sb_readSlot_94 rfl ?_
            refine mv_iload_n (pc := 95) d_Sb_readSlot_95 rfl ?_
            refine mv_iconst (v := 4) (pc := 96) d_Sb_readSlot_96 (by decide) ?_
            refine mv_iand (pc := 97) d_Sb_readSlot_97 ?_
            refine mv_if_eq 105 (pc := 98) d_Sb_readSlot_98 (by decide) (fun h98 => ?_) (fun h98 => ?_)
            · refine mv_iconst (v := 0) (pc := 105) d_Sb_readSlot_105 (by decide) ?_
              refine mr_callV2 (pc := 106) d_Sb_readSlot_106 (d2 := (2, 44)) ok_Sb_readTimer li_Sb_135 sv_Sb_readTimer hz.1 ⟨by decide, rfl⟩ ⟨by decide, rfl, rfl, Nat.le_of_ble_eq_true rfl, rfl, by decide, by decide⟩ ?_
              refine c_readTimer (h := mm_wi h F1) (p := (rT bs (mm_np bs (mm_np bs p 2) 1))) hz hs n1 n2 hb hN (hB1.rfr t1.1 n1 n2) (mm_np_le _ _ _) t1.2.1 (fun _ => ?_) (fun _ hn => absurd rfl hn) (fun _ hn => absurd rfl hn)
              refine mv_if_eq 116 (pc := 109) d_Sb_readSlot_109 (by decide) (fun z => absurd z (by decide)) (fun _ => ?_)
              refine mv_iconst (v := 1) (pc := 112) d_Sb_readSlot_112 (by decide) ?_
              refine mv_goto 117 (pc := 113) d_Sb_readSlot_113 (by decide) ?_
              refine mv_iret (pc := 117) d_Sb_readSlot_117 rfl rfl ?_
              have ny : ¬ y = s := fun z => n1 z.symm
              have fr0 : mm_rfr y s (mm_gi h) (mm_gi (mm_si (mm_si (mm_si (mm_si h y 2 (nI (mm_np bs p 2))) s 0 (mm_nv bs p 2)) y 2 (nI (mm_np bs (mm_np bs p 2) 1))) s 1 1)) := fun a k ha2 hb2 => by simp [mm_gsi, ha2, hb2]
              have g0 : F1 s 0 = (mm_nv bs p 2) := (t1.2.2.1).trans (by simp [mm_gsi, n1, ny])
              have g1 := (t1.2.2.2.1)
              have g2 := (t1.2.2.2.2.1)
              have g3 := (t1.2.2.2.2.2.1)
              have g4 := (t1.2.2.2.2.2.2.1)
              have g5 := (t1.2.2.2.2.2.2.2.1)
              have g6 := (t1.2.2.2.2.2.2.2.2.1)
              have g7 := (t1.2.2.2.2.2.2.2.2.2.1)
              have g8 := (t1.2.2.2.2.2.2.2.2.2.2)
              have z6 : ((mm_nv bs (mm_np bs p 2) 1) &&& 2 = 0 ∧ F1 s 6 = 0 ∧ F1 s 7 = 0) ∨ (¬ (mm_nv bs (mm_np bs p 2) 1) &&& 2 = 0 ∧ (1 ≤ F1 s 6 ∧ F1 s 6 ≤ 200) ∧ (1 ≤ F1 s 7 ∧ F1 s 7 ≤ 200)) := Or.inl ⟨h79, g6, g7⟩
              have z8 : ((mm_nv bs (mm_np bs p 2) 1) &&& 4 = 0 ∧ F1 s 8 = 0) ∨ (¬ (mm_nv bs (mm_np bs p 2) 1) &&& 4 = 0 ∧ (1 ≤ F1 s 8 ∧ F1 s 8 ≤ 60000)) := Or.inl ⟨h98, g8⟩
              have er : bs.drop (rT bs (mm_np bs (mm_np bs p 2) 1)) = a_sh (F1 s) ++ (a_ti (F1 s) ++ bs.drop (rT bs (mm_np bs (mm_np bs p 2) 1))) := by
                have q6 : ¬ 0 < F1 s 6 := by rw [g6]; decide
                rw [a_sh, if_neg q6, List.nil_append]
                have q8 : ¬ 0 < F1 s 8 := by rw [g8]; decide
                rw [a_ti, if_neg q8, List.nil_append]
              obtain ⟨r1, r2⟩ := rs_full (f := F1 s) hb rfl ⟨hw, h53⟩ c1 g0 g1 g2 g3 g4 g5 z6 z8 er
              exact hq1 F1 _ (fr0.trans t1.1) t1.2.1 (mm_np_le _ _ _) r1 r2
            · refine mv_iconst (v := 1) (pc := 101) d_Sb_readSlot_101 (by decide) ?_
              refine mv_goto 106 (pc := 102) d_Sb_readSlot_102 (by decide) ?_
              refine mr_callV2 (pc := 106) d_Sb_readSlot_106 (d2 := (2, 44)) ok_Sb_readTimer li_Sb_135 sv_Sb_readTimer hz.1 ⟨by decide, rfl⟩ ⟨by decide, rfl, rfl, Nat.le_of_ble_eq_true rfl, rfl, by decide, by decide⟩ ?_
              refine c_readTimer (h := mm_wi h F1) (p := (rT bs (mm_np bs (mm_np bs p 2) 1))) hz hs n1 n2 hb hN (hB1.rfr t1.1 n1 n2) (mm_np_le _ _ _) t1.2.1 (fun hn => absurd hn (by decide)) (fun F3 _ s3 c3 => ?_) (fun F3 _ s3 c3 => ?_)
              · refine mv_if_eq 116 (pc := 109) d_Sb_readSlot_109 (by decide) (fun z => absurd z (by decide)) (fun _ => ?_)
                refine mv_iconst (v := 1) (pc := 112) d_Sb_readSlot_112 (by decide) ?_
                refine mv_goto 117 (pc := 113) d_Sb_readSlot_113 (by decide) ?_
                refine mv_iret (pc := 117) d_Sb_readSlot_117 rfl rfl ?_
                have ny : ¬ y = s := fun z => n1 z.symm
                have fr0 : mm_rfr y s (mm_gi h) (mm_gi (mm_si (mm_si (mm_si (mm_si h y 2 (nI (mm_np bs p 2))) s 0 (mm_nv bs p 2)) y 2 (nI (mm_np bs (mm_np bs p 2) 1))) s 1 1)) := fun a k ha2 hb2 => by simp [mm_gsi, ha2, hb2]
                have g0 : F3 s 0 = (mm_nv bs p 2) := ((s3.2.2.1 0 (by decide)).trans t1.2.2.1).trans (by simp [mm_gsi, n1, ny])
                have g1 := ((s3.2.2.1 1 (by decide)).trans t1.2.2.2.1)
                have g2 := ((s3.2.2.1 2 (by decide)).trans t1.2.2.2.2.1)
                have g3 := ((s3.2.2.1 3 (by decide)).trans t1.2.2.2.2.2.1)
                have g4 := ((s3.2.2.1 4 (by decide)).trans t1.2.2.2.2.2.2.1)
                have g5 := ((s3.2.2.1 5 (by decide)).trans t1.2.2.2.2.2.2.2.1)
                have g6 := ((s3.2.2.1 6 (by decide)).trans t1.2.2.2.2.2.2.2.2.1)
                have g7 := ((s3.2.2.1 7 (by decide)).trans t1.2.2.2.2.2.2.2.2.2.1)
                have g8 := s3.2.2.2
                have z6 : ((mm_nv bs (mm_np bs p 2) 1) &&& 2 = 0 ∧ F3 s 6 = 0 ∧ F3 s 7 = 0) ∨ (¬ (mm_nv bs (mm_np bs p 2) 1) &&& 2 = 0 ∧ (1 ≤ F3 s 6 ∧ F3 s 6 ≤ 200) ∧ (1 ≤ F3 s 7 ∧ F3 s 7 ≤ 200)) := Or.inl ⟨h79, g6, g7⟩
                have z8 : ((mm_nv bs (mm_np bs p 2) 1) &&& 4 = 0 ∧ F3 s 8 = 0) ∨ (¬ (mm_nv bs (mm_np bs p 2) 1) &&& 4 = 0 ∧ (1 ≤ F3 s 8 ∧ F3 s 8 ≤ 60000)) := Or.inr ⟨h98, by rw [g8]; exact c3⟩
                have er : bs.drop (rT bs (mm_np bs (mm_np bs p 2) 1)) = a_sh (F3 s) ++ (a_ti (F3 s) ++ bs.drop (mm_np bs (rT bs (mm_np bs (mm_np bs p 2) 1)) 2)) := by
                  have q6 : ¬ 0 < F3 s 6 := by rw [g6]; decide
                  rw [a_sh, if_neg q6, List.nil_append]
                  have q8 : 0 < F3 s 8 := by rw [g8]; exact Int32.lt_of_lt_of_le (by decide) c3.1
                  rw [a_ti, if_pos q8, g8]
                  have e6 := nv_pos hb (n := 2) (by omega) (nv_ge (a := 1) (by decide) c3.1)
                  exact e6
                obtain ⟨r1, r2⟩ := rs_full (f := F3 s) hb rfl ⟨hw, h53⟩ c1 g0 g1 g2 g3 g4 g5 z6 z8 er
                exact hq1 F3 _ ((fr0.trans t1.1).trans s3.1) s3.2.1 (mm_np_le _ _ _) r1 r2
              · refine mv_if_eq 116 (pc := 109) d_Sb_readSlot_109 (by decide) (fun _ => ?_) (fun z => absurd z (by decide))
                refine mv_iconst (v := 0) (pc := 116) d_Sb_readSlot_116 (by decide) ?_
                refine mv_iret (pc := 117) d_Sb_readSlot_117 rfl rfl ?_
                have ny : ¬ y = s := fun z => n1 z.symm
                have fr0 : mm_rfr y s (mm_gi h) (mm_gi (mm_si (mm_si (mm_si (mm_si h y 2 (nI (mm_np bs p 2))) s 0 (mm_nv bs p 2)) y 2 (nI (mm_np bs (mm_np bs p 2) 1))) s 1 1)) := fun a k ha2 hb2 => by simp [mm_gsi, ha2, hb2]
                refine hq0 F3 ((fr0.trans t1.1).trans s3.1) (fun g r hg e => ?_)
                obtain ⟨u1, u2⟩ := rs_use hb hg e
                have gn : ¬ g 1 = 0 := fun z => h23 (by rw [u1]; simp [a_kind, z])
                have c8 : 0 < g 8 := Classical.not_not.mp fun z => h98 (by rw [u1]; exact (a_kind_bits gn).2.2.2.2.mpr z)
                have c6 : ¬ 0 < g 6 := (a_kind_bits gn).2.2.2.1.mp (by rw [← u1]; exact h79)
                have e6 := (u2 gn).2
                rw [a_sh, if_neg c6, List.nil_append] at e6
                exact c3 (ti_use hb hg gn c8 e6)
          · refine mv_iconst (v := 1) (pc := 82) d_Sb_readSlot_82 (by decide) ?_
            refine mv_goto 87 (pc := 83) d_Sb_readSlot_83 (by decide) ?_
            refine mr_callV2 (pc := 87) d_Sb_readSlot_87 (d2 := (2, 44)) ok_Sb_readShape li_Sb_131 sv_Sb_readShape hz.1 ⟨by decide, rfl⟩ ⟨by decide, rfl, rfl, Nat.le_of_ble_eq_true rfl, rfl, by decide, by decide⟩ ?_
            refine c_readShape (h := mm_wi h F1) (p := (rT bs (mm_np bs (mm_np bs p 2) 1))) hz hs n1 n2 hb hN (hB1.rfr t1.1 n1 n2) (mm_np_le _ _ _) t1.2.1 (fun hn => absurd hn (by decide)) (fun F2 _ s2 c2 => ?_) (fun F2 _ s2 c2 => ?_)
            · refine mv_if_eq 116 (pc := 90) d_Sb_readSlot_90 (by decide) (fun z => absurd z (by decide)) (fun _ => ?_)
              refine mv_aload_n (pc := 93) d_Sb_readSlot_93 rfl ?_
              refine mv_aload_n (pc := 94) d_Sb_readSlot_94 rfl ?_
              refine mv_iload_n (pc := 95) d_Sb_readSlot_95 rfl ?_
              refine mv_iconst (v := 4) (pc := 96) d_Sb_readSlot_96 (by decide) ?_
              refine mv_iand (pc := 97) d_Sb_readSlot_97 ?_
              refine mv_if_eq 105 (pc := 98) d_Sb_readSlot_98 (by decide) (fun h98 => ?_) (fun h98 => ?_)
              · refine mv_iconst (v := 0) (pc := 105) d_Sb_readSlot_105 (by decide) ?_
                refine mr_callV2 (pc := 106) d_Sb_readSlot_106 (d2 := (2, 44)) ok_Sb_readTimer li_Sb_135 sv_Sb_readTimer hz.1 ⟨by decide, rfl⟩ ⟨by decide, rfl, rfl, Nat.le_of_ble_eq_true rfl, rfl, by decide, by decide⟩ ?_
                refine c_readTimer (h := mm_wi h F2) (p := (mm_np bs (mm_np bs (rT bs (mm_np bs (mm_np bs p 2) 1)) 1) 1)) hz hs n1 n2 hb hN ((hB1.rfr t1.1 n1 n2).rfr s2.1 n1 n2) (mm_np_le _ _ _) s2.2.1 (fun _ => ?_) (fun _ hn => absurd rfl hn) (fun _ hn => absurd rfl hn)
                refine mv_if_eq 116 (pc := 109) d_Sb_readSlot_109 (by decide) (fun z => absurd z (by decide)) (fun _ => ?_)
                refine mv_iconst (v := 1) (pc := 112) d_Sb_readSlot_112 (by decide) ?_
                refine mv_goto 117 (pc := 113) d_Sb_readSlot_113 (by decide) ?_
                refine mv_iret (pc := 117) d_Sb_readSlot_117 rfl rfl ?_
                have ny : ¬ y = s := fun z => n1 z.symm
                have fr0 : mm_rfr y s (mm_gi h) (mm_gi (mm_si (mm_si (mm_si (mm_si h y 2 (nI (mm_np bs p 2))) s 0 (mm_nv bs p 2)) y 2 (nI (mm_np bs (mm_np bs p 2) 1))) s 1 1)) := fun a k ha2 hb2 => by simp [mm_gsi, ha2, hb2]
                have g0 : F2 s 0 = (mm_nv bs p 2) := ((s2.2.2.1 0 (by decide) (by decide)).trans t1.2.2.1).trans (by simp [mm_gsi, n1, ny])
                have g1 := ((s2.2.2.1 1 (by decide) (by decide)).trans t1.2.2.2.1)
                have g2 := ((s2.2.2.1 2 (by decide) (by decide)).trans t1.2.2.2.2.1)
                have g3 := ((s2.2.2.1 3 (by decide) (by decide)).trans t1.2.2.2.2.2.1)
                have g4 := ((s2.2.2.1 4 (by decide) (by decide)).trans t1.2.2.2.2.2.2.1)
                have g5 := ((s2.2.2.1 5 (by decide) (by decide)).trans t1.2.2.2.2.2.2.2.1)
                have g6 := s2.2.2.2.1
                have g7 := s2.2.2.2.2
                have g8 := ((s2.2.2.1 8 (by decide) (by decide)).trans t1.2.2.2.2.2.2.2.2.2.2)
                have z6 : ((mm_nv bs (mm_np bs p 2) 1) &&& 2 = 0 ∧ F2 s 6 = 0 ∧ F2 s 7 = 0) ∨ (¬ (mm_nv bs (mm_np bs p 2) 1) &&& 2 = 0 ∧ (1 ≤ F2 s 6 ∧ F2 s 6 ≤ 200) ∧ (1 ≤ F2 s 7 ∧ F2 s 7 ≤ 200)) := Or.inr ⟨h79, by rw [g6, g7]; exact c2⟩
                have z8 : ((mm_nv bs (mm_np bs p 2) 1) &&& 4 = 0 ∧ F2 s 8 = 0) ∨ (¬ (mm_nv bs (mm_np bs p 2) 1) &&& 4 = 0 ∧ (1 ≤ F2 s 8 ∧ F2 s 8 ≤ 60000)) := Or.inl ⟨h98, g8⟩
                have er : bs.drop (rT bs (mm_np bs (mm_np bs p 2) 1)) = a_sh (F2 s) ++ (a_ti (F2 s) ++ bs.drop (mm_np bs (mm_np bs (rT bs (mm_np bs (mm_np bs p 2) 1)) 1) 1)) := by
                  have q6 : 0 < F2 s 6 := by rw [g6]; exact Int32.lt_of_lt_of_le (by decide) c2.1.1
                  rw [a_sh, if_pos q6, g6, g7, List.append_assoc]
                  have e5 := sh_ok hb c2
                  have q8 : ¬ 0 < F2 s 8 := by rw [g8]; decide
                  rw [a_ti, if_neg q8, List.nil_append]
                  exact e5
                obtain ⟨r1, r2⟩ := rs_full (f := F2 s) hb rfl ⟨hw, h53⟩ c1 g0 g1 g2 g3 g4 g5 z6 z8 er
                exact hq1 F2 _ ((fr0.trans t1.1).trans s2.1) s2.2.1 (mm_np_le _ _ _) r1 r2
              · refine mv_iconst (v := 1) (pc := 101) d_Sb_readSlot_101 (by decide) ?_
                refine mv_goto 106 (pc := 102) d_Sb_readSlot_102 (by decide) ?_
                refine mr_callV2 (pc := 106) d_Sb_readSlot_106 (d2 := (2, 44)) ok_Sb_readTimer li_Sb_135 sv_Sb_readTimer hz.1 ⟨by decide, rfl⟩ ⟨by decide, rfl, rfl, Nat.le_of_ble_eq_true rfl, rfl, by decide, by decide⟩ ?_
                refine c_readTimer (h := mm_wi h F2) (p := (mm_np bs (mm_np bs (rT bs (mm_np bs (mm_np bs p 2) 1)) 1) 1)) hz hs n1 n2 hb hN ((hB1.rfr t1.1 n1 n2).rfr s2.1 n1 n2) (mm_np_le _ _ _) s2.2.1 (fun hn => absurd hn (by decide)) (fun F3 _ s3 c3 => ?_) (fun F3 _ s3 c3 => ?_)
                · refine mv_if_eq 116 (pc := 109) d_Sb_readSlot_109 (by decide) (fun z => absurd z (by decide)) (fun _ => ?_)
                  refine mv_iconst (v := 1) (pc := 112) d_Sb_readSlot_112 (by decide) ?_
                  refine mv_goto 117 (pc := 113) d_Sb_readSlot_113 (by decide) ?_
                  refine mv_iret (pc := 117) d_Sb_readSlot_117 rfl rfl ?_
                  have ny : ¬ y = s := fun z => n1 z.symm
                  have fr0 : mm_rfr y s (mm_gi h) (mm_gi (mm_si (mm_si (mm_si (mm_si h y 2 (nI (mm_np bs p 2))) s 0 (mm_nv bs p 2)) y 2 (nI (mm_np bs (mm_np bs p 2) 1))) s 1 1)) := fun a k ha2 hb2 => by simp [mm_gsi, ha2, hb2]
                  have g0 : F3 s 0 = (mm_nv bs p 2) := (((s3.2.2.1 0 (by decide)).trans (s2.2.2.1 0 (by decide) (by decide))).trans t1.2.2.1).trans (by simp [mm_gsi, n1, ny])
                  have g1 := (((s3.2.2.1 1 (by decide)).trans (s2.2.2.1 1 (by decide) (by decide))).trans t1.2.2.2.1)
                  have g2 := (((s3.2.2.1 2 (by decide)).trans (s2.2.2.1 2 (by decide) (by decide))).trans t1.2.2.2.2.1)
                  have g3 := (((s3.2.2.1 3 (by decide)).trans (s2.2.2.1 3 (by decide) (by decide))).trans t1.2.2.2.2.2.1)
                  have g4 := (((s3.2.2.1 4 (by decide)).trans (s2.2.2.1 4 (by decide) (by decide))).trans t1.2.2.2.2.2.2.1)
                  have g5 := (((s3.2.2.1 5 (by decide)).trans (s2.2.2.1 5 (by decide) (by decide))).trans t1.2.2.2.2.2.2.2.1)
                  have g6 := ((s3.2.2.1 6 (by decide)).trans s2.2.2.2.1)
                  have g7 := ((s3.2.2.1 7 (by decide)).trans s2.2.2.2.2)
                  have g8 := s3.2.2.2
                  have z6 : ((mm_nv bs (mm_np bs p 2) 1) &&& 2 = 0 ∧ F3 s 6 = 0 ∧ F3 s 7 = 0) ∨ (¬ (mm_nv bs (mm_np bs p 2) 1) &&& 2 = 0 ∧ (1 ≤ F3 s 6 ∧ F3 s 6 ≤ 200) ∧ (1 ≤ F3 s 7 ∧ F3 s 7 ≤ 200)) := Or.inr ⟨h79, by rw [g6, g7]; exact c2⟩
                  have z8 : ((mm_nv bs (mm_np bs p 2) 1) &&& 4 = 0 ∧ F3 s 8 = 0) ∨ (¬ (mm_nv bs (mm_np bs p 2) 1) &&& 4 = 0 ∧ (1 ≤ F3 s 8 ∧ F3 s 8 ≤ 60000)) := Or.inr ⟨h98, by rw [g8]; exact c3⟩
                  have er : bs.drop (rT bs (mm_np bs (mm_np bs p 2) 1)) = a_sh (F3 s) ++ (a_ti (F3 s) ++ bs.drop (mm_np bs (mm_np bs (mm_np bs (rT bs (mm_np bs (mm_np bs p 2) 1)) 1) 1) 2)) := by
                    have q6 : 0 < F3 s 6 := by rw [g6]; exact Int32.lt_of_lt_of_le (by decide) c2.1.1
                    rw [a_sh, if_pos q6, g6, g7, List.append_assoc]
                    have e5 := sh_ok hb c2
                    have q8 : 0 < F3 s 8 := by rw [g8]; exact Int32.lt_of_lt_of_le (by decide) c3.1
                    rw [a_ti, if_pos q8, g8]
                    have e6 := nv_pos hb (n := 2) (by omega) (nv_ge (a := 1) (by decide) c3.1)
                    rw [← e6]
                    exact e5
                  obtain ⟨r1, r2⟩ := rs_full (f := F3 s) hb rfl ⟨hw, h53⟩ c1 g0 g1 g2 g3 g4 g5 z6 z8 er
                  exact hq1 F3 _ (((fr0.trans t1.1).trans s2.1).trans s3.1) s3.2.1 (mm_np_le _ _ _) r1 r2
                · refine mv_if_eq 116 (pc := 109) d_Sb_readSlot_109 (by decide) (fun _ => ?_) (fun z => absurd z (by decide))
                  refine mv_iconst (v := 0) (pc := 116) d_Sb_readSlot_116 (by decide) ?_
                  refine mv_iret (pc := 117) d_Sb_readSlot_117 rfl rfl ?_
                  have ny : ¬ y = s := fun z => n1 z.symm
                  have fr0 : mm_rfr y s (mm_gi h) (mm_gi (mm_si (mm_si (mm_si (mm_si h y 2 (nI (mm_np bs p 2))) s 0 (mm_nv bs p 2)) y 2 (nI (mm_np bs (mm_np bs p 2) 1))) s 1 1)) := fun a k ha2 hb2 => by simp [mm_gsi, ha2, hb2]
                  refine hq0 F3 (((fr0.trans t1.1).trans s2.1).trans s3.1) (fun g r hg e => ?_)
                  obtain ⟨u1, u2⟩ := rs_use hb hg e
                  have gn : ¬ g 1 = 0 := fun z => h23 (by rw [u1]; simp [a_kind, z])
                  have c8 : 0 < g 8 := Classical.not_not.mp fun z => h98 (by rw [u1]; exact (a_kind_bits gn).2.2.2.2.mpr z)
                  have c6 : 0 < g 6 := Classical.not_not.mp fun z => h79 (by rw [u1]; exact (a_kind_bits gn).2.2.2.1.mpr z)
                  exact c3 (ti_use hb hg gn c8 (sh_use hb hg gn c6 (u2 gn).2).2)
            · refine mv_if_eq 116 (pc := 90) d_Sb_readSlot_90 (by decide) (fun _ => ?_) (fun z => absurd z (by decide))
              refine mv_iconst (v := 0) (pc := 116) d_Sb_readSlot_116 (by decide) ?_
              refine mv_iret (pc := 117) d_Sb_readSlot_117 rfl rfl ?_
              have ny : ¬ y = s := fun z => n1 z.symm
              have fr0 : mm_rfr y s (mm_gi h) (mm_gi (mm_si (mm_si (mm_si (mm_si h y 2 (nI (mm_np bs p 2))) s 0 (mm_nv bs p 2)) y 2 (nI (mm_np bs (mm_np bs p 2) 1))) s 1 1)) := fun a k ha2 hb2 => by simp [mm_gsi, ha2, hb2]
              refine hq0 F2 ((fr0.trans t1.1).trans s2.1) (fun g r hg e => ?_)
              obtain ⟨u1, u2⟩ := rs_use hb hg e
              have gn : ¬ g 1 = 0 := fun z => h23 (by rw [u1]; simp [a_kind, z])
              have c6 : 0 < g 6 := Classical.not_not.mp fun z => h79 (by rw [u1]; exact (a_kind_bits gn).2.2.2.1.mpr z)
              exact c2 (sh_use hb hg gn c6 (u2 gn).2).1
        · refine mv_if_eq 116 (pc := 71) d_Sb_readSlot_71 (by decide) (fun _ => ?_) (fun z => absurd z (by decide))
          refine mv_iconst (v := 0) (pc := 116) d_Sb_readSlot_116 (by decide) ?_
          refine mv_iret (pc := 117) d_Sb_readSlot_117 rfl rfl ?_
          have ny : ¬ y = s := fun z => n1 z.symm
          have fr0 : mm_rfr y s (mm_gi h) (mm_gi (mm_si (mm_si (mm_si (mm_si h y 2 (nI (mm_np bs p 2))) s 0 (mm_nv bs p 2)) y 2 (nI (mm_np bs (mm_np bs p 2) 1))) s 1 1)) := fun a k ha2 hb2 => by simp [mm_gsi, ha2, hb2]
          refine hq0 F1 (fr0.trans t1.1) (fun g r hg e => ?_)
          obtain ⟨u1, u2⟩ := rs_use hb hg e
          have gn : ¬ g 1 = 0 := fun z => h23 (by rw [u1]; simp [a_kind, z])
          exact c1 (u2 gn).1
    · refine mv_if_eq 60 (pc := 47) d_Sb_readSlot_47 (by decide) (fun _ => ?_) (fun z => absurd z (by decide))
      refine mv_iconst (v := 0) (pc := 60) d_Sb_readSlot_60 (by decide) ?_
      refine mv_istore_n (pc := 61) d_Sb_readSlot_61 (by decide) ?_
      refine mv_iload_n (pc := 62) d_Sb_readSlot_62 rfl ?_
      refine mv_if_eq 116 (pc := 63) d_Sb_readSlot_63 (by decide) (fun _ => ?_) (fun z => absurd z (by decide))
      refine mv_iconst (v := 0) (pc := 116) d_Sb_readSlot_116 (by decide) ?_
      refine mv_iret (pc := 117) d_Sb_readSlot_117 rfl rfl ?_
      have ny : ¬ y = s := fun z => n1 z.symm
      refine hq0 _ (fun a k ha2 hb2 => by simp [mm_u2, mm_usi, mm_g0, mm_gsi, ha2, hb2]) (fun g r hg e => ?_)
      obtain ⟨u1, u2⟩ := rs_use hb hg e
      have gn : ¬ g 1 = 0 := fun z => h23 (by rw [u1]; simp [a_kind, z])
      exact hw (by rw [u1]; exact (a_kind_bits gn).1)
