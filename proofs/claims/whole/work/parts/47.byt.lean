/-! NUMBERS AS BYTES, and back -/
theorem b_t (y : Int32) : y.toInt % 256 = (y.toBitVec.toNat : Int) % 256 := by
  have h : y.toInt = y.toBitVec.toInt := rfl
  rw [h, BitVec.toInt_eq_toNat_cond]
  split <;> omega
theorem b_t2 (y : Int32) : y.toInt = (y.toBitVec.toNat : Int) ∨ y.toInt = (y.toBitVec.toNat : Int) - 4294967296 := by
  have h : y.toInt = y.toBitVec.toInt := rfl
  rw [h, BitVec.toInt_eq_toNat_cond]
  split
  · exact Or.inl rfl
  · exact Or.inr rfl
theorem b_sh (x : Int32) : ∀ m, m < 4 → (x >>> (nI (8 * m) &&& 31)) &&& 255 = nI (x.toBitVec.toNat / 256 ^ m % 256) := by
  have key : ∀ (s : Int32) (k : Nat), (s.toBitVec.smod 32).toNat = k → ((x >>> s) &&& 255) = nI ((x >>> s).toBitVec.toNat % 256) ∧ (((x >>> s).toBitVec.toNat : Int) % 256 = (x.toInt / 2 ^ k) % 256) := fun s k hs => by
    refine ⟨pk_and (x >>> s) (m := 255) 8 (by decide), ?_⟩
    rw [← b_t, pk_shr x s k hs, Int.shiftRight_eq_div_pow]
    rfl
  intro m hm
  have hc : m = 0 ∨ m = 1 ∨ m = 2 ∨ m = 3 := by omega
  have hx := b_t2 x
  rcases hc with rfl | rfl | rfl | rfl
  · obtain ⟨e1, e2⟩ := key (nI (8 * 0) &&& 31) 0 (by decide)
    rw [e1]; congr 1; omega
  · obtain ⟨e1, e2⟩ := key (nI (8 * 1) &&& 31) 8 (by decide)
    rw [e1]; congr 1; omega
  · obtain ⟨e1, e2⟩ := key (nI (8 * 2) &&& 31) 16 (by decide)
    rw [e1]; congr 1; omega
  · obtain ⟨e1, e2⟩ := key (nI (8 * 3) &&& 31) 24 (by decide)
    rw [e1]; congr 1; omega
/-- the bytes of a number -/
theorem b_enc (x : Int32) {n : Nat} (hn : n < 4) : mm_enc x (n + 1) = nI (x.toBitVec.toNat / 256 ^ n % 256) :: mm_enc x n := by
  show ((x >>> (nI (8 * n) &&& 31)) &&& 255) :: mm_enc x n = _
  rw [b_sh x n hn]
theorem b_lt (x : Int32) : x.toBitVec.toNat < 4294967296 := x.toBitVec.isLt
theorem b_ext {x y : Int32} (h : x.toBitVec.toNat = y.toBitVec.toNat) : x = y := Int32.toBitVec_inj.mp (BitVec.eq_of_toNat_eq h)
/-- a number that fits is what its bytes say -/
theorem b_inj {x y : Int32} : ∀ n, n ≤ 4 → x.toBitVec.toNat < 256 ^ n → y.toBitVec.toNat < 256 ^ n → mm_enc x n = mm_enc y n → x = y := by
  have key : ∀ n, n ≤ 4 → mm_enc x n = mm_enc y n → x.toBitVec.toNat % 256 ^ n = y.toBitVec.toNat % 256 ^ n := by
    intro n
    induction n with
    | zero => intro _ _; simp [Nat.mod_one]
    | succ n ih =>
      intro hn e
      rw [b_enc x (by omega), b_enc y (by omega)] at e
      obtain ⟨e1, e2⟩ := List.cons.inj e
      have e3 := ih (by omega) e2
      have e4 : x.toBitVec.toNat / 256 ^ n % 256 = y.toBitVec.toNat / 256 ^ n % 256 := (nI_eq (by have := Nat.mod_lt (x.toBitVec.toNat / 256 ^ n) (show 0 < 256 by decide); omega) (by have := Nat.mod_lt (y.toBitVec.toNat / 256 ^ n) (show 0 < 256 by decide); omega)).mp e1
      rw [Nat.pow_succ, Nat.mod_mul, Nat.mod_mul, e3, e4]
  intro n hn hx hy e
  have := key n hn e
  rw [Nat.mod_eq_of_lt hx, Nat.mod_eq_of_lt hy] at this
  exact b_ext this
theorem b_or {c d : Nat} (hc : c < 256) (hd : d < 16777216) : ((nI d <<< ((8 : Int32) &&& 31)) ||| nI c) = nI (d * 256 + c) := by
  have e0 : nI d <<< ((8 : Int32) &&& 31) = nI (d * 256) := pk_shlN ((8 : Int32) &&& 31) 8 (by decide) (by omega)
  have e : d * 256 ||| c = d * 256 + c := by
    have := Nat.two_pow_add_eq_or_of_lt (i := 8) hc d
    rw [Nat.mul_comm d 256]
    exact this.symm
  rw [e0]
  apply Int32.toBitVec_inj.mp
  rw [Int32.toBitVec_or]
  show BitVec.ofNat 32 (d * 256) ||| BitVec.ofNat 32 c = BitVec.ofNat 32 (d * 256 + c)
  rw [← BitVec.ofNat_or, e]
/-- what is read is below 256 ^ n -/
theorem b_dec {bs : List Int32} (hb : a_byt bs) (p : Nat) : ∀ n, n ≤ 4 → ∃ t, t < 256 ^ n ∧ mm_dec bs p n = nI t
  | 0, _ => ⟨0, by decide, rfl⟩
  | n + 1, hn => by
    obtain ⟨t, ht, e⟩ := b_dec hb p n (by omega)
    obtain ⟨v, hv, ev⟩ := hb.get (p + n)
    have h3 : 256 ^ n ≤ 16777216 := by
      have hc : n = 0 ∨ n = 1 ∨ n = 2 ∨ n = 3 := by omega
      rcases hc with rfl | rfl | rfl | rfl <;> decide
    refine ⟨t * 256 + v, by rw [Nat.pow_succ]; omega, ?_⟩
    show (mm_dec bs p n <<< ((8 : Int32) &&& 31)) ||| bs.getD (p + n) 0 = _
    rw [e, ev, b_or hv (by omega)]
theorem b_pow {n : Nat} (hn : n ≤ 4) : 256 ^ n ≤ 4294967296 := by
  have hc : n = 0 ∨ n = 1 ∨ n = 2 ∨ n = 3 ∨ n = 4 := by omega
  rcases hc with rfl | rfl | rfl | rfl | rfl <;> decide
theorem b_decN {bs : List Int32} (hb : a_byt bs) (p : Nat) {n : Nat} (hn : n ≤ 4) : (mm_dec bs p n).toBitVec.toNat < 256 ^ n := by
  obtain ⟨t, ht, e⟩ := b_dec hb p n hn
  have := b_pow hn
  rw [e, pk_tn (by omega)]
  exact ht
theorem b_getD {bs : List Int32} {p : Nat} (hp : p < bs.length) : bs.drop p = bs.getD p 0 :: bs.drop (p + 1) := by
  rw [List.drop_eq_getElem_cons hp, List.getD_eq_getElem?_getD, List.getElem?_eq_getElem hp]
  rfl
/-- the bytes read are the bytes of what is read -/
theorem b_rd {bs : List Int32} (hb : a_byt bs) (p : Nat) : ∀ n, n ≤ 4 → p + n ≤ bs.length → bs.drop p = mm_enc (mm_dec bs p n) n ++ bs.drop (p + n) := by
  have key : ∀ n m, n + m ≤ 4 → p + n + m ≤ bs.length → ∀ x : Int32, x.toBitVec.toNat / 256 ^ m = (mm_dec bs p n).toBitVec.toNat → x.toBitVec.toNat < 256 ^ (n + m) → bs.drop p = (mm_enc x (n + m)).take n ++ bs.drop (p + n) := by
    intro n
    induction n with
    | zero => intro m _ _ x _ _; simp
    | succ n ih =>
      intro m hm hp x hx hx2
      obtain ⟨t, ht, e⟩ := b_dec hb p n (by omega)
      obtain ⟨v, hv, ev⟩ := hb.get (p + n)
      have p1 := b_pow (n := n) (by omega)
      have hd : mm_dec bs p (n + 1) = nI (t * 256 + v) := by
        show (mm_dec bs p n <<< ((8 : Int32) &&& 31)) ||| bs.getD (p + n) 0 = _
        have h3 : 256 ^ n ≤ 16777216 := by
          have hc : n = 0 ∨ n = 1 ∨ n = 2 ∨ n = 3 := by omega
          rcases hc with rfl | rfl | rfl | rfl <;> decide
        rw [e, ev, b_or hv (by omega)]
      have h4 : t * 256 + v < 4294967296 := by
        have := b_pow (n := n + 1) (by omega)
        rw [Nat.pow_succ] at this
        omega
      rw [hd, pk_tn (by omega)] at hx
      have hx3 : x.toBitVec.toNat / 256 ^ (m + 1) = (mm_dec bs p n).toBitVec.toNat := by
        rw [Nat.pow_succ, ← Nat.div_div_eq_div_mul, hx, e, pk_tn (by omega)]
        omega
      have h5 := ih (m + 1) (by omega) (by omega) x hx3 (by rw [show n + (m + 1) = n + 1 + m by omega]; exact hx2)
      rw [h5, b_getD (p := p + n) (by omega), ev, show n + (m + 1) = n + 1 + m by omega]
      have hl : (mm_enc x (n + 1 + m)).length = n + 1 + m := mm_enc_len x _
      have hg : (mm_enc x (n + 1 + m))[n]? = some (nI v) := by
        have gen : ∀ q r, q + r + 1 ≤ 4 → (mm_enc x (q + r + 1))[q]? = some (nI (x.toBitVec.toNat / 256 ^ r % 256)) := by
          intro q
          induction q with
          | zero => intro r hr; rw [show 0 + r + 1 = r + 1 by omega, b_enc x (by omega)]; rfl
          | succ q ihq =>
            intro r hr
            rw [show q + 1 + r + 1 = (q + r + 1) + 1 by omega, b_enc x (by omega), List.getElem?_cons_succ]
            exact ihq r (by omega)
        have := gen n m (by omega)
        rw [show n + m + 1 = n + 1 + m by omega, hx] at this
        rw [this]
        congr 2
        omega
      rw [List.take_succ, hg]
      simp [Nat.add_assoc]
  intro n hn hp
  have := key n 0 (by omega) (by omega) (mm_dec bs p n) (by simp) (b_decN hb p hn)
  rw [Nat.add_zero, List.take_of_length_le (by rw [mm_enc_len]; exact Nat.le_refl _)] at this
  exact this
/-- read as written: the number comes back, and the rest is the rest -/
theorem b_use {bs r : List Int32} {p n : Nat} {g : Int32} (hb : a_byt bs) (hn : n ≤ 4) (hg : g.toBitVec.toNat < 256 ^ n) (e : bs.drop p = mm_enc g n ++ r) (h0 : 0 < n) : p + n ≤ bs.length ∧ mm_dec bs p n = g ∧ bs.drop (p + n) = r := by
  have hl := congrArg List.length e
  rw [List.length_drop, List.length_append, mm_enc_len] at hl
  have hp : p + n ≤ bs.length := by omega
  have e2 := b_rd hb p n hn hp
  rw [e] at e2
  obtain ⟨e3, e4⟩ := List.append_inj e2 (by rw [mm_enc_len, mm_enc_len])
  exact ⟨hp, (b_inj n hn hg (b_decN hb p hn) e3).symm, e4.symm⟩
/-- a number from 0 to M fits -/
theorem b_fit {x : Int32} {M n : Nat} (h : 0 ≤ x ∧ x ≤ nI M) (hM : M < 2 ^ 31) (hf : M < 256 ^ n) : x.toBitVec.toNat < 256 ^ n := by
  obtain ⟨j, hj, rfl⟩ := nI_of2 (x := x) (M := nI M) (n := M) (nI_toInt hM) (Int32.not_lt.mpr h.1) h.2
  rw [pk_tn (by omega)]
  omega
