/-! ===== signed ints as whole numbers, within bounds ===== -/
theorem fb_rng (x : Int32) : -2147483648 ≤ x.toInt ∧ x.toInt < 2147483648 := by
  have h1 := Int32.le_toInt x
  have h2 := Int32.toInt_lt x
  omega
theorem fb_bmod {z : Int} (h1 : -2147483648 ≤ z) (h2 : z < 2147483648) : z.bmod (2 ^ 32) = z := by
  rw [Int.bmod_eq_of_le (by omega) (by omega)]
theorem fb_addI {x y : Int32} (h1 : -2147483648 ≤ x.toInt + y.toInt) (h2 : x.toInt + y.toInt < 2147483648) : (x + y).toInt = x.toInt + y.toInt := by
  rw [Int32.toInt_add, fb_bmod h1 h2]
theorem fb_subI {x y : Int32} (h1 : -2147483648 ≤ x.toInt - y.toInt) (h2 : x.toInt - y.toInt < 2147483648) : (x - y).toInt = x.toInt - y.toInt := by
  rw [Int32.toInt_sub, fb_bmod h1 h2]
theorem fb_mulI {x y : Int32} (h1 : -2147483648 ≤ x.toInt * y.toInt) (h2 : x.toInt * y.toInt < 2147483648) : (x * y).toInt = x.toInt * y.toInt := by
  rw [Int32.toInt_mul, fb_bmod h1 h2]
theorem fb_negI {x : Int32} (h : x.toInt ≠ -2147483648) : (-x).toInt = -x.toInt := by
  have := fb_rng x
  rw [Int32.toInt_neg, fb_bmod (by omega) (by omega)]
theorem fb_ofI {z : Int} (h1 : -2147483648 ≤ z) (h2 : z < 2147483648) : (Int32.ofInt z).toInt = z := by
  rw [Int32.toInt_ofInt, fb_bmod h1 h2]
theorem fb_asI (x : Int32) : Int32.ofInt x.toInt = x := Int32.ofInt_toInt x
theorem fb_rngL (x : Int64) : -9223372036854775808 ≤ x.toInt ∧ x.toInt < 9223372036854775808 := by
  have h1 := Int64.le_toInt x
  have h2 := Int64.toInt_lt x
  omega
theorem fb_bmodL {z : Int} (h1 : -9223372036854775808 ≤ z) (h2 : z < 9223372036854775808) : z.bmod (2 ^ 64) = z := by
  rw [Int.bmod_eq_of_le (by omega) (by omega)]
theorem fb_addL {x y : Int64} (h1 : -9223372036854775808 ≤ x.toInt + y.toInt) (h2 : x.toInt + y.toInt < 9223372036854775808) : (x + y).toInt = x.toInt + y.toInt := by
  rw [Int64.toInt_add, fb_bmodL h1 h2]
theorem fb_subL {x y : Int64} (h1 : -9223372036854775808 ≤ x.toInt - y.toInt) (h2 : x.toInt - y.toInt < 9223372036854775808) : (x - y).toInt = x.toInt - y.toInt := by
  rw [Int64.toInt_sub, fb_bmodL h1 h2]
theorem fb_mulL {x y : Int64} (h1 : -9223372036854775808 ≤ x.toInt * y.toInt) (h2 : x.toInt * y.toInt < 9223372036854775808) : (x * y).toInt = x.toInt * y.toInt := by
  rw [Int64.toInt_mul, fb_bmodL h1 h2]
/-! ===== cuts of what is narrow already ===== -/
theorem fb_byte {x : Int32} (h1 : -128 ≤ x.toInt) (h2 : x.toInt < 128) : x.toInt8.toInt32 = x := by
  apply Int32.toInt_inj.1
  rw [Int8.toInt_toInt32, Int32.toInt_toInt8, Int.bmod_eq_of_le (by omega) (by omega)]
theorem fb_short {x : Int32} (h1 : -32768 ≤ x.toInt) (h2 : x.toInt < 32768) : x.toInt16.toInt32 = x := by
  apply Int32.toInt_inj.1
  rw [Int16.toInt_toInt32, Int32.toInt_toInt16, Int.bmod_eq_of_le (by omega) (by omega)]
theorem fb_byte_rng (x : Int32) : -128 ≤ x.toInt8.toInt32.toInt ∧ x.toInt8.toInt32.toInt < 128 := by
  rw [Int8.toInt_toInt32]
  have h1 := Int8.le_toInt x.toInt8
  have h2 := Int8.toInt_lt x.toInt8
  omega
theorem fb_short_rng (x : Int32) : -32768 ≤ x.toInt16.toInt32.toInt ∧ x.toInt16.toInt32.toInt < 32768 := by
  rw [Int16.toInt_toInt32]
  have h1 := Int16.le_toInt x.toInt16
  have h2 := Int16.toInt_lt x.toInt16
  omega
theorem fb_byte_twice (x : Int32) : x.toInt8.toInt32.toInt8.toInt32 = x.toInt8.toInt32 := fb_byte (fb_byte_rng x).1 (fb_byte_rng x).2
theorem fb_short_twice (x : Int32) : x.toInt16.toInt32.toInt16.toInt32 = x.toInt16.toInt32 := fb_short (fb_short_rng x).1 (fb_short_rng x).2
theorem fb_char {n : Nat} (h : n < 65536) : (nI n).toUInt32.toUInt16.toUInt32.toInt32 = nI n := by
  apply Int32.toBitVec_inj.1
  apply BitVec.eq_of_toNat_eq
  have e1 : (nI n).toBitVec.toNat = n := by
    show (BitVec.ofNat 32 n).toNat = n
    rw [BitVec.toNat_ofNat, Nat.mod_eq_of_lt (by omega)]
  have e2 : ((nI n).toUInt32.toUInt16.toUInt32).toNat = n := by
    rw [UInt16.toNat_toUInt32, UInt32.toNat_toUInt16]
    show (nI n).toBitVec.toNat % 2 ^ 16 = n
    rw [e1, Nat.mod_eq_of_lt (by omega)]
  rw [e1]
  exact e2
/-! small things: booleans, comparisons of longs -/
def jb (p : Prop) [Decidable p] : Int32 := if p then 1 else 0
theorem jb_0 {p : Prop} [Decidable p] : jb p = 0 ↔ ¬ p := by
  unfold jb; by_cases h : p <;> simp [h]
theorem jb_f {p : Prop} [Decidable p] (h : jb p = 0) : ¬ p := jb_0.mp h
theorem jb_t {p : Prop} [Decidable p] (h : ¬ jb p = 0) : p := Decidable.byContradiction fun q => h (jb_0.mpr q)
theorem jb_tt {p : Prop} [Decidable p] (h : p) : 1 = jb p := by unfold jb; rw [if_pos h]
theorem jb_ff {p : Prop} [Decidable p] (h : ¬ p) : 0 = jb p := by unfold jb; rw [if_neg h]
theorem jb_n {p : Prop} [Decidable p] : narrow .boolean (.int (jb p)) = .int (jb p) := by
  unfold jb; by_cases h : p
  · rw [if_pos h]; rfl
  · rw [if_neg h]; rfl
theorem jb_01 {p : Prop} [Decidable p] : jb p = 0 ∨ jb p = 1 := by
  unfold jb; by_cases h : p
  · rw [if_pos h]; exact Or.inr rfl
  · rw [if_neg h]; exact Or.inl rfl
theorem jb_iff {p q : Prop} [Decidable p] [Decidable q] (h : p ↔ q) : jb p = jb q := by
  unfold jb; by_cases hp : p
  · rw [if_pos hp, if_pos (h.mp hp)]
  · rw [if_neg hp, if_neg (fun x => hp (h.mpr x))]
theorem jl_lt {x y : Int64} : lg_cmp x y < 0 ↔ x.toInt < y.toInt := (lg_cmp_lt x y).trans Int64.lt_iff_toInt_lt
theorem jl_gt {x y : Int64} : 0 < lg_cmp x y ↔ y.toInt < x.toInt := (lg_cmp_gt x y).trans Int64.lt_iff_toInt_lt
theorem jl_w (x : Int32) : x.toInt64.toInt = x.toInt := Int32.toInt_toInt64 x
theorem jl_m1 (x : Int32) : (x.toInt64 - 1).toInt = x.toInt - 1 := by
  have h := fb_rng x
  rw [fb_subL, jl_w]; · rfl
  · rw [jl_w]; show _ ≤ x.toInt - 1; omega
  · rw [jl_w]; show x.toInt - 1 < _; omega
/-- an index by its number -/
theorem ji_in {i : Int32} {n : Nat} (h0 : 0 ≤ i.toInt) (h1 : i.toInt < n) : vp_in i n := vp_in_iff.mpr ⟨h0, h1⟩
theorem ji_ne {i c : Int32} {n : Int} (h : ¬ i = c) (hc : c.toInt = n) (h4 : i.toInt ≤ n) : i.toInt < n := by
  rcases Int.lt_or_eq_of_le h4 with q | q
  · exact q
  · exact absurd (Int32.toInt_inj.mp (q.trans hc.symm)) h
theorem ji_ne4 {i : Int32} (h : ¬ i = 4) (h4 : i.toInt ≤ 4) : i.toInt < 4 := ji_ne h rfl h4
/-- c * a + b as a number -/
theorem ji_lini {c a b : Int32} {n : Int} (hc : c.toInt = n) (h1 : -2147483648 ≤ n * a.toInt ∧ n * a.toInt < 2147483648) (h2 : -2147483648 ≤ n * a.toInt + b.toInt ∧ n * a.toInt + b.toInt < 2147483648) : (c * a + b).toInt = n * a.toInt + b.toInt := by
  subst hc
  rw [fb_addI, fb_mulI h1.1 h1.2]
  · rw [fb_mulI h1.1 h1.2]; exact h2.1
  · rw [fb_mulI h1.1 h1.2]; exact h2.2
theorem ji_lin {a b : Int32} {c : Int32} (n m : Int) {N : Nat} (hc : c.toInt = n) (h1 : 0 ≤ a.toInt) (h2 : n * a.toInt + b.toInt < N) (h3 : 0 ≤ b.toInt) (h4 : 0 ≤ n * a.toInt ∧ (N : Int) ≤ 2147483648) : vp_in (c * a + b) N := by
  have e : (c * a + b).toInt = n * a.toInt + b.toInt := ji_lini hc (by omega) (by omega)
  exact ji_in (by rw [e]; omega) (by rw [e]; exact h2)
theorem jl_0 : (0 : Int64).toInt = 0 := rfl
theorem ji_lin3 {a b c e : Int32} (n m : Int) {N : Nat} (hc : c.toInt = n) (he : e.toInt = m) (h1 : 0 ≤ n * a.toInt + b.toInt + m ∧ n * a.toInt + b.toInt + m < N) (h2 : -1000000 ≤ n * a.toInt ∧ n * a.toInt ≤ 1000000) (h3 : -1000000 ≤ b.toInt ∧ b.toInt ≤ 1000000 ∧ -1000000 ≤ m ∧ m ≤ 1000000 ∧ (N : Int) ≤ 2147483648) : vp_in (c * a + b + e) N := by
  have e1 : (c * a + b).toInt = n * a.toInt + b.toInt := ji_lini hc (by omega) (by omega)
  have e2 : (c * a + b + e).toInt = n * a.toInt + b.toInt + m := by
    rw [fb_addI, e1, he]
    · rw [e1, he]; omega
    · rw [e1, he]; omega
  exact ji_in (by rw [e2]; omega) (by rw [e2]; omega)
/-- some number below n has it -/
def jx_any (p : Nat → Bool) : Nat → Bool
  | 0 => false
  | n + 1 => jx_any p n || p n
theorem jx_any_iff {p : Nat → Bool} : ∀ {n : Nat}, jx_any p n = true ↔ ∃ k, k < n ∧ p k = true
  | 0 => by simp [jx_any]
  | n + 1 => by
    rw [jx_any, Bool.or_eq_true, jx_any_iff]
    constructor
    · rintro (⟨k, h1, h2⟩ | h)
      · exact ⟨k, by omega, h2⟩
      · exact ⟨n, by omega, h⟩
    · rintro ⟨k, h1, h2⟩
      rcases Nat.lt_or_ge k n with q | q
      · exact Or.inl ⟨k, q, h2⟩
      · exact Or.inr (by rw [show n = k by omega]; exact h2)
theorem ji_cl {x : Int32} {n : Nat} (h : x.toInt = (n : Int)) : x.toNatClampNeg = n := by
  show x.toInt.toNat = n
  rw [h]; rfl
theorem ji_tn {x : Int32} (h : 0 ≤ x.toInt) : (x.toNatClampNeg : Int) = x.toInt := Int.toNat_of_nonneg h
theorem ji_dec {k : Int32} (h : -2147483647 ≤ k.toInt) : (k + Int32.ofInt (-1)).toInt = k.toInt - 1 := by
  have := fb_rng k
  rw [fb_addI (by show _ ≤ k.toInt + -1; omega) (by show k.toInt + -1 < _; omega)]; rfl
theorem ji_inc {k : Int32} (h : k.toInt < 2147483647) : (k + Int32.ofInt 1).toInt = k.toInt + 1 := by
  have := fb_rng k
  rw [fb_addI (by show _ ≤ k.toInt + 1; omega) (by show k.toInt + 1 < _; omega)]; rfl
theorem ji_inc1 {k : Int32} (h : k.toInt < 2147483647) : (k + 1).toInt = k.toInt + 1 := ji_inc h
theorem ji_dec1 {k : Int32} (h : -2147483648 < k.toInt) : (k - 1).toInt = k.toInt - 1 := by
  have := fb_rng k
  rw [fb_subI (by show _ ≤ k.toInt - 1; omega) (by show k.toInt - 1 < _; omega)]; rfl
theorem ji_nI {x : Int32} (h : 0 ≤ x.toInt) : x = nI x.toNatClampNeg := by
  apply Int32.toInt_inj.mp
  have h1 := fb_rng x
  have h2 := ji_tn h
  rw [nI_toInt (by omega), h2]
theorem ji_mod {x : Int32} (h : 0 ≤ x.toInt) (c : Int32) (d : Nat) (hc : c = nI d) (h0 : 0 < d) (hd : d < 2 ^ 31) : x - x / c * c = nI (x.toNatClampNeg % d) := by
  have h1 := fb_rng x
  have h2 := ji_tn h
  have e := ji_nI h
  subst hc
  have := pk_rem (a := x.toNatClampNeg) (d := d) (by omega) h0 hd
  rw [← e] at this
  exact this
theorem ji_hour {x : Int32} (h : 0 ≤ x.toInt) : (x - x / 1440 * 1440) / 60 = nI (x.toNatClampNeg % 1440 / 60) := by
  rw [ji_mod h 1440 1440 rfl (by decide) (by decide)]
  have h1 : x.toNatClampNeg % 1440 < 1440 := Nat.mod_lt _ (by decide)
  exact pk_div (d := 60) (by omega) (by decide) (by decide)
theorem ji_hin {x : Int32} (h : 0 ≤ x.toInt) : vp_in ((x - x / 1440 * 1440) / 60) 24 := by
  rw [ji_hour h]
  have h1 : x.toNatClampNeg % 1440 < 1440 := Nat.mod_lt _ (by decide)
  exact vp_in_nI (by omega) (by decide)
theorem ji_a0 (x : Int32) : (x + 0).toInt = x.toInt := by rw [Int32.add_zero]
/-- how many numbers below n have it -/
def jx_ct (p : Nat → Bool) : Nat → Nat
  | 0 => 0
  | n + 1 => jx_ct p n + (if p n then 1 else 0)
theorem jx_ct_le (p : Nat → Bool) : ∀ n, jx_ct p n ≤ n
  | 0 => Nat.le_refl _
  | n + 1 => by have := jx_ct_le p n; rw [jx_ct]; split <;> omega
theorem jx_ct_cong {p q : Nat → Bool} : ∀ {n : Nat}, (∀ k, k < n → p k = q k) → jx_ct p n = jx_ct q n
  | 0, _ => rfl
  | n + 1, h => by rw [jx_ct, jx_ct, jx_ct_cong (fun k hk => h k (by omega)), h n (by omega)]
theorem jx_ct_off {p q : Nat → Bool} {i : Nat} (hp : p i = true) (hq : q i = false) (h : ∀ j, j ≠ i → q j = p j) : ∀ {n : Nat}, i < n → jx_ct q n + 1 = jx_ct p n
  | 0, hi => absurd hi (Nat.not_lt_zero i)
  | n + 1, hi => by
    rw [jx_ct, jx_ct]
    rcases Nat.lt_or_ge i n with q1 | q1
    · have := jx_ct_off hp hq h q1
      rw [h n (by omega)]; omega
    · have e : i = n := by omega
      subst e
      rw [jx_ct_cong (fun k hk => h k (by omega)), hp, hq]; rfl
