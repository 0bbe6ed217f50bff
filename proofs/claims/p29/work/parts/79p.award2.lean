/-! what is given in a round -/
/-- the positive sums together -/
def w_sum (S : Nat → Int32) : Nat → Int
  | 0 => 0
  | n + 1 => w_sum S n + (if 0 < (S n).toInt then (S n).toInt else 0)
theorem w_sum_o {S : Nat → Int32} {x : Nat} {v : Int32} : ∀ n, n ≤ x → w_sum (upd S x v) n = w_sum S n
  | 0, _ => rfl
  | n + 1, h => by
    have e : upd S x v n = S n := by unfold upd; rw [if_neg (by omega)]
    unfold w_sum
    rw [w_sum_o n (by omega), e]
theorem w_sum_u {S : Nat → Int32} {x : Nat} {v : Int32} (h0 : 0 ≤ (S x).toInt) (hv : v.toInt = (S x).toInt + 1) : ∀ n, x < n → w_sum (upd S x v) n = w_sum S n + 1
  | 0, h => absurd h (Nat.not_lt_zero _)
  | n + 1, h => by
    unfold w_sum
    by_cases c : n = x
    · subst c
      have e : upd S n v n = v := by unfold upd; rw [if_pos rfl]
      rw [w_sum_o n (Nat.le_refl _), e, hv, if_pos (by omega)]
      split <;> omega
    · have e : upd S x v n = S n := by unfold upd; rw [if_neg c]
      rw [w_sum_u h0 hv n (by omega), e]
      omega
theorem w_sum_c {S : Nat → Int32} {M : Int} (hM : 0 ≤ M) : ∀ n, (∀ f, f < n → (S f).toInt ≤ M) → w_sum S n ≤ (jx_ct (fun f => decide (0 < (S f).toInt)) n : Int) * M
  | 0, _ => by show (0 : Int) ≤ ((0 : Nat) : Int) * M; omega
  | n + 1, h => by
    have ih := w_sum_c hM n (fun f hf => h f (by omega))
    have hn := h n (by omega)
    unfold w_sum
    rw [jx_ct]
    by_cases c : 0 < (S n).toInt
    · rw [if_pos c, if_pos (decide_eq_true c), Int.natCast_add, Int.add_mul]
      show _ ≤ _ + (1 : Int) * M
      omega
    · rw [if_neg c, if_neg (fun q => c (of_decide_eq_true q))]
      show _ + (0 : Int) ≤ ((_ : Nat) + 0 : Nat) * M
      rw [Nat.add_zero]
      omega
theorem jx_ct_m {p : Nat → Bool} {m : Nat} : ∀ n, m ≤ n → (∀ f, m ≤ f → f < n → p f = false) → jx_ct p n = jx_ct p m
  | 0, h, _ => by rw [show m = 0 by omega]
  | n + 1, h, hp => by
    by_cases c : m = n + 1
    · rw [c]
    · rw [jx_ct, if_neg (by rw [hp n (by omega) (by omega)]; decide), jx_ct_m n (by omega) (fun f a b => hp f a (by omega))]; rfl
/-- a round behind n jurors: out or counted -/
theorem w_gv_r {R : Nat → Int32} {C : Nat → List Int32} : ∀ n, n ≤ 10 → (∀ j, j < n → ∀ x ∈ C j, x.toNatClampNeg < 20) → (∀ f, f < 20 → ((R f).toInt = 0 ∧ ((w_gv R C n).1 f).toInt = -1) ∨ (¬ (R f).toInt = 0 ∧ 0 ≤ ((w_gv R C n).1 f).toInt ∧ ((w_gv R C n).1 f).toInt ≤ (n : Int))) ∧ (w_gv R C n).2.toInt = w_sum (w_gv R C n).1 20 ∧ 0 ≤ (w_gv R C n).2.toInt ∧ (w_gv R C n).2.toInt ≤ (n : Int)
  | 0, _, _ => by
    have k : ∀ f, f < 20 → (w_gv R C 0).1 f = if (R f).toInt = 0 then -1 else 0 := fun f hf => w_cut_lt (A := fun f => if (R f).toInt = 0 then -1 else 0) hf
    have z : ∀ n, n ≤ 20 → w_sum (w_gv R C 0).1 n = 0 := by
      intro n
      induction n with
      | zero => intro _; rfl
      | succ n ih =>
        intro h
        unfold w_sum
        rw [ih (by omega), k n (by omega)]
        split <;> decide
    refine ⟨fun f hf => ?_, ?_, (by show (0 : Int) ≤ (0 : Int32).toInt; decide), (by show (0 : Int32).toInt ≤ ((0 : Nat) : Int); decide)⟩
    · rw [k f hf]
      by_cases c : (R f).toInt = 0
      · rw [if_pos c]; exact Or.inl ⟨c, rfl⟩
      · rw [if_neg c]; exact Or.inr ⟨c, by decide, by decide⟩
    · rw [z 20 (Nat.le_refl _)]; rfl
  | n + 1, hn, hC => by
    obtain ⟨i1, i2, i3, i4⟩ := w_gv_r (R := R) (C := C) n (by omega) (fun j hj => hC j (by omega))
    show (∀ f, f < 20 → ((R f).toInt = 0 ∧ ((w_g1 (w_gv R C n) (w_fr R (C n))).1 f).toInt = -1) ∨ (¬ (R f).toInt = 0 ∧ 0 ≤ ((w_g1 (w_gv R C n) (w_fr R (C n))).1 f).toInt ∧ ((w_g1 (w_gv R C n) (w_fr R (C n))).1 f).toInt ≤ ((n + 1 : Nat) : Int))) ∧ (w_g1 (w_gv R C n) (w_fr R (C n))).2.toInt = w_sum (w_g1 (w_gv R C n) (w_fr R (C n))).1 20 ∧ 0 ≤ (w_g1 (w_gv R C n) (w_fr R (C n))).2.toInt ∧ (w_g1 (w_gv R C n) (w_fr R (C n))).2.toInt ≤ ((n + 1 : Nat) : Int)
    cases e : w_fr R (C n) with
    | none => exact ⟨fun f hf => (i1 f hf).imp id (fun q => ⟨q.1, q.2.1, Int.le_trans q.2.2 (by omega)⟩), i2, i3, Int.le_trans i4 (by omega)⟩
    | some x =>
      obtain ⟨x1, x2⟩ := w_fr_in e
      have x3 := hC n (by omega) x x1
      have own := (i1 x.toNatClampNeg x3).resolve_left (fun q => x2 q.1)
      have v1 : ((w_gv R C n).1 x.toNatClampNeg + 1).toInt = ((w_gv R C n).1 x.toNatClampNeg).toInt + 1 := ji_inc1 (by omega)
      have g1 : ((w_gv R C n).2 + 1).toInt = (w_gv R C n).2.toInt + 1 := ji_inc1 (by omega)
      refine ⟨fun f hf => ?_, ?_, ?_, ?_⟩
      · show (_ ∧ (upd (w_gv R C n).1 x.toNatClampNeg ((w_gv R C n).1 x.toNatClampNeg + 1) f).toInt = -1) ∨ (_ ∧ 0 ≤ (upd (w_gv R C n).1 x.toNatClampNeg ((w_gv R C n).1 x.toNatClampNeg + 1) f).toInt ∧ (upd (w_gv R C n).1 x.toNatClampNeg ((w_gv R C n).1 x.toNatClampNeg + 1) f).toInt ≤ _)
        unfold upd
        by_cases c : f = x.toNatClampNeg
        · rw [if_pos c, c]
          exact Or.inr ⟨x2, by omega, by omega⟩
        · rw [if_neg c]
          exact (i1 f hf).imp id (fun q => ⟨q.1, q.2.1, by omega⟩)
      · show ((w_gv R C n).2 + 1).toInt = w_sum (upd (w_gv R C n).1 x.toNatClampNeg ((w_gv R C n).1 x.toNatClampNeg + 1)) 20
        rw [w_sum_u own.2.1 v1 20 x3, g1, i2]
      · show 0 ≤ ((w_gv R C n).2 + 1).toInt
        omega
      · show ((w_gv R C n).2 + 1).toInt ≤ _
        omega
/-- one film alone with votes has them all -/
theorem w_one {A : Nat → Nat → Bool} {S : Nat → Int32} {g : Int} (hg : g = w_sum S 20) (h1 : jx_ct (fun f => decide (0 < (S f).toInt)) 20 = 1) : 0 ≤ w_fore A S 20 ∧ g < 2 * (S (w_fore A S 20).toNat).toInt := by
  obtain ⟨c, c1, c2⟩ := jx_ct_pos (p := fun f => decide (0 < (S f).toInt)) (n := 20) (by omega)
  have c2 := of_decide_eq_true c2
  rcases w_fore_r (A := A) (S := S) 20 with ⟨a, b⟩ | ⟨a, b, d, e⟩
  · have := b c c1; omega
  · have ec := (e c c1).resolve_left (by omega)
    have := w_sum_c (S := S) (M := (S (w_fore A S 20).toNat).toInt) (by omega) 20 (fun f hf => by rcases e f hf with q | q <;> omega)
    rw [h1] at this
    refine ⟨a, ?_⟩
    rw [hg]
    have : w_sum S 20 ≤ (S (w_fore A S 20).toNat).toInt := by
      have z : (((1 : Nat) : Int)) * (S (w_fore A S 20).toNat).toInt = (S (w_fore A S 20).toNat).toInt := Int.one_mul _
      omega
    omega
theorem w_s0_cut {R : Nat → Int32} : w_s0 (w_cut R) = w_s0 R := w_cut_eq (fun f hf => by rw [w_cut_lt hf])
theorem w_go_0 {A : Nat → Nat → Bool} {C : Nat → List Int32} {n m k : Nat} {R : Nat → Int32} {H : Nat → Nat → Int32} (h : w_fore A (w_gv R C n).1 20 < 0) : w_go A C n (m + 1) k R H = (-1, k, H) := if_pos h
theorem w_go_1 {A : Nat → Nat → Bool} {C : Nat → List Int32} {n m k : Nat} {R : Nat → Int32} {H : Nat → Nat → Int32} (h : ¬ w_fore A (w_gv R C n).1 20 < 0) (g : (w_gv R C n).2.toInt < 2 * ((w_gv R C n).1 (w_fore A (w_gv R C n).1 20).toNat).toInt) : w_go A C n (m + 1) k R H = (w_fore A (w_gv R C n).1 20, k + 1, w_H H k (w_gv R C n).1) := by
  rw [w_go, if_neg h, if_pos g]
theorem w_go_2 {A : Nat → Nat → Bool} {C : Nat → List Int32} {n m k : Nat} {R : Nat → Int32} {H : Nat → Nat → Int32} (h : ¬ w_fore A (w_gv R C n).1 20 < 0) (g : ¬ (w_gv R C n).2.toInt < 2 * ((w_gv R C n).1 (w_fore A (w_gv R C n).1 20).toNat).toInt) : w_go A C n (m + 1) k R H = w_go A C n m (k + 1) (upd R (w_hind A (w_gv R C n).1 20).toNat 0) (w_H H k (w_gv R C n).1) := by
  rw [w_go, if_neg h, if_neg g]

