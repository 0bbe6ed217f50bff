/-! tokens of a tape, as both sides must find them -/
/-- from p on, as long as P holds -/
def tk_run (P : Int → Bool) (a : Nat → Int32) (n : Nat) : Nat → Nat → Nat
  | 0, p => p
  | m + 1, p => if p < n ∧ P (a p).toInt = true then tk_run P a n m (p + 1) else p
def tk_end (P : Int → Bool) (a : Nat → Int32) (n p : Nat) : Nat := tk_run P a n (n - p) p
theorem tk_end_s (P : Int → Bool) (a : Nat → Int32) (n p : Nat) : tk_end P a n p = if p < n ∧ P (a p).toInt = true then tk_end P a n (p + 1) else p := by
  unfold tk_end
  rcases Nat.lt_or_ge p n with h | h
  · rw [show n - p = (n - (p + 1)) + 1 by omega]
    rfl
  · rw [show n - p = 0 by omega, if_neg (fun q => by omega)]
    rfl
theorem tk_end_y {P : Int → Bool} {a : Nat → Int32} {n p : Nat} (h1 : p < n) (h2 : P (a p).toInt = true) : tk_end P a n p = tk_end P a n (p + 1) := by rw [tk_end_s, if_pos ⟨h1, h2⟩]
theorem tk_end_n {P : Int → Bool} {a : Nat → Int32} {n p : Nat} (h : ¬ (p < n ∧ P (a p).toInt = true)) : tk_end P a n p = p := by rw [tk_end_s, if_neg h]
/-- what an end is -/
theorem tk_end_ok (P : Int → Bool) (a : Nat → Int32) (n : Nat) : ∀ (m p : Nat), n - p ≤ m → p ≤ n → p ≤ tk_end P a n p ∧ tk_end P a n p ≤ n ∧ (∀ q, p ≤ q → q < tk_end P a n p → P (a q).toInt = true) ∧ ¬ (tk_end P a n p < n ∧ P (a (tk_end P a n p)).toInt = true) := by
  intro m
  induction m with
  | zero =>
    intro p h1 h2
    have e : tk_end P a n p = p := tk_end_n (fun q => by omega)
    rw [e]
    exact ⟨Nat.le_refl _, h2, fun q a b => by omega, fun q => by omega⟩
  | succ m ih =>
    intro p h1 h2
    by_cases c : p < n ∧ P (a p).toInt = true
    · rw [tk_end_y c.1 c.2]
      obtain ⟨i1, i2, i3, i4⟩ := ih (p + 1) (by omega) (by omega)
      refine ⟨by omega, i2, fun q q1 q2 => ?_, i4⟩
      by_cases e : q = p
      · rw [e]; exact c.2
      · exact i3 q (by omega) q2
    · rw [tk_end_n c]
      exact ⟨Nat.le_refl _, h2, fun q a b => by omega, c⟩
def tk_B (x : Int) : Bool := decide (x = 32)
def tk_S (x : Int) : Bool := decide (97 ≤ x ∧ x ≤ 122)
def tk_D (x : Int) : Bool := decide (48 ≤ x ∧ x ≤ 57)
theorem tk_B_i {x : Int} : tk_B x = true ↔ x = 32 := decide_eq_true_iff
theorem tk_S_i {x : Int} : tk_S x = true ↔ 97 ≤ x ∧ x ≤ 122 := decide_eq_true_iff
theorem tk_D_i {x : Int} : tk_D x = true ↔ 48 ≤ x ∧ x ≤ 57 := decide_eq_true_iff
/-- letters as a number of base 32 -/
def tk_w (a : Nat → Int32) (p : Nat) : Nat → Int
  | 0 => 0
  | k + 1 => tk_w a p k * 32 + (a (p + k)).toInt - 96
/-- digits as a number, read no further once beyond 1000 -/
def tk_n (a : Nat → Int32) (p : Nat) : Nat → Int
  | 0 => 0
  | k + 1 => if 1000 < tk_n a p k then tk_n a p k else tk_n a p k * 10 + (a (p + k)).toInt - 48
/-- the token at f: its kind, its end, its value; where the next one may begin -/
def tk_k (a : Nat → Int32) (n f : Nat) : Int := if f < n then (if tk_S (a f).toInt = true then 1 else if tk_D (a f).toInt = true then 2 else 3) else 0
def tk_t (a : Nat → Int32) (n f : Nat) : Nat := if f < n then (if tk_S (a f).toInt = true then tk_end tk_S a n f else if tk_D (a f).toInt = true then tk_end tk_D a n f else f + 1) else f
def tk_v (a : Nat → Int32) (n f : Nat) : Int := if f < n then (if tk_S (a f).toInt = true then (if tk_t a n f - f ≤ 7 then tk_w a f (tk_t a n f - f) else -1) else if tk_D (a f).toInt = true then tk_n a f (tk_t a n f - f) else (a f).toInt) else 0
def tk_a (a : Nat → Int32) (n p : Nat) : Nat := tk_end tk_B a n p
def tk_x (a : Nat → Int32) (n f : Nat) : Nat := tk_a a n (tk_t a n f)
theorem tk_t_ok {a : Nat → Int32} {n f : Nat} (h : f ≤ n) : f ≤ tk_t a n f ∧ tk_t a n f ≤ n ∧ (f < n → f < tk_t a n f) := by
  unfold tk_t
  split
  · rename_i h1
    split
    · rename_i h2
      have e := tk_end_y h1 h2
      obtain ⟨i1, i2, -, -⟩ := tk_end_ok tk_S a n n (f + 1) (by omega) (by omega)
      rw [e]; omega
    · split
      · rename_i h2
        have e := tk_end_y h1 h2
        obtain ⟨i1, i2, -, -⟩ := tk_end_ok tk_D a n n (f + 1) (by omega) (by omega)
        rw [e]; omega
      · omega
  · omega
theorem tk_a_ok {a : Nat → Int32} {n p : Nat} (h : p ≤ n) : p ≤ tk_a a n p ∧ tk_a a n p ≤ n := by
  obtain ⟨i1, i2, -, -⟩ := tk_end_ok tk_B a n n p (by omega) h
  exact ⟨i1, i2⟩
theorem tk_x_ok {a : Nat → Int32} {n f : Nat} (h : f ≤ n) : f ≤ tk_x a n f ∧ tk_x a n f ≤ n ∧ (f < n → f < tk_x a n f) := by
  have h1 := tk_t_ok (a := a) h
  have h2 := tk_a_ok (a := a) (n := n) (p := tk_t a n f) h1.2.1
  unfold tk_x
  omega
theorem tk_n_b {a : Nat → Int32} {p : Nat} : ∀ {k : Nat}, (∀ i, i < k → 48 ≤ (a (p + i)).toInt ∧ (a (p + i)).toInt ≤ 57) → 0 ≤ tk_n a p k ∧ tk_n a p k ≤ 10009
  | 0, _ => by unfold tk_n; omega
  | k + 1, h => by
    have ih := tk_n_b (k := k) (fun i hi => h i (by omega))
    have h2 := h k (by omega)
    unfold tk_n
    split <;> omega
theorem tk_w_b {a : Nat → Int32} {p : Nat} : ∀ {k : Nat}, (∀ i, i < k → 97 ≤ (a (p + i)).toInt ∧ (a (p + i)).toInt ≤ 122) → 0 ≤ tk_w a p k ∧ tk_w a p k < 32 ^ k ∧ (0 < k → 0 < tk_w a p k)
  | 0, _ => by unfold tk_w; exact ⟨Int.le_refl _, by decide, fun h => absurd h (Nat.lt_irrefl _)⟩
  | k + 1, h => by
    have ih := tk_w_b (k := k) (fun i hi => h i (by omega))
    have h2 := h k (by omega)
    have e : (32 : Int) ^ (k + 1) = 32 ^ k * 32 := Int.pow_succ 32 k
    unfold tk_w
    omega
/-- the letters are told by the number -/
theorem tk_w_inj {a b : Nat → Int32} {p q : Nat} : ∀ {k j : Nat}, (∀ i, i < k → 97 ≤ (a (p + i)).toInt ∧ (a (p + i)).toInt ≤ 122) → (∀ i, i < j → 97 ≤ (b (q + i)).toInt ∧ (b (q + i)).toInt ≤ 122) → tk_w a p k = tk_w b q j → k = j ∧ ∀ i, i < k → (a (p + i)).toInt = (b (q + i)).toInt
  | 0, 0, _, _, _ => ⟨rfl, fun i hi => by omega⟩
  | 0, j + 1, _, hb, e => by
    have := (tk_w_b (k := j + 1) hb).2.2 (by omega)
    rw [← e] at this
    exact absurd this (by unfold tk_w; omega)
  | k + 1, 0, ha, _, e => by
    have := (tk_w_b (k := k + 1) ha).2.2 (by omega)
    rw [e] at this
    exact absurd this (by unfold tk_w; omega)
  | k + 1, j + 1, ha, hb, e => by
    have h1 := ha k (by omega)
    have h2 := hb j (by omega)
    unfold tk_w at e
    have e1 : tk_w a p k = tk_w b q j := by omega
    obtain ⟨e2, e3⟩ := tk_w_inj (k := k) (j := j) (fun i hi => ha i (by omega)) (fun i hi => hb i (by omega)) e1
    subst e2
    refine ⟨rfl, fun i hi => ?_⟩
    rcases Nat.lt_or_ge i k with c | c
    · exact e3 i c
    · rw [show i = k by omega]; omega
/-- the token at f is this word -/
def tk_is (a : Nat → Int32) (n f : Nat) (bs : List Int32) : Prop := tk_t a n f - f = bs.length ∧ ∀ i, i < bs.length → f + i < n ∧ (a (f + i)).toInt = (bs.getD i 0).toInt
/-- words of letters -/
def tk_lt (bs : List Int32) : Prop := 0 < bs.length ∧ bs.length ≤ 7 ∧ ∀ i, i < bs.length → 97 ≤ (bs.getD i 0).toInt ∧ (bs.getD i 0).toInt ≤ 122
theorem tk_run_S {a : Nat → Int32} {n f : Nat} (h : f < n) (hs : tk_S (a f).toInt = true) : ∀ i, i < tk_t a n f - f → f + i < n ∧ 97 ≤ (a (f + i)).toInt ∧ (a (f + i)).toInt ≤ 122 := by
  intro i hi
  have e : tk_t a n f = tk_end tk_S a n f := by unfold tk_t; rw [if_pos h, if_pos hs]
  obtain ⟨i1, i2, i3, -⟩ := tk_end_ok tk_S a n n f (by omega) (by omega)
  rw [e] at hi
  exact ⟨by omega, tk_S_i.mp (i3 (f + i) (by omega) (by omega))⟩
theorem tk_is_iff {a : Nat → Int32} {n f : Nat} {bs : List Int32} (hb : tk_lt bs) : (tk_k a n f = 1 ∧ tk_v a n f = tk_w (fun i => bs.getD i 0) 0 bs.length) ↔ tk_is a n f bs := by
  have hw := tk_w_b (a := fun i => bs.getD i 0) (p := 0) (k := bs.length) (fun i hi => by rw [Nat.zero_add]; exact hb.2.2 i hi)
  constructor
  · rintro ⟨h1, h2⟩
    have hf : f < n := by
      rcases Nat.lt_or_ge f n with c | c
      · exact c
      · exfalso; unfold tk_k at h1; rw [if_neg (by omega)] at h1; omega
    have hs : tk_S (a f).toInt = true := by
      cases c : tk_S (a f).toInt with
      | true => rfl
      | false =>
        exfalso; unfold tk_k at h1; rw [if_pos hf, c, if_neg (by decide)] at h1
        split at h1 <;> omega
    unfold tk_v at h2
    rw [if_pos hf, if_pos hs] at h2
    have hr := tk_run_S hf hs
    by_cases c : tk_t a n f - f ≤ 7
    · rw [if_pos c] at h2
      obtain ⟨e1, e2⟩ := tk_w_inj (fun i hi => (hr i hi).2) (fun i hi => by rw [Nat.zero_add]; exact hb.2.2 i hi) h2
      refine ⟨e1, fun i hi => ⟨(hr i (by omega)).1, ?_⟩⟩
      have := e2 i (by omega)
      rw [Nat.zero_add] at this
      exact this
    · rw [if_neg c] at h2; omega
  · rintro ⟨h1, h2⟩
    have h0 := h2 0 hb.1
    rw [Nat.add_zero] at h0
    have hl := hb.2.2 0 hb.1
    have hs : tk_S (a f).toInt = true := tk_S_i.mpr (by omega)
    refine ⟨by unfold tk_k; rw [if_pos h0.1, if_pos hs], ?_⟩
    unfold tk_v
    rw [if_pos h0.1, if_pos hs, h1, if_pos hb.2.1]
    have key : ∀ k, k ≤ bs.length → tk_w a f k = tk_w (fun i => bs.getD i 0) 0 k := by
      intro k
      induction k with
      | zero => intro _; rfl
      | succ k ih =>
        intro hk
        show tk_w a f k * 32 + (a (f + k)).toInt - 96 = tk_w (fun i => bs.getD i 0) 0 k * 32 + (bs.getD (0 + k) 0).toInt - 96
        rw [ih (by omega), (h2 k (by omega)).2, Nat.zero_add]
    exact key _ (Nat.le_refl _)
theorem tk_sg {a : Nat → Int32} {n f : Nat} {c : Int} (h1 : ¬ (97 ≤ c ∧ c ≤ 122)) (h2 : ¬ (48 ≤ c ∧ c ≤ 57)) : (tk_k a n f = 3 ∧ tk_v a n f = c) ↔ (f < n ∧ (a f).toInt = c) := by
  unfold tk_k tk_v
  by_cases hf : f < n
  · rw [if_pos hf, if_pos hf]
    by_cases hs : tk_S (a f).toInt = true
    · rw [if_pos hs, if_pos hs]
      have := tk_S_i.mp hs
      constructor
      · intro q; omega
      · intro q; omega
    · rw [if_neg hs, if_neg hs]
      by_cases hd : tk_D (a f).toInt = true
      · rw [if_pos hd, if_pos hd]
        have := tk_D_i.mp hd
        constructor
        · intro q; omega
        · intro q; omega
      · rw [if_neg hd, if_neg hd]
        exact ⟨fun q => ⟨hf, q.2⟩, fun q => ⟨rfl, q.2⟩⟩
  · rw [if_neg hf, if_neg hf]
    constructor
    · intro q; omega
    · intro q; exact absurd q.1 hf

