/-! BETTER as a reckoning -/
def g_mv (V : Nat → Nat → Int32) (s : Nat) (h b : Int32) : Nat → Nat → Int32 := gU (gU V 16 s h) 17 s b
theorem g_back {V : Nat → Nat → Int32} {j : Nat} {h b : Int32} : gU (gU (gU (gU V 16 j h) 17 j b) 16 j (V 16 j)) 17 j (V 17 j) = V := by
  funext a i
  unfold gU upd
  by_cases e1 : a = 17
  · subst e1
    rw [if_pos rfl]
    by_cases e : i = j
    · rw [if_pos e, e]
    · rw [if_neg e, if_neg (by decide), if_pos rfl, if_neg e, if_neg (by decide)]
  · rw [if_neg e1]
    by_cases e2 : a = 16
    · subst e2
      rw [if_pos rfl]
      by_cases e : i = j
      · rw [if_pos e, e]
      · rw [if_neg e, if_neg (by decide), if_pos rfl, if_neg e]
    · rw [if_neg e2, if_neg e1, if_neg e2]
/-- a change tried: the best so far is its grid, showing, hall, beginning -/
def g_try (V : Nat → Nat → Int32) (n : Nat) (s h b : Int32) (c : Int32 × Int32 × Int32 × Int32) : Int32 × Int32 × Int32 × Int32 :=
  if (g_why V n (V 15 s.toNatClampNeg) h b (V 18 s.toNatClampNeg) s).toInt = 0 ∧ c.1.toInt < (g_grid (g_mv V s.toNatClampNeg h b) n).toInt then (g_grid (g_mv V s.toNatClampNeg h b) n, s, h, b) else c
def g_ho (V : Nat → Nat → Int32) (n : Nat) (s h : Int32) : Nat → Int32 × Int32 × Int32 × Int32 → Int32 × Int32 × Int32 × Int32
  | 0, c => c
  | k + 1, c => g_try V n s h (V 22 k) (g_ho V n s h k c)
def g_ha (V : Nat → Nat → Int32) (n m : Nat) (s : Int32) : Nat → Int32 × Int32 × Int32 × Int32 → Int32 × Int32 × Int32 × Int32
  | 0, c => c
  | j + 1, c => g_try V n s (nI j) (V 17 s.toNatClampNeg) (g_ho V n s (nI j) m (g_ha V n m s j c))
def g_sh (V : Nat → Nat → Int32) (n m H : Nat) : Nat → Int32 × Int32 × Int32 × Int32 → Int32 × Int32 × Int32 × Int32
  | 0, c => c
  | i + 1, c => if (V 14 i).toInt = 0 then g_sh V n m H i c else g_ha V n m (nI i) H (g_sh V n m H i c)
def g_fi (V : Nat → Nat → Int32) (n m H : Nat) : Int32 × Int32 × Int32 × Int32 := g_sh V n m H n (g_grid V n, -1, 0, 0)
def g_be (n m H : Nat) : Nat → (Nat → Nat → Int32) → Nat × (Nat → Nat → Int32)
  | 0, V => (0, V)
  | k + 1, V => if (g_fi V n m H).2.1.toInt = -1 then (0, V) else ((g_be n m H k (g_mv V (g_fi V n m H).2.1.toNatClampNeg (g_fi V n m H).2.2.1 (g_fi V n m H).2.2.2)).1 + 1, (g_be n m H k (g_mv V (g_fi V n m H).2.1.toNatClampNeg (g_fi V n m H).2.2.1 (g_fi V n m H).2.2.2)).2)
theorem g_be_0 {n m H k : Nat} {V : Nat → Nat → Int32} (h : (g_fi V n m H).2.1.toInt = -1) : g_be n m H (k + 1) V = (0, V) := if_pos h
theorem g_be_1 {n m H k : Nat} {V : Nat → Nat → Int32} (h : ¬ (g_fi V n m H).2.1.toInt = -1) : g_be n m H (k + 1) V = ((g_be n m H k (g_mv V (g_fi V n m H).2.1.toNatClampNeg (g_fi V n m H).2.2.1 (g_fi V n m H).2.2.2)).1 + 1, (g_be n m H k (g_mv V (g_fi V n m H).2.1.toNatClampNeg (g_fi V n m H).2.2.1 (g_fi V n m H).2.2.2)).2) := if_neg h
/-- what stands where nothing was found doesn't matter -/
def g_eq (q c : Int32 × Int32 × Int32 × Int32) : Prop := q.1 = c.1 ∧ q.2.1 = c.2.1 ∧ (¬ c.2.1.toInt = -1 → q.2.2 = c.2.2)
theorem g_eq_try {V : Nat → Nat → Int32} {n : Nat} {s h b : Int32} {q c : Int32 × Int32 × Int32 × Int32} (e : g_eq q c) : g_eq (g_try V n s h b q) (g_try V n s h b c) := by
  unfold g_try
  rw [e.1]
  split
  · exact ⟨rfl, rfl, fun _ => rfl⟩
  · exact e
theorem g_eq_ho {V : Nat → Nat → Int32} {n : Nat} {s h : Int32} {q c : Int32 × Int32 × Int32 × Int32} (e : g_eq q c) : ∀ k, g_eq (g_ho V n s h k q) (g_ho V n s h k c)
  | 0 => e
  | k + 1 => g_eq_try (g_eq_ho e k)
theorem g_eq_ha {V : Nat → Nat → Int32} {n m : Nat} {s : Int32} {q c : Int32 × Int32 × Int32 × Int32} (e : g_eq q c) : ∀ j, g_eq (g_ha V n m s j q) (g_ha V n m s j c)
  | 0 => e
  | j + 1 => g_eq_try (g_eq_ho (g_eq_ha e j) m)
theorem g_eq_sh {V : Nat → Nat → Int32} {n m H : Nat} {q c : Int32 × Int32 × Int32 × Int32} (e : g_eq q c) : ∀ i, g_eq (g_sh V n m H i q) (g_sh V n m H i c)
  | 0 => e
  | i + 1 => by
    rw [g_sh, g_sh]
    split
    · exact g_eq_sh e i
    · exact g_eq_ha (g_eq_sh e i) H
/-- the showing found is one -/
def g_lo (n : Nat) (c : Int32 × Int32 × Int32 × Int32) : Prop := c.2.1.toInt = -1 ∨ (0 ≤ c.2.1.toInt ∧ c.2.1.toInt < (n : Int))
theorem g_lo_try {V : Nat → Nat → Int32} {N n : Nat} {s h b : Int32} {c : Int32 × Int32 × Int32 × Int32} (hs : 0 ≤ s.toInt ∧ s.toInt < (N : Int)) (e : g_lo N c) : g_lo N (g_try V n s h b c) := by
  unfold g_try
  split
  · exact Or.inr hs
  · exact e
theorem g_lo_ho {V : Nat → Nat → Int32} {N n : Nat} {s h : Int32} {c : Int32 × Int32 × Int32 × Int32} (hs : 0 ≤ s.toInt ∧ s.toInt < (N : Int)) (e : g_lo N c) : ∀ k, g_lo N (g_ho V n s h k c)
  | 0 => e
  | k + 1 => g_lo_try hs (g_lo_ho hs e k)
theorem g_lo_ha {V : Nat → Nat → Int32} {N n m : Nat} {s : Int32} {c : Int32 × Int32 × Int32 × Int32} (hs : 0 ≤ s.toInt ∧ s.toInt < (N : Int)) (e : g_lo N c) : ∀ j, g_lo N (g_ha V n m s j c)
  | 0 => e
  | j + 1 => g_lo_try hs (g_lo_ho hs (g_lo_ha hs e j) m)
theorem g_lo_sh {V : Nat → Nat → Int32} {N n m H : Nat} {c : Int32 × Int32 × Int32 × Int32} (hN : N ≤ 60) (e : g_lo N c) : ∀ i, i ≤ N → g_lo N (g_sh V n m H i c)
  | 0, _ => e
  | i + 1, h => by
    rw [g_sh]
    split
    · exact g_lo_sh hN e i (by omega)
    · have h1 : (nI i).toInt = (i : Int) := nI_toInt (by omega)
      exact g_lo_ha (by omega) (g_lo_sh hN e i (by omega)) H
theorem g_lo_fi {V : Nat → Nat → Int32} {n m H : Nat} (hN : n ≤ 60) : g_lo n (g_fi V n m H) := g_lo_sh hN (Or.inl rfl) n (Nat.le_refl n)
theorem g_fi_of {V : Nat → Nat → Int32} {n m H : Nat} {q : Int32 × Int32 × Int32 × Int32} {x y : Int32} (e : q = g_sh V n m H n (g_grid V n, -1, x, y)) : g_eq q (g_fi V n m H) := by
  rw [e]
  have z : g_eq (g_grid V n, -1, x, y) (g_grid V n, -1, 0, 0) := ⟨rfl, rfl, fun h => absurd (show (-1 : Int32).toInt = -1 from rfl) h⟩
  exact g_eq_sh z n

