/-! the order of showings by their beginnings -/
def g_or (V : Nat → Nat → Int32) (A : Nat → Int32) (m k : Nat) : Prop := (∀ j, j < m → 0 ≤ (A j).toInt ∧ (A j).toInt < (k : Int) ∧ ¬ (V 14 (A j).toNatClampNeg).toInt = 0) ∧ (∀ i j, i < j → j < m → (V 17 (A i).toNatClampNeg).toInt ≤ (V 17 (A j).toNatClampNeg).toInt ∧ ¬ (A i).toInt = (A j).toInt) ∧ (∀ s, s < k → ¬ (V 14 s).toInt = 0 → ∃ j, j < m ∧ (A j).toInt = (s : Int))
/-- all from p on moved up by one -/
def g_sf (A O : Nat → Int32) (p m : Nat) : Prop := (∀ j, j < p → O j = A j) ∧ (∀ j, p ≤ j → j < m → O (j + 1) = A j)
theorem g_sf_s {A O : Nat → Int32} {p q m : Nat} (h : g_sf A O p m) (e : p = q + 1) : g_sf A (upd O p (O q)) q m := by
  refine ⟨fun j hj => ?_, fun j h1 h2 => ?_⟩
  · unfold upd; rw [if_neg (by omega)]; exact h.1 j (by omega)
  · unfold upd
    by_cases c : j + 1 = p
    · rw [if_pos c, h.1 q (by omega), show j = q by omega]
    · rw [if_neg c]; exact h.2 j (by omega) h2
theorem g_or_n {V : Nat → Nat → Int32} {A : Nat → Int32} {m k : Nat} (h : g_or V A m k) (c : (V 14 k).toInt = 0) : g_or V A m (k + 1) := by
  refine ⟨fun j hj => ?_, h.2.1, fun s hs hi => ?_⟩
  · obtain ⟨a, b, d⟩ := h.1 j hj
    exact ⟨a, by omega, d⟩
  · by_cases e : s = k
    · rw [e] at hi; exact absurd c hi
    · exact h.2.2 s (by omega) hi
theorem g_or_y {V : Nat → Nat → Int32} {A O : Nat → Int32} {m k p : Nat} {v : Int32} (h : g_or V A m k) (hv : v.toInt = (k : Int)) (c : ¬ (V 14 k).toInt = 0) (hp : p ≤ m) (hs : g_sf A O p m) (h1 : ∀ j, p ≤ j → j < m → (V 17 k).toInt < (V 17 (A j).toNatClampNeg).toInt) (h2 : p = 0 ∨ ∃ q, p = q + 1 ∧ (V 17 (A q).toNatClampNeg).toInt ≤ (V 17 k).toInt) : g_or V (upd O p v) (m + 1) (k + 1) := by
  have ek : v.toNatClampNeg = k := ji_cl hv
  have b1 : ∀ j, j < p → upd O p v j = A j := fun j hj => by unfold upd; rw [if_neg (by omega)]; exact hs.1 j hj
  have b2 : upd O p v p = v := by unfold upd; rw [if_pos rfl]
  have b3 : ∀ j, p ≤ j → j < m → upd O p v (j + 1) = A j := fun j a b => by unfold upd; rw [if_neg (by omega)]; exact hs.2 j a b
  have lt : ∀ j, j < p → (V 17 (A j).toNatClampNeg).toInt ≤ (V 17 k).toInt := by
    intro j hj
    rcases h2 with q | ⟨q, q1, q2⟩
    · omega
    · by_cases e : j = q
      · rw [e]; exact q2
      · have := (h.2.1 j q (by omega) (by omega)).1
        omega
  refine ⟨fun j hj => ?_, fun i j hij hj => ?_, fun s hs' hi => ?_⟩
  · by_cases e1 : j < p
    · rw [b1 j e1]
      obtain ⟨a, b, d⟩ := h.1 j (by omega)
      exact ⟨a, by omega, d⟩
    · by_cases e2 : j = p
      · rw [e2, b2, ek]; exact ⟨by omega, by omega, c⟩
      · obtain ⟨i, rfl⟩ : ∃ i, j = i + 1 := ⟨j - 1, by omega⟩
        rw [b3 i (by omega) (by omega)]
        obtain ⟨a, b, d⟩ := h.1 i (by omega)
        exact ⟨a, by omega, d⟩
  · by_cases e1 : j < p
    · rw [b1 j e1, b1 i (by omega)]; exact h.2.1 i j hij (by omega)
    · by_cases e2 : j = p
      · have := (h.1 i (by omega)).2.1
        rw [e2, b2, b1 i (by omega), ek]; exact ⟨lt i (by omega), by omega⟩
      · obtain ⟨j', rfl⟩ : ∃ i, j = i + 1 := ⟨j - 1, by omega⟩
        rw [b3 j' (by omega) (by omega)]
        by_cases f1 : i < p
        · rw [b1 i f1]; exact h.2.1 i j' (by omega) (by omega)
        · by_cases f2 : i = p
          · have q := h1 j' (by omega) (by omega)
            have := (h.1 j' (by omega)).2.1
            rw [f2, b2, ek]; exact ⟨by omega, by omega⟩
          · obtain ⟨i', rfl⟩ : ∃ z, i = z + 1 := ⟨i - 1, by omega⟩
            rw [b3 i' (by omega) (by omega)]; exact h.2.1 i' j' (by omega) (by omega)
  · by_cases e : s = k
    · exact ⟨p, by omega, by rw [b2, hv, e]⟩
    · obtain ⟨j, j1, j2⟩ := h.2.2 s (by omega) hi
      by_cases f : j < p
      · exact ⟨j, by omega, by rw [b1 j f]; exact j2⟩
      · exact ⟨j + 1, by omega, by rw [b3 j (by omega) j1]; exact j2⟩
/-- no two by row k begin alike -/
def gB (V : Nat → Nat → Int32) (n k : Nat) : Prop := ∀ s o, s < n → o < n → ¬ (V 14 s).toInt = 0 → ¬ (V 14 o).toInt = 0 → ¬ s = o → (V k s).toInt = (V k o).toInt → ¬ (V 17 s).toInt = (V 17 o).toInt
/-- those that begin earlier stand earlier -/
theorem g_or_p {V : Nat → Nat → Int32} {A : Nat → Int32} {m n p j : Nat} (h : g_or V A m n) (hp : p < m) (hj : j < n) (hi : ¬ (V 14 j).toInt = 0) (hb : (V 17 j).toInt < (V 17 (A p).toNatClampNeg).toInt) : ∃ i, i < p ∧ (A i).toNatClampNeg = j := by
  obtain ⟨i, i1, i2⟩ := h.2.2 j hj hi
  have ei : (A i).toNatClampNeg = j := ji_cl i2
  refine ⟨i, ?_, ei⟩
  rcases Nat.lt_trichotomy i p with q | q | q
  · exact q
  · rw [q] at ei; rw [ei] at hb; omega
  · have := (h.2.1 p i q i1).1
    rw [ei] at this; omega
theorem g_fo_0 {V : Nat → Nat → Int32} {A : Nat → Int32} {m n p k : Nat} (hn : n ≤ 60) (h : g_or V A m n) (hp : p < m) (c : ∀ j, j < p → ¬ (V k (A j).toNatClampNeg).toInt = (V k (A p).toNatClampNeg).toInt) : (g_ah V k (A p).toNatClampNeg n).toInt < 0 := by
  rcases g_ah_r (V := V) (k := k) (s := (A p).toNatClampNeg) n hn with z | ⟨j, j1, j2, j3, j4, j5⟩
  · omega
  · obtain ⟨i, i1, i2⟩ := g_or_p h hp j1 j3 j4
    exact absurd (by rw [i2]; exact j5) (c i i1)
theorem g_fo_1 {V : Nat → Nat → Int32} {A : Nat → Int32} {m n p k j : Nat} (hn : n ≤ 60) (h : g_or V A m n) (hB : gB V n k) (hp : p < m) (hj : j < p) (c : (V k (A j).toNatClampNeg).toInt = (V k (A p).toNatClampNeg).toInt) (d : ∀ i, j < i → i < p → ¬ (V k (A i).toNatClampNeg).toInt = (V k (A p).toNatClampNeg).toInt) : ¬ (g_ah V k (A p).toNatClampNeg n).toInt < 0 ∧ (g_ah V k (A p).toNatClampNeg n).toNatClampNeg = (A j).toNatClampNeg := by
  obtain ⟨a1, a2, a3⟩ := h.1 j (by omega)
  obtain ⟨p1, p2, p3⟩ := h.1 p hp
  have ta := ji_tn a1
  have tp := ji_tn p1
  obtain ⟨s1, s2⟩ := h.2.1 j p hj hp
  have lt : (V 17 (A j).toNatClampNeg).toInt < (V 17 (A p).toNatClampNeg).toInt := by
    have := hB (A j).toNatClampNeg (A p).toNatClampNeg (by omega) (by omega) a3 p3 (by omega) c
    omega
  obtain ⟨m1, m2⟩ := g_ah_m (V := V) (k := k) (s := (A p).toNatClampNeg) n hn (A j).toNatClampNeg (by omega) a3 lt c
  refine ⟨by omega, ?_⟩
  rcases g_ah_r (V := V) (k := k) (s := (A p).toNatClampNeg) n hn with z | ⟨q, q1, q2, q3, q4, q5⟩
  · exfalso; omega
  · have eq := g_nI_t (j := q) (by omega)
    rw [q2, eq.2] at m2 ⊢
    obtain ⟨i, i1, i2⟩ := g_or_p h hp q1 q3 q4
    have ij : i ≤ j := by
      rcases Nat.lt_or_ge j i with z | z
      · exact absurd (by rw [i2]; exact q5) (d i z i1)
      · exact z
    by_cases e : q = (A j).toNatClampNeg
    · exact e
    · have ne : ¬ i = j := fun z => e (by rw [← i2, z])
      have s3 := (h.2.1 i j (by omega) (by omega)).1
      rw [i2] at s3
      exact absurd (by omega) (hB q (A j).toNatClampNeg q1 (by omega) q3 a3 e (by rw [q5, c]))
/-- the class's way: the first p are reckoned -/
def g_rk (V : Nat → Nat → Int32) (n : Nat) (A T Z : Nat → Int32) (p : Nat) : Prop := ∀ j, j < p → T (A j).toNatClampNeg = g_tb V n T (A j).toNatClampNeg ∧ Z (A j).toNatClampNeg = g_te V T (A j).toNatClampNeg
theorem g_rk_s {V : Nat → Nat → Int32} {n m p : Nat} {A T Z : Nat → Int32} {v w : Int32} (hn : n ≤ 60) (h : g_or V A m n) (k : g_rk V n A T Z p) (hp : p < m) (hv : v = g_tb V n T (A p).toNatClampNeg) (hw : w = v + V 5 (V 15 (A p).toNatClampNeg).toNatClampNeg + V 19 (A p).toNatClampNeg) : g_rk V n A (upd T (A p).toNatClampNeg v) (upd Z (A p).toNatClampNeg w) (p + 1) := by
  have u1 : ∀ (F : Nat → Int32) (x : Int32) (s : Nat), s ≠ (A p).toNatClampNeg → upd F (A p).toNatClampNeg x s = F s := fun F x s e => by unfold upd; rw [if_neg e]
  have u2 : ∀ (F : Nat → Int32) (x : Int32), upd F (A p).toNatClampNeg x (A p).toNatClampNeg = x := fun F x => by unfold upd; rw [if_pos rfl]
  intro j hj
  by_cases e : j = p
  · rw [e]
    refine ⟨?_, ?_⟩
    · rw [u2]
      refine hv.trans ?_
      exact g_tb_c hn (fun o h1 h2 h3 => (u1 T v o (fun z => by rw [z] at h3; omega)).symm)
    · unfold g_te
      rw [u2, u2]
      exact hw
  · obtain ⟨s1, s2⟩ := h.2.1 j p (by omega) hp
    obtain ⟨a1, a2, a3⟩ := h.1 j (by omega)
    obtain ⟨p1, p2, p3⟩ := h.1 p hp
    have ta := ji_tn a1
    have tp := ji_tn p1
    have ne : (A j).toNatClampNeg ≠ (A p).toNatClampNeg := fun z => s2 (by omega)
    obtain ⟨k1, k2⟩ := k j (by omega)
    refine ⟨?_, ?_⟩
    · rw [u1 _ _ _ ne, k1]
      exact g_tb_c hn (fun o h1 h2 h3 => (u1 T v o (fun z => by rw [z] at h3; omega)).symm)
    · unfold g_te
      rw [u1 _ _ _ ne, u1 _ _ _ ne, k2]; rfl
theorem g_rk_e {V : Nat → Nat → Int32} {n m : Nat} {A T Z : Nat → Int32} (h : g_or V A m n) (k : g_rk V n A T Z m) : g_tr V n T ∧ ∀ s, s < n → ¬ (V 14 s).toInt = 0 → Z s = g_te V T s := by
  refine ⟨fun s hs hi => ?_, fun s hs hi => ?_⟩
  · obtain ⟨j, j1, j2⟩ := h.2.2 s hs hi
    have := (k j j1).1
    rw [ji_cl j2] at this; exact this
  · obtain ⟨j, j1, j2⟩ := h.2.2 s hs hi
    have := (k j j1).2
    rw [ji_cl j2] at this; exact this
theorem g_mx_x (a b : Int32) : (if a < b then b else a) = g_mx a b := by
  unfold g_mx
  by_cases h : a < b
  · rw [if_pos h, if_pos (Int32.lt_iff_toInt_lt.mp h)]
  · rw [if_neg h, if_neg (fun q => h (Int32.lt_iff_toInt_lt.mpr q))]

