/-! TRUE beginnings: what both sides reckon -/
def g_mx (a b : Int32) : Int32 := if a.toInt < b.toInt then b else a
/-- the one ahead of s by row k (16 hall, 15 film): of those that begin earlier the one that begins last -/
def g_ah (V : Nat → Nat → Int32) (k s : Nat) : Nat → Int32
  | 0 => -1
  | o + 1 => if ¬ (V 14 o).toInt = 0 ∧ (V 17 o).toInt < (V 17 s).toInt ∧ (V k o).toInt = (V k s).toInt ∧ ((g_ah V k s o).toInt < 0 ∨ (V 17 (g_ah V k s o).toNatClampNeg).toInt < (V 17 o).toInt) then nI o else g_ah V k s o
theorem g_ah_y {V : Nat → Nat → Int32} {k s : Nat} {a o : Int32} (h0 : 0 ≤ o.toInt) (ha : a = g_ah V k s o.toNatClampNeg) (h : ¬ (V 14 o.toNatClampNeg).toInt = 0 ∧ (V 17 o.toNatClampNeg).toInt < (V 17 s).toInt ∧ (V k o.toNatClampNeg).toInt = (V k s).toInt ∧ (a.toInt < 0 ∨ (V 17 a.toNatClampNeg).toInt < (V 17 o.toNatClampNeg).toInt)) : o = g_ah V k s (o.toNatClampNeg + 1) := by
  rw [ha] at h
  rw [g_ah, if_pos h]
  exact ji_nI h0
theorem g_ah_n {V : Nat → Nat → Int32} {k s : Nat} {a : Int32} {o : Nat} (ha : a = g_ah V k s o) (h : ¬ (¬ (V 14 o).toInt = 0 ∧ (V 17 o).toInt < (V 17 s).toInt ∧ (V k o).toInt = (V k s).toInt ∧ (a.toInt < 0 ∨ (V 17 a.toNatClampNeg).toInt < (V 17 o).toInt))) : a = g_ah V k s (o + 1) := by
  rw [ha] at h
  rw [g_ah, if_neg h]
  exact ha
/-- none is ahead, or one that is -/
theorem g_ah_r {V : Nat → Nat → Int32} {k s : Nat} : ∀ o, o ≤ 60 → (g_ah V k s o).toInt = -1 ∨ ∃ j, j < o ∧ g_ah V k s o = nI j ∧ ¬ (V 14 j).toInt = 0 ∧ (V 17 j).toInt < (V 17 s).toInt ∧ (V k j).toInt = (V k s).toInt
  | 0, _ => Or.inl rfl
  | o + 1, h => by
    rw [g_ah]
    split
    · rename_i c
      exact Or.inr ⟨o, by omega, rfl, c.1, c.2.1, c.2.2.1⟩
    · rcases g_ah_r (V := V) (k := k) (s := s) o (by omega) with q | ⟨j, q1, q2⟩
      · exact Or.inl q
      · exact Or.inr ⟨j, by omega, q2⟩
theorem g_nI_t {j : Nat} (h : j ≤ 60) : (nI j).toInt = (j : Int) ∧ (nI j).toNatClampNeg = j := by
  have e : (nI j).toInt = (j : Int) := nI_toInt (by omega)
  exact ⟨e, ji_cl e⟩
/-- and none of the others begins later -/
theorem g_ah_m {V : Nat → Nat → Int32} {k s : Nat} : ∀ o, o ≤ 60 → ∀ j, j < o → ¬ (V 14 j).toInt = 0 → (V 17 j).toInt < (V 17 s).toInt → (V k j).toInt = (V k s).toInt → 0 ≤ (g_ah V k s o).toInt ∧ (V 17 j).toInt ≤ (V 17 (g_ah V k s o).toNatClampNeg).toInt
  | 0, _, j, hj, _, _, _ => absurd hj (Nat.not_lt_zero j)
  | o + 1, h, j, hj, c1, c2, c3 => by
    have e := g_nI_t (j := o) (by omega)
    have r := g_ah_r (V := V) (k := k) (s := s) o (by omega)
    rw [g_ah]
    by_cases c : j = o
    · subst c
      split
      · rw [e.2]; omega
      · rename_i q
        rcases r with z | ⟨i, i1, i2, i3⟩
        · exact absurd ⟨c1, c2, c3, Or.inl (by omega)⟩ q
        · have e3 := g_nI_t (j := i) (by omega)
          refine ⟨by rw [i2, e3.1]; omega, ?_⟩
          exact Int.not_lt.mp (fun z => q ⟨c1, c2, c3, Or.inr z⟩)
    · obtain ⟨m1, m2⟩ := g_ah_m (V := V) (k := k) (s := s) o (by omega) j (by omega) c1 c2 c3
      split
      · rename_i q
        rw [e.2]
        refine ⟨by omega, ?_⟩
        rcases q.2.2.2 with z | z
        · omega
        · omega
      · exact ⟨m1, m2⟩
def g_te (V : Nat → Nat → Int32) (T : Nat → Int32) (o : Nat) : Int32 := T o + V 5 (V 15 o).toNatClampNeg + V 19 o
def g_cl (V : Nat → Nat → Int32) (n : Nat) (T : Nat → Int32) (s : Nat) : Int32 := if (g_ah V 16 s n).toInt < 0 then 0 else g_te V T (g_ah V 16 s n).toNatClampNeg + V 3 (V 16 s).toNatClampNeg
def g_th (V : Nat → Nat → Int32) (n : Nat) (T : Nat → Int32) (s : Nat) : Int32 := if (g_ah V 15 s n).toInt < 0 then 0 else g_te V T (g_ah V 15 s n).toNatClampNeg + g_way V (V 16 (g_ah V 15 s n).toNatClampNeg) (V 16 s)
def g_tb (V : Nat → Nat → Int32) (n : Nat) (T : Nat → Int32) (s : Nat) : Int32 := g_mx (g_mx (V 17 s) (g_cl V n T s)) (g_th V n T s)
def g_tr (V : Nat → Nat → Int32) (n : Nat) (T : Nat → Int32) : Prop := ∀ s, s < n → ¬ (V 14 s).toInt = 0 → T s = g_tb V n T s
theorem g_te_c {V : Nat → Nat → Int32} {n : Nat} (hn : n ≤ 60) {T T' : Nat → Int32} {k s : Nat} (h : ∀ o, o < n → ¬ (V 14 o).toInt = 0 → (V 17 o).toInt < (V 17 s).toInt → T o = T' o) : ¬ (g_ah V k s n).toInt < 0 → g_te V T (g_ah V k s n).toNatClampNeg = g_te V T' (g_ah V k s n).toNatClampNeg := by
  intro c
  rcases g_ah_r (V := V) (k := k) (s := s) n hn with z | ⟨j, j1, j2, j3, j4, j5⟩
  · exact absurd (by omega) c
  · have e := g_nI_t (j := j) (by omega)
    rw [j2, e.2]
    unfold g_te
    rw [h j j1 j3 j4]
theorem g_tb_c {V : Nat → Nat → Int32} {n : Nat} (hn : n ≤ 60) {T T' : Nat → Int32} {s : Nat} (h : ∀ o, o < n → ¬ (V 14 o).toInt = 0 → (V 17 o).toInt < (V 17 s).toInt → T o = T' o) : g_tb V n T s = g_tb V n T' s := by
  have e1 : g_cl V n T s = g_cl V n T' s := by
    unfold g_cl
    by_cases c : (g_ah V 16 s n).toInt < 0
    · rw [if_pos c, if_pos c]
    · rw [if_neg c, if_neg c, g_te_c hn h c]
  have e2 : g_th V n T s = g_th V n T' s := by
    unfold g_th
    by_cases c : (g_ah V 15 s n).toInt < 0
    · rw [if_pos c, if_pos c]
    · rw [if_neg c, if_neg c, g_te_c hn h c]
  unfold g_tb
  rw [e1, e2]
/-- there is one TRUE beginning -/
theorem g_tr_u {V : Nat → Nat → Int32} {n : Nat} (hn : n ≤ 60) (hb : ∀ j, 0 ≤ (V 17 j).toInt) {T T' : Nat → Int32} (h : g_tr V n T) (h' : g_tr V n T') : ∀ (m : Nat) (s : Nat), s < n → ¬ (V 14 s).toInt = 0 → (V 17 s).toInt < (m : Int) → T s = T' s
  | 0, s, _, _, hm => absurd hm (by have := hb s; omega)
  | m + 1, s, hs, hi, hm => by
    rw [h s hs hi, h' s hs hi]
    exact g_tb_c hn (fun o h1 h2 h3 => g_tr_u hn hb h h' m o h1 h2 (by omega))
/-- the reference's way: some are reckoned, those ahead of them too -/
def g_ti (V : Nat → Nat → Int32) (n : Nat) (T D : Nat → Int32) : Prop := (∀ s, s < n → D s = 0 → ¬ (V 14 s).toInt = 0) ∧ ∀ s, s < n → ¬ (V 14 s).toInt = 0 → ¬ D s = 0 → T s = g_tb V n T s ∧ ∀ o, o < n → ¬ (V 14 o).toInt = 0 → (V 17 o).toInt < (V 17 s).toInt → ¬ D o = 0
theorem g_ti_s {V : Nat → Nat → Int32} {n : Nat} (hn : n ≤ 60) {T D : Nat → Int32} {x : Nat} {v : Int32} (h : g_ti V n T D) (hx : x < n) (hD : D x = 0) (hm : ∀ s, s < n → D s = 0 → (V 17 x).toInt ≤ (V 17 s).toInt) (hv : v = g_tb V n T x) : g_ti V n (upd T x v) (upd D x 1) := by
  have u1 : ∀ s, s ≠ x → upd T x v s = T s := fun s e => by unfold upd; rw [if_neg e]
  have u2 : ∀ s, s ≠ x → upd D x 1 s = D s := fun s e => by unfold upd; rw [if_neg e]
  have u3 : upd D x 1 x = 1 := by unfold upd; rw [if_pos rfl]
  refine ⟨fun s hs q => ?_, fun s hs hi q => ?_⟩
  · by_cases e : s = x
    · rw [e, u3] at q; exact absurd q (by decide)
    · rw [u2 s e] at q; exact h.1 s hs q
  · by_cases e : s = x
    · subst e
      refine ⟨?_, fun o h1 h2 h3 => ?_⟩
      · rw [show upd T s v s = v from by unfold upd; rw [if_pos rfl]]
        refine hv.trans ?_
        exact g_tb_c hn (fun o h1 h2 h3 => (u1 o (fun z => by rw [z] at h3; omega)).symm)
      · have ne : o ≠ s := fun z => by rw [z] at h3; omega
        rw [u2 o ne]
        intro z
        have := hm o h1 z
        omega
    · rw [u2 s e] at q
      obtain ⟨a1, a2⟩ := h.2 s hs hi q
      refine ⟨?_, fun o h1 h2 h3 => ?_⟩
      · rw [u1 s e, a1]
        exact g_tb_c hn (fun o h1 h2 h3 => by rw [u1 o (fun z => (a2 o h1 h2 h3) (by rw [z]; exact hD))])
      · by_cases ne : o = x
        · rw [ne, u3]; decide
        · rw [u2 o ne]; exact a2 o h1 h2 h3
theorem g_ti_e {V : Nat → Nat → Int32} {n : Nat} {T D : Nat → Int32} (h : g_ti V n T D) (hD : ∀ s, s < n → ¬ D s = 0) : g_tr V n T := fun s hs hi => (h.2 s hs hi (hD s hs)).1
theorem g_ti_0 {V : Nat → Nat → Int32} {n : Nat} {T D : Nat → Int32} (h : ∀ s, s < n → (D s = 0 ↔ ¬ (V 14 s).toInt = 0)) : g_ti V n T D := ⟨fun s hs q => (h s hs).mp q, fun s hs hi q => absurd ((h s hs).mpr hi) q⟩
theorem g_mx_i (a b : Int32) : (g_mx a b).toInt = if a.toInt < b.toInt then b.toInt else a.toInt := by unfold g_mx; split <;> rfl
/-- greatest of three, either way -/
theorem g_mx3 (a b c : Int32) : g_mx (g_mx a b) c = g_mx a (g_mx b c) := by
  apply Int32.toInt_inj.mp
  rw [g_mx_i, g_mx_i, g_mx_i, g_mx_i]
  (repeat' split) <;> omega

