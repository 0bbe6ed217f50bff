/-! what marks are worth -/
def q_b (b : Bool) : Int32 := if b = true then 1 else 0
def q_lf (s k : Bool) (g x : Int32) : Bool := if x.toInt = -1 then s else if x.toInt = -2 then k else decide (x.toInt ≤ g.toInt)
def q_e1 (s k : Bool) (g x : Int32) (P : List Bool) : List Bool :=
  if x.toInt = -3 then (!(P.headD false)) :: P.tail
  else if x.toInt = -4 then (P.tail.headD false && P.headD false) :: P.tail.tail
  else if x.toInt = -5 then (P.tail.headD false || P.headD false) :: P.tail.tail
  else q_lf s k g x :: P
def q_vp (s k : Bool) (g : Int32) (c : Nat → Int32) : Nat → List Bool
  | 0 => []
  | i + 1 => q_e1 s k g (c i) (q_vp s k g c i)
theorem q_e1_3 {s k : Bool} {g x : Int32} {P : List Bool} (h : x.toInt = -3) : q_e1 s k g x P = (!(P.headD false)) :: P.tail := if_pos h
theorem q_e1_4 {s k : Bool} {g x : Int32} {P : List Bool} (h : x.toInt = -4) : q_e1 s k g x P = (P.tail.headD false && P.headD false) :: P.tail.tail := by
  unfold q_e1; rw [if_neg (by omega), if_pos h]
theorem q_e1_5 {s k : Bool} {g x : Int32} {P : List Bool} (h : x.toInt = -5) : q_e1 s k g x P = (P.tail.headD false || P.headD false) :: P.tail.tail := by
  unfold q_e1; rw [if_neg (by omega), if_neg (by omega), if_pos h]
theorem q_e1_l {s k : Bool} {g x : Int32} {P : List Bool} (h3 : ¬ x.toInt = -3) (h4 : ¬ (x.toInt = -4 ∨ x.toInt = -5)) : q_e1 s k g x P = q_lf s k g x :: P := by
  unfold q_e1; rw [if_neg h3, if_neg (fun q => h4 (Or.inl q)), if_neg (fun q => h4 (Or.inr q))]
theorem m_dep_3 {c : Nat → Int32} {i : Nat} (h : (c i).toInt = -3) : m_dep c (i + 1) = m_dep c i := by
  rw [m_dep, if_pos h]
theorem m_dep_4 {c : Nat → Int32} {i : Nat} (h : (c i).toInt = -4 ∨ (c i).toInt = -5) : m_dep c (i + 1) = m_dep c i - 1 := by
  rw [m_dep, if_neg (by omega), if_pos h]
theorem m_dep_l {c : Nat → Int32} {i : Nat} (h3 : ¬ (c i).toInt = -3) (h4 : ¬ ((c i).toInt = -4 ∨ (c i).toInt = -5)) : m_dep c (i + 1) = m_dep c i + 1 := by
  rw [m_dep, if_neg h3, if_neg h4]
theorem q_vp_len {s k : Bool} {g : Int32} {c : Nat → Int32} {n : Nat} (hv : m_val c n) : ∀ i, i ≤ n → (q_vp s k g c i).length = m_dep c i
  | 0, _ => rfl
  | i + 1, hi => by
    have ih := q_vp_len (s := s) (k := k) (g := g) hv i (by omega)
    have h := hv i (by omega)
    show (q_e1 s k g (c i) (q_vp s k g c i)).length = _
    generalize q_vp s k g c i = P at ih ⊢
    by_cases c3 : (c i).toInt = -3
    · have := h.1 c3
      rw [q_e1_3 c3, m_dep_3 c3, List.length_cons, List.length_tail]; omega
    · by_cases c4 : (c i).toInt = -4 ∨ (c i).toInt = -5
      · have := h.2 c4
        rcases c4 with q | q
        · rw [q_e1_4 q, m_dep_4 (Or.inl q), List.length_cons, List.length_tail, List.length_tail]; omega
        · rw [q_e1_5 q, m_dep_4 (Or.inr q), List.length_cons, List.length_tail, List.length_tail]; omega
      · rw [q_e1_l c3 c4, m_dep_l c3 c4, List.length_cons, ih]
theorem q_vp_congr {s k : Bool} {g : Int32} {c d : Nat → Int32} : ∀ n, (∀ i, i < n → c i = d i) → q_vp s k g c n = q_vp s k g d n
  | 0, _ => rfl
  | n + 1, h => by
    show q_e1 s k g (c n) (q_vp s k g c n) = q_e1 s k g (d n) (q_vp s k g d n)
    rw [h n (Nat.lt_succ_self n), q_vp_congr n (fun i hi => h i (Nat.lt_succ_of_lt hi))]
theorem m_dep_congr {c d : Nat → Int32} : ∀ n, (∀ i, i < n → c i = d i) → m_dep c n = m_dep d n
  | 0, _ => rfl
  | n + 1, h => by
    rw [m_dep, m_dep, h n (Nat.lt_succ_self n), m_dep_congr n (fun i hi => h i (Nat.lt_succ_of_lt hi))]
/-- never more than the room -/
theorem q_dn_le {c : Nat → Int32} {M : Nat} : ∀ (L : List Int32) (i d e : Nat), (∀ j, j < L.length → c (i + j) = L.getD j 0) → m_dep c i = d → d ≤ M → q_dn M L d = some e → ∀ j, i ≤ j → j ≤ i + L.length → m_dep c j ≤ M
  | [], i, d, e, hc, hd, hM, h => fun j h1 h2 => by
    have h2 : j ≤ i := h2
    rw [show j = i by omega, hd]; exact hM
  | x :: L, i, d, e, hc, hd, hM, h => by
    have hx : c i = x := hc 0 (Nat.succ_pos _)
    have hc' : ∀ j, j < L.length → c (i + 1 + j) = L.getD j 0 := fun j hj => by
      have := hc (j + 1) (Nat.succ_lt_succ hj)
      rw [show i + 1 + j = i + (j + 1) by omega]; exact this
    have fin : ∀ d', m_dep c (i + 1) = d' → d' ≤ M → q_dn M L d' = some e → ∀ j, i ≤ j → j ≤ i + (x :: L).length → m_dep c j ≤ M := by
      intro d' h1 h2 h3 j g1 g2
      have g2 : j ≤ i + (L.length + 1) := g2
      by_cases cj : j = i
      · rw [cj, hd]; exact hM
      · exact q_dn_le L (i + 1) d' e hc' h1 h2 h3 j (by omega) (by omega)
    unfold q_dn at h
    split at h
    · rename_i c3
      split at h
      · exact fin d (by rw [m_dep_3 (by rw [hx]; exact c3), hd]) hM h
      · cases h
    · rename_i c3
      split at h
      · rename_i c4
        split at h
        · exact fin (d - 1) (by rw [m_dep_4 (by rw [hx]; exact c4), hd]) (by omega) h
        · cases h
      · rename_i c4
        split at h
        · rename_i g
          exact fin (d + 1) (by rw [m_dep_l (by rw [hx]; exact c3) (by rw [hx]; exact c4), hd]) g h
        · cases h
/-- marks within nineteen places that leave one -/
def q_rk (c : Nat → Int32) (n : Nat) : Prop := m_val c n ∧ m_dep c n = 1 ∧ ∀ j, j ≤ n → m_dep c j ≤ 19
theorem q_rk_of {c : Nat → Int32} {L : List Int32} (h : m_ls c L) (w : q_dn 19 L 0 = some 1) : q_rk c L.length := by
  have hc : ∀ j, j < L.length → c (0 + j) = L.getD j 0 := fun j hj => by rw [Nat.zero_add]; exact h j hj
  obtain ⟨r1, r2⟩ := q_dn_val (c := c) L 0 0 1 hc rfl w
  rw [Nat.zero_add] at r2
  exact ⟨fun i hi => r1 i (Nat.zero_le _) (by omega), r2, fun j hj => q_dn_le (c := c) L 0 0 1 hc rfl (by decide) w j (Nat.zero_le _) (by omega)⟩
/-- a row of that sort, known by then -/
def sp_rw (A B C D : Nat → Int32) (n s j f k : Int32) : Bool := jx_any (fun i => decide ((A i).toInt = s.toInt ∧ (B i).toInt = j.toInt ∧ (C i).toInt = f.toInt ∧ (D i).toInt ≤ k.toInt)) n.toNatClampNeg
/-- a condition holds -/
def q_h (A B C D : Nat → Int32) (n g : Int32) (c : Nat → Int32) (m : Nat) (j f k : Int32) : Bool := (q_vp (sp_rw A B C D n 0 j f k) (sp_rw A B C D n 1 j f k) g c m).headD false
theorem q_h_congr {A B C D : Nat → Int32} {n g : Int32} {c d : Nat → Int32} {m : Nat} {j f k : Int32} (h : ∀ i, i < m → c i = d i) : q_h A B C D n g c m j f k = q_h A B C D n g d m j f k := by
  unfold q_h; rw [q_vp_congr m h]
theorem q_b_t {s : Bool} (h : ¬ (jb (s = true)).toInt = 0) : 1 = q_b s := by rw [jb_tp h]; rfl
theorem q_b_f {s : Bool} (h : (jb (s = true)).toInt = 0) : 0 = q_b s := by
  have := jb_fp h
  cases s
  · rfl
  · exact absurd rfl this
theorem q_b_jb (s : Bool) : jb (s = true) = q_b s := rfl
theorem q_b_d1 {p : Prop} [Decidable p] (h : p) : 1 = q_b (decide p) := by rw [decide_eq_true h]; rfl
theorem q_b_d0 {p : Prop} [Decidable p] (h : ¬ p) : 0 = q_b (decide p) := by rw [decide_eq_false h]; rfl
theorem q_b_1 {x : Int32} {b : Bool} (e : x = q_b b) (h : x.toInt = 1) : 1 = q_b b := by rw [← e]; exact (Int32.toInt_inj.mp h).symm
theorem q_b_0 {x : Int32} {b : Bool} (e : x = q_b b) (h : ¬ x.toInt = 1) : 0 = q_b b := by
  subst e
  cases b
  · rfl
  · exact absurd (by decide) h
theorem q_b_nz {b : Bool} (h : ¬ (q_b b).toInt = 0) : b = true := by
  cases b
  · exact absurd (by decide) h
  · rfl
theorem q_b_z {b : Bool} (h : (q_b b).toInt = 0) : b = false := by
  cases b
  · rfl
  · exact absurd h (by decide)
theorem q_lf_s {s k : Bool} {g x v : Int32} (h : x.toInt = -1) (e : v = q_b s) : v = q_b (q_lf s k g x) := by
  unfold q_lf; rw [if_pos h]; exact e
theorem q_lf_k {s k : Bool} {g x v : Int32} (h1 : ¬ x.toInt = -1) (h : x.toInt = -2) (e : v = q_b k) : v = q_b (q_lf s k g x) := by
  unfold q_lf; rw [if_neg h1, if_pos h]; exact e
theorem q_lf_o {s k : Bool} {g x v : Int32} (h1 : ¬ x.toInt = -1) (h2 : ¬ x.toInt = -2) (e : v = q_b (decide (x.toInt ≤ g.toInt))) : v = q_b (q_lf s k g x) := by
  unfold q_lf; rw [if_neg h1, if_neg h2]; exact e

