/-! halls, films and showings: one picture of both sides -/
def gE (p : Nat → Bool) : Nat → Bool
  | 0 => false
  | n + 1 => gE p n || p n
theorem gE_s0 {p : Nat → Bool} {n : Nat} (h : gE p n = false) (q : p n = false) : gE p (n + 1) = false := by rw [gE, h, q]; rfl
theorem gE_s1 {p : Nat → Bool} {n : Nat} (q : p n = true) : gE p (n + 1) = true := by rw [gE, q, Bool.or_true]
theorem gE_s2 {p : Nat → Bool} {n : Nat} (h : gE p n = true) : gE p (n + 1) = true := by rw [gE, h]; rfl
theorem gE_of {p : Nat → Bool} {k : Nat} (hp : p k = true) : ∀ {n : Nat}, k < n → gE p n = true
  | 0, h => absurd h (Nat.not_lt_zero k)
  | n + 1, h => by
    by_cases e : k = n
    · subst e; exact gE_s1 hp
    · exact gE_s2 (gE_of hp (by omega))
theorem gE_cong {p q : Nat → Bool} : ∀ {n : Nat}, (∀ k, k < n → p k = q k) → gE p n = gE q n
  | 0, _ => rfl
  | n + 1, h => by rw [gE, gE, gE_cong (fun k hk => h k (by omega)), h n (by omega)]
/-- a flag that is set once some number below has it -/
theorem gf_y {p : Nat → Bool} {n : Nat} (h : p n = true) : (1 : Int32) = jb (gE p (n + 1) = true) := jb_tt (gE_s1 h)
theorem gf_k {p : Nat → Bool} {n : Nat} {a : Int32} (h : a = jb (gE p n = true)) (q : ¬ a.toInt = 0) : (1 : Int32) = jb (gE p (n + 1) = true) := by
  by_cases c : gE p n = true
  · exact jb_tt (gE_s2 c)
  · rw [← jb_ff c] at h; rw [h] at q; exact absurd rfl q
theorem gf_n {p : Nat → Bool} {n : Nat} {a : Int32} (h : a = jb (gE p n = true)) (q : a.toInt = 0) (r : p n = false) : (0 : Int32) = jb (gE p (n + 1) = true) := by
  by_cases c : gE p n = true
  · rw [← jb_tt c] at h; rw [h] at q; exact absurd q (by decide)
  · exact jb_ff (by rw [gE_s0 (by cases e : gE p n with | true => exact absurd e c | false => rfl) r]; decide)
theorem gf_s {p : Nat → Bool} {n : Nat} {a : Int32} (h : a = jb (gE p n = true)) (r : p n = false) : a = jb (gE p (n + 1) = true) := by
  rw [h, gE, r, Bool.or_false]
/-- a count that goes on -/
theorem gc_y {p : Nat → Bool} {k : Nat} {n c : Int32} (h : n = c + nI (jx_ct p k)) (q : p k = true) : n + 1 = c + nI (jx_ct p (k + 1)) := by
  rw [jx_ct, if_pos q, ← nI_1, h, Int32.add_assoc]
theorem gc_n {p : Nat → Bool} {k : Nat} {n c : Int32} (h : n = c + nI (jx_ct p k)) (q : p k = false) : n + 0 = c + nI (jx_ct p (k + 1)) := by
  rw [jx_ct, if_neg (by rw [q]; decide), Int32.add_zero]; exact h
theorem gc_s {p : Nat → Bool} {k : Nat} {n c : Int32} (h : n = c + nI (jx_ct p k)) (q : p k = false) : n = c + nI (jx_ct p (k + 1)) := by
  rw [jx_ct, if_neg (by rw [q]; decide)]; exact h
theorem g_sc {o : Int32} (h : 0 ≤ o.toInt) (e : (o + Int32.ofInt 1).toInt = o.toInt + 1) : (o + Int32.ofInt 1).toNatClampNeg = o.toNatClampNeg + 1 := ji_cl (by rw [e, Int.natCast_add, ji_tn h]; rfl)
/-- sums -/
def gs (f : Nat → Int32) : Nat → Int32
  | 0 => 0
  | n + 1 => gs f n + f n
theorem gs_cong {f g : Nat → Int32} : ∀ {n : Nat}, (∀ k, k < n → f k = g k) → gs f n = gs g n
  | 0, _ => rfl
  | n + 1, h => by rw [gs, gs, gs_cong (fun k hk => h k (by omega)), h n (by omega)]
/-- the rows: 1 town, 2 seats, 3 clear, 4 formats; 5 minutes, 6 format, 7 fame, 8 from, 9 to, 10 before, 11 most, 12 beside; 13 ways; 14 is, 15 film, 16 hall, 17 begin, 18 sort, 19 delay; 20 comers; 21 parts; 22 hours -/
def x_cell : List Nat := [0, 12, 13, 14, 15, 17, 18, 19, 20, 21, 22, 23, 24, 16, 31, 25, 26, 27, 29, 30, 32, 33, 34]
def m_cell : List Nat := [0, 1, 2, 3, 4, 5, 6, 7, 8, 9, 10, 11, 12, 13, 14, 15, 16, 17, 18, 19, 20, 21, 22]
def g_V (c : List Nat) (σ : jf_S) : Nat → Nat → Int32 := fun k => if k = 0 ∨ 23 ≤ k then fun _ => 0 else σ.1 (c.getD k 0)
def x_G (σ : jf_S) : Nat → Nat → Int32 := g_V x_cell σ
def m_G (σ : jf_S) : Nat → Nat → Int32 := g_V m_cell σ
def gU (V : Nat → Nat → Int32) (k j : Nat) (v : Int32) : Nat → Nat → Int32 := fun a => if a = k then upd (V k) j v else V a
theorem g_V_up {c : List Nat} (hc : ∀ i, i < 23 → ∀ j, j < 23 → i ≠ 0 → j ≠ 0 → c.getD i 0 = c.getD j 0 → i = j) {σ : jf_S} {k j : Nat} {v : Int32} (h1 : k ≠ 0) (h2 : k < 23) : g_V c (jf_i σ (c.getD k 0) j v) = gU (g_V c σ) k j v := by
  funext a
  unfold gU g_V
  by_cases e : a = k
  · subst e
    rw [if_neg (by omega), if_pos rfl, if_neg (by omega), jf_i_at]
  · rw [if_neg e]
    split
    · rfl
    · rw [jf_i_o _ (fun q => e (hc a (by omega) k h2 (by omega) h1 q))]
theorem g_V_o {c : List Nat} {σ : jf_S} {k j : Nat} {v : Int32} (h : ∀ i, i < 23 → i ≠ 0 → c.getD i 0 ≠ k) : g_V c (jf_i σ k j v) = g_V c σ := by
  funext a
  unfold g_V
  split
  · rfl
  · rw [jf_i_o _ (h a (by omega) (by omega))]
theorem x_cell_inj : ∀ i, i < 23 → ∀ j, j < 23 → i ≠ 0 → j ≠ 0 → x_cell.getD i 0 = x_cell.getD j 0 → i = j := by decide
theorem m_cell_inj : ∀ i, i < 23 → ∀ j, j < 23 → i ≠ 0 → j ≠ 0 → m_cell.getD i 0 = m_cell.getD j 0 → i = j := by decide
theorem x_G_o {σ : jf_S} {k j : Nat} {v : Int32} (h : ∀ i, i < 23 → i ≠ 0 → x_cell.getD i 0 ≠ k) : x_G (jf_i σ k j v) = x_G σ := g_V_o h
theorem m_G_o {σ : jf_S} {k j : Nat} {v : Int32} (h : ∀ i, i < 23 → i ≠ 0 → m_cell.getD i 0 ≠ k) : m_G (jf_i σ k j v) = m_G σ := g_V_o h
theorem x_G_1 {σ : jf_S} {j : Nat} {v : Int32} : x_G (jf_i σ 12 j v) = gU (x_G σ) 1 j v := g_V_up (k := 1) x_cell_inj (by decide) (by decide)
theorem m_G_1 {σ : jf_S} {j : Nat} {v : Int32} : m_G (jf_i σ 1 j v) = gU (m_G σ) 1 j v := g_V_up (k := 1) m_cell_inj (by decide) (by decide)
theorem x_G_2 {σ : jf_S} {j : Nat} {v : Int32} : x_G (jf_i σ 13 j v) = gU (x_G σ) 2 j v := g_V_up (k := 2) x_cell_inj (by decide) (by decide)
theorem m_G_2 {σ : jf_S} {j : Nat} {v : Int32} : m_G (jf_i σ 2 j v) = gU (m_G σ) 2 j v := g_V_up (k := 2) m_cell_inj (by decide) (by decide)
theorem x_G_3 {σ : jf_S} {j : Nat} {v : Int32} : x_G (jf_i σ 14 j v) = gU (x_G σ) 3 j v := g_V_up (k := 3) x_cell_inj (by decide) (by decide)
theorem m_G_3 {σ : jf_S} {j : Nat} {v : Int32} : m_G (jf_i σ 3 j v) = gU (m_G σ) 3 j v := g_V_up (k := 3) m_cell_inj (by decide) (by decide)
theorem x_G_4 {σ : jf_S} {j : Nat} {v : Int32} : x_G (jf_i σ 15 j v) = gU (x_G σ) 4 j v := g_V_up (k := 4) x_cell_inj (by decide) (by decide)
theorem m_G_4 {σ : jf_S} {j : Nat} {v : Int32} : m_G (jf_i σ 4 j v) = gU (m_G σ) 4 j v := g_V_up (k := 4) m_cell_inj (by decide) (by decide)
theorem x_G_5 {σ : jf_S} {j : Nat} {v : Int32} : x_G (jf_i σ 17 j v) = gU (x_G σ) 5 j v := g_V_up (k := 5) x_cell_inj (by decide) (by decide)
theorem m_G_5 {σ : jf_S} {j : Nat} {v : Int32} : m_G (jf_i σ 5 j v) = gU (m_G σ) 5 j v := g_V_up (k := 5) m_cell_inj (by decide) (by decide)
theorem x_G_6 {σ : jf_S} {j : Nat} {v : Int32} : x_G (jf_i σ 18 j v) = gU (x_G σ) 6 j v := g_V_up (k := 6) x_cell_inj (by decide) (by decide)
theorem m_G_6 {σ : jf_S} {j : Nat} {v : Int32} : m_G (jf_i σ 6 j v) = gU (m_G σ) 6 j v := g_V_up (k := 6) m_cell_inj (by decide) (by decide)
theorem x_G_7 {σ : jf_S} {j : Nat} {v : Int32} : x_G (jf_i σ 19 j v) = gU (x_G σ) 7 j v := g_V_up (k := 7) x_cell_inj (by decide) (by decide)
theorem m_G_7 {σ : jf_S} {j : Nat} {v : Int32} : m_G (jf_i σ 7 j v) = gU (m_G σ) 7 j v := g_V_up (k := 7) m_cell_inj (by decide) (by decide)
theorem x_G_8 {σ : jf_S} {j : Nat} {v : Int32} : x_G (jf_i σ 20 j v) = gU (x_G σ) 8 j v := g_V_up (k := 8) x_cell_inj (by decide) (by decide)
theorem m_G_8 {σ : jf_S} {j : Nat} {v : Int32} : m_G (jf_i σ 8 j v) = gU (m_G σ) 8 j v := g_V_up (k := 8) m_cell_inj (by decide) (by decide)
theorem x_G_9 {σ : jf_S} {j : Nat} {v : Int32} : x_G (jf_i σ 21 j v) = gU (x_G σ) 9 j v := g_V_up (k := 9) x_cell_inj (by decide) (by decide)
theorem m_G_9 {σ : jf_S} {j : Nat} {v : Int32} : m_G (jf_i σ 9 j v) = gU (m_G σ) 9 j v := g_V_up (k := 9) m_cell_inj (by decide) (by decide)
theorem x_G_10 {σ : jf_S} {j : Nat} {v : Int32} : x_G (jf_i σ 22 j v) = gU (x_G σ) 10 j v := g_V_up (k := 10) x_cell_inj (by decide) (by decide)
theorem m_G_10 {σ : jf_S} {j : Nat} {v : Int32} : m_G (jf_i σ 10 j v) = gU (m_G σ) 10 j v := g_V_up (k := 10) m_cell_inj (by decide) (by decide)
theorem x_G_11 {σ : jf_S} {j : Nat} {v : Int32} : x_G (jf_i σ 23 j v) = gU (x_G σ) 11 j v := g_V_up (k := 11) x_cell_inj (by decide) (by decide)
theorem m_G_11 {σ : jf_S} {j : Nat} {v : Int32} : m_G (jf_i σ 11 j v) = gU (m_G σ) 11 j v := g_V_up (k := 11) m_cell_inj (by decide) (by decide)
theorem x_G_12 {σ : jf_S} {j : Nat} {v : Int32} : x_G (jf_i σ 24 j v) = gU (x_G σ) 12 j v := g_V_up (k := 12) x_cell_inj (by decide) (by decide)
theorem m_G_12 {σ : jf_S} {j : Nat} {v : Int32} : m_G (jf_i σ 12 j v) = gU (m_G σ) 12 j v := g_V_up (k := 12) m_cell_inj (by decide) (by decide)
theorem x_G_13 {σ : jf_S} {j : Nat} {v : Int32} : x_G (jf_i σ 16 j v) = gU (x_G σ) 13 j v := g_V_up (k := 13) x_cell_inj (by decide) (by decide)
theorem m_G_13 {σ : jf_S} {j : Nat} {v : Int32} : m_G (jf_i σ 13 j v) = gU (m_G σ) 13 j v := g_V_up (k := 13) m_cell_inj (by decide) (by decide)
theorem x_G_14 {σ : jf_S} {j : Nat} {v : Int32} : x_G (jf_i σ 31 j v) = gU (x_G σ) 14 j v := g_V_up (k := 14) x_cell_inj (by decide) (by decide)
theorem m_G_14 {σ : jf_S} {j : Nat} {v : Int32} : m_G (jf_i σ 14 j v) = gU (m_G σ) 14 j v := g_V_up (k := 14) m_cell_inj (by decide) (by decide)
theorem x_G_15 {σ : jf_S} {j : Nat} {v : Int32} : x_G (jf_i σ 25 j v) = gU (x_G σ) 15 j v := g_V_up (k := 15) x_cell_inj (by decide) (by decide)
theorem m_G_15 {σ : jf_S} {j : Nat} {v : Int32} : m_G (jf_i σ 15 j v) = gU (m_G σ) 15 j v := g_V_up (k := 15) m_cell_inj (by decide) (by decide)
theorem x_G_16 {σ : jf_S} {j : Nat} {v : Int32} : x_G (jf_i σ 26 j v) = gU (x_G σ) 16 j v := g_V_up (k := 16) x_cell_inj (by decide) (by decide)
theorem m_G_16 {σ : jf_S} {j : Nat} {v : Int32} : m_G (jf_i σ 16 j v) = gU (m_G σ) 16 j v := g_V_up (k := 16) m_cell_inj (by decide) (by decide)
theorem x_G_17 {σ : jf_S} {j : Nat} {v : Int32} : x_G (jf_i σ 27 j v) = gU (x_G σ) 17 j v := g_V_up (k := 17) x_cell_inj (by decide) (by decide)
theorem m_G_17 {σ : jf_S} {j : Nat} {v : Int32} : m_G (jf_i σ 17 j v) = gU (m_G σ) 17 j v := g_V_up (k := 17) m_cell_inj (by decide) (by decide)
theorem x_G_18 {σ : jf_S} {j : Nat} {v : Int32} : x_G (jf_i σ 29 j v) = gU (x_G σ) 18 j v := g_V_up (k := 18) x_cell_inj (by decide) (by decide)
theorem m_G_18 {σ : jf_S} {j : Nat} {v : Int32} : m_G (jf_i σ 18 j v) = gU (m_G σ) 18 j v := g_V_up (k := 18) m_cell_inj (by decide) (by decide)
theorem x_G_19 {σ : jf_S} {j : Nat} {v : Int32} : x_G (jf_i σ 30 j v) = gU (x_G σ) 19 j v := g_V_up (k := 19) x_cell_inj (by decide) (by decide)
theorem m_G_19 {σ : jf_S} {j : Nat} {v : Int32} : m_G (jf_i σ 19 j v) = gU (m_G σ) 19 j v := g_V_up (k := 19) m_cell_inj (by decide) (by decide)
theorem x_G_20 {σ : jf_S} {j : Nat} {v : Int32} : x_G (jf_i σ 32 j v) = gU (x_G σ) 20 j v := g_V_up (k := 20) x_cell_inj (by decide) (by decide)
theorem m_G_20 {σ : jf_S} {j : Nat} {v : Int32} : m_G (jf_i σ 20 j v) = gU (m_G σ) 20 j v := g_V_up (k := 20) m_cell_inj (by decide) (by decide)
theorem x_G_21 {σ : jf_S} {j : Nat} {v : Int32} : x_G (jf_i σ 33 j v) = gU (x_G σ) 21 j v := g_V_up (k := 21) x_cell_inj (by decide) (by decide)
theorem m_G_21 {σ : jf_S} {j : Nat} {v : Int32} : m_G (jf_i σ 21 j v) = gU (m_G σ) 21 j v := g_V_up (k := 21) m_cell_inj (by decide) (by decide)
theorem x_G_22 {σ : jf_S} {j : Nat} {v : Int32} : x_G (jf_i σ 34 j v) = gU (x_G σ) 22 j v := g_V_up (k := 22) x_cell_inj (by decide) (by decide)
theorem m_G_22 {σ : jf_S} {j : Nat} {v : Int32} : m_G (jf_i σ 22 j v) = gU (m_G σ) 22 j v := g_V_up (k := 22) m_cell_inj (by decide) (by decide)
theorem g_V_eq {c : List Nat} {σ τ : jf_S} (h : ∀ i, i < 23 → i ≠ 0 → τ.1 (c.getD i 0) = σ.1 (c.getD i 0)) : g_V c τ = g_V c σ := by
  funext a
  unfold g_V
  split
  · rfl
  · rw [h a (by omega) (by omega)]
/-- ends, ways -/
def g_end (V : Nat → Nat → Int32) (s : Nat) : Int32 := V 17 s + V 5 (V 15 s).toNatClampNeg
def g_way (V : Nat → Nat → Int32) (h k : Int32) : Int32 := V 13 (5 * V 1 h.toNatClampNeg + V 1 k.toNatClampNeg).toNatClampNeg
/-- WHY: what each showing that there is adds -/
def g_pf (V : Nat → Nat → Int32) (h b e x : Int32) (s : Nat) : Bool := decide (¬ (V 14 s).toInt = 0 ∧ ¬ (s : Int) = x.toInt ∧ (V 16 s).toInt = h.toInt ∧ (V 17 s).toInt < (e + V 3 h.toNatClampNeg).toInt ∧ b.toInt < (g_end V s + V 3 h.toNatClampNeg).toInt)
def g_pr (V : Nat → Nat → Int32) (f h b e x : Int32) (s : Nat) : Bool := decide (¬ (V 14 s).toInt = 0 ∧ ¬ (s : Int) = x.toInt ∧ (V 15 s).toInt = f.toInt ∧ (b.toInt = (V 17 s).toInt ∨ ((V 17 s).toInt < b.toInt ∧ b.toInt < (g_end V s + g_way V h (V 16 s)).toInt) ∨ (b.toInt < (V 17 s).toInt ∧ (V 17 s).toInt < (e + g_way V h (V 16 s)).toInt)))
def g_pc (V : Nat → Nat → Int32) (f x : Int32) (s : Nat) : Bool := decide (¬ (V 14 s).toInt = 0 ∧ ¬ (s : Int) = x.toInt ∧ (V 15 s).toInt = f.toInt)
def g_pb (V : Nat → Nat → Int32) (f h b e x : Int32) (s : Nat) : Bool := decide (¬ (V 14 s).toInt = 0 ∧ ¬ (s : Int) = x.toInt ∧ ((V 12 f.toNatClampNeg).toInt = (V 15 s).toInt ∨ (V 12 (V 15 s).toNatClampNeg).toInt = f.toInt) ∧ (V 1 (V 16 s).toNatClampNeg).toInt = (V 1 h.toNatClampNeg).toInt ∧ (V 17 s).toInt < e.toInt ∧ b.toInt < (g_end V s).toInt)
def g_wt (V : Nat → Nat → Int32) (f b s e a7 a8 a9 c : Int32) : Int32 :=
  if ¬ a7.toInt = 0 then 3 else if ¬ a8.toInt = 0 then 4 else if s.toInt = 1 ∧ ((V 8 f.toNatClampNeg).toInt = -1 ∨ b.toInt < (V 8 f.toNatClampNeg).toInt ∨ (V 9 f.toNatClampNeg).toInt < e.toInt) then 5 else if s.toInt = 2 ∧ 120 ≤ (b - b / 1440 * 1440).toInt ∧ (b - b / 1440 * 1440).toInt < 1320 then 6 else if b.toInt < (V 10 f.toNatClampNeg).toInt then 7 else if (V 11 f.toNatClampNeg).toInt < c.toInt then 8 else if ¬ a9.toInt = 0 then 9 else 0
def g_why (V : Nat → Nat → Int32) (n : Nat) (f h b s x : Int32) : Int32 :=
  if 14400 < (b + V 5 f.toNatClampNeg).toInt then 1 else if ((V 4 h.toNatClampNeg >>> (V 6 f.toNatClampNeg &&& 31)) &&& 1).toInt = 0 then 2 else g_wt V f b s (b + V 5 f.toNatClampNeg) (jb (gE (g_pf V h b (b + V 5 f.toNatClampNeg) x) n = true)) (jb (gE (g_pr V f h b (b + V 5 f.toNatClampNeg) x) n = true)) (jb (gE (g_pb V f h b (b + V 5 f.toNatClampNeg) x) n = true)) (1 + nI (jx_ct (g_pc V f x) n))
/-- CROWD, WORTH, GRID -/
def g_pn (V : Nat → Nat → Int32) (s o : Nat) : Bool := decide (¬ (V 14 o).toInt = 0 ∧ ¬ o = s ∧ (V 1 (V 16 o).toNatClampNeg).toInt = (V 1 (V 16 s).toNatClampNeg).toInt ∧ (V 17 o).toInt < (g_end V s).toInt ∧ (V 17 s).toInt < (g_end V o).toInt)
def g_alone (V : Nat → Nat → Int32) (f b : Int32) : Int32 := V 7 f.toNatClampNeg * V 21 ((b - b / 1440 * 1440) / 60).toNatClampNeg / 100
def g_crowd (V : Nat → Nat → Int32) (n s : Nat) : Int32 := g_alone V (V 15 s) (V 17 s) / (1 + nI (jx_ct (g_pn V s) n))
def g_min (a b : Int32) : Int32 := if a.toInt < b.toInt then a else b
def g_worth (V : Nat → Nat → Int32) (n s : Nat) : Int32 := g_min (g_crowd V n s) (V 2 (V 16 s).toNatClampNeg)
def g_w (V : Nat → Nat → Int32) (n s : Nat) : Int32 := if (V 14 s).toInt = 0 then 0 else g_worth V n s
def g_grid (V : Nat → Nat → Int32) (n : Nat) : Int32 := gs (g_w V n) n

