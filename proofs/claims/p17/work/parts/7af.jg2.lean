/-! put and better keep both sides alike -/
theorem gU_comm {V : Nat → Nat → Int32} {k k' j j' : Nat} {v v' : Int32} (h : k ≠ k') : gU (gU V k j v) k' j' v' = gU (gU V k' j' v') k j v := by
  funext a
  unfold gU
  by_cases e1 : a = k
  · have e2 : a ≠ k' := fun e => h (e1.symm.trans e)
    rw [if_neg e2, if_pos e1, if_pos e1, if_neg h]
  · by_cases e2 : a = k'
    · rw [if_pos e2, if_neg e1, if_pos e2, if_neg (Ne.symm h)]
    · rw [if_neg e2, if_neg e1, if_neg e1, if_neg e2]
theorem x_none_m {σ τ : jf_S} {f h : Int32} (R : JR σ τ) : x_none σ f h ↔ m_none τ f h := by
  unfold x_none m_none
  rw [R.1, R.2.1]
theorem jg_why {σ τ : jf_S} {f h b s x : Int32} (G : JG σ τ) : g_why (x_G σ) (x_N σ) f h b s x = g_why (m_G τ) (m_E τ) f h b s x := by
  unfold x_N m_E
  rw [G.1, G.2.1]
def x_pS (σ : jf_S) (f h b s : Int32) : jf_S := jf_i (jf_i (jf_i (jf_i (jf_i (jf_i (jf_i σ 25 ((σ.1 3 8)).toNatClampNeg f) 26 ((σ.1 3 8)).toNatClampNeg h) 27 ((σ.1 3 8)).toNatClampNeg b) 28 ((σ.1 3 8)).toNatClampNeg (b + (σ.1 17) f.toNatClampNeg)) 29 ((σ.1 3 8)).toNatClampNeg s) 31 ((σ.1 3 8)).toNatClampNeg 1) 3 8 ((σ.1 3 8) + 1)
def g_pV (V : Nat → Nat → Int32) (n : Nat) (f h b s : Int32) : Nat → Nat → Int32 := gU (gU (gU (gU (gU V 15 n f) 16 n h) 17 n b) 18 n s) 14 n 1
theorem x_pS_G {σ : jf_S} {f h b s : Int32} : x_G (x_pS σ f h b s) = g_pV (x_G σ) ((σ.1 3 8)).toNatClampNeg f h b s := by
  unfold x_pS g_pV
  rw [x_G_o (k := 3) (by decide), x_G_14, x_G_18, x_G_o (k := 28) (by decide), x_G_17, x_G_16, x_G_15]
theorem m_pS_G {τ : jf_S} {n : Nat} {f h b s v : Int32} : m_G (jf_i (jf_i (jf_i (jf_i (jf_i (jf_i (jf_i τ 0 0 0) 14 n 1) 15 n f) 16 n h) 17 n b) 18 n s) 0 17 v) = g_pV (m_G τ) n f h b s := by
  unfold g_pV
  rw [m_G_c, m_G_18, m_G_17, m_G_16, m_G_15, m_G_14, m_G_c, gU_comm (k := 14) (k' := 15) (by decide), gU_comm (k := 14) (k' := 16) (by decide), gU_comm (k := 14) (k' := 17) (by decide), gU_comm (k := 14) (k' := 18) (by decide)]
theorem g_pV_e {V : Nat → Nat → Int32} {n j : Nat} {f h b s : Int32} : g_end (g_pV V n f h b s) j = if j = n then b + V 5 f.toNatClampNeg else g_end V j := by
  have e : g_end (g_pV V n f h b s) j = upd (V 17) n b j + V 5 (upd (V 15) n f j).toNatClampNeg := rfl
  rw [e]
  unfold upd
  by_cases c : j = n
  · rw [if_pos c, if_pos c, if_pos c]
  · rw [if_neg c, if_neg c, if_neg c]; rfl
theorem jg_put {σ τ σ1 τ1 : jf_S} {f h b s r : Int32} (H : JX σ) (R : JR σ τ) (G : JG σ τ) (p : x_putq σ f h b s σ1) (q : m_putw τ f h b s r τ1) : JG σ1 τ1 := by
  obtain ⟨g1, g2, g3, g4, g5⟩ := id G
  have g2' := congrArg Int32.toInt g2
  have nn := x_none_m (f := f) (h := h) R
  have ww := jg_why (f := f) (h := h) (b := b) (s := s) (x := -1) G
  have hE := H.2.2.1.1
  have te := ji_tn hE.1
  have ei := ji_inc1 (k := (σ.1 3 8)) (by omega)
  obtain ⟨-, q⟩ := q
  rcases p with ⟨⟨v, rfl⟩, pc⟩ | ⟨⟨v, rfl⟩, p1, p2, p3, p4⟩
  · rcases q with ⟨⟨w, rfl⟩, qc⟩ | ⟨⟨w, rfl⟩, q1, q2, q3, q4⟩
    · exact jg_told G
    · exfalso
      rcases pc with c | c | c | c
      · exact q1 c
      · exact q2 (nn.mp c)
      · omega
      · rw [ww] at c; omega
  · rcases q with ⟨⟨w, rfl⟩, qc⟩ | ⟨⟨w, rfl⟩, q1, q2, q3, q4⟩
    · exfalso
      rcases qc with c | c | c | c
      · exact p1 c
      · exact p2 (nn.mpr c)
      · omega
      · rw [← ww] at c; omega
    · rw [show (x_sadd σ f h b (b + (σ.1 17) f.toNatClampNeg) s).2 = x_pS σ f h b s from congrArg Prod.snd (if_neg (by omega))]
      refine ⟨?_, ?_, ?_, ?_, ?_⟩
      · rw [x_G_t, x_pS_G, m_G_t, m_pS_G, g1, g2]
      · show (σ.1 3 8) + 1 = (τ.1 0 17) + 1
        rw [g2]
      · intro j hj
        have hj : (j : Int) < ((σ.1 3 8) + 1).toInt := hj
        rw [x_G_t, x_pS_G, g_pV_e]
        show (x_pS σ f h b s).1 28 j = _
        unfold x_pS
        rw [jf_i_o 28 (by decide), jf_i_o 28 (by decide), jf_i_o 28 (by decide), jf_i_at, jf_i_o 28 (by decide), jf_i_o 28 (by decide), jf_i_o 28 (by decide)]
        unfold upd
        split
        · rfl
        · exact g3 j (by omega)
      · rw [x_G_t, x_pS_G]
        exact gI_u (gI_u (gI_u (gI_u (gI_u g4 (by decide)) (by decide)) (by decide)) (by decide)) (by decide)
      · intro j hj
        have hj : (j : Int) < ((σ.1 3 8) + 1).toInt := hj
        show ((x_pS σ f h b s).1 25 j).toInt < ((σ.1 2 8)).toInt
        unfold x_pS
        rw [jf_i_o 25 (by decide), jf_i_o 25 (by decide), jf_i_o 25 (by decide), jf_i_o 25 (by decide), jf_i_o 25 (by decide), jf_i_o 25 (by decide), jf_i_at]
        unfold upd
        split
        · unfold x_none at p2; omega
        · exact g5 j (by omega)
theorem gI_be {n m H : Nat} : ∀ (k : Nat) (V : Nat → Nat → Int32), gI V → gI (g_be n m H k V).2
  | 0, V, g => g
  | k + 1, V, g => by
    by_cases c : (g_fi V n m H).2.1.toInt = -1
    · rw [g_be_0 c]; exact g
    · rw [g_be_1 c]; exact gI_be k _ (gI_mv g)
theorem jg_better {σ τ σ1 τ1 : jf_S} {r1 r2 : Int32} (R : JR σ τ) (G : JG σ τ) (p : (∃ υ : jf_S, xS_b σ υ ∧ xI υ ∧ σ1 = jf_i υ 5 8 0) ∧ r1 = nI (g_be (x_N σ) (x_M σ) (x_H σ) 40 (x_G σ)).1 ∧ x_G σ1 = (g_be (x_N σ) (x_M σ) (x_H σ) 40 (x_G σ)).2 ∧ xN σ1) (q : (mI_s τ1 ∧ mS_b τ τ1 ∧ (τ1.1 0 2) = (τ.1 0 2) ∧ (τ1.1 0 27) = 0) ∧ r2 = nI (g_be ((τ.1 0 17)).toNatClampNeg ((τ.1 0 27)).toNatClampNeg ((τ.1 0 2)).toNatClampNeg 40 (m_G τ)).1 ∧ m_G τ1 = (g_be ((τ.1 0 17)).toNatClampNeg ((τ.1 0 27)).toNatClampNeg ((τ.1 0 2)).toNatClampNeg 40 (m_G τ)).2) : r1 = r2 ∧ JG σ1 τ1 := by
  obtain ⟨g1, g2, g3, g4, g5⟩ := id G
  obtain ⟨⟨υ, hb, -, e⟩, p2, p3, p4⟩ := p
  obtain ⟨⟨-, q2, -, -⟩, q5, q6⟩ := q
  have e1 : x_N σ = ((τ.1 0 17)).toNatClampNeg := by unfold x_N; rw [g2]
  have e2 : x_M σ = ((τ.1 0 27)).toNatClampNeg := by unfold x_M; rw [R.2.2.1]
  have e3 : x_H σ = ((τ.1 0 2)).toNatClampNeg := by unfold x_H; rw [R.1]
  rw [e1, e2, e3, g1] at p2 p3
  have c3 : (σ1.1 3 8) = (σ.1 3 8) := by rw [e]; exact congrFun (hb.2.1 3 (by decide) (by decide) (by decide) (by decide) (by decide) (by decide)) 8
  have c2 : (σ1.1 2 8) = (σ.1 2 8) := by rw [e]; exact congrFun (hb.2.1 2 (by decide) (by decide) (by decide) (by decide) (by decide) (by decide)) 8
  have c25 : (σ1.1 25) = (σ.1 25) := by rw [e]; exact hb.2.1 25 (by decide) (by decide) (by decide) (by decide) (by decide) (by decide)
  have cm : (τ1.1 0 17) = (τ.1 0 17) := q2.2.2 17 (by decide) (by decide) (by decide) (by decide) (by decide) (by decide)
  refine ⟨by rw [p2, q5], by rw [p3, q6], by rw [c3, cm, g2], p4, ?_, ?_⟩
  · rw [p3]; exact gI_be _ _ (by rw [← g1]; exact g4)
  · unfold gF
    rw [c3, c2, c25]
    exact g5
theorem jg_grid {σ τ : jf_S} {r1 r2 : Int32} (G : JG σ τ) (p : r1 = g_grid (x_G σ) (x_N σ)) (q : r2 = g_grid (m_G τ) (m_E τ)) : r1 = r2 := by
  rw [p, q]
  unfold x_N m_E
  rw [G.1, G.2.1]
/-- the older words out of the exact ones -/
theorem x_put_old {σ τ : jf_S} {f h b s : Int32} (h1 : ((σ.1 2 8)).toInt ≤ 20) (h2 : ((σ.1 1 5)).toInt ≤ 4) (p : x_putq σ f h b s τ) : (∃ v : Int32, τ = x_told σ v) ∨ (∃ e v : Int32, ((0 ≤ f.toInt ∧ f.toInt < 20) ∧ (0 ≤ h.toInt ∧ h.toInt < 4) ∧ (0 ≤ b.toInt ∧ b.toInt ≤ 14399)) ∧ τ = x_told (x_sadd σ f h b e s).2 v) := by
  rcases p with ⟨p, -⟩ | ⟨⟨v, p⟩, p1, p2, -, -⟩
  · exact Or.inl p
  · refine Or.inr ⟨_, v, ?_, p⟩
    unfold m_bad at p1
    unfold x_none at p2
    omega
theorem jg_h_r (n j : Nat) : 0 ≤ (jg_h n j).toInt ∧ (jg_h n j).toInt ≤ 300 := by unfold jg_h; split <;> decide
theorem jg_s0 : JG x_s0 m_s0 := by
  have e : x_G x_s0 = m_G m_s0 := by
    funext k
    by_cases h : k = 0 ∨ 23 ≤ k
    · show g_V x_cell x_s0 k = g_V m_cell m_s0 k
      unfold g_V
      rw [if_pos h, if_pos h]
    · have q : k = 1 ∨ k = 2 ∨ k = 3 ∨ k = 4 ∨ k = 5 ∨ k = 6 ∨ k = 7 ∨ k = 8 ∨ k = 9 ∨ k = 10 ∨ k = 11 ∨ k = 12 ∨ k = 13 ∨ k = 14 ∨ k = 15 ∨ k = 16 ∨ k = 17 ∨ k = 18 ∨ k = 19 ∨ k = 20 ∨ k = 21 ∨ k = 22 := by omega
      rcases q with rfl | rfl | rfl | rfl | rfl | rfl | rfl | rfl | rfl | rfl | rfl | rfl | rfl | rfl | rfl | rfl | rfl | rfl | rfl | rfl | rfl | rfl <;> rfl
  refine ⟨e, rfl, fun j hj => ?_, ⟨fun j => ?_, fun j => jg_h_r 24 j, fun j => ?_⟩, fun j hj => ?_⟩
  · exact absurd (show (j : Int) < 0 from hj) (by omega)
  · show 0 ≤ (0 : Int32).toInt ∧ (0 : Int32).toInt ≤ 1000; decide
  · show 0 ≤ (0 : Int32).toInt ∧ (0 : Int32).toInt ≤ 2000; decide
  · exact absurd (show (j : Int) < 0 from hj) (by omega)
def JJ5 (σ τ : jf_S) : Prop := JX σ ∧ JM τ ∧ JR σ τ ∧ JG σ τ

