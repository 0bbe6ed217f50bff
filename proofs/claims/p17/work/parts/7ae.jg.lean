/-! halls, films and showings alike on both sides -/
def gF (σ : jf_S) : Prop := ∀ j : Nat, (j : Int) < ((σ.1 3 8)).toInt → ((σ.1 25) j).toInt < ((σ.1 2 8)).toInt
def JG (σ τ : jf_S) : Prop := x_G σ = m_G τ ∧ (σ.1 3 8) = (τ.1 0 17) ∧ xN σ ∧ gI (x_G σ) ∧ gF σ
theorem ggX_G {σ σ1 : jf_S} (h : ggX σ σ1) : x_G σ1 = x_G σ := by
  refine g_V_eq (fun i h1 h2 => ?_)
  have q : i = 1 ∨ i = 2 ∨ i = 3 ∨ i = 4 ∨ i = 5 ∨ i = 6 ∨ i = 7 ∨ i = 8 ∨ i = 9 ∨ i = 10 ∨ i = 11 ∨ i = 12 ∨ i = 13 ∨ i = 14 ∨ i = 15 ∨ i = 16 ∨ i = 17 ∨ i = 18 ∨ i = 19 ∨ i = 20 ∨ i = 21 ∨ i = 22 := by omega
  rcases q with rfl | rfl | rfl | rfl | rfl | rfl | rfl | rfl | rfl | rfl | rfl | rfl | rfl | rfl | rfl | rfl | rfl | rfl | rfl | rfl | rfl | rfl
  · exact h.1
  · exact h.2.1
  · exact h.2.2.1
  · exact h.2.2.2.1
  · exact h.2.2.2.2.1
  · exact h.2.2.2.2.2.1
  · exact h.2.2.2.2.2.2.1
  · exact h.2.2.2.2.2.2.2.1
  · exact h.2.2.2.2.2.2.2.2.1
  · exact h.2.2.2.2.2.2.2.2.2.1
  · exact h.2.2.2.2.2.2.2.2.2.2.1
  · exact h.2.2.2.2.2.2.2.2.2.2.2.1
  · exact h.2.2.2.2.2.2.2.2.2.2.2.2.1
  · exact h.2.2.2.2.2.2.2.2.2.2.2.2.2.1
  · exact h.2.2.2.2.2.2.2.2.2.2.2.2.2.2.1
  · exact h.2.2.2.2.2.2.2.2.2.2.2.2.2.2.2.1
  · exact h.2.2.2.2.2.2.2.2.2.2.2.2.2.2.2.2.1
  · exact h.2.2.2.2.2.2.2.2.2.2.2.2.2.2.2.2.2.1
  · exact h.2.2.2.2.2.2.2.2.2.2.2.2.2.2.2.2.2.2.1
  · exact h.2.2.2.2.2.2.2.2.2.2.2.2.2.2.2.2.2.2.2.1
  · exact h.2.2.2.2.2.2.2.2.2.2.2.2.2.2.2.2.2.2.2.2.1
  · exact h.2.2.2.2.2.2.2.2.2.2.2.2.2.2.2.2.2.2.2.2.2.1
theorem ggM_G {τ τ1 : jf_S} (h : ggM τ τ1) : m_G τ1 = m_G τ := by
  refine g_V_eq (fun i h1 h2 => ?_)
  have q : i = 1 ∨ i = 2 ∨ i = 3 ∨ i = 4 ∨ i = 5 ∨ i = 6 ∨ i = 7 ∨ i = 8 ∨ i = 9 ∨ i = 10 ∨ i = 11 ∨ i = 12 ∨ i = 13 ∨ i = 14 ∨ i = 15 ∨ i = 16 ∨ i = 17 ∨ i = 18 ∨ i = 19 ∨ i = 20 ∨ i = 21 ∨ i = 22 := by omega
  rcases q with rfl | rfl | rfl | rfl | rfl | rfl | rfl | rfl | rfl | rfl | rfl | rfl | rfl | rfl | rfl | rfl | rfl | rfl | rfl | rfl | rfl | rfl
  · exact h.1
  · exact h.2.1
  · exact h.2.2.1
  · exact h.2.2.2.1
  · exact h.2.2.2.2.1
  · exact h.2.2.2.2.2.1
  · exact h.2.2.2.2.2.2.1
  · exact h.2.2.2.2.2.2.2.1
  · exact h.2.2.2.2.2.2.2.2.1
  · exact h.2.2.2.2.2.2.2.2.2.1
  · exact h.2.2.2.2.2.2.2.2.2.2.1
  · exact h.2.2.2.2.2.2.2.2.2.2.2.1
  · exact h.2.2.2.2.2.2.2.2.2.2.2.2.1
  · exact h.2.2.2.2.2.2.2.2.2.2.2.2.2.1
  · exact h.2.2.2.2.2.2.2.2.2.2.2.2.2.2.1
  · exact h.2.2.2.2.2.2.2.2.2.2.2.2.2.2.2.1
  · exact h.2.2.2.2.2.2.2.2.2.2.2.2.2.2.2.2.1
  · exact h.2.2.2.2.2.2.2.2.2.2.2.2.2.2.2.2.2.1
  · exact h.2.2.2.2.2.2.2.2.2.2.2.2.2.2.2.2.2.2.1
  · exact h.2.2.2.2.2.2.2.2.2.2.2.2.2.2.2.2.2.2.2.1
  · exact h.2.2.2.2.2.2.2.2.2.2.2.2.2.2.2.2.2.2.2.2.1
  · exact h.2.2.2.2.2.2.2.2.2.2.2.2.2.2.2.2.2.2.2.2.2.1
theorem jg_of {σ τ σ1 τ1 : jf_S} (G : JG σ τ) (hx : ggX σ σ1) (hm : ggM τ τ1) : JG σ1 τ1 := by
  have e1 : (σ1.1 3 8) = (σ.1 3 8) := hx.2.2.2.2.2.2.2.2.2.2.2.2.2.2.2.2.2.2.2.2.2.2.2.1
  have e2 : (σ1.1 28) = (σ.1 28) := hx.2.2.2.2.2.2.2.2.2.2.2.2.2.2.2.2.2.2.2.2.2.2.1
  have e3 : (σ1.1 2 8) = (σ.1 2 8) := hx.2.2.2.2.2.2.2.2.2.2.2.2.2.2.2.2.2.2.2.2.2.2.2.2
  have e4 : (σ1.1 25) = (σ.1 25) := hx.2.2.2.2.2.2.2.2.2.2.2.2.2.2.1
  have e5 : (τ1.1 0 17) = (τ.1 0 17) := hm.2.2.2.2.2.2.2.2.2.2.2.2.2.2.2.2.2.2.2.2.2.2
  unfold JG xN gF
  rw [ggX_G hx, ggM_G hm, e1, e2, e3, e4, e5]
  exact G
theorem x_G_t {σ : jf_S} {v : Int32} : x_G (x_told σ v) = x_G σ := x_G_o (by decide)
theorem m_G_t {σ : jf_S} {v : Int32} : m_G (m_told σ v) = m_G σ := m_G_o (by decide)
theorem jg_told {σ τ : jf_S} {v w : Int32} (G : JG σ τ) : JG (x_told σ v) (m_told (jf_i τ 0 0 0) w) := by
  unfold JG xN
  rw [x_G_t, m_G_t, m_G_c]
  exact G
theorem g_end_U {V : Nat → Nat → Int32} {k j s : Nat} {v : Int32} (h1 : k ≠ 5) (h2 : k ≠ 15) (h3 : k ≠ 17) : g_end (gU V k j v) s = g_end V s := by
  unfold g_end gU
  rw [if_neg (Ne.symm h1), if_neg (Ne.symm h2), if_neg (Ne.symm h3)]
theorem gI_U {V : Nat → Nat → Int32} {k j : Nat} {v : Int32} (g : gI V) (h1 : k = 7 → 0 ≤ v.toInt ∧ v.toInt ≤ 1000) (h2 : k = 21 → 0 ≤ v.toInt ∧ v.toInt ≤ 300) (h3 : k = 2 → 0 ≤ v.toInt ∧ v.toInt ≤ 2000) : gI (gU V k j v) := by
  refine ⟨fun i => ?_, fun i => ?_, fun i => ?_⟩
  · unfold gU upd
    split
    · rename_i e
      dsimp only
      split
      · exact h1 e.symm
      · rw [← e]; exact g.1 i
    · exact g.1 i
  · unfold gU upd
    split
    · rename_i e
      dsimp only
      split
      · exact h2 e.symm
      · rw [← e]; exact g.2.1 i
    · exact g.2.1 i
  · unfold gU upd
    split
    · rename_i e
      dsimp only
      split
      · exact h3 e.symm
      · rw [← e]; exact g.2.2 i
    · exact g.2.2 i
theorem gI_u {V : Nat → Nat → Int32} {k j : Nat} {v : Int32} (g : gI V) (h : k ≠ 7 ∧ k ≠ 21 ∧ k ≠ 2) : gI (gU V k j v) := gI_U g (fun e => absurd e h.1) (fun e => absurd e h.2.1) (fun e => absurd e h.2.2)
theorem jg_up {σ τ σ1 τ1 : jf_S} (G : JG σ τ) (V1 : Nat → Nat → Int32) (hx : x_G σ1 = V1) (hm : m_G τ1 = V1) (hX : (σ1.1 3 8) = (σ.1 3 8)) (hM : (τ1.1 0 17) = (τ.1 0 17)) (hE : (σ1.1 28) = (σ.1 28)) (hF : ((σ.1 2 8)).toInt ≤ ((σ1.1 2 8)).toInt) (hf : (σ1.1 25) = (σ.1 25)) (h5 : ∀ j : Nat, (j : Int) < ((σ.1 3 8)).toInt → g_end V1 j = g_end (x_G σ) j) (hI : gI V1) : JG σ1 τ1 := by
  obtain ⟨g1, g2, g3, g4, g5⟩ := G
  refine ⟨by rw [hx, hm], by rw [hX, hM, g2], ?_, by rw [hx]; exact hI, ?_⟩
  · unfold xN
    rw [hX, hE, hx]
    intro j hj
    rw [h5 j hj]
    exact g3 j hj
  · unfold gF
    rw [hX, hf]
    intro j hj
    have := g5 j hj
    omega
theorem jg_hall {σ τ σ1 τ1 : jf_S} {r1 r2 a b c d : Int32} (H : JX σ) (R : JR σ τ) (G : JG σ τ) (p : (r1, σ1) = x_hall σ a b c d) (q : (r2, τ1) = m_hall τ a b c d) : JG σ1 τ1 := by
  obtain ⟨g1, g2, g3, g4, g5⟩ := id G
  have e1 := H.1
  unfold x_hall x_hadd at p
  unfold m_hall at q
  rw [← R.1] at q
  repeat' split at p
  all_goals repeat' split at q
  all_goals first
    | contradiction
    | (exfalso; omega)
    | (obtain ⟨rfl, rfl⟩ := Prod.mk.inj p; obtain ⟨rfl, rfl⟩ := Prod.mk.inj q; exact jg_told G)
    | (obtain ⟨rfl, rfl⟩ := Prod.mk.inj p
       obtain ⟨rfl, rfl⟩ := Prod.mk.inj q
       exact jg_up G (gU (gU (gU (gU (x_G σ) 1 ((σ.1 1 5)).toNatClampNeg (a)) 2 ((σ.1 1 5)).toNatClampNeg (b)) 3 ((σ.1 1 5)).toNatClampNeg (c)) 4 ((σ.1 1 5)).toNatClampNeg (d)) (by rw [x_G_t, x_G_o (by decide), x_G_4, x_G_3, x_G_2, x_G_1]) (by rw [m_G_t, m_G_c, m_G_4, m_G_3, m_G_2, m_G_1, m_G_c, ← g1]) rfl rfl rfl (Int.le_refl _) rfl (fun j _ => by rw [g_end_U (by decide) (by decide) (by decide), g_end_U (by decide) (by decide) (by decide), g_end_U (by decide) (by decide) (by decide), g_end_U (by decide) (by decide) (by decide)]) (gI_u (gI_u (gI_U (gI_u g4 (by decide)) (fun e => absurd e (by decide)) (fun e => absurd e (by decide)) (fun _ => by omega)) (by decide)) (by decide)))
theorem g_end_film {σ : jf_S} {j k : Nat} {v : Int32} (h0 : 0 ≤ ((σ.1 25) j).toInt) (h : ((σ.1 25) j).toInt < (k : Int)) : g_end (gU (x_G σ) 5 k v) j = g_end (x_G σ) j := by
  have t := ji_tn h0
  have e : (gU (x_G σ) 5 k v) 5 ((σ.1 25) j).toNatClampNeg = x_G σ 5 ((σ.1 25) j).toNatClampNeg := by unfold gU upd; rw [if_pos rfl, if_neg (by omega)]
  show x_G σ 17 j + (gU (x_G σ) 5 k v) 5 ((σ.1 25) j).toNatClampNeg = _
  rw [e]; rfl
theorem jg_film {σ τ σ1 τ1 : jf_S} {r1 r2 a b c : Int32} (H : JX σ) (R : JR σ τ) (G : JG σ τ) (p : (r1, σ1) = x_film σ a b c) (q : (r2, τ1) = m_film τ a b c) : JG σ1 τ1 := by
  obtain ⟨g1, g2, g3, g4, g5⟩ := id G
  have e1 := H.2.1
  have e9 := ji_inc1 (k := (σ.1 2 8)) (by omega)
  have tF := ji_tn e1.1
  unfold x_film x_fadd at p
  unfold m_film at q
  rw [← R.2.1] at q
  repeat' split at p
  all_goals repeat' split at q
  all_goals first
    | contradiction
    | (exfalso; omega)
    | (obtain ⟨rfl, rfl⟩ := Prod.mk.inj p; obtain ⟨rfl, rfl⟩ := Prod.mk.inj q; exact jg_told G)
    | (obtain ⟨rfl, rfl⟩ := Prod.mk.inj p
       obtain ⟨rfl, rfl⟩ := Prod.mk.inj q
       exact jg_up G (gU (gU (gU (gU (gU (gU (gU (gU (x_G σ) 5 ((σ.1 2 8)).toNatClampNeg (a)) 6 ((σ.1 2 8)).toNatClampNeg (b)) 7 ((σ.1 2 8)).toNatClampNeg (c)) 8 ((σ.1 2 8)).toNatClampNeg (-1)) 9 ((σ.1 2 8)).toNatClampNeg (-1)) 10 ((σ.1 2 8)).toNatClampNeg (0)) 11 ((σ.1 2 8)).toNatClampNeg (60)) 12 ((σ.1 2 8)).toNatClampNeg (-1)) (by rw [x_G_t, x_G_o (by decide), x_G_12, x_G_11, x_G_10, x_G_9, x_G_8, x_G_7, x_G_6, x_G_5]) (by rw [m_G_t, m_G_c, m_G_12, m_G_11, m_G_10, m_G_9, m_G_8, m_G_7, m_G_6, m_G_5, m_G_c, ← g1]) rfl rfl rfl (show ((σ.1 2 8)).toInt ≤ ((σ.1 2 8) + 1).toInt by omega) rfl (fun j hj => by rw [g_end_U (by decide) (by decide) (by decide), g_end_U (by decide) (by decide) (by decide), g_end_U (by decide) (by decide) (by decide), g_end_U (by decide) (by decide) (by decide), g_end_U (by decide) (by decide) (by decide), g_end_U (by decide) (by decide) (by decide), g_end_U (by decide) (by decide) (by decide)]; exact g_end_film (H.2.2.1.2.2.1 j).1 (by have := g5 j hj; omega)) (gI_u (gI_u (gI_u (gI_u (gI_u (gI_U (gI_u (gI_u g4 (by decide)) (by decide)) (fun _ => by omega) (fun e => absurd e (by decide)) (fun e => absurd e (by decide))) (by decide)) (by decide)) (by decide)) (by decide)) (by decide)))
theorem jg_way {σ τ σ1 τ1 : jf_S} {r1 r2 a b c : Int32} (H : JX σ) (R : JR σ τ) (G : JG σ τ) (p : (r1, σ1) = x_way σ a b c) (q : (r2, τ1) = m_way τ a b c) : JG σ1 τ1 := by
  obtain ⟨g1, g2, g3, g4, g5⟩ := id G
  unfold x_way at p
  unfold m_way at q
  rw [Int32.mul_comm 5 a, Int32.mul_comm 5 b] at q
  repeat' split at p
  all_goals repeat' split at q
  all_goals first
    | contradiction
    | (obtain ⟨rfl, rfl⟩ := Prod.mk.inj p; obtain ⟨rfl, rfl⟩ := Prod.mk.inj q; exact jg_told G)
    | (obtain ⟨rfl, rfl⟩ := Prod.mk.inj p
       obtain ⟨rfl, rfl⟩ := Prod.mk.inj q
       exact jg_up G (gU (gU (x_G σ) 13 (a * 5 + b).toNatClampNeg (c)) 13 (b * 5 + a).toNatClampNeg (c)) (by rw [x_G_t, x_G_13, x_G_13]) (by rw [m_G_t, m_G_13, m_G_13, m_G_c, ← g1]) rfl rfl rfl (Int.le_refl _) rfl (fun j _ => by rw [g_end_U (by decide) (by decide) (by decide), g_end_U (by decide) (by decide) (by decide)]) (gI_u (gI_u g4 (by decide)) (by decide)))
theorem jg_guest {σ τ σ1 τ1 : jf_S} {r1 r2 a b c : Int32} (H : JX σ) (R : JR σ τ) (G : JG σ τ) (p : (r1, σ1) = x_guest σ a b c) (q : (r2, τ1) = m_guest τ a b c) : JG σ1 τ1 := by
  obtain ⟨g1, g2, g3, g4, g5⟩ := id G
  unfold x_guest at p
  unfold m_guest at q
  rw [← R.2.1] at q
  repeat' split at p
  all_goals repeat' split at q
  all_goals first
    | contradiction
    | (obtain ⟨rfl, rfl⟩ := Prod.mk.inj p; obtain ⟨rfl, rfl⟩ := Prod.mk.inj q; exact jg_told G)
    | (obtain ⟨rfl, rfl⟩ := Prod.mk.inj p
       obtain ⟨rfl, rfl⟩ := Prod.mk.inj q
       exact jg_up G (gU (gU (x_G σ) 8 (a).toNatClampNeg (b)) 9 (a).toNatClampNeg (c)) (by rw [x_G_t, x_G_9, x_G_8]) (by rw [m_G_t, m_G_9, m_G_8, m_G_c, ← g1]) rfl rfl rfl (Int.le_refl _) rfl (fun j _ => by rw [g_end_U (by decide) (by decide) (by decide), g_end_U (by decide) (by decide) (by decide)]) (gI_u (gI_u g4 (by decide)) (by decide)))
theorem jg_bar {σ τ σ1 τ1 : jf_S} {r1 r2 a b c d : Int32} (H : JX σ) (R : JR σ τ) (G : JG σ τ) (p : (r1, σ1) = x_bar σ a b c d) (q : (r2, τ1) = m_bar τ a b c d) : JG σ1 τ1 := by
  obtain ⟨g1, g2, g3, g4, g5⟩ := id G
  unfold x_bar at p
  unfold m_bar at q
  rw [← R.2.1] at q
  repeat' split at p
  all_goals repeat' split at q
  all_goals first
    | contradiction
    | (obtain ⟨rfl, rfl⟩ := Prod.mk.inj p; obtain ⟨rfl, rfl⟩ := Prod.mk.inj q; exact jg_told G)
    | (obtain ⟨rfl, rfl⟩ := Prod.mk.inj p
       obtain ⟨rfl, rfl⟩ := Prod.mk.inj q
       exact jg_up G (gU (gU (gU (x_G σ) 10 (a).toNatClampNeg (b)) 11 (a).toNatClampNeg (c)) 12 (a).toNatClampNeg (d)) (by rw [x_G_t, x_G_12, x_G_11, x_G_10]) (by rw [m_G_t, m_G_12, m_G_11, m_G_10, m_G_c, ← g1]) rfl rfl rfl (Int.le_refl _) rfl (fun j _ => by rw [g_end_U (by decide) (by decide) (by decide), g_end_U (by decide) (by decide) (by decide), g_end_U (by decide) (by decide) (by decide)]) (gI_u (gI_u (gI_u g4 (by decide)) (by decide)) (by decide)))
theorem jg_part {σ τ σ1 τ1 : jf_S} {r1 r2 a b : Int32} (H : JX σ) (R : JR σ τ) (G : JG σ τ) (p : (r1, σ1) = x_part σ a b) (q : (r2, τ1) = m_part τ a b) : JG σ1 τ1 := by
  obtain ⟨g1, g2, g3, g4, g5⟩ := id G
  unfold x_part at p
  unfold m_part at q
  repeat' split at p
  all_goals repeat' split at q
  all_goals first
    | contradiction
    | (obtain ⟨rfl, rfl⟩ := Prod.mk.inj p; obtain ⟨rfl, rfl⟩ := Prod.mk.inj q; exact jg_told G)
    | (obtain ⟨rfl, rfl⟩ := Prod.mk.inj p
       obtain ⟨rfl, rfl⟩ := Prod.mk.inj q
       exact jg_up G (gU (x_G σ) 21 (a).toNatClampNeg (b)) (by rw [x_G_t, x_G_21]) (by rw [m_G_t, m_G_21, m_G_c, ← g1]) rfl rfl rfl (Int.le_refl _) rfl (fun j _ => by rw [g_end_U (by decide) (by decide) (by decide)]) (gI_U g4 (fun e => absurd e (by decide)) (fun _ => by omega) (fun e => absurd e (by decide))))
theorem jg_hour {σ τ σ1 τ1 : jf_S} {r1 r2 a : Int32} (H : JX σ) (R : JR σ τ) (G : JG σ τ) (p : (r1, σ1) = x_hour σ a) (q : (r2, τ1) = m_hour τ a) : JG σ1 τ1 := by
  obtain ⟨g1, g2, g3, g4, g5⟩ := id G
  have e1 := H.2.2.2.1.1
  unfold x_hour x_hradd at p
  unfold m_hour at q
  rw [← R.2.2.1] at q
  repeat' split at p
  all_goals repeat' split at q
  all_goals first
    | contradiction
    | (exfalso; omega)
    | (obtain ⟨rfl, rfl⟩ := Prod.mk.inj p; obtain ⟨rfl, rfl⟩ := Prod.mk.inj q; exact jg_told G)
    | (obtain ⟨rfl, rfl⟩ := Prod.mk.inj p
       obtain ⟨rfl, rfl⟩ := Prod.mk.inj q
       exact jg_up G (gU (x_G σ) 22 ((σ.1 5 8)).toNatClampNeg (a)) (by rw [x_G_t, x_G_o (by decide), x_G_22]) (by rw [m_G_t, m_G_c, m_G_22, m_G_c, ← g1]) rfl rfl rfl (Int.le_refl _) rfl (fun j _ => by rw [g_end_U (by decide) (by decide) (by decide)]) (gI_u g4 (by decide)))
theorem jg_take {σ τ σ1 τ1 : jf_S} {r1 r2 a : Int32} (H : JX σ) (R : JR σ τ) (G : JG σ τ) (p : (r1, σ1) = x_take σ a) (q : (r2, τ1) = m_take τ a) : r1 = r2 ∧ JG σ1 τ1 := by
  obtain ⟨g1, g2, g3, g4, g5⟩ := id G
  have eI : ∀ j, (τ.1 14) j = (σ.1 31) j := fun j => (congrFun (congrFun g1 14) j).symm
  unfold x_take at p
  unfold m_take at q
  rw [eI, ← g2] at q
  repeat' split at p
  all_goals repeat' split at q
  all_goals first
    | contradiction
    | (obtain ⟨rfl, rfl⟩ := Prod.mk.inj p; obtain ⟨rfl, rfl⟩ := Prod.mk.inj q; exact ⟨rfl, jg_told G⟩)
    | (obtain ⟨rfl, rfl⟩ := Prod.mk.inj p
       obtain ⟨rfl, rfl⟩ := Prod.mk.inj q
       exact ⟨rfl, jg_up G (gU (x_G σ) 14 (a).toNatClampNeg (0)) (by rw [x_G_t, x_G_14]) (by rw [m_G_t, m_G_14, m_G_c, ← g1]) rfl rfl rfl (Int.le_refl _) rfl (fun j _ => by rw [g_end_U (by decide) (by decide) (by decide)]) (gI_u g4 (by decide))⟩)
theorem x_ci (s m : Int32) : s * 51 + m - -40 = 51 * s + m + 40 := by rw [Int32.mul_comm, Int32.sub_eq_add_neg]; rfl
theorem jg_come {σ τ σ1 τ1 : jf_S} {r1 r2 a b c : Int32} (H : JX σ) (R : JR σ τ) (G : JG σ τ) (p : (r1, σ1) = x_come σ a b c) (q : (r2, τ1) = m_come τ a b c) : r1 = r2 ∧ JG σ1 τ1 := by
  obtain ⟨g1, g2, g3, g4, g5⟩ := id G
  have eI : ∀ j, (τ.1 14) j = (σ.1 31) j := fun j => (congrFun (congrFun g1 14) j).symm
  unfold x_come at p
  unfold m_come at q
  rw [eI, ← g2, ← x_ci] at q
  repeat' split at p
  all_goals repeat' split at q
  all_goals first
    | contradiction
    | (obtain ⟨rfl, rfl⟩ := Prod.mk.inj p; obtain ⟨rfl, rfl⟩ := Prod.mk.inj q; exact ⟨rfl, jg_told G⟩)
    | (obtain ⟨rfl, rfl⟩ := Prod.mk.inj p
       obtain ⟨rfl, rfl⟩ := Prod.mk.inj q
       exact ⟨rfl, jg_up G (gU (x_G σ) 20 (a * 51 + b - -40).toNatClampNeg (c)) (by rw [x_G_t, x_G_20]) (by rw [m_G_t, m_G_20, m_G_c, ← g1]) rfl rfl rfl (Int.le_refl _) rfl (fun j _ => by rw [g_end_U (by decide) (by decide) (by decide)]) (gI_u g4 (by decide))⟩)
theorem jg_delay {σ τ σ1 τ1 : jf_S} {r1 r2 a b : Int32} (H : JX σ) (R : JR σ τ) (G : JG σ τ) (p : (r1, σ1) = x_delay σ a b) (q : (r2, τ1) = m_delay τ a b) : r1 = r2 ∧ JG σ1 τ1 := by
  obtain ⟨g1, g2, g3, g4, g5⟩ := id G
  have eI : ∀ j, (τ.1 14) j = (σ.1 31) j := fun j => (congrFun (congrFun g1 14) j).symm
  unfold x_delay at p
  unfold m_delay at q
  rw [eI, ← g2] at q
  repeat' split at p
  all_goals repeat' split at q
  all_goals first
    | contradiction
    | (obtain ⟨rfl, rfl⟩ := Prod.mk.inj p; obtain ⟨rfl, rfl⟩ := Prod.mk.inj q; exact ⟨rfl, jg_told G⟩)
    | (obtain ⟨rfl, rfl⟩ := Prod.mk.inj p
       obtain ⟨rfl, rfl⟩ := Prod.mk.inj q
       exact ⟨rfl, jg_up G (gU (x_G σ) 19 (a).toNatClampNeg (b)) (by rw [x_G_t, x_G_19]) (by rw [m_G_t, m_G_19, m_G_c, ← g1]) rfl rfl rfl (Int.le_refl _) rfl (fun j _ => by rw [g_end_U (by decide) (by decide) (by decide)]) (gI_u g4 (by decide))⟩)

