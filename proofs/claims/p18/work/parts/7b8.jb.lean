/-! no two showings of one hall, nor of one film, begin alike -/
theorem g_jz {p : Prop} [Decidable p] (h : ¬ p) : (jb p).toInt = 0 := by rw [← jb_ff h]; rfl
theorem g_jn {p : Prop} [Decidable p] (h : p) : ¬ (jb p).toInt = 0 := by rw [← jb_tt h]; decide
theorem gE_f {p : Nat → Bool} {n k : Nat} (h : ¬ gE p n = true) (hk : k < n) : ¬ p k = true := fun q => h (gE_of q hk)
theorem g_why_0 {V : Nat → Nat → Int32} {n : Nat} {f h b s x : Int32} (q : (g_why V n f h b s x).toInt = 0) : ¬ gE (g_pf V h b (b + V 5 f.toNatClampNeg) x) n = true ∧ ¬ gE (g_pr V f h b (b + V 5 f.toNatClampNeg) x) n = true := by
  unfold g_why at q
  split at q
  · exact absurd q (by decide)
  split at q
  · exact absurd q (by decide)
  unfold g_wt at q
  by_cases c3 : gE (g_pf V h b (b + V 5 f.toNatClampNeg) x) n = true
  · rw [if_pos (g_jn c3)] at q; exact absurd q (by decide)
  rw [if_neg (fun z => z (g_jz c3))] at q
  by_cases c4 : gE (g_pr V f h b (b + V 5 f.toNatClampNeg) x) n = true
  · rw [if_pos (g_jn c4)] at q; exact absurd q (by decide)
  exact ⟨c3, c4⟩
/-- clearings, and how long films last -/
def gC (V : Nat → Nat → Int32) (F : Int) : Prop := (∀ j, 0 ≤ (V 3 j).toInt ∧ (V 3 j).toInt ≤ 120) ∧ (∀ j : Nat, (j : Int) < F → 1 ≤ (V 5 j).toInt ∧ (V 5 j).toInt ≤ 300)
def gL (V : Nat → Nat → Int32) (n : Nat) (F : Int) : Prop := ∀ j, j < n → 0 ≤ (V 15 j).toInt ∧ (V 15 j).toInt < F
theorem g_why_d {V : Nat → Nat → Int32} {n : Nat} {F : Int} {f h b s x : Int32} (q : (g_why V n f h b s x).toInt = 0) (hC : gC V F) (hf : 0 ≤ f.toInt ∧ f.toInt < F) (hb : 0 ≤ b.toInt ∧ b.toInt ≤ 14399) (hL : gL V n F) {o : Nat} (ho : o < n) (hi : ¬ (V 14 o).toInt = 0) (hx : ¬ (o : Int) = x.toInt) : ((V 16 o).toInt = h.toInt → ¬ (V 17 o).toInt = b.toInt) ∧ ((V 15 o).toInt = f.toInt → ¬ (V 17 o).toInt = b.toInt) := by
  obtain ⟨q1, q2⟩ := g_why_0 q
  have p1 := gE_f q1 ho
  have p2 := gE_f q2 ho
  have tf := ji_tn hf.1
  have m1 := hC.2 f.toNatClampNeg (by omega)
  have lo := hL o ho
  have tl := ji_tn lo.1
  have m2 := hC.2 (V 15 o).toNatClampNeg (by omega)
  have c := hC.1 h.toNatClampNeg
  refine ⟨fun e1 e2 => p1 ?_, fun e1 e2 => p2 ?_⟩
  · have a1 : (b + V 5 f.toNatClampNeg).toInt = b.toInt + (V 5 f.toNatClampNeg).toInt := fb_addI (by omega) (by omega)
    have a2 : (b + V 5 f.toNatClampNeg + V 3 h.toNatClampNeg).toInt = (b + V 5 f.toNatClampNeg).toInt + (V 3 h.toNatClampNeg).toInt := fb_addI (by omega) (by omega)
    have a3 : (g_end V o).toInt = (V 17 o).toInt + (V 5 (V 15 o).toNatClampNeg).toInt := fb_addI (by omega) (by omega)
    have a4 : (g_end V o + V 3 h.toNatClampNeg).toInt = (g_end V o).toInt + (V 3 h.toNatClampNeg).toInt := fb_addI (by omega) (by omega)
    unfold g_pf
    exact decide_eq_true ⟨hi, hx, e1, by omega, by omega⟩
  · unfold g_pr
    exact decide_eq_true ⟨hi, hx, e1, Or.inl e2.symm⟩
theorem gB_h {V : Nat → Nat → Int32} {n x : Nat} {h b : Int32} (g : gB V n 16) (d : ∀ o, o < n → ¬ (V 14 o).toInt = 0 → ¬ o = x → (V 16 o).toInt = h.toInt → ¬ (V 17 o).toInt = b.toInt) : gB (g_mv V x h b) n 16 := by
  intro s o hs ho is io ne e
  rw [g_mv_o (k := 14) (by decide) (by decide)] at is io
  by_cases e1 : s = x
  · have e2 : ¬ o = x := fun z => ne (e1.trans z.symm)
    rw [e1, g_mv_h, g_mv_hn e2] at e
    rw [e1, g_mv_b, g_mv_bn e2]
    exact fun z => d o ho io e2 e.symm z.symm
  · by_cases e2 : o = x
    · rw [e2, g_mv_h, g_mv_hn e1] at e
      rw [e2, g_mv_b, g_mv_bn e1]
      exact d s hs is e1 e
    · rw [g_mv_hn e1, g_mv_hn e2] at e
      rw [g_mv_bn e1, g_mv_bn e2]
      exact g s o hs ho is io ne e
theorem gB_f {V : Nat → Nat → Int32} {n x : Nat} {h b : Int32} (g : gB V n 15) (d : ∀ o, o < n → ¬ (V 14 o).toInt = 0 → ¬ o = x → (V 15 o).toInt = (V 15 x).toInt → ¬ (V 17 o).toInt = b.toInt) : gB (g_mv V x h b) n 15 := by
  intro s o hs ho is io ne e
  rw [g_mv_o (k := 14) (by decide) (by decide)] at is io
  rw [g_mv_o (k := 15) (by decide) (by decide)] at e
  by_cases e1 : s = x
  · have e2 : ¬ o = x := fun z => ne (e1.trans z.symm)
    rw [e1] at e
    rw [e1, g_mv_b, g_mv_bn e2]
    exact fun z => d o ho io e2 e.symm z.symm
  · by_cases e2 : o = x
    · rw [e2] at e
      rw [e2, g_mv_b, g_mv_bn e1]
      exact d s hs is e1 e
    · rw [g_mv_bn e1, g_mv_bn e2]
      exact g s o hs ho is io ne e
/-- the change found may be -/
def g_ok (V : Nat → Nat → Int32) (n : Nat) (c : Int32 × Int32 × Int32 × Int32) : Prop := c.2.1.toInt = -1 ∨ ((g_why V n (V 15 c.2.1.toNatClampNeg) c.2.2.1 c.2.2.2 (V 18 c.2.1.toNatClampNeg) c.2.1).toInt = 0 ∧ 0 ≤ c.2.2.2.toInt ∧ c.2.2.2.toInt ≤ 14399)
theorem g_ok_try {V : Nat → Nat → Int32} {n : Nat} {s h b : Int32} {c : Int32 × Int32 × Int32 × Int32} (hb : 0 ≤ b.toInt ∧ b.toInt ≤ 14399) (e : g_ok V n c) : g_ok V n (g_try V n s h b c) := by
  unfold g_try
  split
  · rename_i q
    exact Or.inr ⟨q.1, hb⟩
  · exact e
def gD (V : Nat → Nat → Int32) : Prop := (∀ j, 0 ≤ (V 17 j).toInt ∧ (V 17 j).toInt ≤ 14399) ∧ (∀ j, 0 ≤ (V 22 j).toInt ∧ (V 22 j).toInt ≤ 14399)
theorem g_ok_ho {V : Nat → Nat → Int32} {n : Nat} {s h : Int32} {c : Int32 × Int32 × Int32 × Int32} (hD : gD V) (e : g_ok V n c) : ∀ k, g_ok V n (g_ho V n s h k c)
  | 0 => e
  | k + 1 => g_ok_try (hD.2 k) (g_ok_ho hD e k)
theorem g_ok_ha {V : Nat → Nat → Int32} {n m : Nat} {s : Int32} {c : Int32 × Int32 × Int32 × Int32} (hD : gD V) (e : g_ok V n c) : ∀ j, g_ok V n (g_ha V n m s j c)
  | 0 => e
  | j + 1 => g_ok_try (hD.1 _) (g_ok_ho hD (g_ok_ha hD e j) m)
theorem g_ok_sh {V : Nat → Nat → Int32} {n m H : Nat} {c : Int32 × Int32 × Int32 × Int32} (hD : gD V) (e : g_ok V n c) : ∀ i, g_ok V n (g_sh V n m H i c)
  | 0 => e
  | i + 1 => by
    rw [g_sh]
    split
    · exact g_ok_sh hD e i
    · exact g_ok_ha hD (g_ok_sh hD e i) H
theorem g_ok_fi {V : Nat → Nat → Int32} {n m H : Nat} (hD : gD V) : g_ok V n (g_fi V n m H) := g_ok_sh hD (Or.inl rfl) n
def gP (V : Nat → Nat → Int32) (n : Nat) (F : Int) : Prop := gB V n 16 ∧ gB V n 15 ∧ gC V F ∧ gL V n F ∧ gD V
theorem gP_mv {V : Nat → Nat → Int32} {n : Nat} {F : Int} {s h b : Int32} (g : gP V n F) (s0 : 0 ≤ s.toInt ∧ s.toInt < (n : Int)) (hb : 0 ≤ b.toInt ∧ b.toInt ≤ 14399) (q : (g_why V n (V 15 s.toNatClampNeg) h b (V 18 s.toNatClampNeg) s).toInt = 0) : gP (g_mv V s.toNatClampNeg h b) n F := by
  obtain ⟨g1, g2, g3, g4, g5⟩ := g
  have ts := ji_tn s0.1
  have d : ∀ o, o < n → ¬ (V 14 o).toInt = 0 → ¬ o = s.toNatClampNeg → ((V 16 o).toInt = h.toInt → ¬ (V 17 o).toInt = b.toInt) ∧ ((V 15 o).toInt = (V 15 s.toNatClampNeg).toInt → ¬ (V 17 o).toInt = b.toInt) := fun o h1 h2 h3 => g_why_d q g3 (g4 _ (by omega)) hb g4 h1 h2 (fun z => h3 (by omega))
  refine ⟨gB_h g1 (fun o h1 h2 h3 => (d o h1 h2 h3).1), gB_f g2 (fun o h1 h2 h3 => (d o h1 h2 h3).2), ?_, ?_, ?_, ?_⟩
  · unfold gC; rw [g_mv_o (k := 3) (by decide) (by decide), g_mv_o (k := 5) (by decide) (by decide)]; exact g3
  · unfold gL; rw [g_mv_o (k := 15) (by decide) (by decide)]; exact g4
  · intro j
    by_cases e : j = s.toNatClampNeg
    · rw [e, g_mv_b]; exact hb
    · rw [g_mv_bn e]; exact g5.1 j
  · rw [g_mv_o (k := 22) (by decide) (by decide)]; exact g5.2
theorem gP_be {n m H : Nat} {F : Int} (hn : n ≤ 60) : ∀ (k : Nat) (V : Nat → Nat → Int32), gP V n F → gP (g_be n m H k V).2 n F
  | 0, V, g => g
  | k + 1, V, g => by
    by_cases c : (g_fi V n m H).2.1.toInt = -1
    · rw [g_be_0 c]; exact g
    · rw [g_be_1 c]
      have h1 := (g_lo_fi (V := V) (m := m) (H := H) hn).resolve_left c
      have h2 := (g_ok_fi (V := V) (n := n) (m := m) (H := H) g.2.2.2.2).resolve_left c
      exact gP_be hn k _ (gP_mv g h1 h2.2 h2.1)
def JB (σ : jf_S) : Prop := gB (x_G σ) (x_N σ) 16 ∧ gB (x_G σ) (x_N σ) 15 ∧ gC (x_G σ) ((σ.1 2 8)).toInt
theorem jb_P {σ τ : jf_S} (H : JX σ) (G : JG σ τ) (B : JB σ) : gP (x_G σ) (x_N σ) ((σ.1 2 8)).toInt := by
  have te := ji_tn H.2.2.1.1.1
  refine ⟨B.1, B.2.1, B.2.2, fun j hj => ⟨(H.2.2.1.2.2.1 j).1, G.2.2.2.2 j (by unfold x_N at hj; omega)⟩, fun j => H.2.2.1.2.2.2.2 j, fun j => H.2.2.2.1.2 j⟩
theorem gB_eq {V V1 : Nat → Nat → Int32} {n k : Nat} (h14 : V1 14 = V 14) (h17 : V1 17 = V 17) (hk : V1 k = V k) (g : gB V n k) : gB V1 n k := by
  unfold gB
  rw [h14, h17, hk]
  exact g
theorem jb_of {σ σ1 : jf_S} (B : JB σ) (hx : ggX σ σ1) : JB σ1 := by
  have e1 : (σ1.1 3 8) = (σ.1 3 8) := hx.2.2.2.2.2.2.2.2.2.2.2.2.2.2.2.2.2.2.2.2.2.2.2.1
  have e3 : (σ1.1 2 8) = (σ.1 2 8) := hx.2.2.2.2.2.2.2.2.2.2.2.2.2.2.2.2.2.2.2.2.2.2.2.2
  unfold JB x_N
  rw [ggX_G hx, e1, e3]
  exact B
theorem jb_told' {σ : jf_S} {v : Int32} (B : JB σ) : JB (x_told σ v) := by
  unfold JB
  rw [x_G_t]
  exact B
theorem jb_up {σ σ1 : jf_S} (B : JB σ) (V1 : Nat → Nat → Int32) (hx : x_G σ1 = V1) (hX : (σ1.1 3 8) = (σ.1 3 8)) (h14 : V1 14 = x_G σ 14) (h15 : V1 15 = x_G σ 15) (h16 : V1 16 = x_G σ 16) (h17 : V1 17 = x_G σ 17) (hC : gC V1 ((σ1.1 2 8)).toInt) : JB σ1 := by
  unfold JB x_N
  rw [hx, hX]
  exact ⟨gB_eq h14 h17 h16 B.1, gB_eq h14 h17 h15 B.2.1, hC⟩
theorem gC_U {V : Nat → Nat → Int32} {F : Int} {k j : Nat} {v : Int32} (g : gC V F) (h1 : k ≠ 3) (h2 : k ≠ 5) : gC (gU V k j v) F := by
  unfold gC gU
  rw [if_neg (Ne.symm h1), if_neg (Ne.symm h2)]
  exact g
theorem gC_3 {V : Nat → Nat → Int32} {F : Int} {j : Nat} {v : Int32} (g : gC V F) (h : 0 ≤ v.toInt ∧ v.toInt ≤ 120) : gC (gU V 3 j v) F := by
  refine ⟨fun i => ?_, fun i hi => ?_⟩
  · unfold gU upd
    rw [if_pos rfl]
    split
    · exact h
    · exact g.1 i
  · exact g.2 i hi
theorem gC_5 {V : Nat → Nat → Int32} {F : Int32} {v : Int32} (g : gC V F.toInt) (h0 : 0 ≤ F.toInt) (e : (F + 1).toInt = F.toInt + 1) (h : 1 ≤ v.toInt ∧ v.toInt ≤ 300) : gC (gU V 5 F.toNatClampNeg v) (F + 1).toInt := by
  have t := ji_tn h0
  refine ⟨fun i => g.1 i, fun i hi => ?_⟩
  unfold gU upd
  rw [if_pos rfl]
  split
  · exact h
  · exact g.2 i (by omega)
theorem jb_hall {σ σ1 : jf_S} {r1 a b c d : Int32} (H : JX σ) (B : JB σ) (p : (r1, σ1) = x_hall σ a b c d) : JB σ1 := by
  unfold x_hall x_hadd at p
  repeat' split at p
  all_goals first
    | (obtain ⟨rfl, rfl⟩ := Prod.mk.inj p; exact jb_told' B)
    | (obtain ⟨rfl, rfl⟩ := Prod.mk.inj p; exact jb_up B (gU (gU (gU (gU (x_G σ) 1 ((σ.1 1 5)).toNatClampNeg (a)) 2 ((σ.1 1 5)).toNatClampNeg (b)) 3 ((σ.1 1 5)).toNatClampNeg (c)) 4 ((σ.1 1 5)).toNatClampNeg (d)) (by rw [x_G_t, x_G_o (by decide), x_G_4, x_G_3, x_G_2, x_G_1]) rfl rfl rfl rfl rfl (gC_U (gC_3 (gC_U (gC_U B.2.2 (by decide) (by decide)) (by decide) (by decide)) (by omega)) (by decide) (by decide)))
theorem jb_film {σ σ1 : jf_S} {r1 a b c : Int32} (H : JX σ) (B : JB σ) (p : (r1, σ1) = x_film σ a b c) : JB σ1 := by
  have e1 := H.2.1
  have e9 := ji_inc1 (k := (σ.1 2 8)) (by omega)
  unfold x_film x_fadd at p
  repeat' split at p
  all_goals first
    | (obtain ⟨rfl, rfl⟩ := Prod.mk.inj p; exact jb_told' B)
    | (obtain ⟨rfl, rfl⟩ := Prod.mk.inj p; exact jb_up B (gU (gU (gU (gU (gU (gU (gU (gU (x_G σ) 5 ((σ.1 2 8)).toNatClampNeg (a)) 6 ((σ.1 2 8)).toNatClampNeg (b)) 7 ((σ.1 2 8)).toNatClampNeg (c)) 8 ((σ.1 2 8)).toNatClampNeg (-1)) 9 ((σ.1 2 8)).toNatClampNeg (-1)) 10 ((σ.1 2 8)).toNatClampNeg (0)) 11 ((σ.1 2 8)).toNatClampNeg (60)) 12 ((σ.1 2 8)).toNatClampNeg (-1)) (by rw [x_G_t, x_G_o (by decide), x_G_12, x_G_11, x_G_10, x_G_9, x_G_8, x_G_7, x_G_6, x_G_5]) rfl rfl rfl rfl rfl (gC_U (gC_U (gC_U (gC_U (gC_U (gC_U (gC_U (gC_5 B.2.2 e1.1 e9 (by omega)) (by decide) (by decide)) (by decide) (by decide)) (by decide) (by decide)) (by decide) (by decide)) (by decide) (by decide)) (by decide) (by decide)) (by decide) (by decide)))
theorem jb_way {σ σ1 : jf_S} {r1 a b c : Int32} (H : JX σ) (B : JB σ) (p : (r1, σ1) = x_way σ a b c) : JB σ1 := by
  unfold x_way at p
  repeat' split at p
  all_goals first
    | (obtain ⟨rfl, rfl⟩ := Prod.mk.inj p; exact jb_told' B)
    | (obtain ⟨rfl, rfl⟩ := Prod.mk.inj p; exact jb_up B (gU (gU (x_G σ) 13 (a * 5 + b).toNatClampNeg (c)) 13 (b * 5 + a).toNatClampNeg (c)) (by rw [x_G_t, x_G_13, x_G_13]) rfl rfl rfl rfl rfl (gC_U (gC_U (B.2.2) (by decide) (by decide)) (by decide) (by decide)))
theorem jb_guest {σ σ1 : jf_S} {r1 a b c : Int32} (H : JX σ) (B : JB σ) (p : (r1, σ1) = x_guest σ a b c) : JB σ1 := by
  unfold x_guest at p
  repeat' split at p
  all_goals first
    | (obtain ⟨rfl, rfl⟩ := Prod.mk.inj p; exact jb_told' B)
    | (obtain ⟨rfl, rfl⟩ := Prod.mk.inj p; exact jb_up B (gU (gU (x_G σ) 8 (a).toNatClampNeg (b)) 9 (a).toNatClampNeg (c)) (by rw [x_G_t, x_G_9, x_G_8]) rfl rfl rfl rfl rfl (gC_U (gC_U (B.2.2) (by decide) (by decide)) (by decide) (by decide)))
theorem jb_bar {σ σ1 : jf_S} {r1 a b c d : Int32} (H : JX σ) (B : JB σ) (p : (r1, σ1) = x_bar σ a b c d) : JB σ1 := by
  unfold x_bar at p
  repeat' split at p
  all_goals first
    | (obtain ⟨rfl, rfl⟩ := Prod.mk.inj p; exact jb_told' B)
    | (obtain ⟨rfl, rfl⟩ := Prod.mk.inj p; exact jb_up B (gU (gU (gU (x_G σ) 10 (a).toNatClampNeg (b)) 11 (a).toNatClampNeg (c)) 12 (a).toNatClampNeg (d)) (by rw [x_G_t, x_G_12, x_G_11, x_G_10]) rfl rfl rfl rfl rfl (gC_U (gC_U (gC_U (B.2.2) (by decide) (by decide)) (by decide) (by decide)) (by decide) (by decide)))
theorem jb_part {σ σ1 : jf_S} {r1 a b : Int32} (H : JX σ) (B : JB σ) (p : (r1, σ1) = x_part σ a b) : JB σ1 := by
  unfold x_part at p
  repeat' split at p
  all_goals first
    | (obtain ⟨rfl, rfl⟩ := Prod.mk.inj p; exact jb_told' B)
    | (obtain ⟨rfl, rfl⟩ := Prod.mk.inj p; exact jb_up B (gU (x_G σ) 21 (a).toNatClampNeg (b)) (by rw [x_G_t, x_G_21]) rfl rfl rfl rfl rfl (gC_U (B.2.2) (by decide) (by decide)))
theorem jb_hour {σ σ1 : jf_S} {r1 a : Int32} (H : JX σ) (B : JB σ) (p : (r1, σ1) = x_hour σ a) : JB σ1 := by
  unfold x_hour x_hradd at p
  repeat' split at p
  all_goals first
    | (obtain ⟨rfl, rfl⟩ := Prod.mk.inj p; exact jb_told' B)
    | (obtain ⟨rfl, rfl⟩ := Prod.mk.inj p; exact jb_up B (gU (x_G σ) 22 ((σ.1 5 8)).toNatClampNeg (a)) (by rw [x_G_t, x_G_o (by decide), x_G_22]) rfl rfl rfl rfl rfl (gC_U (B.2.2) (by decide) (by decide)))
theorem jb_come {σ σ1 : jf_S} {r1 a b c : Int32} (H : JX σ) (B : JB σ) (p : (r1, σ1) = x_come σ a b c) : JB σ1 := by
  unfold x_come at p
  repeat' split at p
  all_goals first
    | (obtain ⟨rfl, rfl⟩ := Prod.mk.inj p; exact jb_told' B)
    | (obtain ⟨rfl, rfl⟩ := Prod.mk.inj p; exact jb_up B (gU (x_G σ) 20 (a * 51 + b - -40).toNatClampNeg (c)) (by rw [x_G_t, x_G_20]) rfl rfl rfl rfl rfl (gC_U (B.2.2) (by decide) (by decide)))
theorem jb_delay {σ σ1 : jf_S} {r1 a b : Int32} (H : JX σ) (B : JB σ) (p : (r1, σ1) = x_delay σ a b) : JB σ1 := by
  unfold x_delay at p
  repeat' split at p
  all_goals first
    | (obtain ⟨rfl, rfl⟩ := Prod.mk.inj p; exact jb_told' B)
    | (obtain ⟨rfl, rfl⟩ := Prod.mk.inj p; exact jb_up B (gU (x_G σ) 19 (a).toNatClampNeg (b)) (by rw [x_G_t, x_G_19]) rfl rfl rfl rfl rfl (gC_U (B.2.2) (by decide) (by decide)))
theorem gB_t {V : Nat → Nat → Int32} {n k j : Nat} (hk : k ≠ 14) (g : gB V n k) : gB (gU V 14 j 0) n k := by
  have e : ∀ i, (gU V 14 j 0) 14 i = if i = j then 0 else V 14 i := fun i => rfl
  have ek : (gU V 14 j 0) k = V k := if_neg hk
  have e17 : (gU V 14 j 0) 17 = V 17 := rfl
  intro s o hs ho is io ne q
  rw [e] at is io
  rw [ek] at q
  rw [e17]
  by_cases c1 : s = j
  · rw [if_pos c1] at is; exact absurd rfl is
  · by_cases c2 : o = j
    · rw [if_pos c2] at io; exact absurd rfl io
    · rw [if_neg c1] at is; rw [if_neg c2] at io
      exact g s o hs ho is io ne q
theorem jb_take {σ σ1 : jf_S} {r1 a : Int32} (B : JB σ) (p : (r1, σ1) = x_take σ a) : JB σ1 := by
  unfold x_take at p
  split at p
  · obtain ⟨rfl, rfl⟩ := Prod.mk.inj p; exact jb_told' B
  · obtain ⟨rfl, rfl⟩ := Prod.mk.inj p
    have e : x_G (x_told (jf_i σ 31 a.toNatClampNeg 0) 0) = gU (x_G σ) 14 a.toNatClampNeg 0 := by rw [x_G_t, x_G_14]
    unfold JB
    rw [e]
    exact ⟨gB_t (by decide) B.1, gB_t (by decide) B.2.1, gC_U B.2.2 (by decide) (by decide)⟩
theorem gB_p {V : Nat → Nat → Int32} {n k : Nat} {f h b s c : Int32} (hk : (g_pV V n f h b s) k = upd (V k) n c) (g : gB V n k) (d : ∀ o, o < n → ¬ (V 14 o).toInt = 0 → (V k o).toInt = c.toInt → ¬ (V 17 o).toInt = b.toInt) : gB (g_pV V n f h b s) (n + 1) k := by
  have e14 : (g_pV V n f h b s) 14 = upd (V 14) n 1 := rfl
  have e17 : (g_pV V n f h b s) 17 = upd (V 17) n b := rfl
  intro x o hs ho is io ne q
  rw [e14] at is io
  rw [hk] at q
  rw [e17]
  unfold upd at *
  by_cases c1 : x = n
  · have c2 : ¬ o = n := fun z => ne (c1.trans z.symm)
    rw [if_pos c1, if_neg c2] at q ⊢
    rw [if_neg c2] at io
    exact fun z => d o (by omega) io q.symm z.symm
  · by_cases c2 : o = n
    · rw [if_neg c1, if_pos c2] at q ⊢
      rw [if_neg c1] at is
      exact d x (by omega) is q
    · rw [if_neg c1, if_neg c2] at q ⊢
      rw [if_neg c1] at is
      rw [if_neg c2] at io
      exact g x o (by omega) (by omega) is io ne q
theorem jb_put {σ τ σ1 : jf_S} {f h b s : Int32} (H : JX σ) (G : JG σ τ) (B : JB σ) (p : x_putq σ f h b s σ1) : JB σ1 := by
  have P := jb_P H G B
  have te := ji_tn H.2.2.1.1.1
  have hE := H.2.2.1.1
  rcases p with ⟨⟨v, rfl⟩, -⟩ | ⟨⟨v, rfl⟩, p1, p2, p3, p4⟩
  · exact jb_told' B
  · rw [show (x_sadd σ f h b (b + (σ.1 17) f.toNatClampNeg) s).2 = x_pS σ f h b s from congrArg Prod.snd (if_neg (by omega))]
    have ei := ji_inc1 (k := (σ.1 3 8)) (by omega)
    have eN : x_N (x_told (x_pS σ f h b s) v) = x_N σ + 1 := by
      show ((σ.1 3 8) + 1).toNatClampNeg = ((σ.1 3 8)).toNatClampNeg + 1
      exact ji_cl (by omega)
    have hb : 0 ≤ b.toInt ∧ b.toInt ≤ 14399 := by unfold m_bad at p1; omega
    have hf : 0 ≤ f.toInt ∧ f.toInt < ((σ.1 2 8)).toInt := by unfold x_none at p2; omega
    have d : ∀ o, o < x_N σ → ¬ (x_G σ 14 o).toInt = 0 → ((x_G σ 16 o).toInt = h.toInt → ¬ (x_G σ 17 o).toInt = b.toInt) ∧ ((x_G σ 15 o).toInt = f.toInt → ¬ (x_G σ 17 o).toInt = b.toInt) := fun o h1 h2 => g_why_d p4 B.2.2 hf hb P.2.2.2.1 h1 h2 (by show ¬ (o : Int) = -1; omega)
    unfold JB
    rw [eN, x_G_t, x_pS_G]
    exact ⟨gB_p (n := x_N σ) rfl B.1 (fun o h1 h2 => (d o h1 h2).1), gB_p (n := x_N σ) rfl B.2.1 (fun o h1 h2 => (d o h1 h2).2), B.2.2⟩
theorem jb_better {σ τ σ1 : jf_S} {r1 : Int32} (H : JX σ) (G : JG σ τ) (B : JB σ) (p : (∃ υ : jf_S, xS_b σ υ ∧ xI υ ∧ σ1 = jf_i υ 5 8 0) ∧ r1 = nI (g_be (x_N σ) (x_M σ) (x_H σ) 40 (x_G σ)).1 ∧ x_G σ1 = (g_be (x_N σ) (x_M σ) (x_H σ) 40 (x_G σ)).2 ∧ xN σ1) : JB σ1 := by
  obtain ⟨⟨υ, hb, -, e⟩, -, p3, -⟩ := p
  have P := gP_be (m := x_M σ) (H := x_H σ) (x_N_60 H.2.2.1) 40 _ (jb_P H G B)
  have c3 : (σ1.1 3 8) = (σ.1 3 8) := by rw [e]; exact congrFun (hb.2.1 3 (by decide) (by decide) (by decide) (by decide) (by decide) (by decide)) 8
  have c2 : (σ1.1 2 8) = (σ.1 2 8) := by rw [e]; exact congrFun (hb.2.1 2 (by decide) (by decide) (by decide) (by decide) (by decide) (by decide)) 8
  have cN : x_N σ1 = x_N σ := by unfold x_N; rw [c3]
  unfold JB
  rw [cN, c2, p3]
  exact ⟨P.1, P.2.1, P.2.2.1⟩
theorem jb_s0' : JB x_s0 := by
  refine ⟨fun s o hs => absurd hs (Nat.not_lt_zero s), fun s o hs => absurd hs (Nat.not_lt_zero s), fun j => ?_, fun j hj => absurd (show (j : Int) < 0 from hj) (by omega)⟩
  show 0 ≤ (0 : Int32).toInt ∧ (0 : Int32).toInt ≤ 120
  decide
theorem jb_ofq {σ τ : jf_S} {s w r1 r2 : Int32} (H : JX σ) (G : JG σ τ) (p : g_ofq (x_G σ) (x_N σ) s w r1) (q : g_ofq (m_G τ) (m_E τ) s w r2) : r1 = r2 := by
  have e : x_N σ = m_E τ := by unfold x_N m_E; rw [G.2.1]
  rw [← G.1, ← e] at q
  exact g_ofq_u (x_N_60 H.2.2.1) (fun j => (H.2.2.1.2.2.2.2 j).1) p q
def JJ7 (σ τ : jf_S) : Prop := JX σ ∧ JM τ ∧ JR σ τ ∧ JG σ τ ∧ JB σ

