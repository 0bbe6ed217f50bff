/-! the reference: round after round, what is kept -/
def m_W (o σ : jf_S) (k : Int32) : Int × Nat × (Nat → Nat → Int32) := w_go (m_A σ) (m_Ck o k) ((σ.1 0 35)).toNatClampNeg 20 0 (w_cut ((σ.1 39))) (fun q => w_row ((σ.1 41)) q)
/-- as a round begins -/
def m_hd (o σ τ : jf_S) (k : Int32) : Prop := (∀ c, c ≠ 0 → c ≠ 39 → c ≠ 41 → τ.1 c = σ.1 c) ∧ jx_ct (fun f => decide (¬ ((τ.1 39) f).toInt = 0)) 20 + ((τ.1 0 69)).toNatClampNeg ≤ 20 ∧ w_go (m_A σ) (m_Ck o k) ((σ.1 0 35)).toNatClampNeg (20 - ((τ.1 0 69)).toNatClampNeg) ((τ.1 0 69)).toNatClampNeg (w_cut ((τ.1 39))) (fun q => w_row ((τ.1 41)) q) = m_W o σ k
/-- within a round, behind j jurors -/
def m_gv (o τ υ : jf_S) (k n : Int32) (j : Nat) : Prop := w_row ((υ.1 41)) ((τ.1 0 69)).toNatClampNeg = (w_gv (w_cut ((τ.1 39))) (m_Ck o k) j).1 ∧ n = (w_gv (w_cut ((τ.1 39))) (m_Ck o k) j).2 ∧ ∀ q, q ≠ ((τ.1 0 69)).toNatClampNeg → w_row ((υ.1 41)) q = w_row ((τ.1 41)) q
theorem m_gv_0 {o τ υ : jf_S} {k : Int32} (h : m_oq τ υ ((τ.1 0 69)).toNatClampNeg 20) : m_gv o τ υ k 0 0 := ⟨m_oq_e h, rfl, h.2⟩
theorem m_gv_none {o τ υ : jf_S} {k n : Int32} {j : Nat} (h : m_gv o τ υ k n j) (e : w_fr (w_cut ((τ.1 39))) (m_Ck o k j) = none) : m_gv o τ υ k n (j + 1) := by
  have s : w_gv (w_cut ((τ.1 39))) (m_Ck o k) (j + 1) = w_gv (w_cut ((τ.1 39))) (m_Ck o k) j := by
    show w_g1 _ (w_fr (w_cut ((τ.1 39))) (m_Ck o k j)) = _
    rw [e]; rfl
  unfold m_gv
  rw [s]; exact h
theorem m_gv_give {o τ υ : jf_S} {k n x v : Int32} {j N : Nat} (h : m_gv o τ υ k n j) (e : w_fr (w_cut ((τ.1 39))) (m_Ck o k j) = some x) (hx : x.toNatClampNeg < 20) (hN : N = 20 * ((τ.1 0 69)).toNatClampNeg + x.toNatClampNeg) (hv : v = (υ.1 41) N + 1) : m_gv o τ (jf_i υ 41 N v) k (n + Int32.ofInt 1) (j + 1) := by
  have s : w_gv (w_cut ((τ.1 39))) (m_Ck o k) (j + 1) = w_g1 (w_gv (w_cut ((τ.1 39))) (m_Ck o k) j) (some x) := by
    show w_g1 _ (w_fr (w_cut ((τ.1 39))) (m_Ck o k j)) = _
    rw [e]
  unfold m_gv
  rw [s]
  refine ⟨?_, ?_, fun q hq => ?_⟩
  · show _ = upd (w_gv (w_cut ((τ.1 39))) (m_Ck o k) j).1 x.toNatClampNeg ((w_gv (w_cut ((τ.1 39))) (m_Ck o k) j).1 x.toNatClampNeg + 1)
    rw [jf_i_at, w_row_upd hx hN, ← h.1, w_row_lt hx, hv, hN]
  · show _ = (w_gv (w_cut ((τ.1 39))) (m_Ck o k) j).2 + 1
    rw [← h.2.1]; rfl
  · rw [jf_i_at, w_row_o (by omega)]; exact h.2.2 q hq
/-- no vote of the juror's is for a film still in -/
theorem m_fr_none {o σ τ : jf_S} {k : Int32} {J j : Nat} (ho : mS_a o σ) (hd : m_vd o σ k J 0) (hc : ∀ c, c ≠ 0 → c ≠ 39 → c ≠ 41 → τ.1 c = σ.1 c) (hV : mI_v σ) (hj : j < J) (h : ∀ q : Nat, (q : Int) < ((τ.1 27) j).toInt → ¬ ((τ.1 38) (5 * j + q)).toInt = 0 → ¬ ((τ.1 39) ((τ.1 26) (5 * j + q)).toNatClampNeg).toInt = 0 → False) : w_fr (w_cut ((τ.1 39))) (m_Ck o k j) = none := by
  have v1 : (τ.1 26) = (o.1 26) := (hc 26 (by decide) (by decide) (by decide)).trans (ho.2.1 26 (by decide) (by decide) (by decide))
  have v2 : (τ.1 27) = (o.1 27) := (hc 27 (by decide) (by decide) (by decide)).trans (ho.2.1 27 (by decide) (by decide) (by decide))
  have v3 : (o.1 26) = (σ.1 26) := (ho.2.1 26 (by decide) (by decide) (by decide)).symm
  refine w_fr_none _ (fun i hi hp => ?_)
  have n0 : 0 ≤ ((o.1 27) j).toInt := by rw [← ho.2.1 27 (by decide) (by decide) (by decide)]; exact (hV.2.2.1 j).1
  have ht := ji_tn n0
  have hr := hV.2.2.2 (5 * j + i)
  rw [← v3] at hr
  have hr2 := ji_tn hr.1
  show (w_cut ((τ.1 39)) ((o.1 26) (5 * j + i)).toNatClampNeg).toInt = 0
  rw [w_cut_lt (by omega)]
  refine Decidable.byContradiction (fun c => h i (by rw [v2]; omega) ?_ (by rw [v1]; exact c))
  rw [hc 38 (by decide) (by decide) (by decide), hd j i (Or.inl ⟨hj, hi⟩), hp]
  decide
/-- the first vote for a film still in -/
theorem m_fr_some {o σ τ : jf_S} {k : Int32} {J j i : Nat} (ho : mS_a o σ) (hd : m_vd o σ k J 0) (hc : ∀ c, c ≠ 0 → c ≠ 39 → c ≠ 41 → τ.1 c = σ.1 c) (hV : mI_v σ) (hj : j < J) (hi : (i : Int) < ((τ.1 27) j).toInt) (h1 : ¬ ((τ.1 38) (5 * j + i)).toInt = 0) (h2 : ¬ ((τ.1 39) ((τ.1 26) (5 * j + i)).toNatClampNeg).toInt = 0) (h : ∀ q : Nat, (q : Int) < (i : Int) → ¬ ((τ.1 38) (5 * j + q)).toInt = 0 → ¬ ((τ.1 39) ((τ.1 26) (5 * j + q)).toNatClampNeg).toInt = 0 → False) : w_fr (w_cut ((τ.1 39))) (m_Ck o k j) = some ((τ.1 26) (5 * j + i)) := by
  have v1 : (τ.1 26) = (o.1 26) := (hc 26 (by decide) (by decide) (by decide)).trans (ho.2.1 26 (by decide) (by decide) (by decide))
  have v2 : (τ.1 27) = (o.1 27) := (hc 27 (by decide) (by decide) (by decide)).trans (ho.2.1 27 (by decide) (by decide) (by decide))
  have v3 : (o.1 26) = (σ.1 26) := (ho.2.1 26 (by decide) (by decide) (by decide)).symm
  have n0 : 0 ≤ ((o.1 27) j).toInt := by rw [← ho.2.1 27 (by decide) (by decide) (by decide)]; exact (hV.2.2.1 j).1
  have ht := ji_tn n0
  have lt : ∀ q, ((o.1 26) (5 * j + q)).toNatClampNeg < 20 := fun q => by
    have hr := hV.2.2.2 (5 * j + q)
    rw [← v3] at hr
    have := ji_tn hr.1
    omega
  rw [v2] at hi
  have vd : ∀ q : Nat, (q : Int) < ((o.1 27) j).toInt → (τ.1 38) (5 * j + q) = q_b (m_h o (nI j) ((o.1 26) (5 * j + q)) k) := fun q hq => by
    rw [hc 38 (by decide) (by decide) (by decide)]; exact hd j q (Or.inl ⟨hj, by omega⟩)
  rw [v1] at h2 ⊢
  refine w_fr_some (v := fun i => (o.1 26) (5 * j + i)) (p := fun i => m_h o (nI j) ((o.1 26) (5 * j + i)) k) (m := i) (fun q hq hp => ?_) ?_ ?_ _ (by omega)
  · show (w_cut ((τ.1 39)) ((o.1 26) (5 * j + q)).toNatClampNeg).toInt = 0
    rw [w_cut_lt (lt q)]
    refine Decidable.byContradiction (fun c => h q (by omega) ?_ (by rw [v1]; exact c))
    rw [vd q (by omega), hp]
    decide
  · rw [vd i hi] at h1
    exact q_b_nz h1
  · show ¬ (w_cut ((τ.1 39)) ((o.1 26) (5 * j + i)).toNatClampNeg).toInt = 0
    rw [w_cut_lt (lt i)]; exact h2
theorem m_Ck_lt {o σ : jf_S} {k : Int32} (ho : mS_a o σ) (hV : mI_v σ) (j : Nat) (x : Int32) (h : x ∈ m_Ck o k j) : x.toNatClampNeg < 20 := by
  obtain ⟨q, -, -, e⟩ := w_cl_mem h
  have hr := hV.2.2.2 (5 * j + q)
  rw [ho.2.1 26 (by decide) (by decide) (by decide)] at hr
  have e : (o.1 26) (5 * j + q) = x := e
  rw [e] at hr
  have := ji_tn hr.1
  omega
theorem m_hd_K {o σ τ : jf_S} {k : Int32} (h : m_hd o σ τ k) (B : ∃ f : Nat, f < 20 ∧ ¬ ((τ.1 39) f).toInt = 0) : ((τ.1 0 69)).toNatClampNeg ≤ 19 := by
  obtain ⟨f, f1, f2⟩ := B
  have h2 := h.2.1
  have : jx_ct (fun f => decide (¬ ((τ.1 39) f).toInt = 0)) 20 ≠ 0 := by
    intro e
    have := jx_ct_off (p := fun f => decide (¬ ((τ.1 39) f).toInt = 0)) (q := fun g => if g = f then false else decide (¬ ((τ.1 39) g).toInt = 0)) (i := f) (decide_eq_true f2) (by simp) (fun j hj => by simp [hj]) f1
    omega
  omega
/-- the round that ends it -/
theorem m_end1 {o σ τ υ : jf_S} {k n r : Int32} (h : m_hd o σ τ k) (K19 : ((τ.1 0 69)).toNatClampNeg ≤ 19) (rt : ((τ.1 0 69)).toInt = (((τ.1 0 69)).toNatClampNeg : Int)) (g : m_gv o τ υ k n ((σ.1 0 35)).toNatClampNeg) (hr : (υ.1 0 69) = (τ.1 0 69) + 1) (hb : r.toInt = w_fore (m_A σ) (w_row ((υ.1 41)) ((τ.1 0 69)).toNatClampNeg) 20) (r0 : 0 ≤ r.toInt) (w : n.toInt < 2 * (w_row ((υ.1 41)) ((τ.1 0 69)).toNatClampNeg r.toNatClampNeg).toInt) : w_out r.toInt ((υ.1 0 69)) ((υ.1 41)) (m_W o σ k) := by
  obtain ⟨g1, g2, g3⟩ := g
  obtain ⟨h1, h2, h3⟩ := h
  rw [show 20 - ((τ.1 0 69)).toNatClampNeg = (19 - ((τ.1 0 69)).toNatClampNeg) + 1 by omega] at h3
  have tr : r.toNatClampNeg = (w_fore (m_A σ) (w_row ((υ.1 41)) ((τ.1 0 69)).toNatClampNeg) 20).toNat := congrArg Int.toNat hb
  rw [tr, g1, g2] at w
  rw [g1] at hb
  rw [w_go_1 (by omega) w] at h3
  rw [← h3]
  refine ⟨hb, ?_, fun q hq => ?_⟩
  · show ((υ.1 0 69)).toInt = ((((τ.1 0 69)).toNatClampNeg + 1 : Nat) : Int)
    rw [hr, ji_inc1 (by omega)]; omega
  · have hq : q < ((τ.1 0 69)).toNatClampNeg + 1 := hq
    show _ = w_H (fun q => w_row ((τ.1 41)) q) ((τ.1 0 69)).toNatClampNeg _ q
    unfold w_H
    by_cases e : q = ((τ.1 0 69)).toNatClampNeg
    · rw [if_pos e, e, g1]
    · rw [if_neg e]; exact g3 q e
/-- the round that puts one out -/
theorem m_nxt {o σ τ υ : jf_S} {k n b x : Int32} (h : m_hd o σ τ k) (K19 : ((τ.1 0 69)).toNatClampNeg ≤ 19) (rt : ((τ.1 0 69)).toInt = (((τ.1 0 69)).toNatClampNeg : Int)) (hu : ∀ c, c ≠ 0 → c ≠ 41 → υ.1 c = τ.1 c) (g : m_gv o τ υ k n ((σ.1 0 35)).toNatClampNeg) (hr : (υ.1 0 69) = (τ.1 0 69) + 1) (hb : b.toInt = w_fore (m_A σ) (w_row ((υ.1 41)) ((τ.1 0 69)).toNatClampNeg) 20) (b0 : 0 ≤ b.toInt) (w : ¬ n.toInt < 2 * (w_row ((υ.1 41)) ((τ.1 0 69)).toNatClampNeg b.toNatClampNeg).toInt) (hx : x.toInt = w_hind (m_A σ) (w_row ((υ.1 41)) ((τ.1 0 69)).toNatClampNeg) 20) (x0 : 0 ≤ x.toInt ∧ x.toInt < 20) (xi : ¬ ((τ.1 39) x.toNatClampNeg).toInt = 0) : m_hd o σ (jf_i υ 39 x.toNatClampNeg 0) k := by
  obtain ⟨g1, g2, g3⟩ := g
  obtain ⟨h1, h2, h3⟩ := h
  have x1 := ji_tn x0.1
  have rr : ((υ.1 0 69)).toNatClampNeg = ((τ.1 0 69)).toNatClampNeg + 1 := ji_cl (by rw [hr, ji_inc1 (by omega)]; omega)
  have i39 : (υ.1 39) = (τ.1 39) := hu 39 (by decide) (by decide)
  refine ⟨fun c a b d => ?_, ?_, ?_⟩
  · rw [jf_i_o c b, hu c a d]; exact h1 c a b d
  · show jx_ct (fun f => decide (¬ ((jf_i υ 39 x.toNatClampNeg 0).1 39 f).toInt = 0)) 20 + ((υ.1 0 69)).toNatClampNeg ≤ 20
    have := jx_ct_off (p := fun f => decide (¬ ((τ.1 39) f).toInt = 0)) (q := fun f => decide (¬ ((jf_i υ 39 x.toNatClampNeg 0).1 39 f).toInt = 0)) (i := x.toNatClampNeg) (decide_eq_true xi) (by rw [jf_i_same]; rfl) (fun j hj => by rw [jf_i_ne hj, i39]) (n := 20) (by omega)
    omega
  · show w_go (m_A σ) (m_Ck o k) ((σ.1 0 35)).toNatClampNeg (20 - ((υ.1 0 69)).toNatClampNeg) ((υ.1 0 69)).toNatClampNeg (w_cut ((jf_i υ 39 x.toNatClampNeg 0).1 39)) (fun q => w_row ((jf_i υ 39 x.toNatClampNeg 0).1 41) q) = _
    rw [show 20 - ((τ.1 0 69)).toNatClampNeg = (19 - ((τ.1 0 69)).toNatClampNeg) + 1 by omega] at h3
    have tr : b.toNatClampNeg = (w_fore (m_A σ) (w_row ((υ.1 41)) ((τ.1 0 69)).toNatClampNeg) 20).toNat := congrArg Int.toNat hb
    have tx : x.toNatClampNeg = (w_hind (m_A σ) (w_row ((υ.1 41)) ((τ.1 0 69)).toNatClampNeg) 20).toNat := congrArg Int.toNat hx
    rw [tr, g1, g2] at w
    rw [g1] at hb tx
    rw [w_go_2 (by omega) w] at h3
    rw [rr, show 20 - (((τ.1 0 69)).toNatClampNeg + 1) = 19 - ((τ.1 0 69)).toNatClampNeg by omega, jf_i_at, w_cut_upd (by omega), i39, jf_i_o 41 (by decide), tx, ← h3]
    congr 1
    funext q
    unfold w_H
    by_cases e : q = ((τ.1 0 69)).toNatClampNeg
    · rw [if_pos e, e, g1]
    · rw [if_neg e]; exact g3 q e

