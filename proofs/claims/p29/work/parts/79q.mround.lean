/-! the reference: a round begun, points, exactly -/
def m_oq (σ τ : jf_S) (K o : Nat) : Prop := (∀ f, f < o → (τ.1 41) (20 * K + f) = if ((σ.1 39) f).toInt = 0 then -1 else 0) ∧ (∀ q, q ≠ K → w_row ((τ.1 41)) q = w_row ((σ.1 41)) q)
theorem m_oq_s {σ τ : jf_S} {K o N : Nat} {v : Int32} (h : m_oq σ τ K o) (hN : N = 20 * K + o) (ho : o < 20) (hv : v = if ((σ.1 39) o).toInt = 0 then -1 else 0) : m_oq σ (jf_i τ 41 N v) K (o + 1) := by
  subst hN
  refine ⟨fun f hf => ?_, fun q hq => ?_⟩
  · by_cases e : f = o
    · subst e; rw [jf_i_same]; exact hv
    · rw [jf_i_ne (by omega)]; exact h.1 f (by omega)
  · rw [jf_i_at, w_row_o (by omega)]; exact h.2 q hq
theorem m_oq_e {σ τ : jf_S} {K : Nat} (h : m_oq σ τ K 20) : w_row ((τ.1 41)) K = w_s0 (w_cut ((σ.1 39))) := by
  rw [w_s0_cut]
  exact w_cut_eq (fun f hf => h.1 f hf)
theorem ct_X11_openRound3 (E : jf_E) (σ : jf_S) (k0 : 0 ≤ ((σ.1 0 69)).toInt ∧ ((σ.1 0 69)).toInt ≤ 20) : jf_V jh_M E yX11_openRound cX11_openRound 2 0 [jf_r E 0] σ (fun τ => mS_a σ τ ∧ m_S σ τ ((σ.1 0 69)).toNatClampNeg 0 ∧ m_oq σ τ ((σ.1 0 69)).toNatClampNeg 20) := by
  refine jf_mkV (by decide) (Nat.le_of_ble_eq_true rfl) ?_
  intro G C ret
  have lp : ∀ (m : Nat) (τ : jf_S) (o : Int32), (mS_a σ τ ∧ (τ.1 0 69) = (σ.1 0 69) ∧ (∀ k, k ≠ 0 → k ≠ 41 → τ.1 k = σ.1 k) ∧ (∀ f : Nat, (f : Int) < o.toInt → (((σ.1 39) f).toInt = 0 ∧ ((τ.1 41) (20 * ((σ.1 0 69)).toNatClampNeg + f)).toInt = -1) ∨ (¬ ((σ.1 39) f).toInt = 0 ∧ ((τ.1 41) (20 * ((σ.1 0 69)).toNatClampNeg + f)).toInt = 0)) ∧ m_oq σ τ ((σ.1 0 69)).toNatClampNeg o.toNatClampNeg) → 0 ≤ o.toInt → o.toInt ≤ (20 : Int) → (20 : Int) - o.toInt < m → jf_X jh_M E G 2 2 [(0, jf_r E 0), (1, .int o)] [] τ := by
    intro m
    induction m with
    | zero => intro τ o z g1 g2 g3; exfalso; omega
    | succ m ih =>
      intro τ o z g1 g2 g3
      have e1 := ji_inc (k := o) (by omega)
      have c1 := congrArg Int32.toInt z.2.1
      have eo := ji_tn g1
      have e2 : (o + Int32.ofInt 1).toNatClampNeg = o.toNatClampNeg + 1 := ji_cl (by omega)
      have c39 : (τ.1 39) = (σ.1 39) := z.2.2.1 39 (by decide) (by decide)
      have ix : o.toInt < 20 → (20 * (τ.1 0 69) + o).toNatClampNeg = 20 * ((σ.1 0 69)).toNatClampNeg + o.toNatClampNeg := fun h => by rw [z.2.1]; exact (m_ix20 k0.1 k0.2 g1 h).2
      refine jr_iload_n C dX11_openRound_2 rfl ?_
      refine jr_bipush C (v := 20) dX11_openRound_3 (by decide) ?_
      refine jr_ncmp_ge C (b := 20) 42 dX11_openRound_5 (by decide) rfl rfl (fun b5 => ?_) (fun b5 => ?_)
      · refine jr_aload_n C dX11_openRound_42 rfl ?_
        refine jr_dup C dX11_openRound_43 rfl ?_
        refine jr_getv C kf_X11_141_0 dX11_openRound_44 (v := τ.1 0 69) rfl ?_
        refine jr_iconst C (v := 1) dX11_openRound_47 (by decide) ?_
        refine jr_iadd C dX11_openRound_48 ?_
        refine jr_puti C kp_X11_141_0 dX11_openRound_49 ?_
        exact ret _ _ _ dX11_openRound_52 (⟨mS_a_0 z.1, ⟨fun k a b => (jf_i_o k a).trans (z.2.2.1 k a b), congrArg (· + 1) z.2.1, fun f hf => (z.2.2.2.1 f (by omega)).imp id (fun g => ⟨g.1, by have h2 := g.2; exact ⟨Int.le_of_eq h2.symm, Int.le_of_eq h2⟩⟩), fun ⟨p, q, a, _⟩ => by omega⟩, by have h20 : o.toNatClampNeg = 20 := (by omega); have h := z.2.2.2.2; rw [h20] at h; exact h⟩)
      · refine jr_aload_n C dX11_openRound_8 rfl ?_
        refine jr_getr C kf_X11_138_0 dX11_openRound_9 ?_
        refine jr_bipush C (v := 20) dX11_openRound_12 (by decide) ?_
        refine jr_aload_n C dX11_openRound_14 rfl ?_
        refine jr_getv C kf_X11_141_0 dX11_openRound_15 (v := τ.1 0 69) rfl ?_
        refine jr_imul C dX11_openRound_18 ?_
        refine jr_iload_n C dX11_openRound_19 rfl ?_
        refine jr_iadd C dX11_openRound_20 ?_
        refine jr_aload_n C dX11_openRound_21 rfl ?_
        refine jr_getr C kf_X11_132_0 dX11_openRound_22 ?_
        refine jr_iload_n C dX11_openRound_25 rfl ?_
        refine jr_zalv C ka_M_39 dX11_openRound_26 (ji_in (i := o) (by omega) (by omega)) (v := τ.1 39 _) rfl ?_
        refine jr_nif_eq C 34 dX11_openRound_27 (by decide) (fun b27 => ?_) (fun b27 => ?_)
        · refine jr_iconst C (v := -1) dX11_openRound_34 (by decide) ?_
          refine jr_iast C ka_M_41 dX11_openRound_35 (ji_lin 20 20 rfl (by omega) (by omega) (by omega) (by omega)) ?_
          refine jr_iinc C _ dX11_openRound_36 rfl rfl (by decide) ?_
          refine jr_goto C 2 dX11_openRound_39 (by decide) ?_
          exact jr_sub [(0, jf_r E 0), (1, .int _)] rfl (ih _ _ ⟨mS_a_i z.1 (by decide), z.2.1, fun k a b => (jf_i_o k b).trans (z.2.2.1 k a b), fun f hf => by (rw [ix (by omega)]; by_cases e : f = o.toNatClampNeg; (subst e; rw [jf_i_same]; first | exact Or.inl ⟨by rw [← c39]; exact b27, rfl⟩ | exact Or.inr ⟨by rw [← c39]; exact b27, rfl⟩); (rw [jf_i_ne (by omega)]; exact z.2.2.2.1 f (by omega))), by (rw [e2]; refine m_oq_s z.2.2.2.2 (ix (by omega)) (by omega) ?_; rw [← c39]; first | exact (if_pos b27).symm | exact (if_neg b27).symm)⟩ (by omega) (by omega) (by omega))
        · refine jr_iconst C (v := 0) dX11_openRound_30 (by decide) ?_
          refine jr_goto C 35 dX11_openRound_31 (by decide) ?_
          refine jr_iast C ka_M_41 dX11_openRound_35 (ji_lin 20 20 rfl (by omega) (by omega) (by omega) (by omega)) ?_
          refine jr_iinc C _ dX11_openRound_36 rfl rfl (by decide) ?_
          refine jr_goto C 2 dX11_openRound_39 (by decide) ?_
          exact jr_sub [(0, jf_r E 0), (1, .int _)] rfl (ih _ _ ⟨mS_a_i z.1 (by decide), z.2.1, fun k a b => (jf_i_o k b).trans (z.2.2.1 k a b), fun f hf => by (rw [ix (by omega)]; by_cases e : f = o.toNatClampNeg; (subst e; rw [jf_i_same]; first | exact Or.inl ⟨by rw [← c39]; exact b27, rfl⟩ | exact Or.inr ⟨by rw [← c39]; exact b27, rfl⟩); (rw [jf_i_ne (by omega)]; exact z.2.2.2.1 f (by omega))), by (rw [e2]; refine m_oq_s z.2.2.2.2 (ix (by omega)) (by omega) ?_; rw [← c39]; first | exact (if_pos b27).symm | exact (if_neg b27).symm)⟩ (by omega) (by omega) (by omega))
  refine jr_iconst C (v := 0) dX11_openRound_0 (by decide) ?_
  refine jr_istore_n C dX11_openRound_1 (by decide) ?_
  exact jr_sub [(0, jf_r E 0), (1, .int _)] rfl (lp 21 _ _ ⟨mS_a_r σ, rfl, fun _ _ _ => rfl, fun f hf => by exfalso; have : (0 : Int32).toInt = 0 := rfl; omega, fun f hf => absurd hf (Nat.not_lt_zero f), fun q _ => rfl⟩ (by decide) (by decide) (by decide))
/-- points at a place -/
def m_P (σ : jf_S) (i : Nat) : Int32 := if (i : Int) < ((σ.1 0 48)).toInt then (σ.1 33) i else 0
theorem m_ptS {τ : jf_S} {X : Nat → Int32} {F : Nat} {v p : Int32} (h : w_row ((τ.1 41)) 0 = X) (hF : F < 20) (hv : v = (τ.1 41) F + p) : w_row (((jf_i τ 41 F v).1 41)) 0 = upd X F (X F + p) := by
  rw [jf_i_at, w_row_upd hF (by omega), ← h, w_row_lt hF, hv, show 20 * 0 + F = F by omega]
theorem m_A_e {σ τ : jf_S} (h0 : (τ.1 0 49) = (σ.1 0 49)) (h7 : (τ.1 7) = (σ.1 7)) (h40 : (τ.1 40) = (σ.1 40)) : m_A τ = m_A σ := by
  unfold m_A; rw [h0, h7, h40]
/-- the points given, behind J jurors and I votes -/
def m_pj (o σ τ : jf_S) (k : Int32) (J I : Nat) : Prop := mS_a σ τ ∧ (τ.1 0 69) = (σ.1 0 69) + 1 ∧ (∀ c, c ≠ 0 → c ≠ 41 → τ.1 c = σ.1 c) ∧ w_row ((τ.1 41)) 0 = w_pti (m_P σ) (m_Ci o k J I) (w_pt (m_P σ) (m_Ck o k) (w_s0 (w_cut ((σ.1 39)))) J) (m_Ci o k J I).length
theorem m_pj_n {o σ τ : jf_S} {k : Int32} {J : Nat} (h : m_pj o σ τ k J ((o.1 27) J).toNatClampNeg) : m_pj o σ τ k (J + 1) 0 := h
theorem m_pj_f {o σ τ : jf_S} {k : Int32} {J I : Nat} (h : m_pj o σ τ k J I) (hf : m_h o (nI J) ((o.1 26) (5 * J + I)) k = false) : m_pj o σ τ k J (I + 1) := by
  unfold m_pj
  rw [m_Ci_f hf]; exact h
theorem m_pj_t {o σ τ : jf_S} {k v : Int32} {J I F : Nat} (h : m_pj o σ τ k J I) (ht : m_h o (nI J) ((o.1 26) (5 * J + I)) k = true) (hF : F = ((o.1 26) (5 * J + I)).toNatClampNeg) (hF2 : F < 20) (hv : v = (τ.1 41) F + m_P σ (m_Ci o k J I).length) : m_pj o σ (jf_i τ 41 F v) k J (I + 1) := by
  refine ⟨mS_a_i h.1 (by decide), h.2.1, fun c a b => (jf_i_o c b).trans (h.2.2.1 c a b), ?_⟩
  rw [m_ptS h.2.2.2 hF2 hv, m_Ci_t ht, w_pti_app, hF]
theorem ct_X11_byPoints3 (E : jf_E) (σ : jf_S) (o : jf_S) (k : Int32) (ho : mS_a o σ) (hd : m_vd o σ k ((σ.1 0 35)).toNatClampNeg 0) (hV : mI_v σ) (k0 : (σ.1 0 69) = 0) (p0 : 0 ≤ ((σ.1 0 48)).toInt ∧ ((σ.1 0 48)).toInt ≤ 5) : jf_I jh_M E yX11_byPoints cX11_byPoints 4 .int 2 [jf_r E 0] σ (fun r τ => m_pj o σ τ k ((σ.1 0 35)).toNatClampNeg 0 ∧ r.toInt = w_ex 1 (m_A σ) (w_row ((τ.1 41)) 0) ((σ.1 0 7)).toNatClampNeg) := by
  refine jf_mkI (by decide) (Nat.le_of_ble_eq_true rfl) ?_
  intro G C ret
  have hJ := hV.1
  have ov : (σ.1 26) = (o.1 26) := ho.2.1 26 (by decide) (by decide) (by decide)
  have ovm : (σ.1 27) = (o.1 27) := ho.2.1 27 (by decide) (by decide) (by decide)
  have kz : ((σ.1 0 69)).toNatClampNeg = 0 := by rw [k0]; rfl
  have l18 : ∀ (m : Nat) (τ : jf_S) (j n i : Int32), (m_pj o σ τ k j.toNatClampNeg i.toNatClampNeg) → 0 ≤ i.toInt → i.toInt ≤ (5 : Int) → (5 : Int) - i.toInt < m → (0 ≤ j.toInt ∧ j.toInt < 10) → (0 ≤ n.toInt ∧ n.toInt ≤ i.toInt) → (∀ υ : jf_S, m_pj o σ υ k (j.toNatClampNeg + 1) 0 → jf_X jh_M E G 4 6 [(0, jf_r E 0), (1, .int (j + Int32.ofInt 1))] [] υ) → (j.toInt < ((σ.1 0 35)).toInt) → (i.toInt ≤ ((σ.1 27) j.toNatClampNeg).toInt) → (n.toInt = ((m_Ci o k j.toNatClampNeg i.toNatClampNeg).length : Int)) → jf_X jh_M E G 4 18 [(0, jf_r E 0), (1, .int j), (2, .int n), (3, .int i)] [] τ := by
    intro m
    induction m with
    | zero => intro τ j n i z g1 g2 g3 x1 x2 x3 x4 x5 x6; exfalso; omega
    | succ m ih =>
      intro τ j n i z g1 g2 g3 x1 x2 x3 x4 x5 x6
      have e1 := ji_inc (k := i) (by omega)
      have hT := mS_a_V z.1 hV
      have c5 := hT.2.2.1 j.toNatClampNeg
      have v0 := hT.2.2.2 (5 * j + i).toNatClampNeg
      have c6 : (τ.1 0 48) = (σ.1 0 48) := z.1.2.2 _ (by decide) (by decide)
      have c7 : (τ.1 33) = (σ.1 33) := z.2.2.1 33 (by decide) (by decide)
      have c8 : ((τ.1 0 48)).toInt = ((σ.1 0 48)).toInt := congrArg Int32.toInt c6
      have dv : (τ.1 26) = (σ.1 26) := z.2.2.1 26 (by decide) (by decide)
      have dvm : (τ.1 27) = (σ.1 27) := z.2.2.1 27 (by decide) (by decide)
      have dvd : (τ.1 38) = (σ.1 38) := z.2.2.1 38 (by decide) (by decide)
      have e1n := ji_inc (k := n) (by omega)
      have ej := ji_tn x1.1
      have eJ := ji_tn hJ.1
      have ei := ji_tn g1
      have en := ji_tn x2.1
      have e2 : (i + Int32.ofInt 1).toNatClampNeg = i.toNatClampNeg + 1 := ji_cl (by omega)
      have n5 : i.toInt < 5 → (5 * j + i).toNatClampNeg = 5 * j.toNatClampNeg + i.toNatClampNeg := fun h => m_ix5 x1.1 x1.2 g1 h
      have evm := ji_tn (x := (σ.1 27) j.toNatClampNeg) (by rw [← dvm]; exact c5.1)
      have cvm : ((τ.1 27) j.toNatClampNeg).toInt = ((σ.1 27) j.toNatClampNeg).toInt := by rw [dvm]
      have vq : i.toInt < 5 → i.toInt < ((τ.1 27) j.toNatClampNeg).toInt → (τ.1 38) (5 * j + i).toNatClampNeg = q_b (m_h o (nI j.toNatClampNeg) ((o.1 26) (5 * j.toNatClampNeg + i.toNatClampNeg)) k) := fun h h' => by rw [dvd, n5 h]; exact hd _ _ (Or.inl ⟨by omega, by rw [← ovm]; omega⟩)
      have pn : ∀ {v : Int32}, ((v = 0 ∧ ((τ.1 0 48)).toInt ≤ n.toInt) ∨ (v = (τ.1 33) n.toNatClampNeg ∧ ¬ ((τ.1 0 48)).toInt ≤ n.toInt)) → v = m_P σ (m_Ci o k j.toNatClampNeg i.toNatClampNeg).length := fun {v} h => by unfold m_P; rw [← show n.toNatClampNeg = (m_Ci o k j.toNatClampNeg i.toNatClampNeg).length from by omega]; rcases h with ⟨h, h'⟩ | ⟨h, h'⟩; (rw [h, if_neg (by omega)]); (rw [h, if_pos (by omega), c7])
      refine jr_iload_n C dX11_byPoints_18 rfl ?_
      refine jr_aload_n C dX11_byPoints_19 rfl ?_
      refine jr_getr C kf_X11_93_0 dX11_byPoints_20 ?_
      refine jr_iload_n C dX11_byPoints_23 rfl ?_
      refine jr_ialv C ka_M_27 dX11_byPoints_24 (ji_in x1.1 x1.2) (v := τ.1 27 _) rfl ?_
      refine jr_ncmp_ge C 86 dX11_byPoints_25 (by decide) rfl rfl (fun b25 => ?_) (fun b25 => ?_)
      · refine jr_iinc C _ dX11_byPoints_86 rfl rfl (by decide) ?_
        refine jr_goto C 6 dX11_byPoints_89 (by decide) ?_
        exact jr_sub [(0, jf_r E 0), (1, .int (j + Int32.ofInt 1))] rfl (x3 _ (m_pj_n (by rw [← show i.toNatClampNeg = ((o.1 27) j.toNatClampNeg).toNatClampNeg from (by rw [← ovm]; rw [dvm] at b25; omega)]; exact z)))
      · refine jr_aload_n C dX11_byPoints_28 rfl ?_
        refine jr_getr C kf_X11_129_0 dX11_byPoints_29 ?_
        refine jr_iconst C (v := 5) dX11_byPoints_32 (by decide) ?_
        refine jr_iload_n C dX11_byPoints_33 rfl ?_
        refine jr_imul C dX11_byPoints_34 ?_
        refine jr_iload_n C dX11_byPoints_35 rfl ?_
        refine jr_iadd C dX11_byPoints_36 ?_
        refine jr_zalv C ka_M_38 dX11_byPoints_37 (ji_lin 5 5 rfl (by omega) (by omega) (by omega) (by omega)) (v := τ.1 38 _) rfl ?_
        refine jr_nif_eq C 80 dX11_byPoints_38 (by decide) (fun b38 => ?_) (fun b38 => ?_)
        · refine jr_iinc C _ dX11_byPoints_80 rfl rfl (by decide) ?_
          refine jr_goto C 18 dX11_byPoints_83 (by decide) ?_
          exact jr_sub [(0, jf_r E 0), (1, .int _), (2, .int _), (3, .int _)] rfl (ih _ _ _ _ (by rw [e2]; first | (have z38 : ((τ.1 38) (5 * j + i).toNatClampNeg).toInt = 0 := b38; rw [vq (by omega) (by omega)] at z38; exact m_pj_f z (q_b_z z38)) | (have z38 : ¬ ((τ.1 38) (5 * j + i).toNatClampNeg).toInt = 0 := b38; rw [vq (by omega) (by omega)] at z38; exact m_pj_t z (q_b_nz z38) (by rw [dv, n5 (by omega), ov]) (by have := ji_tn v0.1; omega) (congrArg (_ + ·) (pn (by first | exact Or.inl ⟨rfl, b62⟩ | exact Or.inr ⟨rfl, b62⟩))))) (by omega) (by omega) (by omega) x1 (by exact ⟨by omega, by omega⟩) x3 x4 (by rw [dvm] at b25; omega) (by rw [e2]; first | (have z38 : ((τ.1 38) (5 * j + i).toNatClampNeg).toInt = 0 := b38; rw [vq (by omega) (by omega)] at z38; rw [m_Ci_f (q_b_z z38)]; exact x6) | (have z38 : ¬ ((τ.1 38) (5 * j + i).toNatClampNeg).toInt = 0 := b38; rw [vq (by omega) (by omega)] at z38; rw [m_Ci_t (q_b_nz z38), List.length_append]; show _ = ((_ + 1 : Nat) : Int); omega)))
        · refine jr_aload_n C dX11_byPoints_41 rfl ?_
          refine jr_getr C kf_X11_138_0 dX11_byPoints_42 ?_
          refine jr_aload_n C dX11_byPoints_45 rfl ?_
          refine jr_getr C kf_X11_90_0 dX11_byPoints_46 ?_
          refine jr_iconst C (v := 5) dX11_byPoints_49 (by decide) ?_
          refine jr_iload_n C dX11_byPoints_50 rfl ?_
          refine jr_imul C dX11_byPoints_51 ?_
          refine jr_iload_n C dX11_byPoints_52 rfl ?_
          refine jr_iadd C dX11_byPoints_53 ?_
          refine jr_ialv C ka_M_26 dX11_byPoints_54 (ji_lin 5 5 rfl (by omega) (by omega) (by omega) (by omega)) (v := τ.1 26 _) rfl ?_
          refine jr_dup2 C dX11_byPoints_55 rfl rfl ?_
          refine jr_ialv C ka_M_41 dX11_byPoints_56 (ji_in (by omega) (by omega)) (v := τ.1 41 _) rfl ?_
          refine jr_iload_n C dX11_byPoints_57 rfl ?_
          refine jr_aload_n C dX11_byPoints_58 rfl ?_
          refine jr_getv C kf_X11_365_0 dX11_byPoints_59 (v := τ.1 0 48) rfl ?_
          refine jr_ncmp_ge C 74 dX11_byPoints_62 (by decide) rfl rfl (fun b62 => ?_) (fun b62 => ?_)
          · refine jr_iconst C (v := 0) dX11_byPoints_74 (by decide) ?_
            refine jr_iadd C dX11_byPoints_75 ?_
            refine jr_iast C ka_M_41 dX11_byPoints_76 (ji_in (by omega) (by omega)) ?_
            refine jr_iinc C _ dX11_byPoints_77 rfl rfl (by decide) ?_
            refine jr_iinc C _ dX11_byPoints_80 rfl rfl (by decide) ?_
            refine jr_goto C 18 dX11_byPoints_83 (by decide) ?_
            exact jr_sub [(0, jf_r E 0), (1, .int _), (2, .int _), (3, .int _)] rfl (ih _ _ _ _ (by rw [e2]; first | (have z38 : ((τ.1 38) (5 * j + i).toNatClampNeg).toInt = 0 := b38; rw [vq (by omega) (by omega)] at z38; exact m_pj_f z (q_b_z z38)) | (have z38 : ¬ ((τ.1 38) (5 * j + i).toNatClampNeg).toInt = 0 := b38; rw [vq (by omega) (by omega)] at z38; exact m_pj_t z (q_b_nz z38) (by rw [dv, n5 (by omega), ov]) (by have := ji_tn v0.1; omega) (congrArg (_ + ·) (pn (by first | exact Or.inl ⟨rfl, b62⟩ | exact Or.inr ⟨rfl, b62⟩))))) (by omega) (by omega) (by omega) x1 (by exact ⟨by omega, by omega⟩) x3 x4 (by rw [dvm] at b25; omega) (by rw [e2]; first | (have z38 : ((τ.1 38) (5 * j + i).toNatClampNeg).toInt = 0 := b38; rw [vq (by omega) (by omega)] at z38; rw [m_Ci_f (q_b_z z38)]; exact x6) | (have z38 : ¬ ((τ.1 38) (5 * j + i).toNatClampNeg).toInt = 0 := b38; rw [vq (by omega) (by omega)] at z38; rw [m_Ci_t (q_b_nz z38), List.length_append]; show _ = ((_ + 1 : Nat) : Int); omega)))
          · refine jr_aload_n C dX11_byPoints_65 rfl ?_
            refine jr_getr C kf_X11_111_0 dX11_byPoints_66 ?_
            refine jr_iload_n C dX11_byPoints_69 rfl ?_
            refine jr_ialv C ka_M_33 dX11_byPoints_70 (ji_in (i := n) (by omega) (by omega)) (v := τ.1 33 _) rfl ?_
            refine jr_goto C 75 dX11_byPoints_71 (by decide) ?_
            refine jr_iadd C dX11_byPoints_75 ?_
            refine jr_iast C ka_M_41 dX11_byPoints_76 (ji_in (by omega) (by omega)) ?_
            refine jr_iinc C _ dX11_byPoints_77 rfl rfl (by decide) ?_
            refine jr_iinc C _ dX11_byPoints_80 rfl rfl (by decide) ?_
            refine jr_goto C 18 dX11_byPoints_83 (by decide) ?_
            exact jr_sub [(0, jf_r E 0), (1, .int _), (2, .int _), (3, .int _)] rfl (ih _ _ _ _ (by rw [e2]; first | (have z38 : ((τ.1 38) (5 * j + i).toNatClampNeg).toInt = 0 := b38; rw [vq (by omega) (by omega)] at z38; exact m_pj_f z (q_b_z z38)) | (have z38 : ¬ ((τ.1 38) (5 * j + i).toNatClampNeg).toInt = 0 := b38; rw [vq (by omega) (by omega)] at z38; exact m_pj_t z (q_b_nz z38) (by rw [dv, n5 (by omega), ov]) (by have := ji_tn v0.1; omega) (congrArg (_ + ·) (pn (by first | exact Or.inl ⟨rfl, b62⟩ | exact Or.inr ⟨rfl, b62⟩))))) (by omega) (by omega) (by omega) x1 (by exact ⟨by omega, by omega⟩) x3 x4 (by rw [dvm] at b25; omega) (by rw [e2]; first | (have z38 : ((τ.1 38) (5 * j + i).toNatClampNeg).toInt = 0 := b38; rw [vq (by omega) (by omega)] at z38; rw [m_Ci_f (q_b_z z38)]; exact x6) | (have z38 : ¬ ((τ.1 38) (5 * j + i).toNatClampNeg).toInt = 0 := b38; rw [vq (by omega) (by omega)] at z38; rw [m_Ci_t (q_b_nz z38), List.length_append]; show _ = ((_ + 1 : Nat) : Int); omega)))
  have l6 : ∀ (m : Nat) (τ : jf_S) (j : Int32), (m_pj o σ τ k j.toNatClampNeg 0) → 0 ≤ j.toInt → j.toInt ≤ ((σ.1 0 35)).toInt → ((σ.1 0 35)).toInt - j.toInt < m → jf_X jh_M E G 4 6 [(0, jf_r E 0), (1, .int j)] [] τ := by
    intro m
    induction m with
    | zero => intro τ j z g1 g2 g3; exfalso; omega
    | succ m ih =>
      intro τ j z g1 g2 g3
      have e1 := ji_inc (k := j) (by omega)
      have hT := mS_a_V z.1 hV
      have ej := ji_tn g1
      have e2 : (j + Int32.ofInt 1).toNatClampNeg = j.toNatClampNeg + 1 := ji_cl (by omega)
      have c1 : ((τ.1 0 35)).toInt = ((σ.1 0 35)).toInt := congrArg Int32.toInt (z.1.2.2 _ (by decide) (by decide))
      have cf : (τ.1 0 7) = (σ.1 0 7) := z.1.2.2 _ (by decide) (by decide)
      refine jr_iload_n C dX11_byPoints_6 rfl ?_
      refine jr_aload_n C dX11_byPoints_7 rfl ?_
      refine jr_getv C kf_X11_257_0 dX11_byPoints_8 (v := τ.1 0 35) rfl ?_
      refine jr_ncmp_ge C 92 dX11_byPoints_11 (by decide) rfl rfl (fun b11 => ?_) (fun b11 => ?_)
      · refine jr_aload_n C dX11_byPoints_92 rfl ?_
        refine jr_iconst C (v := 0) dX11_byPoints_93 (by decide) ?_
        refine jr_iconst C (v := 1) dX11_byPoints_94 (by decide) ?_
        refine jr_vi C [.int _, .int _] _ (ct_X11_extreme3 E _ _ _ (Or.inr rfl) (by decide) (by decide) hT.2.1.1 hT.2.1.2) ky_X11_extreme kv_X11_extreme kk_M_0 km_X11_389 (by decide) rfl (Nat.le_of_ble_eq_true rfl) dX11_byPoints_95 (fun r95 τ95 h95 => ?_)
        obtain ⟨q95, rfl⟩ := h95
        exact ret _ _ _ _ dX11_byPoints_98 rfl (⟨by rw [← show j.toNatClampNeg = ((σ.1 0 35)).toNatClampNeg from congrArg Int.toNat (show j.toInt = ((σ.1 0 35)).toInt by omega)]; exact z, by rw [q95, m_A_e (σ := σ) (τ := τ) (z.1.2.2 _ (by decide) (by decide)) (z.1.2.1 _ (by decide) (by decide) (by decide)) (z.2.2.1 40 (by decide) (by decide)), cf]; rfl⟩)
      · refine jr_iconst C (v := 0) dX11_byPoints_14 (by decide) ?_
        refine jr_istore_n C dX11_byPoints_15 (by decide) ?_
        refine jr_iconst C (v := 0) dX11_byPoints_16 (by decide) ?_
        refine jr_istore_n C dX11_byPoints_17 (by decide) ?_
        exact jr_sub [(0, jf_r E 0), (1, .int j), (2, .int 0), (3, .int 0)] rfl (l18 6 _ _ _ _ z (by decide) (by decide) (by decide) ⟨by omega, by omega⟩ (by decide) (fun υ hz => ih _ _ (by rw [e2]; exact hz) (by omega) (by omega) (by omega)) (by omega) (hV.2.2.1 _).1 rfl)
  refine jr_aload_n C dX11_byPoints_0 rfl ?_
  refine jr_vv C [] _ (ct_X11_openRound3 E _ (by rw [k0]; decide)) ky_X11_openRound kv_X11_openRound kk_M_0 km_X11_386 (by decide) rfl (Nat.le_of_ble_eq_true rfl) dX11_byPoints_1 (fun τ1 h1 => ?_)
  refine jr_iconst C (v := 0) dX11_byPoints_4 (by decide) ?_
  refine jr_istore_n C dX11_byPoints_5 (by decide) ?_
  exact jr_sub [(0, jf_r E 0), (1, .int _)] rfl (l6 11 _ _ ⟨h1.1, h1.2.1.2.1, h1.2.1.1, by have h := m_oq_e h1.2.2; rw [kz] at h; exact h⟩ (by decide) hJ.1 (by show _ - (0 : Int) < _; omega))

