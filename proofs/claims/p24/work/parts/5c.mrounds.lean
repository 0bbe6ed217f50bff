/-! the reference: rounds and prizes, safe -/
theorem jx_ct_pos {p : Nat → Bool} : ∀ {n : Nat}, jx_ct p n ≠ 0 → ∃ c, c < n ∧ p c = true
  | 0, h => absurd rfl h
  | n + 1, h => by
    by_cases q : p n = true
    · exact ⟨n, by omega, q⟩
    · rw [jx_ct, if_neg q] at h
      obtain ⟨c, h1, h2⟩ := jx_ct_pos (n := n) h
      exact ⟨c, by omega, h2⟩
theorem jx_ct_two {p : Nat → Bool} {n a : Nat} (ha : a < n) (hp : p a = true) (h1 : jx_ct p n ≠ 1) (b : Nat) : ∃ c, c < n ∧ c ≠ b ∧ p c = true := by
  by_cases e : a = b
  · subst e
    have h := jx_ct_off (p := p) (q := fun k => if k = a then false else p k) (i := a) hp (by simp) (fun j hj => by simp [hj]) ha
    obtain ⟨c, h2, h3⟩ := jx_ct_pos (p := fun k => if k = a then false else p k) (n := n) (by omega)
    by_cases g : c = a
    · simp [g] at h3
    · simp [g] at h3; exact ⟨c, h2, g, h3⟩
  · exact ⟨a, ha, e, hp⟩
/-- votes that stand are for films that there are -/
def mI_w (σ : jf_S) : Prop := ∀ j i : Nat, (j : Int) < ((σ.1 0 35)).toInt → (i : Int) < ((σ.1 27) j).toInt → ((σ.1 26) (5 * j + i)).toInt < ((σ.1 0 7)).toInt
/-- a round K, behind J jurors -/
def m_S (τ υ : jf_S) (K J : Nat) : Prop := (∀ k, k ≠ 0 → k ≠ 41 → υ.1 k = τ.1 k) ∧ (υ.1 0 69) = (τ.1 0 69) + 1 ∧ (∀ f : Nat, f < 20 → (((τ.1 39) f).toInt = 0 ∧ ((υ.1 41) (20 * K + f)).toInt = -1) ∨ (¬ ((τ.1 39) f).toInt = 0 ∧ 0 ≤ ((υ.1 41) (20 * K + f)).toInt ∧ ((υ.1 41) (20 * K + f)).toInt ≤ (J : Int))) ∧ ((∃ p q : Nat, p < J ∧ (q : Int) < ((τ.1 27) p).toInt ∧ ¬ ((τ.1 38) (5 * p + q)).toInt = 0 ∧ ¬ ((τ.1 39) ((τ.1 26) (5 * p + q)).toNatClampNeg).toInt = 0) → ∃ f : Nat, f < 20 ∧ 0 < ((υ.1 41) (20 * K + f)).toInt)
theorem m_S_none {τ υ : jf_S} {K J : Nat} (h : m_S τ υ K J) (hn : ∀ q : Nat, (q : Int) < ((τ.1 27) J).toInt → ¬ ((τ.1 38) (5 * J + q)).toInt = 0 → ¬ ((τ.1 39) ((τ.1 26) (5 * J + q)).toNatClampNeg).toInt = 0 → False) : m_S τ υ K (J + 1) := by
  refine ⟨h.1, h.2.1, fun f hf => (h.2.2.1 f hf).imp id (fun g => ⟨g.1, g.2.1, by omega⟩), ?_⟩
  rintro ⟨p, q, a, b, c, d⟩
  by_cases e : p = J
  · subst e; exact absurd d (fun d => hn q b c d)
  · exact h.2.2.2 ⟨p, q, by omega, b, c, d⟩
theorem m_S_give {τ υ : jf_S} {K J F N : Nat} {x : Int32} (h : m_S τ υ K J) (hF : F < 20) (hi : ¬ ((τ.1 39) F).toInt = 0) (hN : N = 20 * K + F) (hx : x.toInt = ((υ.1 41) N).toInt + 1) : m_S τ (jf_i υ 41 N x) K (J + 1) := by
  subst hN
  have own := (h.2.2.1 F hF).resolve_left (fun g => hi g.1)
  refine ⟨fun k a b => by rw [jf_i_o k b]; exact h.1 k a b, h.2.1, fun f hf => ?_, fun _ => ⟨F, hF, by rw [jf_i_same]; omega⟩⟩
  by_cases e : f = F
  · subst e
    exact Or.inr ⟨hi, by rw [jf_i_same]; omega, by rw [jf_i_same]; omega⟩
  · rw [jf_i_ne (by omega)]
    exact (h.2.2.1 f hf).imp id (fun g => ⟨g.1, g.2.1, by omega⟩)
theorem ct_X11_openRound2 (E : jf_E) (σ : jf_S) (k0 : 0 ≤ ((σ.1 0 69)).toInt ∧ ((σ.1 0 69)).toInt ≤ 20) : jf_V jh_M E yX11_openRound cX11_openRound 2 0 [jf_r E 0] σ (fun τ => mS_a σ τ ∧ m_S σ τ ((σ.1 0 69)).toNatClampNeg 0) := by
  refine jf_mkV (by decide) (Nat.le_of_ble_eq_true rfl) ?_
  intro G C ret
  have lp : ∀ (m : Nat) (τ : jf_S) (o : Int32), (mS_a σ τ ∧ (τ.1 0 69) = (σ.1 0 69) ∧ (∀ k, k ≠ 0 → k ≠ 41 → τ.1 k = σ.1 k) ∧ (∀ f : Nat, (f : Int) < o.toInt → (((σ.1 39) f).toInt = 0 ∧ ((τ.1 41) (20 * ((σ.1 0 69)).toNatClampNeg + f)).toInt = -1) ∨ (¬ ((σ.1 39) f).toInt = 0 ∧ ((τ.1 41) (20 * ((σ.1 0 69)).toNatClampNeg + f)).toInt = 0))) → 0 ≤ o.toInt → o.toInt ≤ (20 : Int) → (20 : Int) - o.toInt < m → jf_X jh_M E G 2 2 [(0, jf_r E 0), (1, .int o)] [] τ := by
    intro m
    induction m with
    | zero => intro τ o z g1 g2 g3; exfalso; omega
    | succ m ih =>
      intro τ o z g1 g2 g3
      have e1 := ji_inc (k := o) (by omega)
      have c1 := congrArg Int32.toInt z.2.1
      have eo := ji_tn g1
      have c39 : (τ.1 39) = (σ.1 39) := z.2.2.1 39 (by decide) (by decide)
      have ix : o.toInt < 20 → (20 * (τ.1 0 69) + o).toNatClampNeg = 20 * ((σ.1 0 69)).toNatClampNeg + o.toNatClampNeg := fun h => by rw [z.2.1]; exact (m_ix20 k0.1 k0.2 g1 h).2
      refine jr_iload_n C dX11_openRound_2 rfl ?_
      refine jr_bipush C (v := 20) dX11_openRound_3 (by decide) ?_
      refine jr_ncmp_ge C (b := 20) 42 dX11_openRound_5 (by decide) rfl rfl (fun b5 => ?_) (fun b5 => ?_)
      · refine jr_aload_n C dX11_openRound_42 rfl ?_
        refine jr_dup C dX11_openRound_43 rfl ?_
        refine jr_getv C kf_X11_141_0 dX11_openRound_44 (v := τ.1 0 69) rfl ?_
        refine jr_iconst C (v := 1) dX11_openRound_47 (by decide) ?_
        refine jr_iadd C dX11_openRound_48 ?_
        refine jr_puti C kp_X11_141_0 dX11_openRound_49 ?_
        exact ret _ _ _ dX11_openRound_52 (⟨mS_a_0 z.1, fun k a b => (jf_i_o k a).trans (z.2.2.1 k a b), congrArg (· + 1) z.2.1, fun f hf => (z.2.2.2 f (by omega)).imp id (fun g => ⟨g.1, by have h2 := g.2; exact ⟨Int.le_of_eq h2.symm, Int.le_of_eq h2⟩⟩), fun ⟨p, q, a, _⟩ => by omega⟩)
      · refine jr_aload_n C dX11_openRound_8 rfl ?_
        refine jr_getr C kf_X11_138_0 dX11_openRound_9 ?_
        refine jr_bipush C (v := 20) dX11_openRound_12 (by decide) ?_
        refine jr_aload_n C dX11_openRound_14 rfl ?_
        refine jr_getv C kf_X11_141_0 dX11_openRound_15 (v := τ.1 0 69) rfl ?_
        refine jr_imul C dX11_openRound_18 ?_
        refine jr_iload_n C dX11_openRound_19 rfl ?_
        refine jr_iadd C dX11_openRound_20 ?_
        refine jr_aload_n C dX11_openRound_21 rfl ?_
        refine jr_getr C kf_X11_132_0 dX11_openRound_22 ?_
        refine jr_iload_n C dX11_openRound_25 rfl ?_
        refine jr_zalv C ka_M_39 dX11_openRound_26 (ji_in (i := o) (by omega) (by omega)) (v := τ.1 39 _) rfl ?_
        refine jr_nif_eq C 34 dX11_openRound_27 (by decide) (fun b27 => ?_) (fun b27 => ?_)
        · refine jr_iconst C (v := -1) dX11_openRound_34 (by decide) ?_
          refine jr_iast C ka_M_41 dX11_openRound_35 (ji_lin 20 20 rfl (by omega) (by omega) (by omega) (by omega)) ?_
          refine jr_iinc C _ dX11_openRound_36 rfl rfl (by decide) ?_
          refine jr_goto C 2 dX11_openRound_39 (by decide) ?_
          exact jr_sub [(0, jf_r E 0), (1, .int _)] rfl (ih _ _ ⟨mS_a_i z.1 (by decide), z.2.1, fun k a b => (jf_i_o k b).trans (z.2.2.1 k a b), fun f hf => by (rw [ix (by omega)]; by_cases e : f = o.toNatClampNeg; (subst e; rw [jf_i_same]; first | exact Or.inl ⟨by rw [← c39]; exact b27, rfl⟩ | exact Or.inr ⟨by rw [← c39]; exact b27, rfl⟩); (rw [jf_i_ne (by omega)]; exact z.2.2.2 f (by omega)))⟩ (by omega) (by omega) (by omega))
        · refine jr_iconst C (v := 0) dX11_openRound_30 (by decide) ?_
          refine jr_goto C 35 dX11_openRound_31 (by decide) ?_
          refine jr_iast C ka_M_41 dX11_openRound_35 (ji_lin 20 20 rfl (by omega) (by omega) (by omega) (by omega)) ?_
          refine jr_iinc C _ dX11_openRound_36 rfl rfl (by decide) ?_
          refine jr_goto C 2 dX11_openRound_39 (by decide) ?_
          exact jr_sub [(0, jf_r E 0), (1, .int _)] rfl (ih _ _ ⟨mS_a_i z.1 (by decide), z.2.1, fun k a b => (jf_i_o k b).trans (z.2.2.1 k a b), fun f hf => by (rw [ix (by omega)]; by_cases e : f = o.toNatClampNeg; (subst e; rw [jf_i_same]; first | exact Or.inl ⟨by rw [← c39]; exact b27, rfl⟩ | exact Or.inr ⟨by rw [← c39]; exact b27, rfl⟩); (rw [jf_i_ne (by omega)]; exact z.2.2.2 f (by omega)))⟩ (by omega) (by omega) (by omega))
  refine jr_iconst C (v := 0) dX11_openRound_0 (by decide) ?_
  refine jr_istore_n C dX11_openRound_1 (by decide) ?_
  exact jr_sub [(0, jf_r E 0), (1, .int _)] rfl (lp 21 _ _ ⟨mS_a_r σ, rfl, fun _ _ _ => rfl, fun f hf => by exfalso; have : (0 : Int32).toInt = 0 := rfl; omega⟩ (by decide) (by decide) (by decide))

