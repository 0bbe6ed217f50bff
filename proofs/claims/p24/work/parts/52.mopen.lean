/-! the reference: rounds are opened, safe -/
/-- what a prize reckons with changed at will -/
def mS_a (σ τ : jf_S) : Prop := τ.2 = σ.2 ∧ (∀ k, k ≠ 0 → k ≠ 36 → (k < 38 ∨ 41 < k) → τ.1 k = σ.1 k) ∧ (∀ j, j ≠ 56 → j ≠ 69 → τ.1 0 j = σ.1 0 j)
theorem mS_a_r (σ : jf_S) : mS_a σ σ := ⟨rfl, fun _ _ _ _ => rfl, fun _ _ _ => rfl⟩
theorem mS_a_t {σ τ υ : jf_S} (h : mS_a σ τ) (g : mS_a τ υ) : mS_a σ υ := ⟨g.1.trans h.1, fun k a b c => (g.2.1 k a b c).trans (h.2.1 k a b c), fun j a b => (g.2.2 j a b).trans (h.2.2 j a b)⟩
theorem mS_a_p {σ τ : jf_S} (h : mS_p σ τ) : mS_a σ τ := ⟨h.1, fun k a b _ => h.2.1 k a b, fun j a _ => h.2.2 j a⟩
theorem mS_a_i {σ τ : jf_S} (h : mS_a σ τ) {k j : Nat} {v : Int32} (hk : 38 ≤ k ∧ k ≤ 41) : mS_a σ (jf_i τ k j v) := by
  refine ⟨h.1, fun i a b c => ?_, fun i a b => ?_⟩
  · rw [jf_i_o i (by omega)]; exact h.2.1 i a b c
  · rw [jf_i_o 0 (by omega)]; exact h.2.2 i a b
theorem mS_a_0 {σ τ : jf_S} (h : mS_a σ τ) {v : Int32} : mS_a σ (jf_i τ 0 69 v) := by
  refine ⟨h.1, fun i a b c => ?_, fun i a b => ?_⟩
  · rw [jf_i_o i a]; exact h.2.1 i a b c
  · rw [jf_i_at]; unfold upd; rw [if_neg b]; exact h.2.2 i a b
theorem ct_X11_openRound (E : jf_E) (σ : jf_S) (k0 : 0 ≤ ((σ.1 0 69)).toInt ∧ ((σ.1 0 69)).toInt ≤ 20) : jf_V jh_M E yX11_openRound cX11_openRound 2 0 [jf_r E 0] σ (fun τ => mS_a σ τ ∧ (τ.1 0 69) = (σ.1 0 69) + 1 ∧ (∀ k, k ≠ 0 → k ≠ 41 → τ.1 k = σ.1 k)) := by
  refine jf_mkV (by decide) (Nat.le_of_ble_eq_true rfl) ?_
  intro G C ret
  have lp : ∀ (m : Nat) (τ : jf_S) (o : Int32), mS_a σ τ ∧ (τ.1 0 69) = (σ.1 0 69) ∧ (∀ k, k ≠ 0 → k ≠ 41 → τ.1 k = σ.1 k) → 0 ≤ o.toInt → o.toInt ≤ (20 : Int) → (20 : Int) - o.toInt < m → jf_X jh_M E G 2 2 [(0, jf_r E 0), (1, .int o)] [] τ := by
    intro m
    induction m with
    | zero => intro τ o z g1 g2 g3; exfalso; omega
    | succ m ih =>
      intro τ o z g1 g2 g3
      have e1 := ji_inc (k := o) (by omega)
      have c1 := congrArg Int32.toInt z.2.1
      refine jr_iload_n C dX11_openRound_2 rfl ?_
      refine jr_bipush C (v := 20) dX11_openRound_3 (by decide) ?_
      refine jr_ncmp_ge C (b := 20) 42 dX11_openRound_5 (by decide) rfl rfl (fun b5 => ?_) (fun b5 => ?_)
      · refine jr_aload_n C dX11_openRound_42 rfl ?_
        refine jr_dup C dX11_openRound_43 rfl ?_
        refine jr_getv C kf_X11_141_0 dX11_openRound_44 (v := τ.1 0 69) rfl ?_
        refine jr_iconst C (v := 1) dX11_openRound_47 (by decide) ?_
        refine jr_iadd C dX11_openRound_48 ?_
        refine jr_puti C kp_X11_141_0 dX11_openRound_49 ?_
        exact ret _ _ _ dX11_openRound_52 (⟨mS_a_0 z.1, congrArg (· + 1) z.2.1, fun k a b => (jf_i_o k a).trans (z.2.2 k a b)⟩)
      · refine jr_aload_n C dX11_openRound_8 rfl ?_
        refine jr_getr C kf_X11_138_0 dX11_openRound_9 ?_
        refine jr_bipush C (v := 20) dX11_openRound_12 (by decide) ?_
        refine jr_aload_n C dX11_openRound_14 rfl ?_
        refine jr_getv C kf_X11_141_0 dX11_openRound_15 (v := τ.1 0 69) rfl ?_
        refine jr_imul C dX11_openRound_18 ?_
        refine jr_iload_n C dX11_openRound_19 rfl ?_
        refine jr_iadd C dX11_openRound_20 ?_
        refine jr_aload_n C dX11_openRound_21 rfl ?_
        refine jr_getr C kf_X11_132_0 dX11_openRound_22 ?_
        refine jr_iload_n C dX11_openRound_25 rfl ?_
        refine jr_zalv C ka_M_39 dX11_openRound_26 (ji_in (i := o) (by omega) (by omega)) (v := τ.1 39 _) rfl ?_
        refine jr_nif_eq C 34 dX11_openRound_27 (by decide) (fun b27 => ?_) (fun b27 => ?_)
        · refine jr_iconst C (v := -1) dX11_openRound_34 (by decide) ?_
          refine jr_iast C ka_M_41 dX11_openRound_35 (ji_lin 20 20 rfl (by omega) (by omega) (by omega) (by omega)) ?_
          refine jr_iinc C _ dX11_openRound_36 rfl rfl (by decide) ?_
          refine jr_goto C 2 dX11_openRound_39 (by decide) ?_
          exact jr_sub [(0, jf_r E 0), (1, .int _)] rfl (ih _ _ ⟨mS_a_i z.1 (by decide), z.2.1, fun k a b => (jf_i_o k b).trans (z.2.2 k a b)⟩ (by omega) (by omega) (by omega))
        · refine jr_iconst C (v := 0) dX11_openRound_30 (by decide) ?_
          refine jr_goto C 35 dX11_openRound_31 (by decide) ?_
          refine jr_iast C ka_M_41 dX11_openRound_35 (ji_lin 20 20 rfl (by omega) (by omega) (by omega) (by omega)) ?_
          refine jr_iinc C _ dX11_openRound_36 rfl rfl (by decide) ?_
          refine jr_goto C 2 dX11_openRound_39 (by decide) ?_
          exact jr_sub [(0, jf_r E 0), (1, .int _)] rfl (ih _ _ ⟨mS_a_i z.1 (by decide), z.2.1, fun k a b => (jf_i_o k b).trans (z.2.2 k a b)⟩ (by omega) (by omega) (by omega))
  refine jr_iconst C (v := 0) dX11_openRound_0 (by decide) ?_
  refine jr_istore_n C dX11_openRound_1 (by decide) ?_
  exact jr_sub [(0, jf_r E 0), (1, .int _)] rfl (lp 21 _ _ ⟨mS_a_r σ, rfl, fun _ _ _ => rfl⟩ (by decide) (by decide) (by decide))

