/-! the class: true beginnings, queues: safe -/
def xO (σ : jf_S) : Prop := ∀ i, 0 ≤ ((σ.1 37) i).toInt ∧ ((σ.1 37) i).toInt < 60
def xS_l (σ τ : jf_S) : Prop := τ.2 = σ.2 ∧ (∀ k, k ≠ 6 → k ≠ 37 → k ≠ 38 → k ≠ 39 → τ.1 k = σ.1 k) ∧ (∀ j, j < 7 → τ.1 6 j = σ.1 6 j)
theorem xS_l_r (σ : jf_S) : xS_l σ σ := ⟨rfl, fun _ _ _ _ _ => rfl, fun _ _ => rfl⟩
theorem xS_l_t {σ τ υ : jf_S} (h : xS_l σ τ) (g : xS_l τ υ) : xS_l σ υ := ⟨g.1.trans h.1, fun k a b c d => (g.2.1 k a b c d).trans (h.2.1 k a b c d), fun j a => (g.2.2 j a).trans (h.2.2 j a)⟩
theorem xS_l_a {σ τ : jf_S} (h : xS_l σ τ) {k j : Nat} {v : Int32} (hk : k = 37 ∨ k = 38 ∨ k = 39) : xS_l σ (jf_i τ k j v) := by
  refine ⟨h.1, fun i a b c d => ?_, fun i a => ?_⟩
  · rw [jf_i_o i (by omega)]; exact h.2.1 i a b c d
  · rw [jf_i_o 6 (by omega)]; exact h.2.2 i a
theorem xS_l_6 {σ τ : jf_S} (h : xS_l σ τ) {j : Nat} {v : Int32} (hj : 7 ≤ j) : xS_l σ (jf_i τ 6 j v) := by
  refine ⟨h.1, fun k a b c d => ?_, fun i a => ?_⟩
  · rw [jf_i_o k a]; exact h.2.1 k a b c d
  · rw [jf_i_at]; unfold upd; rw [if_neg (by omega)]; exact h.2.2 i a
theorem xS_l_I {σ τ : jf_S} (h : xS_l σ τ) (hI : xI σ) : xI τ := by
  unfold xI
  rw [h.2.1 3 (by decide) (by decide) (by decide) (by decide), h.2.1 12 (by decide) (by decide) (by decide) (by decide), h.2.1 25 (by decide) (by decide) (by decide) (by decide), h.2.1 26 (by decide) (by decide) (by decide) (by decide), h.2.1 27 (by decide) (by decide) (by decide) (by decide)]
  exact hI
theorem xS_l_e {σ τ : jf_S} (h : xS_l σ τ) : (τ.1 3 8) = (σ.1 3 8) := by rw [h.2.1 3 (by decide) (by decide) (by decide) (by decide)]
theorem xO_i {τ : jf_S} (h : xO τ) {j : Nat} {v : Int32} (hv : 0 ≤ v.toInt ∧ v.toInt < 60) : xO (jf_i τ 37 j v) := by
  intro i
  show 0 ≤ ((jf_i τ 37 j v).1 37 i).toInt ∧ ((jf_i τ 37 j v).1 37 i).toInt < 60
  rw [jf_i_at]; unfold upd; split
  · exact hv
  · exact h i
theorem xO_o {τ : jf_S} (h : xO τ) {k j : Nat} {v : Int32} (hk : k ≠ 37) : xO (jf_i τ k j v) := by
  intro i
  show 0 ≤ ((jf_i τ k j v).1 37 i).toInt ∧ ((jf_i τ k j v).1 37 i).toInt < 60
  rw [jf_i_o 37 (fun e => hk e.symm)]; exact h i
theorem ct_X5_sortByBegin (E : jf_E) (σ : jf_S) (hI : xI σ) (hO : xO σ) : jf_I jh_X E yX5_sortByBegin cX5_sortByBegin 4 .int 0 [jf_r E 6] σ (fun r τ => (0 ≤ r.toInt ∧ r.toInt ≤ 60) ∧ xS_l σ τ ∧ xO τ) := by
  refine jf_mkI (by decide) (Nat.le_of_ble_eq_true rfl) ?_
  intro G C ret
  have hE := hI.1
  have l29 : ∀ (m : Nat) (τ : jf_S) (n s p : Int32), xS_l σ τ ∧ xO τ → 0 ≤ p.toInt → p.toInt ≤ n.toInt → n.toInt ≤ s.toInt → s.toInt < 60 → p.toInt < m → (∀ υ : jf_S, xS_l σ υ ∧ xO υ → jf_X jh_X E G 4 4 [(0, jf_r E 6), (1, .int (n + Int32.ofInt 1)), (2, .int (s + Int32.ofInt 1))] [] υ) → jf_X jh_X E G 4 29 [(0, jf_r E 6), (1, .int n), (2, .int s), (3, .int p)] [] τ := by
    intro m
    induction m with
    | zero => intro τ n s p z g1 g2 g3 g4 g5 K; exfalso; omega
    | succ m ih =>
      intro τ n s p z g1 g2 g3 g4 g5 K
      have e1 := ji_dec (k := p) (by omega)
      have e2 := ji_dec1 (k := p) (by omega)
      refine jr_iload_n C dX5_sortByBegin_29 rfl ?_
      refine jr_nif_le C 81 dX5_sortByBegin_30 (by decide) (fun b30 => ?_) (fun b30 => ?_)
      · refine jr_aload_n C dX5_sortByBegin_81 rfl ?_
        refine jr_getr C kf_X5_9_6 dX5_sortByBegin_82 ?_
        refine jr_iload_n C dX5_sortByBegin_85 rfl ?_
        refine jr_iload_n C dX5_sortByBegin_86 rfl ?_
        refine jr_iast C ka_X_37 dX5_sortByBegin_87 (ji_in (i := p) (by omega) (by omega)) ?_
        refine jr_iinc C _ dX5_sortByBegin_88 rfl rfl (by decide) ?_
        refine jr_iinc C _ dX5_sortByBegin_91 rfl rfl (by decide) ?_
        refine jr_goto C 4 dX5_sortByBegin_94 (by decide) ?_
        exact jr_sub [(0, jf_r E 6), (1, .int (n + Int32.ofInt 1)), (2, .int (s + Int32.ofInt 1))] rfl (K _ ⟨xS_l_a z.1 (by decide), xO_i z.2 ⟨by omega, g4⟩⟩)
      · refine jr_aload_n C dX5_sortByBegin_33 rfl ?_
        refine jr_getr C kf_X5_33_6 dX5_sortByBegin_34 ?_
        refine jr_getr C kf_X5_54_3 dX5_sortByBegin_37 ?_
        refine jr_aload_n C dX5_sortByBegin_40 rfl ?_
        refine jr_getr C kf_X5_9_6 dX5_sortByBegin_41 ?_
        refine jr_iload_n C dX5_sortByBegin_44 rfl ?_
        refine jr_iconst C (v := 1) dX5_sortByBegin_45 (by decide) ?_
        refine jr_isub C dX5_sortByBegin_46 ?_
        refine jr_ialv C ka_X_37 dX5_sortByBegin_47 (ji_in (i := p - 1) (by omega) (by omega)) (v := τ.1 37 _) rfl ?_
        refine jr_ialv C ka_X_27 dX5_sortByBegin_48 (ji_in (z.2 _).1 (z.2 _).2) (v := τ.1 27 _) rfl ?_
        refine jr_aload_n C dX5_sortByBegin_49 rfl ?_
        refine jr_getr C kf_X5_33_6 dX5_sortByBegin_50 ?_
        refine jr_getr C kf_X5_54_3 dX5_sortByBegin_53 ?_
        refine jr_iload_n C dX5_sortByBegin_56 rfl ?_
        refine jr_ialv C ka_X_27 dX5_sortByBegin_57 (ji_in (i := s) (by omega) (by omega)) (v := τ.1 27 _) rfl ?_
        refine jr_ncmp_le C 81 dX5_sortByBegin_58 (by decide) rfl rfl (fun b58 => ?_) (fun b58 => ?_)
        · refine jr_aload_n C dX5_sortByBegin_81 rfl ?_
          refine jr_getr C kf_X5_9_6 dX5_sortByBegin_82 ?_
          refine jr_iload_n C dX5_sortByBegin_85 rfl ?_
          refine jr_iload_n C dX5_sortByBegin_86 rfl ?_
          refine jr_iast C ka_X_37 dX5_sortByBegin_87 (ji_in (i := p) (by omega) (by omega)) ?_
          refine jr_iinc C _ dX5_sortByBegin_88 rfl rfl (by decide) ?_
          refine jr_iinc C _ dX5_sortByBegin_91 rfl rfl (by decide) ?_
          refine jr_goto C 4 dX5_sortByBegin_94 (by decide) ?_
          exact jr_sub [(0, jf_r E 6), (1, .int (n + Int32.ofInt 1)), (2, .int (s + Int32.ofInt 1))] rfl (K _ ⟨xS_l_a z.1 (by decide), xO_i z.2 ⟨by omega, g4⟩⟩)
        · refine jr_aload_n C dX5_sortByBegin_61 rfl ?_
          refine jr_getr C kf_X5_9_6 dX5_sortByBegin_62 ?_
          refine jr_iload_n C dX5_sortByBegin_65 rfl ?_
          refine jr_aload_n C dX5_sortByBegin_66 rfl ?_
          refine jr_getr C kf_X5_9_6 dX5_sortByBegin_67 ?_
          refine jr_iload_n C dX5_sortByBegin_70 rfl ?_
          refine jr_iconst C (v := 1) dX5_sortByBegin_71 (by decide) ?_
          refine jr_isub C dX5_sortByBegin_72 ?_
          refine jr_ialv C ka_X_37 dX5_sortByBegin_73 (ji_in (i := p - 1) (by omega) (by omega)) (v := τ.1 37 _) rfl ?_
          refine jr_iast C ka_X_37 dX5_sortByBegin_74 (ji_in (i := p) (by omega) (by omega)) ?_
          refine jr_iinc C _ dX5_sortByBegin_75 rfl rfl (by decide) ?_
          refine jr_goto C 29 dX5_sortByBegin_78 (by decide) ?_
          exact jr_sub [(0, jf_r E 6), (1, .int n), (2, .int s), (3, .int _)] rfl (ih _ _ _ _ ⟨xS_l_a z.1 (by decide), xO_i z.2 (z.2 _)⟩ (by omega) (by omega) g3 g4 (by omega) K)
  have lp : ∀ (m : Nat) (τ : jf_S) (n o : Int32), xS_l σ τ ∧ xO τ → 0 ≤ o.toInt → o.toInt ≤ ((σ.1 3 8)).toInt → ((σ.1 3 8)).toInt - o.toInt < m → (0 ≤ n.toInt) → (n.toInt ≤ o.toInt) → jf_X jh_X E G 4 4 [(0, jf_r E 6), (1, .int n), (2, .int o)] [] τ := by
    intro m
    induction m with
    | zero => intro τ n o z g1 g2 g3 x1 x2; exfalso; omega
    | succ m ih =>
      intro τ n o z g1 g2 g3 x1 x2
      have e1 := ji_inc (k := o) (by omega)
      have c1 := congrArg Int32.toInt (xS_l_e z.1)
      have e2 := ji_inc (k := n) (by omega)
      refine jr_iload_n C dX5_sortByBegin_4 rfl ?_
      refine jr_aload_n C dX5_sortByBegin_5 rfl ?_
      refine jr_getr C kf_X5_33_6 dX5_sortByBegin_6 ?_
      refine jr_getv C kf_X5_70_3 dX5_sortByBegin_9 (v := τ.1 3 8) rfl ?_
      refine jr_ncmp_ge C 97 dX5_sortByBegin_12 (by decide) rfl rfl (fun b12 => ?_) (fun b12 => ?_)
      · refine jr_iload_n C dX5_sortByBegin_97 rfl ?_
        exact ret _ _ _ _ dX5_sortByBegin_98 rfl (⟨⟨by omega, by omega⟩, z.1, z.2⟩)
      · refine jr_aload_n C dX5_sortByBegin_15 rfl ?_
        refine jr_getr C kf_X5_33_6 dX5_sortByBegin_16 ?_
        refine jr_getr C kf_X5_73_3 dX5_sortByBegin_19 ?_
        refine jr_iload_n C dX5_sortByBegin_22 rfl ?_
        refine jr_zalv C ka_X_31 dX5_sortByBegin_23 (ji_in (i := o) (by omega) (by omega)) (v := τ.1 31 _) rfl ?_
        refine jr_nif_eq C 91 dX5_sortByBegin_24 (by decide) (fun b24 => ?_) (fun b24 => ?_)
        · refine jr_iinc C _ dX5_sortByBegin_91 rfl rfl (by decide) ?_
          refine jr_goto C 4 dX5_sortByBegin_94 (by decide) ?_
          exact jr_sub [(0, jf_r E 6), (1, .int _), (2, .int _)] rfl (ih _ _ _ z (by omega) (by omega) (by omega) (by omega) (by omega))
        · refine jr_iload_n C dX5_sortByBegin_27 rfl ?_
          refine jr_istore_n C dX5_sortByBegin_28 (by decide) ?_
          exact jr_sub [(0, jf_r E 6), (1, .int n), (2, .int o), (3, .int n)] rfl (l29 61 _ _ _ _ z x1 (by omega) x2 (by omega) (by omega) (fun υ hz => ih _ _ _ hz (by omega) (by omega) (by omega) (by omega) (by omega)))
  refine jr_iconst C (v := 0) dX5_sortByBegin_0 (by decide) ?_
  refine jr_istore_n C dX5_sortByBegin_1 (by decide) ?_
  refine jr_iconst C (v := 0) dX5_sortByBegin_2 (by decide) ?_
  refine jr_istore_n C dX5_sortByBegin_3 (by decide) ?_
  exact jr_sub [(0, jf_r E 6), (1, .int _), (2, .int _)] rfl (lp 61 _ _ _ ⟨xS_l_r σ, hO⟩ (by decide) hE.1 (by show _ - (0 : Int) < _; omega) (by decide) (by decide))
theorem ct_X5_hallFree (E : jf_E) (σ : jf_S) (p : Int32) (hI : xI σ) (hO : xO σ) (p0 : 0 ≤ p.toInt ∧ p.toInt < 60) : jf_I jh_X E yX5_hallFree cX5_hallFree 5 .int 0 [jf_r E 6, .int p] σ (fun r τ => σ = τ) := by
  refine jf_mkI (by decide) (Nat.le_of_ble_eq_true rfl) ?_
  intro G C ret
  have lp : ∀ (m : Nat) (i : Int32), -1 ≤ i.toInt → i.toInt < 60 → i.toInt < m → jf_X jh_X E G 5 19 [(0, jf_r E 6), (1, .int p), (2, .int ((σ.1 26) ((σ.1 37) p.toNatClampNeg).toNatClampNeg)), (3, .int i)] [] σ := by
    intro m
    induction m with
    | zero =>
      intro i g1 g2 g3
      refine jr_iload_n C dX5_hallFree_19 rfl ?_
      refine jr_nif_lt C 69 dX5_hallFree_20 (by decide) (fun b20 => ?_) (fun b20 => (by exfalso; omega))
      refine jr_iconst C (v := 0) dX5_hallFree_69 (by decide) ?_
      exact ret _ _ _ _ dX5_hallFree_70 rfl (rfl)
    | succ m ih =>
      intro i g1 g2 g3
      have e1 := ji_dec (k := i) (by omega)
      refine jr_iload_n C dX5_hallFree_19 rfl ?_
      refine jr_nif_lt C 69 dX5_hallFree_20 (by decide) (fun b20 => ?_) (fun b20 => ?_)
      · refine jr_iconst C (v := 0) dX5_hallFree_69 (by decide) ?_
        exact ret _ _ _ _ dX5_hallFree_70 rfl (rfl)
      · refine jr_aload_n C dX5_hallFree_23 rfl ?_
        refine jr_getr C kf_X5_9_6 dX5_hallFree_24 ?_
        refine jr_iload_n C dX5_hallFree_27 rfl ?_
        refine jr_ialv C ka_X_37 dX5_hallFree_28 (ji_in (i := i) (by omega) (by omega)) (v := σ.1 37 _) rfl ?_
        refine jr_istore C dX5_hallFree_29 (by decide) ?_
        refine jr_aload_n C dX5_hallFree_31 rfl ?_
        refine jr_getr C kf_X5_33_6 dX5_hallFree_32 ?_
        refine jr_getr C kf_X5_77_3 dX5_hallFree_35 ?_
        refine jr_iload C dX5_hallFree_38 rfl ?_
        refine jr_ialv C ka_X_26 dX5_hallFree_40 (ji_in (hO _).1 (hO _).2) (v := σ.1 26 _) rfl ?_
        refine jr_iload_n C dX5_hallFree_41 rfl ?_
        refine jr_ncmp_ne C 63 dX5_hallFree_42 (by decide) rfl rfl (fun b42 => ?_) (fun b42 => ?_)
        · refine jr_iinc C _ dX5_hallFree_63 rfl rfl (by decide) ?_
          refine jr_goto C 19 dX5_hallFree_66 (by decide) ?_
          exact jr_sub [(0, jf_r E 6), (1, .int p), (2, .int ((σ.1 26) ((σ.1 37) p.toNatClampNeg).toNatClampNeg)), (3, .int _)] rfl (ih _ (by omega) (by omega) (by omega))
        · refine jr_aload_n C dX5_hallFree_45 rfl ?_
          refine jr_getr C kf_X5_18_6 dX5_hallFree_46 ?_
          refine jr_iload C dX5_hallFree_49 rfl ?_
          refine jr_ialv C ka_X_39 dX5_hallFree_51 (ji_in (hO _).1 (hO _).2) (v := σ.1 39 _) rfl ?_
          refine jr_aload_n C dX5_hallFree_52 rfl ?_
          refine jr_getr C kf_X5_25_6 dX5_hallFree_53 ?_
          refine jr_getr C kf_X5_80_1 dX5_hallFree_56 ?_
          refine jr_iload_n C dX5_hallFree_59 rfl ?_
          refine jr_ialv C ka_X_14 dX5_hallFree_60 (ji_in (xI_hall hI _).1 (xI_hall hI _).2) (v := σ.1 14 _) rfl ?_
          refine jr_iadd C dX5_hallFree_61 ?_
          exact ret _ _ _ _ dX5_hallFree_62 rfl (rfl)
  have e2 := ji_dec1 (k := p) (by omega)
  refine jr_aload_n C dX5_hallFree_0 rfl ?_
  refine jr_getr C kf_X5_33_6 dX5_hallFree_1 ?_
  refine jr_getr C kf_X5_77_3 dX5_hallFree_4 ?_
  refine jr_aload_n C dX5_hallFree_7 rfl ?_
  refine jr_getr C kf_X5_9_6 dX5_hallFree_8 ?_
  refine jr_iload_n C dX5_hallFree_11 rfl ?_
  refine jr_ialv C ka_X_37 dX5_hallFree_12 (ji_in p0.1 p0.2) (v := σ.1 37 _) rfl ?_
  refine jr_ialv C ka_X_26 dX5_hallFree_13 (ji_in (hO _).1 (hO _).2) (v := σ.1 26 _) rfl ?_
  refine jr_istore_n C dX5_hallFree_14 (by decide) ?_
  refine jr_iload_n C dX5_hallFree_15 rfl ?_
  refine jr_iconst C (v := 1) dX5_hallFree_16 (by decide) ?_
  refine jr_isub C dX5_hallFree_17 ?_
  refine jr_istore_n C dX5_hallFree_18 (by decide) ?_
  exact jr_sub [(0, jf_r E 6), (1, .int p), (2, .int ((σ.1 26) ((σ.1 37) p.toNatClampNeg).toNatClampNeg)), (3, .int _)] rfl (lp 61 _ (by omega) (by omega) (by omega))
theorem ct_X5_printFree (E : jf_E) (σ : jf_S) (p : Int32) (hI : xI σ) (hO : xO σ) (p0 : 0 ≤ p.toInt ∧ p.toInt < 60) : jf_I jh_X E yX5_printFree cX5_printFree 5 .int 1 [jf_r E 6, .int p] σ (fun r τ => σ = τ) := by
  refine jf_mkI (by decide) (Nat.le_of_ble_eq_true rfl) ?_
  intro G C ret
  have lp : ∀ (m : Nat) (i : Int32), -1 ≤ i.toInt → i.toInt < 60 → i.toInt < m → jf_X jh_X E G 5 11 [(0, jf_r E 6), (1, .int p), (2, .int ((σ.1 37) p.toNatClampNeg)), (3, .int i)] [] σ := by
    intro m
    induction m with
    | zero =>
      intro i g1 g2 g3
      refine jr_iload_n C dX5_printFree_11 rfl ?_
      refine jr_nif_lt C 86 dX5_printFree_12 (by decide) (fun b12 => ?_) (fun b12 => (by exfalso; omega))
      refine jr_iconst C (v := 0) dX5_printFree_86 (by decide) ?_
      exact ret _ _ _ _ dX5_printFree_87 rfl (rfl)
    | succ m ih =>
      intro i g1 g2 g3
      have e1 := ji_dec (k := i) (by omega)
      refine jr_iload_n C dX5_printFree_11 rfl ?_
      refine jr_nif_lt C 86 dX5_printFree_12 (by decide) (fun b12 => ?_) (fun b12 => ?_)
      · refine jr_iconst C (v := 0) dX5_printFree_86 (by decide) ?_
        exact ret _ _ _ _ dX5_printFree_87 rfl (rfl)
      · refine jr_aload_n C dX5_printFree_15 rfl ?_
        refine jr_getr C kf_X5_9_6 dX5_printFree_16 ?_
        refine jr_iload_n C dX5_printFree_19 rfl ?_
        refine jr_ialv C ka_X_37 dX5_printFree_20 (ji_in (i := i) (by omega) (by omega)) (v := σ.1 37 _) rfl ?_
        refine jr_istore C dX5_printFree_21 (by decide) ?_
        refine jr_aload_n C dX5_printFree_23 rfl ?_
        refine jr_getr C kf_X5_33_6 dX5_printFree_24 ?_
        refine jr_getr C kf_X5_64_3 dX5_printFree_27 ?_
        refine jr_iload C dX5_printFree_30 rfl ?_
        refine jr_ialv C ka_X_25 dX5_printFree_32 (ji_in (hO _).1 (hO _).2) (v := σ.1 25 _) rfl ?_
        refine jr_aload_n C dX5_printFree_33 rfl ?_
        refine jr_getr C kf_X5_33_6 dX5_printFree_34 ?_
        refine jr_getr C kf_X5_64_3 dX5_printFree_37 ?_
        refine jr_iload_n C dX5_printFree_40 rfl ?_
        refine jr_ialv C ka_X_25 dX5_printFree_41 (ji_in (hO _).1 (hO _).2) (v := σ.1 25 _) rfl ?_
        refine jr_ncmp_ne C 80 dX5_printFree_42 (by decide) rfl rfl (fun b42 => ?_) (fun b42 => ?_)
        · refine jr_iinc C _ dX5_printFree_80 rfl rfl (by decide) ?_
          refine jr_goto C 11 dX5_printFree_83 (by decide) ?_
          exact jr_sub [(0, jf_r E 6), (1, .int p), (2, .int ((σ.1 37) p.toNatClampNeg)), (3, .int _)] rfl (ih _ (by omega) (by omega) (by omega))
        · refine jr_aload_n C dX5_printFree_45 rfl ?_
          refine jr_getr C kf_X5_18_6 dX5_printFree_46 ?_
          refine jr_iload C dX5_printFree_49 rfl ?_
          refine jr_ialv C ka_X_39 dX5_printFree_51 (ji_in (hO _).1 (hO _).2) (v := σ.1 39 _) rfl ?_
          refine jr_aload_n C dX5_printFree_52 rfl ?_
          refine jr_getr C kf_X5_25_6 dX5_printFree_53 ?_
          refine jr_aload_n C dX5_printFree_56 rfl ?_
          refine jr_getr C kf_X5_33_6 dX5_printFree_57 ?_
          refine jr_getr C kf_X5_77_3 dX5_printFree_60 ?_
          refine jr_iload C dX5_printFree_63 rfl ?_
          refine jr_ialv C ka_X_26 dX5_printFree_65 (ji_in (hO _).1 (hO _).2) (v := σ.1 26 _) rfl ?_
          refine jr_aload_n C dX5_printFree_66 rfl ?_
          refine jr_getr C kf_X5_33_6 dX5_printFree_67 ?_
          refine jr_getr C kf_X5_77_3 dX5_printFree_70 ?_
          refine jr_iload_n C dX5_printFree_73 rfl ?_
          refine jr_ialv C ka_X_26 dX5_printFree_74 (ji_in (hO _).1 (hO _).2) (v := σ.1 26 _) rfl ?_
          refine jr_vip C [.int _, .int _] _ (ct_X3_wayBetween E _ _ _ hI (xI_hall hI _) (xI_hall hI _)) ky_X3_wayBetween kv_X3_wayBetween kk_X_1 km_X5_85 (by decide) rfl (Nat.le_of_ble_eq_true rfl) dX5_printFree_75 ?_
          refine jr_iadd C dX5_printFree_78 ?_
          exact ret _ _ _ _ dX5_printFree_79 rfl (rfl)
  have e2 := ji_dec1 (k := p) (by omega)
  refine jr_aload_n C dX5_printFree_0 rfl ?_
  refine jr_getr C kf_X5_9_6 dX5_printFree_1 ?_
  refine jr_iload_n C dX5_printFree_4 rfl ?_
  refine jr_ialv C ka_X_37 dX5_printFree_5 (ji_in p0.1 p0.2) (v := σ.1 37 _) rfl ?_
  refine jr_istore_n C dX5_printFree_6 (by decide) ?_
  refine jr_iload_n C dX5_printFree_7 rfl ?_
  refine jr_iconst C (v := 1) dX5_printFree_8 (by decide) ?_
  refine jr_isub C dX5_printFree_9 ?_
  refine jr_istore_n C dX5_printFree_10 (by decide) ?_
  exact jr_sub [(0, jf_r E 6), (1, .int p), (2, .int ((σ.1 37) p.toNatClampNeg)), (3, .int _)] rfl (lp 61 _ (by omega) (by omega) (by omega))
theorem ct_X5_reckon (E : jf_E) (σ : jf_S) (hI : xI σ) (hO : xO σ) : jf_V jh_X E yX5_reckon cX5_reckon 6 2 [jf_r E 6] σ (fun τ => xS_l σ τ ∧ xO τ) := by
  refine jf_mkV (by decide) (Nat.le_of_ble_eq_true rfl) ?_
  intro G C ret
  have lp : ∀ (m : Nat) (τ : jf_S) (n o : Int32), xS_l σ τ ∧ xO τ → 0 ≤ o.toInt → o.toInt ≤ (60 : Int) → (60 : Int) - o.toInt < m → (n.toInt ≤ 60) → jf_X jh_X E G 6 7 [(0, jf_r E 6), (1, .int n), (2, .int o)] [] τ := by
    intro m
    induction m with
    | zero => intro τ n o z g1 g2 g3 x1; exfalso; omega
    | succ m ih =>
      intro τ n o z g1 g2 g3 x1
      have e1 := ji_inc (k := o) (by omega)
      have hT := xS_l_I z.1 hI
      refine jr_iload_n C dX5_reckon_7 rfl ?_
      refine jr_iload_n C dX5_reckon_8 rfl ?_
      refine jr_ncmp_ge C 100 dX5_reckon_9 (by decide) rfl rfl (fun b9 => ?_) (fun b9 => ?_)
      · exact ret _ _ _ dX5_reckon_100 (z)
      · refine jr_aload_n C dX5_reckon_12 rfl ?_
        refine jr_getr C kf_X5_9_6 dX5_reckon_13 ?_
        refine jr_iload_n C dX5_reckon_16 rfl ?_
        refine jr_ialv C ka_X_37 dX5_reckon_17 (ji_in (i := o) (by omega) (by omega)) (v := τ.1 37 _) rfl ?_
        refine jr_istore_n C dX5_reckon_18 (by decide) ?_
        refine jr_aload_n C dX5_reckon_19 rfl ?_
        refine jr_iload_n C dX5_reckon_20 rfl ?_
        refine jr_vi C [.int _] _ (ct_X5_hallFree E _ _ hT z.2 ⟨by omega, by omega⟩) ky_X5_hallFree kv_X5_hallFree kk_X_6 km_X5_41 (by decide) rfl (Nat.le_of_ble_eq_true rfl) dX5_reckon_21 (fun r21 τ21 h21 => ?_)
        subst h21
        refine jr_aload_n C dX5_reckon_24 rfl ?_
        refine jr_iload_n C dX5_reckon_25 rfl ?_
        refine jr_vi C [.int _] _ (ct_X5_printFree E _ _ hT z.2 ⟨by omega, by omega⟩) ky_X5_printFree kv_X5_printFree kk_X_6 km_X5_45 (by decide) rfl (Nat.le_of_ble_eq_true rfl) dX5_reckon_26 (fun r26 τ26 h26 => ?_)
        subst h26
        refine jr_mmax C km_X5_48 (by decide) (Nat.le_of_ble_eq_true rfl) dX5_reckon_29 ?_
        refine jr_istore C dX5_reckon_32 (by decide) ?_
        refine jr_aload_n C dX5_reckon_34 rfl ?_
        refine jr_getr C kf_X5_33_6 dX5_reckon_35 ?_
        refine jr_getr C kf_X5_54_3 dX5_reckon_38 ?_
        refine jr_iload_n C dX5_reckon_41 rfl ?_
        refine jr_ialv C ka_X_27 dX5_reckon_42 (ji_in (z.2 _).1 (z.2 _).2) (v := τ.1 27 _) rfl ?_
        refine jr_iload C dX5_reckon_43 rfl ?_
        refine jr_mmax C km_X5_48 (by decide) (Nat.le_of_ble_eq_true rfl) dX5_reckon_45 ?_
        refine jr_istore C dX5_reckon_48 (by decide) ?_
        refine jr_aload_n C dX5_reckon_50 rfl ?_
        refine jr_getr C kf_X5_15_6 dX5_reckon_51 ?_
        refine jr_iload_n C dX5_reckon_54 rfl ?_
        refine jr_iload C dX5_reckon_55 rfl ?_
        refine jr_iast C ka_X_38 dX5_reckon_57 (ji_in (z.2 _).1 (z.2 _).2) ?_
        refine jr_aload_n C dX5_reckon_58 rfl ?_
        refine jr_getr C kf_X5_18_6 dX5_reckon_59 ?_
        refine jr_iload_n C dX5_reckon_62 rfl ?_
        refine jr_iload C dX5_reckon_63 rfl ?_
        refine jr_aload_n C dX5_reckon_65 rfl ?_
        refine jr_getr C kf_X5_29_6 dX5_reckon_66 ?_
        refine jr_getr C kf_X5_59_2 dX5_reckon_69 ?_
        refine jr_aload_n C dX5_reckon_72 rfl ?_
        refine jr_getr C kf_X5_33_6 dX5_reckon_73 ?_
        refine jr_getr C kf_X5_64_3 dX5_reckon_76 ?_
        refine jr_iload_n C dX5_reckon_79 rfl ?_
        refine jr_ialv C ka_X_25 dX5_reckon_80 (ji_in (z.2 _).1 (z.2 _).2) (v := τ.1 25 _) rfl ?_
        refine jr_ialv C ka_X_17 dX5_reckon_81 (ji_in (xI_film hT _).1 (xI_film hT _).2) (v := τ.1 17 _) rfl ?_
        refine jr_iadd C dX5_reckon_82 ?_
        refine jr_aload_n C dX5_reckon_83 rfl ?_
        refine jr_getr C kf_X5_33_6 dX5_reckon_84 ?_
        refine jr_getr C kf_X5_67_3 dX5_reckon_87 ?_
        refine jr_iload_n C dX5_reckon_90 rfl ?_
        refine jr_ialv C ka_X_30 dX5_reckon_91 (ji_in (z.2 _).1 (z.2 _).2) (v := τ.1 30 _) rfl ?_
        refine jr_iadd C dX5_reckon_92 ?_
        refine jr_iast C ka_X_39 dX5_reckon_93 (ji_in (z.2 _).1 (z.2 _).2) ?_
        refine jr_iinc C _ dX5_reckon_94 rfl rfl (by decide) ?_
        refine jr_goto C 7 dX5_reckon_97 (by decide) ?_
        exact jr_sub [(0, jf_r E 6), (1, .int _), (2, .int _)] rfl (ih _ _ _ ⟨xS_l_a (xS_l_a z.1 (by decide)) (by decide), xO_o (xO_o z.2 (by decide)) (by decide)⟩ (by omega) (by omega) (by omega) (by omega))
  refine jr_aload_n C dX5_reckon_0 rfl ?_
  refine jr_vi C [] _ (ct_X5_sortByBegin E _ hI hO) ky_X5_sortByBegin kv_X5_sortByBegin kk_X_6 km_X5_37 (by decide) rfl (Nat.le_of_ble_eq_true rfl) dX5_reckon_1 (fun r1 τ1 h1 => ?_)
  refine jr_istore_n C dX5_reckon_4 (by decide) ?_
  refine jr_iconst C (v := 0) dX5_reckon_5 (by decide) ?_
  refine jr_istore_n C dX5_reckon_6 (by decide) ?_
  exact jr_sub [(0, jf_r E 6), (1, .int _), (2, .int _)] rfl (lp 61 _ _ _ h1.2 (by decide) (by decide) (by decide) h1.1.2)
def xS_6 (σ τ : jf_S) : Prop := τ.2 = σ.2 ∧ (∀ k, k ≠ 6 → τ.1 k = σ.1 k) ∧ (∀ j, j < 7 → τ.1 6 j = σ.1 6 j)
theorem xS_6_r (σ : jf_S) : xS_6 σ σ := ⟨rfl, fun _ _ => rfl, fun _ _ => rfl⟩
theorem xS_6_i {σ τ : jf_S} (h : xS_6 σ τ) {j : Nat} {v : Int32} (hj : 7 ≤ j) : xS_6 σ (jf_i τ 6 j v) := by
  refine ⟨h.1, fun k a => ?_, fun i a => ?_⟩
  · rw [jf_i_o k a]; exact h.2.1 k a
  · rw [jf_i_at]; unfold upd; rw [if_neg (by omega)]; exact h.2.2 i a
theorem xS_6_l {σ τ : jf_S} (h : xS_6 σ τ) : xS_l σ τ := ⟨h.1, fun k a _ _ _ => h.2.1 k a, h.2.2⟩
theorem xS_6_O {σ τ : jf_S} (h : xS_6 σ τ) (hO : xO σ) : xO τ := by
  unfold xO
  rw [h.2.1 37 (by decide)]
  exact hO
theorem ct_X5_step (E : jf_E) (σ : jf_S) (s k : Int32) (hI : xI σ) (s0 : 0 ≤ s.toInt ∧ s.toInt < 60) (k0 : k.toInt ≤ 400) : jf_V jh_X E yX5_step cX5_step 7 1 [jf_r E 6, .int s, .int k] σ (fun τ => xS_6 σ τ) := by
  refine jf_mkV (by decide) (Nat.le_of_ble_eq_true rfl) ?_
  intro G C ret
  have lp : ∀ (m : Nat) (τ : jf_S) (a b i : Int32), xS_6 σ τ → -40 ≤ i.toInt → i.toInt ≤ 401 → 401 - i.toInt < m → jf_X jh_X E G 7 50 [(0, jf_r E 6), (1, .int s), (2, .int k), (3, .int a), (4, .int b), (5, .int i)] [] τ := by
    intro m
    induction m with
    | zero => intro τ a b i z g1 g2 g3; exfalso; omega
    | succ m ih =>
      intro τ a b i z g1 g2 g3
      have e1 := ji_inc (k := i) (by omega)
      refine jr_iload C dX5_step_50 rfl ?_
      refine jr_iload_n C dX5_step_52 rfl ?_
      refine jr_ncmp_gt C 159 dX5_step_53 (by decide) rfl rfl (fun b53 => ?_) (fun b53 => ?_)
      · exact ret _ _ _ dX5_step_159 (z)
      · refine jr_iload C dX5_step_56 rfl ?_
        refine jr_bipush C (v := 10) dX5_step_58 (by decide) ?_
        refine jr_ncmp_gt C (b := 10) 90 dX5_step_60 (by decide) rfl rfl (fun b60 => ?_) (fun b60 => ?_)
        · refine jr_iload C dX5_step_90 rfl ?_
          refine jr_iload_n C dX5_step_92 rfl ?_
          refine jr_bipush C (v := 30) dX5_step_93 (by decide) ?_
          refine jr_isub C dX5_step_95 ?_
          refine jr_ncmp_lt C 153 dX5_step_96 (by decide) rfl rfl (fun b96 => ?_) (fun b96 => ?_)
          · refine jr_iinc C _ dX5_step_153 rfl rfl (by decide) ?_
            refine jr_goto C 50 dX5_step_156 (by decide) ?_
            exact jr_sub [(0, jf_r E 6), (1, .int s), (2, .int k), (3, .int a), (4, .int b), (5, .int _)] rfl (ih _ _ _ _ (by repeat' (with_reducible first | exact z | refine xS_6_i ?_ (by decide))) (by omega) (by omega) (by omega))
          · refine jr_iload C dX5_step_99 rfl ?_
            refine jr_iload_n C dX5_step_101 rfl ?_
            refine jr_bipush C (v := 10) dX5_step_102 (by decide) ?_
            refine jr_iadd C dX5_step_104 ?_
            refine jr_ncmp_gt C 153 dX5_step_105 (by decide) rfl rfl (fun b105 => ?_) (fun b105 => ?_)
            · refine jr_iinc C _ dX5_step_153 rfl rfl (by decide) ?_
              refine jr_goto C 50 dX5_step_156 (by decide) ?_
              exact jr_sub [(0, jf_r E 6), (1, .int s), (2, .int k), (3, .int a), (4, .int b), (5, .int _)] rfl (ih _ _ _ _ (by repeat' (with_reducible first | exact z | refine xS_6_i ?_ (by decide))) (by omega) (by omega) (by omega))
            · refine jr_aload_n C dX5_step_108 rfl ?_
              refine jr_getv C kf_X5_21_6 dX5_step_109 (v := τ.1 6 6) rfl ?_
              refine jr_aload_n C dX5_step_112 rfl ?_
              refine jr_getv C kf_X5_94_6 dX5_step_113 (v := τ.1 6 8) rfl ?_
              refine jr_mmin C km_X5_100 (by decide) (Nat.le_of_ble_eq_true rfl) dX5_step_116 ?_
              refine jr_iload C dX5_step_119 rfl ?_
              refine jr_aload_n C dX5_step_121 rfl ?_
              refine jr_getv C kf_X5_91_6 dX5_step_122 (v := τ.1 6 7) rfl ?_
              refine jr_isub C dX5_step_125 ?_
              refine jr_mmin C km_X5_100 (by decide) (Nat.le_of_ble_eq_true rfl) dX5_step_126 ?_
              refine jr_istore C dX5_step_129 (by decide) ?_
              refine jr_aload_n C dX5_step_131 rfl ?_
              refine jr_dup C dX5_step_132 rfl ?_
              refine jr_getv C kf_X5_91_6 dX5_step_133 (v := τ.1 6 7) rfl ?_
              refine jr_iload C dX5_step_136 rfl ?_
              refine jr_iadd C dX5_step_138 ?_
              refine jr_puti C kp_X5_91_6 dX5_step_139 ?_
              refine jr_aload_n C dX5_step_142 rfl ?_
              refine jr_dup C dX5_step_143 rfl ?_
              refine jr_getv C kf_X5_94_6 dX5_step_144 (v := τ.1 6 8) rfl ?_
              refine jr_iload C dX5_step_147 rfl ?_
              refine jr_isub C dX5_step_149 ?_
              refine jr_puti C kp_X5_94_6 dX5_step_150 ?_
              refine jr_iinc C _ dX5_step_153 rfl rfl (by decide) ?_
              refine jr_goto C 50 dX5_step_156 (by decide) ?_
              exact jr_sub [(0, jf_r E 6), (1, .int s), (2, .int k), (3, .int a), (4, .int b), (5, .int _)] rfl (ih _ _ _ _ (by repeat' (with_reducible first | exact z | refine xS_6_i ?_ (by decide))) (by omega) (by omega) (by omega))
        · refine jr_aload_n C dX5_step_63 rfl ?_
          refine jr_dup C dX5_step_64 rfl ?_
          refine jr_getv C kf_X5_94_6 dX5_step_65 (v := τ.1 6 8) rfl ?_
          refine jr_aload_n C dX5_step_68 rfl ?_
          refine jr_getr C kf_X5_33_6 dX5_step_69 ?_
          refine jr_getr C kf_X5_97_3 dX5_step_72 ?_
          refine jr_iload_n C dX5_step_75 rfl ?_
          refine jr_bipush C (v := 51) dX5_step_76 (by decide) ?_
          refine jr_imul C dX5_step_78 ?_
          refine jr_iload C dX5_step_79 rfl ?_
          refine jr_iadd C dX5_step_81 ?_
          refine jr_bipush C (v := -40) dX5_step_82 (by decide) ?_
          refine jr_isub C dX5_step_84 ?_
          refine jr_ialv C ka_X_32 dX5_step_85 (ji_linr3 51 (-40) rfl rfl (by omega) (by omega) (by omega)) (v := τ.1 32 _) rfl ?_
          refine jr_iadd C dX5_step_86 ?_
          refine jr_puti C kp_X5_94_6 dX5_step_87 ?_
          refine jr_iload C dX5_step_90 rfl ?_
          refine jr_iload_n C dX5_step_92 rfl ?_
          refine jr_bipush C (v := 30) dX5_step_93 (by decide) ?_
          refine jr_isub C dX5_step_95 ?_
          refine jr_ncmp_lt C 153 dX5_step_96 (by decide) rfl rfl (fun b96 => ?_) (fun b96 => ?_)
          · refine jr_iinc C _ dX5_step_153 rfl rfl (by decide) ?_
            refine jr_goto C 50 dX5_step_156 (by decide) ?_
            exact jr_sub [(0, jf_r E 6), (1, .int s), (2, .int k), (3, .int a), (4, .int b), (5, .int _)] rfl (ih _ _ _ _ (by repeat' (with_reducible first | exact z | refine xS_6_i ?_ (by decide))) (by omega) (by omega) (by omega))
          · refine jr_iload C dX5_step_99 rfl ?_
            refine jr_iload_n C dX5_step_101 rfl ?_
            refine jr_bipush C (v := 10) dX5_step_102 (by decide) ?_
            refine jr_iadd C dX5_step_104 ?_
            refine jr_ncmp_gt C 153 dX5_step_105 (by decide) rfl rfl (fun b105 => ?_) (fun b105 => ?_)
            · refine jr_iinc C _ dX5_step_153 rfl rfl (by decide) ?_
              refine jr_goto C 50 dX5_step_156 (by decide) ?_
              exact jr_sub [(0, jf_r E 6), (1, .int s), (2, .int k), (3, .int a), (4, .int b), (5, .int _)] rfl (ih _ _ _ _ (by repeat' (with_reducible first | exact z | refine xS_6_i ?_ (by decide))) (by omega) (by omega) (by omega))
            · refine jr_aload_n C dX5_step_108 rfl ?_
              refine jr_getv C kf_X5_21_6 dX5_step_109 (v := τ.1 6 6) rfl ?_
              refine jr_aload_n C dX5_step_112 rfl ?_
              refine jr_geti C kf_X5_94_6 dX5_step_113 ?_
              refine jr_mmin C km_X5_100 (by decide) (Nat.le_of_ble_eq_true rfl) dX5_step_116 ?_
              refine jr_iload C dX5_step_119 rfl ?_
              refine jr_aload_n C dX5_step_121 rfl ?_
              refine jr_getv C kf_X5_91_6 dX5_step_122 (v := τ.1 6 7) rfl ?_
              refine jr_isub C dX5_step_125 ?_
              refine jr_mmin C km_X5_100 (by decide) (Nat.le_of_ble_eq_true rfl) dX5_step_126 ?_
              refine jr_istore C dX5_step_129 (by decide) ?_
              refine jr_aload_n C dX5_step_131 rfl ?_
              refine jr_dup C dX5_step_132 rfl ?_
              refine jr_getv C kf_X5_91_6 dX5_step_133 (v := τ.1 6 7) rfl ?_
              refine jr_iload C dX5_step_136 rfl ?_
              refine jr_iadd C dX5_step_138 ?_
              refine jr_puti C kp_X5_91_6 dX5_step_139 ?_
              refine jr_aload_n C dX5_step_142 rfl ?_
              refine jr_dup C dX5_step_143 rfl ?_
              refine jr_geti C kf_X5_94_6 dX5_step_144 ?_
              refine jr_iload C dX5_step_147 rfl ?_
              refine jr_isub C dX5_step_149 ?_
              refine jr_puti C kp_X5_94_6 dX5_step_150 ?_
              refine jr_iinc C _ dX5_step_153 rfl rfl (by decide) ?_
              refine jr_goto C 50 dX5_step_156 (by decide) ?_
              exact jr_sub [(0, jf_r E 6), (1, .int s), (2, .int k), (3, .int a), (4, .int b), (5, .int _)] rfl (ih _ _ _ _ (by repeat' (with_reducible first | exact z | refine xS_6_i ?_ (by decide))) (by omega) (by omega) (by omega))
  refine jr_aload_n C dX5_step_0 rfl ?_
  refine jr_getr C kf_X5_15_6 dX5_step_1 ?_
  refine jr_iload_n C dX5_step_4 rfl ?_
  refine jr_ialv C ka_X_38 dX5_step_5 (ji_in s0.1 s0.2) (v := σ.1 38 _) rfl ?_
  refine jr_aload_n C dX5_step_6 rfl ?_
  refine jr_getr C kf_X5_33_6 dX5_step_7 ?_
  refine jr_getr C kf_X5_54_3 dX5_step_10 ?_
  refine jr_iload_n C dX5_step_13 rfl ?_
  refine jr_ialv C ka_X_27 dX5_step_14 (ji_in s0.1 s0.2) (v := σ.1 27 _) rfl ?_
  refine jr_isub C dX5_step_15 ?_
  refine jr_istore_n C dX5_step_16 (by decide) ?_
  refine jr_aload_n C dX5_step_17 rfl ?_
  refine jr_getr C kf_X5_25_6 dX5_step_18 ?_
  refine jr_getr C kf_X5_88_1 dX5_step_21 ?_
  refine jr_aload_n C dX5_step_24 rfl ?_
  refine jr_getr C kf_X5_33_6 dX5_step_25 ?_
  refine jr_getr C kf_X5_77_3 dX5_step_28 ?_
  refine jr_iload_n C dX5_step_31 rfl ?_
  refine jr_ialv C ka_X_26 dX5_step_32 (ji_in s0.1 s0.2) (v := σ.1 26 _) rfl ?_
  refine jr_ialv C ka_X_13 dX5_step_33 (ji_in (xI_hall hI _).1 (xI_hall hI _).2) (v := σ.1 13 _) rfl ?_
  refine jr_istore C dX5_step_34 (by decide) ?_
  refine jr_aload_n C dX5_step_36 rfl ?_
  refine jr_iconst C (v := 0) dX5_step_37 (by decide) ?_
  refine jr_puti C kp_X5_91_6 dX5_step_38 ?_
  refine jr_aload_n C dX5_step_41 rfl ?_
  refine jr_iconst C (v := 0) dX5_step_42 (by decide) ?_
  refine jr_puti C kp_X5_94_6 dX5_step_43 ?_
  refine jr_bipush C (v := -40) dX5_step_46 (by decide) ?_
  refine jr_istore C dX5_step_48 (by decide) ?_
  exact jr_sub [(0, jf_r E 6), (1, .int s), (2, .int k), (3, .int _), (4, .int _), (5, .int _)] rfl (lp 442 _ _ _ _ (xS_6_i (xS_6_i (xS_6_r σ) (by decide)) (by decide)) (by decide) (by decide) (by decide))

