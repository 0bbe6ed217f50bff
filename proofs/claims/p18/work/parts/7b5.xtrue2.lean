/-! the class: TRUE beginnings exactly -/
theorem xS_l_G {σ τ : jf_S} (h : xS_l σ τ) : x_G τ = x_G σ := g_V_eq (fun i h1 h2 => by
  have k : ∀ i, i < 23 → i ≠ 0 → x_cell.getD i 0 ≠ 6 ∧ x_cell.getD i 0 ≠ 37 ∧ x_cell.getD i 0 ≠ 38 ∧ x_cell.getD i 0 ≠ 39 := by decide
  exact h.2.1 _ (k i h1 h2).1 (k i h1 h2).2.1 (k i h1 h2).2.2.1 (k i h1 h2).2.2.2)
theorem xS_l_n {σ τ : jf_S} (h : xS_l σ τ) : x_N τ = x_N σ := by unfold x_N; rw [xS_l_e h]
theorem ct_X5_sortByBegin2 (E : jf_E) (σ : jf_S) (hI : xI σ) (hO : xO σ) : jf_I jh_X E yX5_sortByBegin cX5_sortByBegin 4 .int 0 [jf_r E 6] σ (fun r τ => (0 ≤ r.toInt ∧ r.toInt ≤ 60) ∧ xS_l σ τ ∧ xO τ ∧ g_or (x_G σ) ((τ.1 37)) r.toNatClampNeg (x_N σ)) := by
  refine jf_mkI (by decide) (Nat.le_of_ble_eq_true rfl) ?_
  intro G C ret
  have hE := hI.1
  have te := ji_tn hE.1
  have l29 : ∀ (m : Nat) (τ : jf_S) (n s p : Int32) (A : Nat → Int32), xS_l σ τ ∧ xO τ → 0 ≤ p.toInt → p.toInt ≤ n.toInt → n.toInt ≤ s.toInt → s.toInt < 60 → p.toInt < m → g_or (x_G σ) A n.toNatClampNeg s.toNatClampNeg → ¬ ((σ.1 31) s.toNatClampNeg).toInt = 0 → g_sf A ((τ.1 37)) p.toNatClampNeg n.toNatClampNeg → (∀ j, p.toNatClampNeg ≤ j → j < n.toNatClampNeg → (x_G σ 17 s.toNatClampNeg).toInt < (x_G σ 17 (A j).toNatClampNeg).toInt) → (∀ υ : jf_S, xS_l σ υ ∧ xO υ → g_or (x_G σ) ((υ.1 37)) (n.toNatClampNeg + 1) (s.toNatClampNeg + 1) → jf_X jh_X E G 4 4 [(0, jf_r E 6), (1, .int (n + Int32.ofInt 1)), (2, .int (s + Int32.ofInt 1))] [] υ) → jf_X jh_X E G 4 29 [(0, jf_r E 6), (1, .int n), (2, .int s), (3, .int p)] [] τ := by
    intro m
    induction m with
    | zero => intro τ n s p A z g1 g2 g3 g4 g5 h1 h2 h3 h4 K; exfalso; omega
    | succ m ih =>
      intro τ n s p A z g1 g2 g3 g4 g5 h1 h2 h3 h4 K
      have e1 := ji_dec (k := p) (by omega)
      have e2 := ji_dec1 (k := p) (by omega)
      have tp := ji_tn g1
      have tn := ji_tn (x := n) (by omega)
      have ts := ji_tn (x := s) (by omega)
      have eB : (τ.1 27) = (σ.1 27) := z.1.2.1 27 (by decide) (by decide) (by decide) (by decide)
      have fin : (p.toNatClampNeg = 0 ∨ ∃ q, p.toNatClampNeg = q + 1 ∧ (x_G σ 17 (A q).toNatClampNeg).toInt ≤ (x_G σ 17 s.toNatClampNeg).toInt) → jf_X jh_X E G 4 4 [(0, jf_r E 6), (1, .int (n + Int32.ofInt 1)), (2, .int (s + Int32.ofInt 1))] [] (jf_i τ 37 p.toNatClampNeg s) := fun q => K _ ⟨xS_l_a z.1 (by decide), xO_i z.2 ⟨by omega, g4⟩⟩ (by show g_or (x_G σ) ((jf_i τ 37 p.toNatClampNeg s).1 37) _ _; rw [jf_i_at]; exact g_or_y h1 (by omega) h2 (by omega) h3 h4 q)
      have bk : 0 < p.toInt → ((τ.1 27) s.toNatClampNeg).toInt < ((τ.1 27) ((τ.1 37) (p - 1).toNatClampNeg).toNatClampNeg).toInt → jf_X jh_X E G 4 29 [(0, jf_r E 6), (1, .int n), (2, .int s), (3, .int (p + Int32.ofInt (-1)))] [] (jf_i τ 37 p.toNatClampNeg ((τ.1 37) (p - 1).toNatClampNeg)) := by
        intro q0 q1
        have t1 : (p - 1).toNatClampNeg + 1 = p.toNatClampNeg := by have := ji_tn (x := p - 1) (by omega); omega
        have t2 : (p + Int32.ofInt (-1)).toNatClampNeg = (p - 1).toNatClampNeg := by have a := ji_tn (x := p - 1) (by omega); have b := ji_tn (x := p + Int32.ofInt (-1)) (by omega); omega
        have eA : (τ.1 37) (p - 1).toNatClampNeg = A (p - 1).toNatClampNeg := h3.1 _ (by omega)
        refine ih _ _ _ _ A ⟨xS_l_a z.1 (by decide), xO_i z.2 (z.2 _)⟩ (by omega) (by omega) g3 g4 (by omega) h1 h2 ?_ ?_ K
        · show g_sf A ((jf_i τ 37 p.toNatClampNeg ((τ.1 37) (p - 1).toNatClampNeg)).1 37) _ _
          rw [jf_i_at, t2]
          exact g_sf_s h3 t1.symm
        · intro j j1 j2
          rw [t2] at j1
          by_cases e : j = (p - 1).toNatClampNeg
          · rw [eB, eA] at q1; rw [e]; exact q1
          · exact h4 j (by omega) j2
      refine jr_iload_n C dX5_sortByBegin_29 rfl ?_
      refine jr_nif_le C 81 dX5_sortByBegin_30 (by decide) (fun b30 => ?_) (fun b30 => ?_)
      · refine jr_aload_n C dX5_sortByBegin_81 rfl ?_
        refine jr_getr C kf_X5_9_6 dX5_sortByBegin_82 ?_
        refine jr_iload_n C dX5_sortByBegin_85 rfl ?_
        refine jr_iload_n C dX5_sortByBegin_86 rfl ?_
        refine jr_iast C ka_X_37 dX5_sortByBegin_87 (ji_in (i := p) (by omega) (by omega)) ?_
        refine jr_iinc C _ dX5_sortByBegin_88 rfl rfl (by decide) ?_
        refine jr_iinc C _ dX5_sortByBegin_91 rfl rfl (by decide) ?_
        refine jr_goto C 4 dX5_sortByBegin_94 (by decide) ?_
        first | (have q9 : p.toNatClampNeg = 0 := by omega); exact jr_sub [(0, jf_r E 6), (1, .int (n + Int32.ofInt 1)), (2, .int (s + Int32.ofInt 1))] rfl (fin (Or.inl q9)) | exact jr_sub [(0, jf_r E 6), (1, .int (n + Int32.ofInt 1)), (2, .int (s + Int32.ofInt 1))] rfl (fin (Or.inr ⟨(p - 1).toNatClampNeg, by have := ji_tn (x := p - 1) (by omega); omega, by have eA : (τ.1 37) (p - 1).toNatClampNeg = A (p - 1).toNatClampNeg := h3.1 _ (by have := ji_tn (x := p - 1) (by omega); omega); have q := b58; rw [eB, eA] at q; exact q⟩))
      · refine jr_aload_n C dX5_sortByBegin_33 rfl ?_
        refine jr_getr C kf_X5_33_6 dX5_sortByBegin_34 ?_
        refine jr_getr C kf_X5_54_3 dX5_sortByBegin_37 ?_
        refine jr_aload_n C dX5_sortByBegin_40 rfl ?_
        refine jr_getr C kf_X5_9_6 dX5_sortByBegin_41 ?_
        refine jr_iload_n C dX5_sortByBegin_44 rfl ?_
        refine jr_iconst C (v := 1) dX5_sortByBegin_45 (by decide) ?_
        refine jr_isub C dX5_sortByBegin_46 ?_
        refine jr_ialv C ka_X_37 dX5_sortByBegin_47 (ji_in (i := p - 1) (by omega) (by omega)) (v := τ.1 37 _) rfl ?_
        refine jr_ialv C ka_X_27 dX5_sortByBegin_48 (ji_in (z.2 _).1 (z.2 _).2) (v := τ.1 27 _) rfl ?_
        refine jr_aload_n C dX5_sortByBegin_49 rfl ?_
        refine jr_getr C kf_X5_33_6 dX5_sortByBegin_50 ?_
        refine jr_getr C kf_X5_54_3 dX5_sortByBegin_53 ?_
        refine jr_iload_n C dX5_sortByBegin_56 rfl ?_
        refine jr_ialv C ka_X_27 dX5_sortByBegin_57 (ji_in (i := s) (by omega) (by omega)) (v := τ.1 27 _) rfl ?_
        refine jr_ncmp_le C 81 dX5_sortByBegin_58 (by decide) rfl rfl (fun b58 => ?_) (fun b58 => ?_)
        · refine jr_aload_n C dX5_sortByBegin_81 rfl ?_
          refine jr_getr C kf_X5_9_6 dX5_sortByBegin_82 ?_
          refine jr_iload_n C dX5_sortByBegin_85 rfl ?_
          refine jr_iload_n C dX5_sortByBegin_86 rfl ?_
          refine jr_iast C ka_X_37 dX5_sortByBegin_87 (ji_in (i := p) (by omega) (by omega)) ?_
          refine jr_iinc C _ dX5_sortByBegin_88 rfl rfl (by decide) ?_
          refine jr_iinc C _ dX5_sortByBegin_91 rfl rfl (by decide) ?_
          refine jr_goto C 4 dX5_sortByBegin_94 (by decide) ?_
          first | (have q9 : p.toNatClampNeg = 0 := by omega); exact jr_sub [(0, jf_r E 6), (1, .int (n + Int32.ofInt 1)), (2, .int (s + Int32.ofInt 1))] rfl (fin (Or.inl q9)) | exact jr_sub [(0, jf_r E 6), (1, .int (n + Int32.ofInt 1)), (2, .int (s + Int32.ofInt 1))] rfl (fin (Or.inr ⟨(p - 1).toNatClampNeg, by have := ji_tn (x := p - 1) (by omega); omega, by have eA : (τ.1 37) (p - 1).toNatClampNeg = A (p - 1).toNatClampNeg := h3.1 _ (by have := ji_tn (x := p - 1) (by omega); omega); have q := b58; rw [eB, eA] at q; exact q⟩))
        · refine jr_aload_n C dX5_sortByBegin_61 rfl ?_
          refine jr_getr C kf_X5_9_6 dX5_sortByBegin_62 ?_
          refine jr_iload_n C dX5_sortByBegin_65 rfl ?_
          refine jr_aload_n C dX5_sortByBegin_66 rfl ?_
          refine jr_getr C kf_X5_9_6 dX5_sortByBegin_67 ?_
          refine jr_iload_n C dX5_sortByBegin_70 rfl ?_
          refine jr_iconst C (v := 1) dX5_sortByBegin_71 (by decide) ?_
          refine jr_isub C dX5_sortByBegin_72 ?_
          refine jr_ialv C ka_X_37 dX5_sortByBegin_73 (ji_in (i := p - 1) (by omega) (by omega)) (v := τ.1 37 _) rfl ?_
          refine jr_iast C ka_X_37 dX5_sortByBegin_74 (ji_in (i := p) (by omega) (by omega)) ?_
          refine jr_iinc C _ dX5_sortByBegin_75 rfl rfl (by decide) ?_
          refine jr_goto C 29 dX5_sortByBegin_78 (by decide) ?_
          exact jr_sub [(0, jf_r E 6), (1, .int n), (2, .int s), (3, .int _)] rfl (bk (by omega) (by omega))
  have lp : ∀ (m : Nat) (τ : jf_S) (n o : Int32), xS_l σ τ ∧ xO τ → 0 ≤ o.toInt → o.toInt ≤ ((σ.1 3 8)).toInt → ((σ.1 3 8)).toInt - o.toInt < m → (0 ≤ n.toInt) → (n.toInt ≤ o.toInt) → (g_or (x_G σ) ((τ.1 37)) n.toNatClampNeg o.toNatClampNeg) → jf_X jh_X E G 4 4 [(0, jf_r E 6), (1, .int n), (2, .int o)] [] τ := by
    intro m
    induction m with
    | zero => intro τ n o z g1 g2 g3 x1 x2 x3; exfalso; omega
    | succ m ih =>
      intro τ n o z g1 g2 g3 x1 x2 x3
      have e1 := ji_inc (k := o) (by omega)
      have c1 := congrArg Int32.toInt (xS_l_e z.1)
      have c2 : (τ.1 31) = (σ.1 31) := z.1.2.1 31 (by decide) (by decide) (by decide) (by decide)
      have e2 := ji_inc (k := n) (by omega)
      refine jr_iload_n C dX5_sortByBegin_4 rfl ?_
      refine jr_aload_n C dX5_sortByBegin_5 rfl ?_
      refine jr_getr C kf_X5_33_6 dX5_sortByBegin_6 ?_
      refine jr_getv C kf_X5_70_3 dX5_sortByBegin_9 (v := τ.1 3 8) rfl ?_
      refine jr_ncmp_ge C 97 dX5_sortByBegin_12 (by decide) rfl rfl (fun b12 => ?_) (fun b12 => ?_)
      · refine jr_iload_n C dX5_sortByBegin_97 rfl ?_
        exact ret _ _ _ _ dX5_sortByBegin_98 rfl (by (have eo : o.toNatClampNeg = x_N σ := by have := ji_tn g1; unfold x_N; omega); rw [eo] at x3; exact ⟨⟨by omega, by omega⟩, z.1, z.2, x3⟩)
      · refine jr_aload_n C dX5_sortByBegin_15 rfl ?_
        refine jr_getr C kf_X5_33_6 dX5_sortByBegin_16 ?_
        refine jr_getr C kf_X5_73_3 dX5_sortByBegin_19 ?_
        refine jr_iload_n C dX5_sortByBegin_22 rfl ?_
        refine jr_zalv C ka_X_31 dX5_sortByBegin_23 (ji_in (i := o) (by omega) (by omega)) (v := τ.1 31 _) rfl ?_
        refine jr_nif_eq C 91 dX5_sortByBegin_24 (by decide) (fun b24 => ?_) (fun b24 => ?_)
        · refine jr_iinc C _ dX5_sortByBegin_91 rfl rfl (by decide) ?_
          refine jr_goto C 4 dX5_sortByBegin_94 (by decide) ?_
          exact jr_sub [(0, jf_r E 6), (1, .int _), (2, .int _)] rfl (ih _ _ _ z (by omega) (by omega) (by omega) (by omega) (by omega) (by rw [g_sc g1 e1]; exact g_or_n x3 (by rw [c2] at b24; exact b24)))
        · refine jr_iload_n C dX5_sortByBegin_27 rfl ?_
          refine jr_istore_n C dX5_sortByBegin_28 (by decide) ?_
          exact jr_sub [(0, jf_r E 6), (1, .int n), (2, .int o), (3, .int n)] rfl (l29 61 _ _ _ _ _ z x1 (by omega) x2 (by omega) (by omega) x3 (by rw [← c2]; exact b24) ⟨fun _ _ => rfl, fun j h1 h2 => absurd h2 (by omega)⟩ (fun j h1 h2 => absurd h2 (by omega)) (fun υ hz hq => ih _ _ _ hz (by omega) (by omega) (by omega) (by omega) (by omega) (by rw [g_sc g1 e1, g_sc x1 e2]; exact hq)))
  refine jr_iconst C (v := 0) dX5_sortByBegin_0 (by decide) ?_
  refine jr_istore_n C dX5_sortByBegin_1 (by decide) ?_
  refine jr_iconst C (v := 0) dX5_sortByBegin_2 (by decide) ?_
  refine jr_istore_n C dX5_sortByBegin_3 (by decide) ?_
  exact jr_sub [(0, jf_r E 6), (1, .int _), (2, .int _)] rfl (lp 61 _ _ _ ⟨xS_l_r σ, hO⟩ (by decide) hE.1 (by show _ - (0 : Int) < _; omega) (by decide) (by decide) ⟨fun j hj => absurd hj (Nat.not_lt_zero j), fun i j _ hj => absurd hj (Nat.not_lt_zero j), fun s hs => absurd hs (Nat.not_lt_zero s)⟩)
/-- what is found on the way back -/
def x_hq (σ : jf_S) (p : Nat) (r : Int32) : Prop := ((∀ j, j < p → ¬ ((σ.1 26) ((σ.1 37) j).toNatClampNeg).toInt = ((σ.1 26) ((σ.1 37) p).toNatClampNeg).toInt) ∧ r = 0) ∨ ∃ j, j < p ∧ ((σ.1 26) ((σ.1 37) j).toNatClampNeg).toInt = ((σ.1 26) ((σ.1 37) p).toNatClampNeg).toInt ∧ (∀ i, j < i → i < p → ¬ ((σ.1 26) ((σ.1 37) i).toNatClampNeg).toInt = ((σ.1 26) ((σ.1 37) p).toNatClampNeg).toInt) ∧ r = (σ.1 39) ((σ.1 37) j).toNatClampNeg + (σ.1 14) ((σ.1 26) ((σ.1 37) p).toNatClampNeg).toNatClampNeg
def x_pq (σ : jf_S) (p : Nat) (r : Int32) : Prop := ((∀ j, j < p → ¬ ((σ.1 25) ((σ.1 37) j).toNatClampNeg).toInt = ((σ.1 25) ((σ.1 37) p).toNatClampNeg).toInt) ∧ r = 0) ∨ ∃ j, j < p ∧ ((σ.1 25) ((σ.1 37) j).toNatClampNeg).toInt = ((σ.1 25) ((σ.1 37) p).toNatClampNeg).toInt ∧ (∀ i, j < i → i < p → ¬ ((σ.1 25) ((σ.1 37) i).toNatClampNeg).toInt = ((σ.1 25) ((σ.1 37) p).toNatClampNeg).toInt) ∧ r = (σ.1 39) ((σ.1 37) j).toNatClampNeg + (σ.1 16) ((σ.1 12) ((σ.1 26) ((σ.1 37) j).toNatClampNeg).toNatClampNeg * 5 + (σ.1 12) ((σ.1 26) ((σ.1 37) p).toNatClampNeg).toNatClampNeg).toNatClampNeg
theorem ct_X5_hallFree2 (E : jf_E) (σ : jf_S) (p : Int32) (hI : xI σ) (hO : xO σ) (p0 : 0 ≤ p.toInt ∧ p.toInt < 60) : jf_I jh_X E yX5_hallFree cX5_hallFree 5 .int 0 [jf_r E 6, .int p] σ (fun r τ => x_hq σ p.toNatClampNeg r ∧ σ = τ) := by
  refine jf_mkI (by decide) (Nat.le_of_ble_eq_true rfl) ?_
  intro G C ret
  have tp := ji_tn p0.1
  have lp : ∀ (m : Nat) (i : Int32), -1 ≤ i.toInt → i.toInt < p.toInt → i.toInt < m → (∀ j : Nat, i.toInt < (j : Int) → j < p.toNatClampNeg → ¬ ((σ.1 26) ((σ.1 37) j).toNatClampNeg).toInt = ((σ.1 26) ((σ.1 37) p.toNatClampNeg).toNatClampNeg).toInt) → jf_X jh_X E G 5 19 [(0, jf_r E 6), (1, .int p), (2, .int ((σ.1 26) ((σ.1 37) p.toNatClampNeg).toNatClampNeg)), (3, .int i)] [] σ := by
    intro m
    induction m with
    | zero =>
      intro i g1 g2 g3 g4
      refine jr_iload_n C dX5_hallFree_19 rfl ?_
      refine jr_nif_lt C 69 dX5_hallFree_20 (by decide) (fun b20 => ?_) (fun b20 => (by exfalso; omega))
      refine jr_iconst C (v := 0) dX5_hallFree_69 (by decide) ?_
      exact ret _ _ _ _ dX5_hallFree_70 rfl (⟨Or.inl ⟨fun j hj => g4 j (by omega) hj, rfl⟩, rfl⟩)
    | succ m ih =>
      intro i g1 g2 g3 g4
      have e1 := ji_dec (k := i) (by omega)
      refine jr_iload_n C dX5_hallFree_19 rfl ?_
      refine jr_nif_lt C 69 dX5_hallFree_20 (by decide) (fun b20 => ?_) (fun b20 => ?_)
      · refine jr_iconst C (v := 0) dX5_hallFree_69 (by decide) ?_
        exact ret _ _ _ _ dX5_hallFree_70 rfl (⟨Or.inl ⟨fun j hj => g4 j (by omega) hj, rfl⟩, rfl⟩)
      · refine jr_aload_n C dX5_hallFree_23 rfl ?_
        refine jr_getr C kf_X5_9_6 dX5_hallFree_24 ?_
        refine jr_iload_n C dX5_hallFree_27 rfl ?_
        refine jr_ialv C ka_X_37 dX5_hallFree_28 (ji_in (i := i) (by omega) (by omega)) (v := σ.1 37 _) rfl ?_
        refine jr_istore C dX5_hallFree_29 (by decide) ?_
        refine jr_aload_n C dX5_hallFree_31 rfl ?_
        refine jr_getr C kf_X5_33_6 dX5_hallFree_32 ?_
        refine jr_getr C kf_X5_77_3 dX5_hallFree_35 ?_
        refine jr_iload C dX5_hallFree_38 rfl ?_
        refine jr_ialv C ka_X_26 dX5_hallFree_40 (ji_in (hO _).1 (hO _).2) (v := σ.1 26 _) rfl ?_
        refine jr_iload_n C dX5_hallFree_41 rfl ?_
        refine jr_ncmp_ne C 63 dX5_hallFree_42 (by decide) rfl rfl (fun b42 => ?_) (fun b42 => ?_)
        · refine jr_iinc C _ dX5_hallFree_63 rfl rfl (by decide) ?_
          refine jr_goto C 19 dX5_hallFree_66 (by decide) ?_
          exact jr_sub [(0, jf_r E 6), (1, .int p), (2, .int ((σ.1 26) ((σ.1 37) p.toNatClampNeg).toNatClampNeg)), (3, .int _)] rfl (ih _ (by omega) (by omega) (by omega) (fun j h1 h2 => by by_cases e : j = i.toNatClampNeg; (rw [e]; exact b42); exact g4 j (by have := ji_tn (x := i) (by omega); omega) h2))
        · refine jr_aload_n C dX5_hallFree_45 rfl ?_
          refine jr_getr C kf_X5_18_6 dX5_hallFree_46 ?_
          refine jr_iload C dX5_hallFree_49 rfl ?_
          refine jr_ialv C ka_X_39 dX5_hallFree_51 (ji_in (hO _).1 (hO _).2) (v := σ.1 39 _) rfl ?_
          refine jr_aload_n C dX5_hallFree_52 rfl ?_
          refine jr_getr C kf_X5_25_6 dX5_hallFree_53 ?_
          refine jr_getr C kf_X5_80_1 dX5_hallFree_56 ?_
          refine jr_iload_n C dX5_hallFree_59 rfl ?_
          refine jr_ialv C ka_X_14 dX5_hallFree_60 (ji_in (xI_hall hI _).1 (xI_hall hI _).2) (v := σ.1 14 _) rfl ?_
          refine jr_iadd C dX5_hallFree_61 ?_
          exact ret _ _ _ _ dX5_hallFree_62 rfl (⟨Or.inr ⟨i.toNatClampNeg, by have := ji_tn (x := i) (by omega); omega, b42, fun j h1 h2 => g4 j (by have := ji_tn (x := i) (by omega); omega) h2, rfl⟩, rfl⟩)
  have e2 := ji_dec1 (k := p) (by omega)
  refine jr_aload_n C dX5_hallFree_0 rfl ?_
  refine jr_getr C kf_X5_33_6 dX5_hallFree_1 ?_
  refine jr_getr C kf_X5_77_3 dX5_hallFree_4 ?_
  refine jr_aload_n C dX5_hallFree_7 rfl ?_
  refine jr_getr C kf_X5_9_6 dX5_hallFree_8 ?_
  refine jr_iload_n C dX5_hallFree_11 rfl ?_
  refine jr_ialv C ka_X_37 dX5_hallFree_12 (ji_in p0.1 p0.2) (v := σ.1 37 _) rfl ?_
  refine jr_ialv C ka_X_26 dX5_hallFree_13 (ji_in (hO _).1 (hO _).2) (v := σ.1 26 _) rfl ?_
  refine jr_istore_n C dX5_hallFree_14 (by decide) ?_
  refine jr_iload_n C dX5_hallFree_15 rfl ?_
  refine jr_iconst C (v := 1) dX5_hallFree_16 (by decide) ?_
  refine jr_isub C dX5_hallFree_17 ?_
  refine jr_istore_n C dX5_hallFree_18 (by decide) ?_
  exact jr_sub [(0, jf_r E 6), (1, .int p), (2, .int ((σ.1 26) ((σ.1 37) p.toNatClampNeg).toNatClampNeg)), (3, .int _)] rfl (lp 61 _ (by omega) (by omega) (by omega) (fun j h1 h2 => absurd h2 (by omega)))
theorem ct_X5_printFree2 (E : jf_E) (σ : jf_S) (p : Int32) (hI : xI σ) (hO : xO σ) (p0 : 0 ≤ p.toInt ∧ p.toInt < 60) : jf_I jh_X E yX5_printFree cX5_printFree 5 .int 1 [jf_r E 6, .int p] σ (fun r τ => x_pq σ p.toNatClampNeg r ∧ σ = τ) := by
  refine jf_mkI (by decide) (Nat.le_of_ble_eq_true rfl) ?_
  intro G C ret
  have tp := ji_tn p0.1
  have lp : ∀ (m : Nat) (i : Int32), -1 ≤ i.toInt → i.toInt < p.toInt → i.toInt < m → (∀ j : Nat, i.toInt < (j : Int) → j < p.toNatClampNeg → ¬ ((σ.1 25) ((σ.1 37) j).toNatClampNeg).toInt = ((σ.1 25) ((σ.1 37) p.toNatClampNeg).toNatClampNeg).toInt) → jf_X jh_X E G 5 11 [(0, jf_r E 6), (1, .int p), (2, .int ((σ.1 37) p.toNatClampNeg)), (3, .int i)] [] σ := by
    intro m
    induction m with
    | zero =>
      intro i g1 g2 g3 g4
      refine jr_iload_n C dX5_printFree_11 rfl ?_
      refine jr_nif_lt C 86 dX5_printFree_12 (by decide) (fun b12 => ?_) (fun b12 => (by exfalso; omega))
      refine jr_iconst C (v := 0) dX5_printFree_86 (by decide) ?_
      exact ret _ _ _ _ dX5_printFree_87 rfl (⟨Or.inl ⟨fun j hj => g4 j (by omega) hj, rfl⟩, rfl⟩)
    | succ m ih =>
      intro i g1 g2 g3 g4
      have e1 := ji_dec (k := i) (by omega)
      refine jr_iload_n C dX5_printFree_11 rfl ?_
      refine jr_nif_lt C 86 dX5_printFree_12 (by decide) (fun b12 => ?_) (fun b12 => ?_)
      · refine jr_iconst C (v := 0) dX5_printFree_86 (by decide) ?_
        exact ret _ _ _ _ dX5_printFree_87 rfl (⟨Or.inl ⟨fun j hj => g4 j (by omega) hj, rfl⟩, rfl⟩)
      · refine jr_aload_n C dX5_printFree_15 rfl ?_
        refine jr_getr C kf_X5_9_6 dX5_printFree_16 ?_
        refine jr_iload_n C dX5_printFree_19 rfl ?_
        refine jr_ialv C ka_X_37 dX5_printFree_20 (ji_in (i := i) (by omega) (by omega)) (v := σ.1 37 _) rfl ?_
        refine jr_istore C dX5_printFree_21 (by decide) ?_
        refine jr_aload_n C dX5_printFree_23 rfl ?_
        refine jr_getr C kf_X5_33_6 dX5_printFree_24 ?_
        refine jr_getr C kf_X5_64_3 dX5_printFree_27 ?_
        refine jr_iload C dX5_printFree_30 rfl ?_
        refine jr_ialv C ka_X_25 dX5_printFree_32 (ji_in (hO _).1 (hO _).2) (v := σ.1 25 _) rfl ?_
        refine jr_aload_n C dX5_printFree_33 rfl ?_
        refine jr_getr C kf_X5_33_6 dX5_printFree_34 ?_
        refine jr_getr C kf_X5_64_3 dX5_printFree_37 ?_
        refine jr_iload_n C dX5_printFree_40 rfl ?_
        refine jr_ialv C ka_X_25 dX5_printFree_41 (ji_in (hO _).1 (hO _).2) (v := σ.1 25 _) rfl ?_
        refine jr_ncmp_ne C 80 dX5_printFree_42 (by decide) rfl rfl (fun b42 => ?_) (fun b42 => ?_)
        · refine jr_iinc C _ dX5_printFree_80 rfl rfl (by decide) ?_
          refine jr_goto C 11 dX5_printFree_83 (by decide) ?_
          exact jr_sub [(0, jf_r E 6), (1, .int p), (2, .int ((σ.1 37) p.toNatClampNeg)), (3, .int _)] rfl (ih _ (by omega) (by omega) (by omega) (fun j h1 h2 => by by_cases e : j = i.toNatClampNeg; (rw [e]; exact b42); exact g4 j (by have := ji_tn (x := i) (by omega); omega) h2))
        · refine jr_aload_n C dX5_printFree_45 rfl ?_
          refine jr_getr C kf_X5_18_6 dX5_printFree_46 ?_
          refine jr_iload C dX5_printFree_49 rfl ?_
          refine jr_ialv C ka_X_39 dX5_printFree_51 (ji_in (hO _).1 (hO _).2) (v := σ.1 39 _) rfl ?_
          refine jr_aload_n C dX5_printFree_52 rfl ?_
          refine jr_getr C kf_X5_25_6 dX5_printFree_53 ?_
          refine jr_aload_n C dX5_printFree_56 rfl ?_
          refine jr_getr C kf_X5_33_6 dX5_printFree_57 ?_
          refine jr_getr C kf_X5_77_3 dX5_printFree_60 ?_
          refine jr_iload C dX5_printFree_63 rfl ?_
          refine jr_ialv C ka_X_26 dX5_printFree_65 (ji_in (hO _).1 (hO _).2) (v := σ.1 26 _) rfl ?_
          refine jr_aload_n C dX5_printFree_66 rfl ?_
          refine jr_getr C kf_X5_33_6 dX5_printFree_67 ?_
          refine jr_getr C kf_X5_77_3 dX5_printFree_70 ?_
          refine jr_iload_n C dX5_printFree_73 rfl ?_
          refine jr_ialv C ka_X_26 dX5_printFree_74 (ji_in (hO _).1 (hO _).2) (v := σ.1 26 _) rfl ?_
          refine jr_vip C [.int _, .int _] _ (ct_X3_wayBetween E _ _ _ hI (xI_hall hI _) (xI_hall hI _)) ky_X3_wayBetween kv_X3_wayBetween kk_X_1 km_X5_85 (by decide) rfl (Nat.le_of_ble_eq_true rfl) dX5_printFree_75 ?_
          refine jr_iadd C dX5_printFree_78 ?_
          exact ret _ _ _ _ dX5_printFree_79 rfl (⟨Or.inr ⟨i.toNatClampNeg, by have := ji_tn (x := i) (by omega); omega, b42, fun j h1 h2 => g4 j (by have := ji_tn (x := i) (by omega); omega) h2, rfl⟩, rfl⟩)
  have e2 := ji_dec1 (k := p) (by omega)
  refine jr_aload_n C dX5_printFree_0 rfl ?_
  refine jr_getr C kf_X5_9_6 dX5_printFree_1 ?_
  refine jr_iload_n C dX5_printFree_4 rfl ?_
  refine jr_ialv C ka_X_37 dX5_printFree_5 (ji_in p0.1 p0.2) (v := σ.1 37 _) rfl ?_
  refine jr_istore_n C dX5_printFree_6 (by decide) ?_
  refine jr_iload_n C dX5_printFree_7 rfl ?_
  refine jr_iconst C (v := 1) dX5_printFree_8 (by decide) ?_
  refine jr_isub C dX5_printFree_9 ?_
  refine jr_istore_n C dX5_printFree_10 (by decide) ?_
  exact jr_sub [(0, jf_r E 6), (1, .int p), (2, .int ((σ.1 37) p.toNatClampNeg)), (3, .int _)] rfl (lp 61 _ (by omega) (by omega) (by omega) (fun j h1 h2 => absurd h2 (by omega)))

