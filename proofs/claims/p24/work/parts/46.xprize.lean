/-! the class: the prize, safe -/
theorem ct_X0_gather (E : jf_E) (σ : jf_S) (k : Int32) (hC : xC σ) (hV : xV σ) (hR : xR σ) : jf_V jh_X E yX0_gather cX0_gather 6 2 [jf_r E 10, .int k] σ (fun τ => xS_a σ τ ∧ xC τ) := by
  refine jf_mkV (by decide) (Nat.le_of_ble_eq_true rfl) ?_
  intro G C ret
  have hJ := hV.1
  have l46 : ∀ (m : Nat) (τ : jf_S) (j c i : Int32), xS_a σ τ ∧ xC τ → 0 ≤ i.toInt → i.toInt ≤ (5 : Int) → (5 : Int) - i.toInt < m → (0 ≤ j.toInt ∧ j.toInt < 10) → (0 ≤ c.toInt ∧ c.toInt ≤ i.toInt) → (∀ υ : jf_S, xS_a σ υ ∧ xC υ → jf_X jh_X E G 6 30 [(0, jf_r E 10), (1, .int k), (2, .int (j + Int32.ofInt 1))] [] υ) → jf_X jh_X E G 6 46 [(0, jf_r E 10), (1, .int k), (2, .int j), (3, .int c), (4, .int i)] [] τ := by
    intro m
    induction m with
    | zero => intro τ j c i z g1 g2 g3 x1 x2 x3; exfalso; omega
    | succ m ih =>
      intro τ j c i z g1 g2 g3 x1 x2 x3
      have e1 := ji_inc (k := i) (by omega)
      have hT := xS_a_V z.1 hV
      have hU := xS_a_R z.1 hR
      have c5 := hT.2.1 j.toNatClampNeg
      have e2 := ji_inc (k := c) (by omega)
      refine jr_iload C dX0_gather_46 rfl ?_
      refine jr_aload_n C dX0_gather_48 rfl ?_
      refine jr_getr C kf_X0_36_10 dX0_gather_49 ?_
      refine jr_getr C kf_X0_65_7 dX0_gather_52 ?_
      refine jr_iload_n C dX0_gather_55 rfl ?_
      refine jr_ialv C ka_X_41 dX0_gather_56 (ji_in x1.1 x1.2) (v := τ.1 41 _) rfl ?_
      refine jr_ncmp_ge C 123 dX0_gather_57 (by decide) rfl rfl (fun b57 => ?_) (fun b57 => ?_)
      · refine jr_aload_n C dX0_gather_123 rfl ?_
        refine jr_getr C kf_X0_15_10 dX0_gather_124 ?_
        refine jr_iload_n C dX0_gather_127 rfl ?_
        refine jr_iload_n C dX0_gather_128 rfl ?_
        refine jr_iast C ka_X_51 dX0_gather_129 (ji_in x1.1 x1.2) ?_
        refine jr_iload_n C dX0_gather_130 rfl ?_
        refine jr_nif_le C 151 dX0_gather_131 (by decide) (fun b131 => ?_) (fun b131 => ?_)
        · refine jr_iinc C _ dX0_gather_151 rfl rfl (by decide) ?_
          refine jr_goto C 30 dX0_gather_154 (by decide) ?_
          first | exact jr_sub [(0, jf_r E 10), (1, .int k), (2, .int (j + Int32.ofInt 1))] rfl (x3 _ ⟨xS_a_i z.1 (by decide), xC_51 z.2 ⟨x2.1, by omega⟩⟩) | exact jr_sub [(0, jf_r E 10), (1, .int k), (2, .int (j + Int32.ofInt 1))] rfl (x3 _ ⟨xS_a_i (xS_a_i z.1 (by decide)) (by decide), xC_o (xC_51 z.2 ⟨x2.1, by omega⟩) (by decide)⟩)
        · refine jr_aload_n C dX0_gather_134 rfl ?_
          refine jr_getr C kf_X0_18_10 dX0_gather_135 ?_
          refine jr_aload_n C dX0_gather_138 rfl ?_
          refine jr_getr C kf_X0_9_10 dX0_gather_139 ?_
          refine jr_iload_n C dX0_gather_142 rfl ?_
          refine jr_iconst C (v := 5) dX0_gather_143 (by decide) ?_
          refine jr_imul C dX0_gather_144 ?_
          refine jr_ialv C ka_X_50 dX0_gather_145 (ji_in (i := j * 5) (by rw [fb_mulI (y := 5) (by show _ ≤ j.toInt * 5; omega) (by show j.toInt * 5 < _; omega)]; show 0 ≤ j.toInt * 5; omega) (by rw [fb_mulI (y := 5) (by show _ ≤ j.toInt * 5; omega) (by show j.toInt * 5 < _; omega)]; show j.toInt * 5 < 50; omega)) (v := τ.1 50 _) rfl ?_
          refine jr_dup2 C dX0_gather_146 rfl rfl ?_
          refine jr_ialv C ka_X_52 dX0_gather_147 (ji_in (z.2.1 _).1 (z.2.1 _).2) (v := τ.1 52 _) rfl ?_
          refine jr_iconst C (v := 1) dX0_gather_148 (by decide) ?_
          refine jr_iadd C dX0_gather_149 ?_
          refine jr_iast C ka_X_52 dX0_gather_150 (ji_in (z.2.1 _).1 (z.2.1 _).2) ?_
          refine jr_iinc C _ dX0_gather_151 rfl rfl (by decide) ?_
          refine jr_goto C 30 dX0_gather_154 (by decide) ?_
          first | exact jr_sub [(0, jf_r E 10), (1, .int k), (2, .int (j + Int32.ofInt 1))] rfl (x3 _ ⟨xS_a_i z.1 (by decide), xC_51 z.2 ⟨x2.1, by omega⟩⟩) | exact jr_sub [(0, jf_r E 10), (1, .int k), (2, .int (j + Int32.ofInt 1))] rfl (x3 _ ⟨xS_a_i (xS_a_i z.1 (by decide)) (by decide), xC_o (xC_51 z.2 ⟨x2.1, by omega⟩) (by decide)⟩)
      · refine jr_aload_n C dX0_gather_60 rfl ?_
        refine jr_getr C kf_X0_36_10 dX0_gather_61 ?_
        refine jr_getr C kf_X0_68_7 dX0_gather_64 ?_
        refine jr_iload_n C dX0_gather_67 rfl ?_
        refine jr_iconst C (v := 5) dX0_gather_68 (by decide) ?_
        refine jr_imul C dX0_gather_69 ?_
        refine jr_iload C dX0_gather_70 rfl ?_
        refine jr_iadd C dX0_gather_72 ?_
        refine jr_ialv C ka_X_42 dX0_gather_73 (ji_linr 5 rfl (by omega) (by omega) (by omega)) (v := τ.1 42 _) rfl ?_
        refine jr_istore C dX0_gather_74 (by decide) ?_
        refine jr_aload_n C dX0_gather_76 rfl ?_
        refine jr_getr C kf_X0_36_10 dX0_gather_77 ?_
        refine jr_aload_n C dX0_gather_80 rfl ?_
        refine jr_getr C kf_X0_40_10 dX0_gather_81 ?_
        refine jr_iload_n C dX0_gather_84 rfl ?_
        refine jr_iload C dX0_gather_85 rfl ?_
        refine jr_iload_n C dX0_gather_87 rfl ?_
        refine jr_vi C [_, .int _, .int _, .int _] _ (ct_X4_passes E _ _ _ _ hT.2.2.2 hU.1 x1) ky_X4_passes kv_X4_passes kk_X_7 km_X0_71 (by decide) rfl (Nat.le_of_ble_eq_true rfl) dX0_gather_88 (fun r88 τ88 h88 => ?_)
        obtain ⟨-, rfl⟩ := h88
        refine jr_nif_eq C 117 dX0_gather_91 (by decide) (fun b91 => ?_) (fun b91 => ?_)
        · refine jr_iinc C _ dX0_gather_117 rfl rfl (by decide) ?_
          refine jr_goto C 46 dX0_gather_120 (by decide) ?_
          exact jr_sub [(0, jf_r E 10), (1, .int k), (2, .int _), (3, .int _), (4, .int _)] rfl (ih _ _ _ _ (by first | exact z | exact ⟨xS_a_i (xS_a_i z.1 (by decide)) (by decide), xC_o (xC_50 z.2 (hT.2.2.1 _)) (by decide)⟩) (by omega) (by omega) (by omega) x1 (by first | exact ⟨by omega, by omega⟩) x3)
        · refine jr_aload_n C dX0_gather_94 rfl ?_
          refine jr_getr C kf_X0_9_10 dX0_gather_95 ?_
          refine jr_iload_n C dX0_gather_98 rfl ?_
          refine jr_iconst C (v := 5) dX0_gather_99 (by decide) ?_
          refine jr_imul C dX0_gather_100 ?_
          refine jr_iload_n C dX0_gather_101 rfl ?_
          refine jr_iadd C dX0_gather_102 ?_
          refine jr_iload C dX0_gather_103 rfl ?_
          refine jr_iast C ka_X_50 dX0_gather_105 (ji_linr 5 rfl (by omega) (by omega) (by omega)) ?_
          refine jr_iinc C _ dX0_gather_106 rfl rfl (by decide) ?_
          refine jr_aload_n C dX0_gather_109 rfl ?_
          refine jr_getr C kf_X0_21_10 dX0_gather_110 ?_
          refine jr_iload C dX0_gather_113 rfl ?_
          refine jr_iconst C (v := 1) dX0_gather_115 (by decide) ?_
          refine jr_zast C ka_X_53 dX0_gather_116 (ji_in (hT.2.2.1 _).1 (hT.2.2.1 _).2) (Or.inr rfl) ?_
          refine jr_iinc C _ dX0_gather_117 rfl rfl (by decide) ?_
          refine jr_goto C 46 dX0_gather_120 (by decide) ?_
          exact jr_sub [(0, jf_r E 10), (1, .int k), (2, .int _), (3, .int _), (4, .int _)] rfl (ih _ _ _ _ (by first | exact z | exact ⟨xS_a_i (xS_a_i z.1 (by decide)) (by decide), xC_o (xC_50 z.2 (hT.2.2.1 _)) (by decide)⟩) (by omega) (by omega) (by omega) x1 (by first | exact ⟨by omega, by omega⟩) x3)
  have l30 : ∀ (m : Nat) (τ : jf_S) (j : Int32), xS_a σ τ ∧ xC τ → 0 ≤ j.toInt → j.toInt ≤ ((σ.1 7 7)).toInt → ((σ.1 7 7)).toInt - j.toInt < m → jf_X jh_X E G 6 30 [(0, jf_r E 10), (1, .int k), (2, .int j)] [] τ := by
    intro m
    induction m with
    | zero => intro τ j z g1 g2 g3; exfalso; omega
    | succ m ih =>
      intro τ j z g1 g2 g3
      have e1 := ji_inc (k := j) (by omega)
      have c1 : ((τ.1 7 7)).toInt = ((σ.1 7 7)).toInt := by rw [z.1.2.1 7 (by decide) (by decide)]
      refine jr_iload_n C dX0_gather_30 rfl ?_
      refine jr_aload_n C dX0_gather_31 rfl ?_
      refine jr_getr C kf_X0_36_10 dX0_gather_32 ?_
      refine jr_getv C kf_X0_60_7 dX0_gather_35 (v := τ.1 7 7) rfl ?_
      refine jr_ncmp_ge C 157 dX0_gather_38 (by decide) rfl rfl (fun b38 => ?_) (fun b38 => ?_)
      · exact ret _ _ _ dX0_gather_157 (z)
      · refine jr_iconst C (v := 0) dX0_gather_41 (by decide) ?_
        refine jr_istore_n C dX0_gather_42 (by decide) ?_
        refine jr_iconst C (v := 0) dX0_gather_43 (by decide) ?_
        refine jr_istore C dX0_gather_44 (by decide) ?_
        exact jr_sub [(0, jf_r E 10), (1, .int k), (2, .int j), (3, .int 0), (4, .int 0)] rfl (l46 6 _ _ _ _ z (by decide) (by decide) (by decide) ⟨by omega, by omega⟩ (by decide) (fun υ hz => ih _ _ hz (by omega) (by omega) (by omega)))
  have l2 : ∀ (m : Nat) (τ : jf_S) (o : Int32), xS_a σ τ ∧ xC τ → 0 ≤ o.toInt → o.toInt ≤ (20 : Int) → (20 : Int) - o.toInt < m → jf_X jh_X E G 6 2 [(0, jf_r E 10), (1, .int k), (2, .int o)] [] τ := by
    intro m
    induction m with
    | zero => intro τ o z g1 g2 g3; exfalso; omega
    | succ m ih =>
      intro τ o z g1 g2 g3
      have e1 := ji_inc (k := o) (by omega)
      refine jr_iload_n C dX0_gather_2 rfl ?_
      refine jr_bipush C (v := 20) dX0_gather_3 (by decide) ?_
      refine jr_ncmp_ge C (b := 20) 28 dX0_gather_5 (by decide) rfl rfl (fun b5 => ?_) (fun b5 => ?_)
      · refine jr_iconst C (v := 0) dX0_gather_28 (by decide) ?_
        refine jr_istore_n C dX0_gather_29 (by decide) ?_
        exact jr_sub [(0, jf_r E 10), (1, .int k), (2, .int 0)] rfl (l30 11 _ _ z (by decide) hJ.1 (by show _ - (0 : Int) < _; omega))
      · refine jr_aload_n C dX0_gather_8 rfl ?_
        refine jr_getr C kf_X0_21_10 dX0_gather_9 ?_
        refine jr_iload_n C dX0_gather_12 rfl ?_
        refine jr_iconst C (v := 0) dX0_gather_13 (by decide) ?_
        refine jr_zast C ka_X_53 dX0_gather_14 (ji_in (i := o) (by omega) (by omega)) (Or.inl rfl) ?_
        refine jr_aload_n C dX0_gather_15 rfl ?_
        refine jr_getr C kf_X0_18_10 dX0_gather_16 ?_
        refine jr_iload_n C dX0_gather_19 rfl ?_
        refine jr_iconst C (v := 0) dX0_gather_20 (by decide) ?_
        refine jr_iast C ka_X_52 dX0_gather_21 (ji_in (i := o) (by omega) (by omega)) ?_
        refine jr_iinc C _ dX0_gather_22 rfl rfl (by decide) ?_
        refine jr_goto C 2 dX0_gather_25 (by decide) ?_
        exact jr_sub [(0, jf_r E 10), (1, .int k), (2, .int _)] rfl (ih _ _ ⟨xS_a_i (xS_a_i z.1 (by decide)) (by decide), xC_o (xC_o z.2 (by decide)) (by decide)⟩ (by omega) (by omega) (by omega))
  refine jr_iconst C (v := 0) dX0_gather_0 (by decide) ?_
  refine jr_istore_n C dX0_gather_1 (by decide) ?_
  exact jr_sub [(0, jf_r E 10), (1, .int k), (2, .int _)] rfl (l2 21 _ _ ⟨xS_a_r σ, hC⟩ (by decide) (by decide) (by decide))

