/-! the reference: votes that count are found, safe -/
theorem mS_a_R {σ τ : jf_S} (h : mS_a σ τ) (hR : mI_r σ) : mI_r τ := by
  have e1 : (τ.1 0 39) = (σ.1 0 39) := h.2.2 _ (by decide) (by decide)
  have e2 : (τ.1 0 46) = (σ.1 0 46) := h.2.2 _ (by decide) (by decide)
  have e3 : (τ.1 32) = (σ.1 32) := h.2.1 _ (by decide) (by decide) (by decide)
  unfold mI_r
  rw [e1, e2, e3]
  exact hR
theorem mS_a_V {σ τ : jf_S} (h : mS_a σ τ) (hV : mI_v σ) : mI_v τ := by
  have e1 : (τ.1 0 35) = (σ.1 0 35) := h.2.2 _ (by decide) (by decide)
  have e2 : (τ.1 0 7) = (σ.1 0 7) := h.2.2 _ (by decide) (by decide)
  have e3 : (τ.1 27) = (σ.1 27) := h.2.1 _ (by decide) (by decide) (by decide)
  have e4 : (τ.1 26) = (σ.1 26) := h.2.1 _ (by decide) (by decide) (by decide)
  unfold mI_v
  rw [e1, e2, e3, e4]
  exact hV
theorem ct_X11_findVotes (E : jf_E) (σ : jf_S) (k : Int32) (hR : mI_r σ) (hV : mI_v σ) : jf_V jh_M E yX11_findVotes cX11_findVotes 6 3 [jf_r E 0, .int k] σ (fun τ => mS_a σ τ) := by
  refine jf_mkV (by decide) (Nat.le_of_ble_eq_true rfl) ?_
  intro G C ret
  have hJ := hV.1
  have l43 : ∀ (m : Nat) (τ : jf_S) (j a i : Int32), mS_a σ τ → 0 ≤ i.toInt → i.toInt ≤ (5 : Int) → (5 : Int) - i.toInt < m → (0 ≤ j.toInt ∧ j.toInt < 10) → (∀ υ : jf_S, mS_a σ υ → jf_X jh_M E G 6 30 [(0, jf_r E 0), (1, .int k), (2, .int (j + Int32.ofInt 1))] [] υ) → jf_X jh_M E G 6 43 [(0, jf_r E 0), (1, .int k), (2, .int j), (3, .int a), (4, .int i)] [] τ := by
    intro m
    induction m with
    | zero => intro τ j a i z g1 g2 g3 x1 x2; exfalso; omega
    | succ m ih =>
      intro τ j a i z g1 g2 g3 x1 x2
      have e1 := ji_inc (k := i) (by omega)
      have hT := mS_a_V z hV
      have hU := mS_a_R z hR
      have c5 := hT.2.2.1 j.toNatClampNeg
      have v0 := hT.2.2.2 (5 * j + i).toNatClampNeg
      refine jr_iload C dX11_findVotes_43 rfl ?_
      refine jr_aload_n C dX11_findVotes_45 rfl ?_
      refine jr_getr C kf_X11_93_0 dX11_findVotes_46 ?_
      refine jr_iload_n C dX11_findVotes_49 rfl ?_
      refine jr_ialv C ka_M_27 dX11_findVotes_50 (ji_in x1.1 x1.2) (v := τ.1 27 _) rfl ?_
      refine jr_ncmp_ge C 135 dX11_findVotes_51 (by decide) rfl rfl (fun b51 => ?_) (fun b51 => ?_)
      · refine jr_iinc C _ dX11_findVotes_135 rfl rfl (by decide) ?_
        refine jr_goto C 30 dX11_findVotes_138 (by decide) ?_
        exact jr_sub [(0, jf_r E 0), (1, .int k), (2, .int (j + Int32.ofInt 1))] rfl (x2 _ z)
      · refine jr_aload_n C dX11_findVotes_54 rfl ?_
        refine jr_getr C kf_X11_90_0 dX11_findVotes_55 ?_
        refine jr_iconst C (v := 5) dX11_findVotes_58 (by decide) ?_
        refine jr_iload_n C dX11_findVotes_59 rfl ?_
        refine jr_imul C dX11_findVotes_60 ?_
        refine jr_iload C dX11_findVotes_61 rfl ?_
        refine jr_iadd C dX11_findVotes_63 ?_
        refine jr_ialv C ka_M_26 dX11_findVotes_64 (ji_lin 5 5 rfl (by omega) (by omega) (by omega) (by omega)) (v := τ.1 26 _) rfl ?_
        refine jr_istore C dX11_findVotes_65 (by decide) ?_
        refine jr_aload_n C dX11_findVotes_67 rfl ?_
        refine jr_getr C kf_X11_129_0 dX11_findVotes_68 ?_
        refine jr_iconst C (v := 5) dX11_findVotes_71 (by decide) ?_
        refine jr_iload_n C dX11_findVotes_72 rfl ?_
        refine jr_imul C dX11_findVotes_73 ?_
        refine jr_iload C dX11_findVotes_74 rfl ?_
        refine jr_iadd C dX11_findVotes_76 ?_
        refine jr_aload_n C dX11_findVotes_77 rfl ?_
        refine jr_iload_n C dX11_findVotes_78 rfl ?_
        refine jr_iload C dX11_findVotes_79 rfl ?_
        refine jr_iload_n C dX11_findVotes_81 rfl ?_
        refine jr_vi C [.int _, .int _, .int _] _ (ct_X11_countsFor E _ _ _ _ x1.1 x1.2 hU hT) ky_X11_countsFor kv_X11_countsFor kk_M_0 km_X11_379 (by decide) rfl (Nat.le_of_ble_eq_true rfl) dX11_findVotes_82 (fun r82 τ82 h82 => ?_)
        refine jr_zast C ka_M_38 dX11_findVotes_85 (ji_lin 5 5 rfl (by omega) (by omega) (by omega) (by omega)) h82.1 ?_
        refine jr_aload_n C dX11_findVotes_86 rfl ?_
        refine jr_getr C kf_X11_129_0 dX11_findVotes_87 ?_
        refine jr_iconst C (v := 5) dX11_findVotes_90 (by decide) ?_
        refine jr_iload_n C dX11_findVotes_91 rfl ?_
        refine jr_imul C dX11_findVotes_92 ?_
        refine jr_iload C dX11_findVotes_93 rfl ?_
        refine jr_iadd C dX11_findVotes_95 ?_
        refine jr_zald C ka_M_38 dX11_findVotes_96 (ji_lin 5 5 rfl (by omega) (by omega) (by omega) (by omega)) ?_
        refine jr_nif_eq C 129 dX11_findVotes_97 (by decide) (fun b97 => ?_) (fun b97 => ?_)
        · refine jr_iinc C _ dX11_findVotes_129 rfl rfl (by decide) ?_
          refine jr_goto C 43 dX11_findVotes_132 (by decide) ?_
          exact jr_sub [(0, jf_r E 0), (1, .int k), (2, .int _), (3, .int _), (4, .int _)] rfl (ih _ _ _ _ (by repeat' (with_reducible first | exact mS_a_t z (mS_a_p h82.2) | refine mS_a_i ?_ (by decide))) (by omega) (by omega) (by omega) x1 x2)
        · refine jr_aload_n C dX11_findVotes_100 rfl ?_
          refine jr_getr C kf_X11_132_0 dX11_findVotes_101 ?_
          refine jr_iload C dX11_findVotes_104 rfl ?_
          refine jr_iconst C (v := 1) dX11_findVotes_106 (by decide) ?_
          refine jr_zast C ka_M_39 dX11_findVotes_107 (ji_in (by omega) (by omega)) (Or.inr rfl) ?_
          refine jr_aload_n C dX11_findVotes_108 rfl ?_
          refine jr_getr C kf_X11_135_0 dX11_findVotes_109 ?_
          refine jr_iload C dX11_findVotes_112 rfl ?_
          refine jr_dup2 C dX11_findVotes_114 rfl rfl ?_
          refine jr_iald C ka_M_40 dX11_findVotes_115 (ji_in (by omega) (by omega)) ?_
          refine jr_iload_n C dX11_findVotes_116 rfl ?_
          refine jr_nif_eq C 124 dX11_findVotes_117 (by decide) (fun b117 => ?_) (fun b117 => ?_)
          · refine jr_iconst C (v := 0) dX11_findVotes_124 (by decide) ?_
            refine jr_iadd C dX11_findVotes_125 ?_
            refine jr_iast C ka_M_40 dX11_findVotes_126 (ji_in (by omega) (by omega)) ?_
            refine jr_iconst C (v := 0) dX11_findVotes_127 (by decide) ?_
            refine jr_istore_n C dX11_findVotes_128 (by decide) ?_
            refine jr_iinc C _ dX11_findVotes_129 rfl rfl (by decide) ?_
            refine jr_goto C 43 dX11_findVotes_132 (by decide) ?_
            exact jr_sub [(0, jf_r E 0), (1, .int k), (2, .int _), (3, .int _), (4, .int _)] rfl (ih _ _ _ _ (by repeat' (with_reducible first | exact mS_a_t z (mS_a_p h82.2) | refine mS_a_i ?_ (by decide))) (by omega) (by omega) (by omega) x1 x2)
          · refine jr_iconst C (v := 1) dX11_findVotes_120 (by decide) ?_
            refine jr_goto C 125 dX11_findVotes_121 (by decide) ?_
            refine jr_iadd C dX11_findVotes_125 ?_
            refine jr_iast C ka_M_40 dX11_findVotes_126 (ji_in (by omega) (by omega)) ?_
            refine jr_iconst C (v := 0) dX11_findVotes_127 (by decide) ?_
            refine jr_istore_n C dX11_findVotes_128 (by decide) ?_
            refine jr_iinc C _ dX11_findVotes_129 rfl rfl (by decide) ?_
            refine jr_goto C 43 dX11_findVotes_132 (by decide) ?_
            exact jr_sub [(0, jf_r E 0), (1, .int k), (2, .int _), (3, .int _), (4, .int _)] rfl (ih _ _ _ _ (by repeat' (with_reducible first | exact mS_a_t z (mS_a_p h82.2) | refine mS_a_i ?_ (by decide))) (by omega) (by omega) (by omega) x1 x2)
  have l30 : ∀ (m : Nat) (τ : jf_S) (j : Int32), mS_a σ τ → 0 ≤ j.toInt → j.toInt ≤ ((σ.1 0 35)).toInt → ((σ.1 0 35)).toInt - j.toInt < m → jf_X jh_M E G 6 30 [(0, jf_r E 0), (1, .int k), (2, .int j)] [] τ := by
    intro m
    induction m with
    | zero => intro τ j z g1 g2 g3; exfalso; omega
    | succ m ih =>
      intro τ j z g1 g2 g3
      have e1 := ji_inc (k := j) (by omega)
      have c1 : ((τ.1 0 35)).toInt = ((σ.1 0 35)).toInt := congrArg Int32.toInt (z.2.2 _ (by decide) (by decide))
      refine jr_iload_n C dX11_findVotes_30 rfl ?_
      refine jr_aload_n C dX11_findVotes_31 rfl ?_
      refine jr_getv C kf_X11_257_0 dX11_findVotes_32 (v := τ.1 0 35) rfl ?_
      refine jr_ncmp_ge C 141 dX11_findVotes_35 (by decide) rfl rfl (fun b35 => ?_) (fun b35 => ?_)
      · exact ret _ _ _ dX11_findVotes_141 (z)
      · refine jr_iconst C (v := 1) dX11_findVotes_38 (by decide) ?_
        refine jr_istore_n C dX11_findVotes_39 (by decide) ?_
        refine jr_iconst C (v := 0) dX11_findVotes_40 (by decide) ?_
        refine jr_istore C dX11_findVotes_41 (by decide) ?_
        exact jr_sub [(0, jf_r E 0), (1, .int k), (2, .int j), (3, .int 1), (4, .int 0)] rfl (l43 6 _ _ _ _ z (by decide) (by decide) (by decide) ⟨by omega, by omega⟩ (fun υ hz => ih _ _ hz (by omega) (by omega) (by omega)))
  have l2 : ∀ (m : Nat) (τ : jf_S) (o : Int32), mS_a σ τ → 0 ≤ o.toInt → o.toInt ≤ (20 : Int) → (20 : Int) - o.toInt < m → jf_X jh_M E G 6 2 [(0, jf_r E 0), (1, .int k), (2, .int o)] [] τ := by
    intro m
    induction m with
    | zero => intro τ o z g1 g2 g3; exfalso; omega
    | succ m ih =>
      intro τ o z g1 g2 g3
      have e1 := ji_inc (k := o) (by omega)
      refine jr_iload_n C dX11_findVotes_2 rfl ?_
      refine jr_bipush C (v := 20) dX11_findVotes_3 (by decide) ?_
      refine jr_ncmp_ge C (b := 20) 28 dX11_findVotes_5 (by decide) rfl rfl (fun b5 => ?_) (fun b5 => ?_)
      · refine jr_iconst C (v := 0) dX11_findVotes_28 (by decide) ?_
        refine jr_istore_n C dX11_findVotes_29 (by decide) ?_
        exact jr_sub [(0, jf_r E 0), (1, .int k), (2, .int 0)] rfl (l30 11 _ _ z (by decide) hJ.1 (by show _ - (0 : Int) < _; omega))
      · refine jr_aload_n C dX11_findVotes_8 rfl ?_
        refine jr_getr C kf_X11_132_0 dX11_findVotes_9 ?_
        refine jr_iload_n C dX11_findVotes_12 rfl ?_
        refine jr_iconst C (v := 0) dX11_findVotes_13 (by decide) ?_
        refine jr_zast C ka_M_39 dX11_findVotes_14 (ji_in (i := o) (by omega) (by omega)) (Or.inl rfl) ?_
        refine jr_aload_n C dX11_findVotes_15 rfl ?_
        refine jr_getr C kf_X11_135_0 dX11_findVotes_16 ?_
        refine jr_iload_n C dX11_findVotes_19 rfl ?_
        refine jr_iconst C (v := 0) dX11_findVotes_20 (by decide) ?_
        refine jr_iast C ka_M_40 dX11_findVotes_21 (ji_in (i := o) (by omega) (by omega)) ?_
        refine jr_iinc C _ dX11_findVotes_22 rfl rfl (by decide) ?_
        refine jr_goto C 2 dX11_findVotes_25 (by decide) ?_
        exact jr_sub [(0, jf_r E 0), (1, .int k), (2, .int _)] rfl (ih _ _ (mS_a_i (mS_a_i z (by decide)) (by decide)) (by omega) (by omega) (by omega))
  refine jr_iconst C (v := 0) dX11_findVotes_0 (by decide) ?_
  refine jr_istore_n C dX11_findVotes_1 (by decide) ?_
  exact jr_sub [(0, jf_r E 0), (1, .int k), (2, .int _)] rfl (l2 21 _ _ (mS_a_r σ) (by decide) (by decide) (by decide))

