/-! the reference: CROWD, WORTH, GRID exactly -/
theorem mg_pn {σ : jf_S} {s o : Nat} : g_pn (m_G σ) s o = decide (¬ ((σ.1 14) o).toInt = 0 ∧ ¬ o = s ∧ ((σ.1 1) ((σ.1 16) o).toNatClampNeg).toInt = ((σ.1 1) ((σ.1 16) s).toNatClampNeg).toInt ∧ ((σ.1 17) o).toInt < ((σ.1 17) s + (σ.1 5) ((σ.1 15) s).toNatClampNeg).toInt ∧ ((σ.1 17) s).toInt < ((σ.1 17) o + (σ.1 5) ((σ.1 15) o).toNatClampNeg).toInt) := rfl
theorem ct_X11_crowdOf2 (E : jf_E) (σ : jf_S) (s : Int32) (hI : mI_s σ) (h0 : 0 ≤ s.toInt) (h1 : s.toInt < 60) : jf_I jh_M E yX11_crowdOf cX11_crowdOf 4 .int 1 [jf_r E 0, .int s] σ (fun r τ => r = g_crowd (m_G σ) ((σ.1 0 17)).toNatClampNeg s.toNatClampNeg ∧ σ = τ) := by
  refine jf_mkI (by decide) (Nat.le_of_ble_eq_true rfl) ?_
  intro G C ret
  have hE := hI.1
  have ts := ji_tn h0
  have loop : ∀ (m : Nat) (n o : Int32), 0 ≤ o.toInt → o.toInt ≤ ((σ.1 0 17)).toInt → ((σ.1 0 17)).toInt - o.toInt < m → 1 ≤ n.toInt → n.toInt ≤ o.toInt + 1 → n = 1 + nI (jx_ct (g_pn (m_G σ) s.toNatClampNeg) o.toNatClampNeg) → jf_X jh_M E G 4 4 [(0, jf_r E 0), (1, .int s), (2, .int n), (3, .int o)] [] σ := by
    intro m
    induction m with
    | zero => intro n o g1 g2 g3 g4 g5 g6; exfalso; omega
    | succ m ih =>
      intro n o g1 g2 g3 g4 g5 g6
      have e1 := ji_inc (k := o) (by omega)
      have e2 := ji_inc1 (k := n) (by omega)
      have e3 := ji_a0 n
      have to := ji_tn g1
      have es := g_sc g1 e1
      refine jr_iload_n C dX11_crowdOf_4 rfl ?_
      refine jr_aload_n C dX11_crowdOf_5 rfl ?_
      refine jr_geti C kf_X11_160_0 dX11_crowdOf_6 ?_
      refine jr_ncmp_ge C 93 dX11_crowdOf_9 (by decide) rfl rfl (fun b9 => ?_) (fun b9 => ?_)
      · have eo : o = (σ.1 0 17) := Int32.toInt_inj.mp (by omega)
        refine jr_aload_n C dX11_crowdOf_93 rfl ?_
        refine jr_getr C kf_X11_28_0 dX11_crowdOf_94 ?_
        refine jr_aload_n C dX11_crowdOf_97 rfl ?_
        refine jr_getr C kf_X11_53_0 dX11_crowdOf_98 ?_
        refine jr_iload_n C dX11_crowdOf_101 rfl ?_
        refine jr_ialv C ka_M_15 dX11_crowdOf_102 (ji_in h0 h1) (v := σ.1 15 _) rfl ?_
        refine jr_ialv C ka_M_7 dX11_crowdOf_103 (mI_film hI _ (by decide)) (v := σ.1 7 _) rfl ?_
        refine jr_aload_n C dX11_crowdOf_104 rfl ?_
        refine jr_getr C kf_X11_71_0 dX11_crowdOf_105 ?_
        refine jr_aload_n C dX11_crowdOf_108 rfl ?_
        refine jr_getr C kf_X11_59_0 dX11_crowdOf_109 ?_
        refine jr_iload_n C dX11_crowdOf_112 rfl ?_
        refine jr_ialv C ka_M_17 dX11_crowdOf_113 (ji_in h0 h1) (v := σ.1 17 _) rfl ?_
        refine jr_sipush C (v := 1440) dX11_crowdOf_114 (by decide) ?_
        refine jr_irem C dX11_crowdOf_117 (by decide) ?_
        refine jr_bipush C (v := 60) dX11_crowdOf_118 (by decide) ?_
        refine jr_idiv C dX11_crowdOf_120 (by decide) ?_
        refine jr_ialv C ka_M_21 dX11_crowdOf_121 (ji_hin (hI.2.2.2.2 _).1) (v := σ.1 21 _) rfl ?_
        refine jr_imul C dX11_crowdOf_122 ?_
        refine jr_bipush C (v := 100) dX11_crowdOf_123 (by decide) ?_
        refine jr_idiv C dX11_crowdOf_125 (by decide) ?_
        refine jr_iload_n C dX11_crowdOf_126 rfl ?_
        refine jr_idiv C dX11_crowdOf_127 (jn_eqf.mpr (by omega)) ?_
        exact ret _ _ _ _ dX11_crowdOf_128 rfl (⟨by rw [g6, eo]; rfl, rfl⟩)
      · refine jr_iload_n C dX11_crowdOf_12 rfl ?_
        refine jr_aload_n C dX11_crowdOf_13 rfl ?_
        refine jr_getr C kf_X11_49_0 dX11_crowdOf_14 ?_
        refine jr_iload_n C dX11_crowdOf_17 rfl ?_
        refine jr_zalv C ka_M_14 dX11_crowdOf_18 (ji_in (i := o) (by omega) (by omega)) (v := σ.1 14 _) rfl ?_
        refine jr_nif_eq C 84 dX11_crowdOf_19 (by decide) (fun b19 => ?_) (fun b19 => ?_)
        · refine jr_iconst C (v := 0) dX11_crowdOf_84 (by decide) ?_
          refine jr_iadd C dX11_crowdOf_85 ?_
          refine jr_istore_n C dX11_crowdOf_86 (by decide) ?_
          refine jr_iinc C _ dX11_crowdOf_87 rfl rfl (by decide) ?_
          refine jr_goto C 4 dX11_crowdOf_90 (by decide) ?_
          exact jr_sub [(0, jf_r E 0), (1, .int s), (2, .int _), (3, .int _)] rfl (ih _ _ (by omega) (by omega) (by omega) (by omega) (by omega) (by rw [es]; first | (have q : g_pn (m_G σ) s.toNatClampNeg o.toNatClampNeg = true := by rw [mg_pn]; exact decide_eq_true (by omega)); exact gc_y g6 q | (have q : g_pn (m_G σ) s.toNatClampNeg o.toNatClampNeg = false := by rw [mg_pn]; exact decide_eq_false (by omega)); exact gc_n g6 q))
        · refine jr_iload_n C dX11_crowdOf_22 rfl ?_
          refine jr_iload_n C dX11_crowdOf_23 rfl ?_
          refine jr_ncmp_eq C 84 dX11_crowdOf_24 (by decide) rfl rfl (fun b24 => ?_) (fun b24 => ?_)
          · refine jr_iconst C (v := 0) dX11_crowdOf_84 (by decide) ?_
            refine jr_iadd C dX11_crowdOf_85 ?_
            refine jr_istore_n C dX11_crowdOf_86 (by decide) ?_
            refine jr_iinc C _ dX11_crowdOf_87 rfl rfl (by decide) ?_
            refine jr_goto C 4 dX11_crowdOf_90 (by decide) ?_
            exact jr_sub [(0, jf_r E 0), (1, .int s), (2, .int _), (3, .int _)] rfl (ih _ _ (by omega) (by omega) (by omega) (by omega) (by omega) (by rw [es]; first | (have q : g_pn (m_G σ) s.toNatClampNeg o.toNatClampNeg = true := by rw [mg_pn]; exact decide_eq_true (by omega)); exact gc_y g6 q | (have q : g_pn (m_G σ) s.toNatClampNeg o.toNatClampNeg = false := by rw [mg_pn]; exact decide_eq_false (by omega)); exact gc_n g6 q))
          · refine jr_aload_n C dX11_crowdOf_27 rfl ?_
            refine jr_getr C kf_X11_7_0 dX11_crowdOf_28 ?_
            refine jr_aload_n C dX11_crowdOf_31 rfl ?_
            refine jr_getr C kf_X11_56_0 dX11_crowdOf_32 ?_
            refine jr_iload_n C dX11_crowdOf_35 rfl ?_
            refine jr_ialv C ka_M_16 dX11_crowdOf_36 (ji_in (i := o) (by omega) (by omega)) (v := σ.1 16 _) rfl ?_
            refine jr_ialv C ka_M_1 dX11_crowdOf_37 (mI_hall hI _ (by decide)) (v := σ.1 1 _) rfl ?_
            refine jr_aload_n C dX11_crowdOf_38 rfl ?_
            refine jr_getr C kf_X11_7_0 dX11_crowdOf_39 ?_
            refine jr_aload_n C dX11_crowdOf_42 rfl ?_
            refine jr_getr C kf_X11_56_0 dX11_crowdOf_43 ?_
            refine jr_iload_n C dX11_crowdOf_46 rfl ?_
            refine jr_ialv C ka_M_16 dX11_crowdOf_47 (ji_in h0 h1) (v := σ.1 16 _) rfl ?_
            refine jr_ialv C ka_M_1 dX11_crowdOf_48 (mI_hall hI _ (by decide)) (v := σ.1 1 _) rfl ?_
            refine jr_ncmp_ne C 84 dX11_crowdOf_49 (by decide) rfl rfl (fun b49 => ?_) (fun b49 => ?_)
            · refine jr_iconst C (v := 0) dX11_crowdOf_84 (by decide) ?_
              refine jr_iadd C dX11_crowdOf_85 ?_
              refine jr_istore_n C dX11_crowdOf_86 (by decide) ?_
              refine jr_iinc C _ dX11_crowdOf_87 rfl rfl (by decide) ?_
              refine jr_goto C 4 dX11_crowdOf_90 (by decide) ?_
              exact jr_sub [(0, jf_r E 0), (1, .int s), (2, .int _), (3, .int _)] rfl (ih _ _ (by omega) (by omega) (by omega) (by omega) (by omega) (by rw [es]; first | (have q : g_pn (m_G σ) s.toNatClampNeg o.toNatClampNeg = true := by rw [mg_pn]; exact decide_eq_true (by omega)); exact gc_y g6 q | (have q : g_pn (m_G σ) s.toNatClampNeg o.toNatClampNeg = false := by rw [mg_pn]; exact decide_eq_false (by omega)); exact gc_n g6 q))
            · refine jr_aload_n C dX11_crowdOf_52 rfl ?_
              refine jr_getr C kf_X11_59_0 dX11_crowdOf_53 ?_
              refine jr_iload_n C dX11_crowdOf_56 rfl ?_
              refine jr_ialv C ka_M_17 dX11_crowdOf_57 (ji_in (i := o) (by omega) (by omega)) (v := σ.1 17 _) rfl ?_
              refine jr_aload_n C dX11_crowdOf_58 rfl ?_
              refine jr_iload_n C dX11_crowdOf_59 rfl ?_
              refine jr_vip C [.int _] _ (ct_X11_endOf E _ _ hI h0 h1) ky_X11_endOf kv_X11_endOf kk_M_0 km_X11_192 (by decide) rfl (Nat.le_of_ble_eq_true rfl) dX11_crowdOf_60 ?_
              refine jr_ncmp_ge C 84 dX11_crowdOf_63 (by decide) rfl rfl (fun b63 => ?_) (fun b63 => ?_)
              · refine jr_iconst C (v := 0) dX11_crowdOf_84 (by decide) ?_
                refine jr_iadd C dX11_crowdOf_85 ?_
                refine jr_istore_n C dX11_crowdOf_86 (by decide) ?_
                refine jr_iinc C _ dX11_crowdOf_87 rfl rfl (by decide) ?_
                refine jr_goto C 4 dX11_crowdOf_90 (by decide) ?_
                exact jr_sub [(0, jf_r E 0), (1, .int s), (2, .int _), (3, .int _)] rfl (ih _ _ (by omega) (by omega) (by omega) (by omega) (by omega) (by rw [es]; first | (have q : g_pn (m_G σ) s.toNatClampNeg o.toNatClampNeg = true := by rw [mg_pn]; exact decide_eq_true (by omega)); exact gc_y g6 q | (have q : g_pn (m_G σ) s.toNatClampNeg o.toNatClampNeg = false := by rw [mg_pn]; exact decide_eq_false (by omega)); exact gc_n g6 q))
              · refine jr_aload_n C dX11_crowdOf_66 rfl ?_
                refine jr_iload_n C dX11_crowdOf_67 rfl ?_
                refine jr_vip C [.int _] _ (ct_X11_endOf E _ _ hI (by omega) (by omega)) ky_X11_endOf kv_X11_endOf kk_M_0 km_X11_192 (by decide) rfl (Nat.le_of_ble_eq_true rfl) dX11_crowdOf_68 ?_
                refine jr_aload_n C dX11_crowdOf_71 rfl ?_
                refine jr_getr C kf_X11_59_0 dX11_crowdOf_72 ?_
                refine jr_iload_n C dX11_crowdOf_75 rfl ?_
                refine jr_ialv C ka_M_17 dX11_crowdOf_76 (ji_in h0 h1) (v := σ.1 17 _) rfl ?_
                refine jr_ncmp_le C 84 dX11_crowdOf_77 (by decide) rfl rfl (fun b77 => ?_) (fun b77 => ?_)
                · refine jr_iconst C (v := 0) dX11_crowdOf_84 (by decide) ?_
                  refine jr_iadd C dX11_crowdOf_85 ?_
                  refine jr_istore_n C dX11_crowdOf_86 (by decide) ?_
                  refine jr_iinc C _ dX11_crowdOf_87 rfl rfl (by decide) ?_
                  refine jr_goto C 4 dX11_crowdOf_90 (by decide) ?_
                  exact jr_sub [(0, jf_r E 0), (1, .int s), (2, .int _), (3, .int _)] rfl (ih _ _ (by omega) (by omega) (by omega) (by omega) (by omega) (by rw [es]; first | (have q : g_pn (m_G σ) s.toNatClampNeg o.toNatClampNeg = true := by rw [mg_pn]; exact decide_eq_true (by omega)); exact gc_y g6 q | (have q : g_pn (m_G σ) s.toNatClampNeg o.toNatClampNeg = false := by rw [mg_pn]; exact decide_eq_false (by omega)); exact gc_n g6 q))
                · refine jr_iconst C (v := 1) dX11_crowdOf_80 (by decide) ?_
                  refine jr_goto C 85 dX11_crowdOf_81 (by decide) ?_
                  refine jr_iadd C dX11_crowdOf_85 ?_
                  refine jr_istore_n C dX11_crowdOf_86 (by decide) ?_
                  refine jr_iinc C _ dX11_crowdOf_87 rfl rfl (by decide) ?_
                  refine jr_goto C 4 dX11_crowdOf_90 (by decide) ?_
                  exact jr_sub [(0, jf_r E 0), (1, .int s), (2, .int _), (3, .int _)] rfl (ih _ _ (by omega) (by omega) (by omega) (by omega) (by omega) (by rw [es]; first | (have q : g_pn (m_G σ) s.toNatClampNeg o.toNatClampNeg = true := by rw [mg_pn]; exact decide_eq_true (by omega)); exact gc_y g6 q | (have q : g_pn (m_G σ) s.toNatClampNeg o.toNatClampNeg = false := by rw [mg_pn]; exact decide_eq_false (by omega)); exact gc_n g6 q))
  refine jr_iconst C (v := 1) dX11_crowdOf_0 (by decide) ?_
  refine jr_istore_n C dX11_crowdOf_1 (by decide) ?_
  refine jr_iconst C (v := 0) dX11_crowdOf_2 (by decide) ?_
  refine jr_istore_n C dX11_crowdOf_3 (by decide) ?_
  exact jr_sub [(0, jf_r E 0), (1, .int s), (2, .int 1), (3, .int 0)] rfl (loop 61 1 0 (by decide) hE.1 (by show _ - 0 < _; omega) (by decide) (by decide) rfl)
theorem ct_X11_worthOf2 (E : jf_E) (σ : jf_S) (s : Int32) (hI : mI_s σ) (h0 : 0 ≤ s.toInt) (h1 : s.toInt < 60) : jf_I jh_M E yX11_worthOf cX11_worthOf 3 .int 2 [jf_r E 0, .int s] σ (fun r τ => r = g_worth (m_G σ) ((σ.1 0 17)).toNatClampNeg s.toNatClampNeg ∧ σ = τ) := by
  refine jf_mkI (by decide) (Nat.le_of_ble_eq_true rfl) ?_
  intro G C ret
  have w : ∀ r : Int32, r = g_crowd (m_G σ) ((σ.1 0 17)).toNatClampNeg s.toNatClampNeg → g_worth (m_G σ) ((σ.1 0 17)).toNatClampNeg s.toNatClampNeg = if r.toInt < ((σ.1 2) ((σ.1 16) s.toNatClampNeg).toNatClampNeg).toInt then r else (σ.1 2) ((σ.1 16) s.toNatClampNeg).toNatClampNeg := fun r e => by rw [e]; rfl
  refine jr_aload_n C dX11_worthOf_0 rfl ?_
  refine jr_iload_n C dX11_worthOf_1 rfl ?_
  refine jr_vi C [.int _] _ (ct_X11_crowdOf2 E _ _ hI h0 h1) ky_X11_crowdOf kv_X11_crowdOf kk_M_0 km_X11_207 (by decide) rfl (Nat.le_of_ble_eq_true rfl) dX11_worthOf_2 (fun r2 τ2 h2 => ?_)
  obtain ⟨q2, rfl⟩ := h2
  refine jr_istore_n C dX11_worthOf_5 (by decide) ?_
  refine jr_iload_n C dX11_worthOf_6 rfl ?_
  refine jr_aload_n C dX11_worthOf_7 rfl ?_
  refine jr_getr C kf_X11_13_0 dX11_worthOf_8 ?_
  refine jr_aload_n C dX11_worthOf_11 rfl ?_
  refine jr_getr C kf_X11_56_0 dX11_worthOf_12 ?_
  refine jr_iload_n C dX11_worthOf_15 rfl ?_
  refine jr_ialv C ka_M_16 dX11_worthOf_16 (ji_in h0 h1) (v := σ.1 16 _) rfl ?_
  refine jr_ialv C ka_M_2 dX11_worthOf_17 (mI_hall hI _ (by decide)) (v := σ.1 2 _) rfl ?_
  refine jr_ncmp_ge C 25 dX11_worthOf_18 (by decide) rfl rfl (fun b18 => ?_) (fun b18 => ?_)
  · refine jr_aload_n C dX11_worthOf_25 rfl ?_
    refine jr_getr C kf_X11_13_0 dX11_worthOf_26 ?_
    refine jr_aload_n C dX11_worthOf_29 rfl ?_
    refine jr_getr C kf_X11_56_0 dX11_worthOf_30 ?_
    refine jr_iload_n C dX11_worthOf_33 rfl ?_
    refine jr_ialv C ka_M_16 dX11_worthOf_34 (ji_in h0 h1) (v := σ.1 16 _) rfl ?_
    refine jr_ialv C ka_M_2 dX11_worthOf_35 (mI_hall hI _ (by decide)) (v := σ.1 2 _) rfl ?_
    exact ret _ _ _ _ dX11_worthOf_36 rfl (⟨by rw [w _ q2]; split <;> first | rfl | (exfalso; omega), rfl⟩)
  · refine jr_iload_n C dX11_worthOf_21 rfl ?_
    refine jr_goto C 36 dX11_worthOf_22 (by decide) ?_
    exact ret _ _ _ _ dX11_worthOf_36 rfl (⟨by rw [w _ q2]; split <;> first | rfl | (exfalso; omega), rfl⟩)
theorem g_grid_s {V : Nat → Nat → Int32} {N k : Nat} {n w : Int32} (h : n = gs (g_w V N) k) (e : w = g_w V N k) : n + w = gs (g_w V N) (k + 1) := by rw [gs, h, e]
theorem ct_X11_gridOf2 (E : jf_E) (σ : jf_S) (hI : mI_s σ) : jf_I jh_M E yX11_gridOf cX11_gridOf 3 .int 3 [jf_r E 0] σ (fun r τ => r = g_grid (m_G σ) ((σ.1 0 17)).toNatClampNeg ∧ σ = τ) := by
  refine jf_mkI (by decide) (Nat.le_of_ble_eq_true rfl) ?_
  intro G C ret
  have hE := hI.1
  have w0 : ∀ k, ((σ.1 14) k).toInt = 0 → 0 = g_w (m_G σ) ((σ.1 0 17)).toNatClampNeg k := fun k h => by unfold g_w; exact (if_pos h).symm
  have w1 : ∀ k, ¬ ((σ.1 14) k).toInt = 0 → g_worth (m_G σ) ((σ.1 0 17)).toNatClampNeg k = g_w (m_G σ) ((σ.1 0 17)).toNatClampNeg k := fun k h => by unfold g_w; exact (if_neg h).symm
  have loop : ∀ (m : Nat) (n o : Int32), 0 ≤ o.toInt → o.toInt ≤ ((σ.1 0 17)).toInt → ((σ.1 0 17)).toInt - o.toInt < m → n = gs (g_w (m_G σ) ((σ.1 0 17)).toNatClampNeg) o.toNatClampNeg → jf_X jh_M E G 3 4 [(0, jf_r E 0), (1, .int n), (2, .int o)] [] σ := by
    intro m
    induction m with
    | zero => intro n o g1 g2 g3 g4; exfalso; omega
    | succ m ih =>
      intro n o g1 g2 g3 g4
      have e1 := ji_inc (k := o) (by omega)
      have es := g_sc g1 e1
      refine jr_iload_n C dX11_gridOf_4 rfl ?_
      refine jr_aload_n C dX11_gridOf_5 rfl ?_
      refine jr_geti C kf_X11_160_0 dX11_gridOf_6 ?_
      refine jr_ncmp_ge C 39 dX11_gridOf_9 (by decide) rfl rfl (fun b9 => ?_) (fun b9 => ?_)
      · have eo : o = (σ.1 0 17) := Int32.toInt_inj.mp (by omega)
        refine jr_iload_n C dX11_gridOf_39 rfl ?_
        exact ret _ _ _ _ dX11_gridOf_40 rfl (⟨by rw [g4, eo]; rfl, rfl⟩)
      · refine jr_iload_n C dX11_gridOf_12 rfl ?_
        refine jr_aload_n C dX11_gridOf_13 rfl ?_
        refine jr_getr C kf_X11_49_0 dX11_gridOf_14 ?_
        refine jr_iload_n C dX11_gridOf_17 rfl ?_
        refine jr_zalv C ka_M_14 dX11_gridOf_18 (ji_in (i := o) (by omega) (by omega)) (v := σ.1 14 _) rfl ?_
        refine jr_nif_eq C 30 dX11_gridOf_19 (by decide) (fun b19 => ?_) (fun b19 => ?_)
        · refine jr_iconst C (v := 0) dX11_gridOf_30 (by decide) ?_
          refine jr_iadd C dX11_gridOf_31 ?_
          refine jr_istore_n C dX11_gridOf_32 (by decide) ?_
          refine jr_iinc C _ dX11_gridOf_33 rfl rfl (by decide) ?_
          refine jr_goto C 4 dX11_gridOf_36 (by decide) ?_
          exact jr_sub [(0, jf_r E 0), (1, .int _), (2, .int _)] rfl (ih _ _ (by omega) (by omega) (by omega) (by rw [es]; first | (have q := w0 _ b19); exact g_grid_s g4 q | exact g_grid_s g4 (q24.trans (w1 _ b19))))
        · refine jr_aload_n C dX11_gridOf_22 rfl ?_
          refine jr_iload_n C dX11_gridOf_23 rfl ?_
          refine jr_vi C [.int _] _ (ct_X11_worthOf2 E _ _ hI (by omega) (by omega)) ky_X11_worthOf kv_X11_worthOf kk_M_0 km_X11_210 (by decide) rfl (Nat.le_of_ble_eq_true rfl) dX11_gridOf_24 (fun r24 τ24 h24 => ?_)
          obtain ⟨q24, rfl⟩ := h24
          refine jr_goto C 31 dX11_gridOf_27 (by decide) ?_
          refine jr_iadd C dX11_gridOf_31 ?_
          refine jr_istore_n C dX11_gridOf_32 (by decide) ?_
          refine jr_iinc C _ dX11_gridOf_33 rfl rfl (by decide) ?_
          refine jr_goto C 4 dX11_gridOf_36 (by decide) ?_
          exact jr_sub [(0, jf_r E 0), (1, .int _), (2, .int _)] rfl (ih _ _ (by omega) (by omega) (by omega) (by rw [es]; first | (have q := w0 _ b19); exact g_grid_s g4 q | exact g_grid_s g4 (q24.trans (w1 _ b19))))
  refine jr_iconst C (v := 0) dX11_gridOf_0 (by decide) ?_
  refine jr_istore_n C dX11_gridOf_1 (by decide) ?_
  refine jr_iconst C (v := 0) dX11_gridOf_2 (by decide) ?_
  refine jr_istore_n C dX11_gridOf_3 (by decide) ?_
  exact jr_sub [(0, jf_r E 0), (1, .int 0), (2, .int 0)] rfl (loop 61 0 0 (by decide) hE.1 (by show _ - 0 < _; omega) rfl)

