/-! the reference: showings, safe (what they answer is not told here) -/
/-- showings as they must be for the walks: numbers within their rows -/
def mI_s (σ : jf_S) : Prop := (0 ≤ ((σ.1 0 17)).toInt ∧ ((σ.1 0 17)).toInt ≤ 60) ∧ (∀ j, 0 ≤ ((σ.1 1) j).toInt ∧ ((σ.1 1) j).toInt ≤ 4) ∧ (∀ j, 0 ≤ ((σ.1 15) j).toInt ∧ ((σ.1 15) j).toInt ≤ 19) ∧ (∀ j, 0 ≤ ((σ.1 16) j).toInt ∧ ((σ.1 16) j).toInt ≤ 3) ∧ (∀ j, 0 ≤ ((σ.1 17) j).toInt ∧ ((σ.1 17) j).toInt ≤ 14399)
theorem mI_town {σ : jf_S} (h : mI_s σ) (j : Nat) {n : Nat} (hn : 5 ≤ n) : vp_in ((σ.1 1) j) n := ji_in (h.2.1 j).1 (by have := (h.2.1 j).2; omega)
theorem mI_film {σ : jf_S} (h : mI_s σ) (j : Nat) {n : Nat} (hn : 20 ≤ n) : vp_in ((σ.1 15) j) n := ji_in (h.2.2.1 j).1 (by have := (h.2.2.1 j).2; omega)
theorem mI_hall {σ : jf_S} (h : mI_s σ) (j : Nat) {n : Nat} (hn : 4 ≤ n) : vp_in ((σ.1 16) j) n := ji_in (h.2.2.2.1 j).1 (by have := (h.2.2.2.1 j).2; omega)
theorem mI_way {σ : jf_S} (h : mI_s σ) (i j : Nat) : vp_in (5 * (σ.1 1) i + (σ.1 1) j) 25 := by
  have h1 := h.2.1 i
  have h2 := h.2.1 j
  exact ji_lin 5 5 rfl (by omega) (by omega) (by omega) (by omega)
theorem ct_X11_endOf (E : jf_E) (σ : jf_S) (s : Int32) (hI : mI_s σ) (h0 : 0 ≤ s.toInt) (h1 : s.toInt < 60) : jf_I jh_M E yX11_endOf cX11_endOf 2 .int 0 [jf_r E 0, .int s] σ (fun r τ => r = (σ.1 17) s.toNatClampNeg + (σ.1 5) ((σ.1 15) s.toNatClampNeg).toNatClampNeg ∧ τ = σ) := by
  refine jf_mkI (by decide) (Nat.le_of_ble_eq_true rfl) ?_
  intro G C ret
  refine jr_aload_n C dX11_endOf_0 rfl ?_
  refine jr_getr C kf_X11_59_0 dX11_endOf_1 ?_
  refine jr_iload_n C dX11_endOf_4 rfl ?_
  refine jr_ialv C ka_M_17 dX11_endOf_5 (ji_in h0 h1) (v := σ.1 17 _) rfl ?_
  refine jr_aload_n C dX11_endOf_6 rfl ?_
  refine jr_getr C kf_X11_22_0 dX11_endOf_7 ?_
  refine jr_aload_n C dX11_endOf_10 rfl ?_
  refine jr_getr C kf_X11_53_0 dX11_endOf_11 ?_
  refine jr_iload_n C dX11_endOf_14 rfl ?_
  refine jr_ialv C ka_M_15 dX11_endOf_15 (ji_in h0 h1) (v := σ.1 15 _) rfl ?_
  refine jr_ialv C ka_M_5 dX11_endOf_16 (mI_film hI _ (by decide)) (v := σ.1 5 _) rfl ?_
  refine jr_iadd C dX11_endOf_17 ?_
  exact ret _ _ _ _ dX11_endOf_18 rfl (⟨rfl, rfl⟩)
theorem ct_X11_trueEnd (E : jf_E) (σ : jf_S) (s : Int32) (hI : mI_s σ) (h0 : 0 ≤ s.toInt) (h1 : s.toInt < 60) : jf_I jh_M E yX11_trueEnd cX11_trueEnd 2 .int 0 [jf_r E 0, .int s] σ (fun r τ => r = (σ.1 23) s.toNatClampNeg + (σ.1 5) ((σ.1 15) s.toNatClampNeg).toNatClampNeg + (σ.1 19) s.toNatClampNeg ∧ τ = σ) := by
  refine jf_mkI (by decide) (Nat.le_of_ble_eq_true rfl) ?_
  intro G C ret
  refine jr_aload_n C dX11_trueEnd_0 rfl ?_
  refine jr_getr C kf_X11_81_0 dX11_trueEnd_1 ?_
  refine jr_iload_n C dX11_trueEnd_4 rfl ?_
  refine jr_ialv C ka_M_23 dX11_trueEnd_5 (ji_in h0 h1) (v := σ.1 23 _) rfl ?_
  refine jr_aload_n C dX11_trueEnd_6 rfl ?_
  refine jr_getr C kf_X11_22_0 dX11_trueEnd_7 ?_
  refine jr_aload_n C dX11_trueEnd_10 rfl ?_
  refine jr_getr C kf_X11_53_0 dX11_trueEnd_11 ?_
  refine jr_iload_n C dX11_trueEnd_14 rfl ?_
  refine jr_ialv C ka_M_15 dX11_trueEnd_15 (ji_in h0 h1) (v := σ.1 15 _) rfl ?_
  refine jr_ialv C ka_M_5 dX11_trueEnd_16 (mI_film hI _ (by decide)) (v := σ.1 5 _) rfl ?_
  refine jr_iadd C dX11_trueEnd_17 ?_
  refine jr_aload_n C dX11_trueEnd_18 rfl ?_
  refine jr_getr C kf_X11_65_0 dX11_trueEnd_19 ?_
  refine jr_iload_n C dX11_trueEnd_22 rfl ?_
  refine jr_ialv C ka_M_19 dX11_trueEnd_23 (ji_in h0 h1) (v := σ.1 19 _) rfl ?_
  refine jr_iadd C dX11_trueEnd_24 ?_
  exact ret _ _ _ _ dX11_trueEnd_25 rfl (⟨rfl, rfl⟩)
theorem ct_X11_crowdOf (E : jf_E) (σ : jf_S) (s : Int32) (hI : mI_s σ) (h0 : 0 ≤ s.toInt) (h1 : s.toInt < 60) : jf_I jh_M E yX11_crowdOf cX11_crowdOf 4 .int 1 [jf_r E 0, .int s] σ (fun r τ => σ = τ) := by
  refine jf_mkI (by decide) (Nat.le_of_ble_eq_true rfl) ?_
  intro G C ret
  have hE := hI.1
  have loop : ∀ (m : Nat) (n o : Int32), 0 ≤ o.toInt → o.toInt ≤ ((σ.1 0 17)).toInt → ((σ.1 0 17)).toInt - o.toInt ≤ m → 1 ≤ n.toInt → n.toInt ≤ o.toInt + 1 → jf_X jh_M E G 4 4 [(0, jf_r E 0), (1, .int s), (2, .int n), (3, .int o)] [] σ := by
    intro m
    induction m with
    | zero =>
      intro n o g1 g2 g3 g4 g5
      refine jr_iload_n C dX11_crowdOf_4 rfl ?_
      refine jr_aload_n C dX11_crowdOf_5 rfl ?_
      refine jr_geti C kf_X11_160_0 dX11_crowdOf_6 ?_
      refine jr_ncmp_ge C 93 dX11_crowdOf_9 (by decide) rfl rfl (fun b9 => ?_) (fun b9 => (by exfalso; omega))
      refine jr_aload_n C dX11_crowdOf_93 rfl ?_
      refine jr_getr C kf_X11_28_0 dX11_crowdOf_94 ?_
      refine jr_aload_n C dX11_crowdOf_97 rfl ?_
      refine jr_getr C kf_X11_53_0 dX11_crowdOf_98 ?_
      refine jr_iload_n C dX11_crowdOf_101 rfl ?_
      refine jr_ialv C ka_M_15 dX11_crowdOf_102 (ji_in h0 h1) (v := σ.1 15 _) rfl ?_
      refine jr_ialv C ka_M_7 dX11_crowdOf_103 (mI_film hI _ (by decide)) (v := σ.1 7 _) rfl ?_
      refine jr_aload_n C dX11_crowdOf_104 rfl ?_
      refine jr_getr C kf_X11_71_0 dX11_crowdOf_105 ?_
      refine jr_aload_n C dX11_crowdOf_108 rfl ?_
      refine jr_getr C kf_X11_59_0 dX11_crowdOf_109 ?_
      refine jr_iload_n C dX11_crowdOf_112 rfl ?_
      refine jr_ialv C ka_M_17 dX11_crowdOf_113 (ji_in h0 h1) (v := σ.1 17 _) rfl ?_
      refine jr_sipush C (v := 1440) dX11_crowdOf_114 (by decide) ?_
      refine jr_irem C dX11_crowdOf_117 (by decide) ?_
      refine jr_bipush C (v := 60) dX11_crowdOf_118 (by decide) ?_
      refine jr_idiv C dX11_crowdOf_120 (by decide) ?_
      refine jr_ialv C ka_M_21 dX11_crowdOf_121 (ji_hin (hI.2.2.2.2 _).1) (v := σ.1 21 _) rfl ?_
      refine jr_imul C dX11_crowdOf_122 ?_
      refine jr_bipush C (v := 100) dX11_crowdOf_123 (by decide) ?_
      refine jr_idiv C dX11_crowdOf_125 (by decide) ?_
      refine jr_iload_n C dX11_crowdOf_126 rfl ?_
      refine jr_idiv C dX11_crowdOf_127 (jn_eqf.mpr (by omega)) ?_
      exact ret _ _ _ _ dX11_crowdOf_128 rfl (rfl)
    | succ m ih =>
      intro n o g1 g2 g3 g4 g5
      have e1 := ji_inc (k := o) (by omega)
      have e2 := ji_inc1 (k := n) (by omega)
      have e3 := ji_a0 n
      refine jr_iload_n C dX11_crowdOf_4 rfl ?_
      refine jr_aload_n C dX11_crowdOf_5 rfl ?_
      refine jr_geti C kf_X11_160_0 dX11_crowdOf_6 ?_
      refine jr_ncmp_ge C 93 dX11_crowdOf_9 (by decide) rfl rfl (fun b9 => ?_) (fun b9 => ?_)
      · refine jr_aload_n C dX11_crowdOf_93 rfl ?_
        refine jr_getr C kf_X11_28_0 dX11_crowdOf_94 ?_
        refine jr_aload_n C dX11_crowdOf_97 rfl ?_
        refine jr_getr C kf_X11_53_0 dX11_crowdOf_98 ?_
        refine jr_iload_n C dX11_crowdOf_101 rfl ?_
        refine jr_ialv C ka_M_15 dX11_crowdOf_102 (ji_in h0 h1) (v := σ.1 15 _) rfl ?_
        refine jr_ialv C ka_M_7 dX11_crowdOf_103 (mI_film hI _ (by decide)) (v := σ.1 7 _) rfl ?_
        refine jr_aload_n C dX11_crowdOf_104 rfl ?_
        refine jr_getr C kf_X11_71_0 dX11_crowdOf_105 ?_
        refine jr_aload_n C dX11_crowdOf_108 rfl ?_
        refine jr_getr C kf_X11_59_0 dX11_crowdOf_109 ?_
        refine jr_iload_n C dX11_crowdOf_112 rfl ?_
        refine jr_ialv C ka_M_17 dX11_crowdOf_113 (ji_in h0 h1) (v := σ.1 17 _) rfl ?_
        refine jr_sipush C (v := 1440) dX11_crowdOf_114 (by decide) ?_
        refine jr_irem C dX11_crowdOf_117 (by decide) ?_
        refine jr_bipush C (v := 60) dX11_crowdOf_118 (by decide) ?_
        refine jr_idiv C dX11_crowdOf_120 (by decide) ?_
        refine jr_ialv C ka_M_21 dX11_crowdOf_121 (ji_hin (hI.2.2.2.2 _).1) (v := σ.1 21 _) rfl ?_
        refine jr_imul C dX11_crowdOf_122 ?_
        refine jr_bipush C (v := 100) dX11_crowdOf_123 (by decide) ?_
        refine jr_idiv C dX11_crowdOf_125 (by decide) ?_
        refine jr_iload_n C dX11_crowdOf_126 rfl ?_
        refine jr_idiv C dX11_crowdOf_127 (jn_eqf.mpr (by omega)) ?_
        exact ret _ _ _ _ dX11_crowdOf_128 rfl (rfl)
      · refine jr_iload_n C dX11_crowdOf_12 rfl ?_
        refine jr_aload_n C dX11_crowdOf_13 rfl ?_
        refine jr_getr C kf_X11_49_0 dX11_crowdOf_14 ?_
        refine jr_iload_n C dX11_crowdOf_17 rfl ?_
        refine jr_zalv C ka_M_14 dX11_crowdOf_18 (ji_in (i := o) (by omega) (by omega)) (v := σ.1 14 _) rfl ?_
        refine jr_nif_eq C 84 dX11_crowdOf_19 (by decide) (fun b19 => ?_) (fun b19 => ?_)
        · refine jr_iconst C (v := 0) dX11_crowdOf_84 (by decide) ?_
          refine jr_iadd C dX11_crowdOf_85 ?_
          refine jr_istore_n C dX11_crowdOf_86 (by decide) ?_
          refine jr_iinc C _ dX11_crowdOf_87 rfl rfl (by decide) ?_
          refine jr_goto C 4 dX11_crowdOf_90 (by decide) ?_
          exact jr_sub [(0, jf_r E 0), (1, .int s), (2, .int _), (3, .int _)] rfl (ih _ _ (by omega) (by omega) (by omega) (by omega) (by omega))
        · refine jr_iload_n C dX11_crowdOf_22 rfl ?_
          refine jr_iload_n C dX11_crowdOf_23 rfl ?_
          refine jr_ncmp_eq C 84 dX11_crowdOf_24 (by decide) rfl rfl (fun b24 => ?_) (fun b24 => ?_)
          · refine jr_iconst C (v := 0) dX11_crowdOf_84 (by decide) ?_
            refine jr_iadd C dX11_crowdOf_85 ?_
            refine jr_istore_n C dX11_crowdOf_86 (by decide) ?_
            refine jr_iinc C _ dX11_crowdOf_87 rfl rfl (by decide) ?_
            refine jr_goto C 4 dX11_crowdOf_90 (by decide) ?_
            exact jr_sub [(0, jf_r E 0), (1, .int s), (2, .int _), (3, .int _)] rfl (ih _ _ (by omega) (by omega) (by omega) (by omega) (by omega))
          · refine jr_aload_n C dX11_crowdOf_27 rfl ?_
            refine jr_getr C kf_X11_7_0 dX11_crowdOf_28 ?_
            refine jr_aload_n C dX11_crowdOf_31 rfl ?_
            refine jr_getr C kf_X11_56_0 dX11_crowdOf_32 ?_
            refine jr_iload_n C dX11_crowdOf_35 rfl ?_
            refine jr_ialv C ka_M_16 dX11_crowdOf_36 (ji_in (i := o) (by omega) (by omega)) (v := σ.1 16 _) rfl ?_
            refine jr_ialv C ka_M_1 dX11_crowdOf_37 (mI_hall hI _ (by decide)) (v := σ.1 1 _) rfl ?_
            refine jr_aload_n C dX11_crowdOf_38 rfl ?_
            refine jr_getr C kf_X11_7_0 dX11_crowdOf_39 ?_
            refine jr_aload_n C dX11_crowdOf_42 rfl ?_
            refine jr_getr C kf_X11_56_0 dX11_crowdOf_43 ?_
            refine jr_iload_n C dX11_crowdOf_46 rfl ?_
            refine jr_ialv C ka_M_16 dX11_crowdOf_47 (ji_in h0 h1) (v := σ.1 16 _) rfl ?_
            refine jr_ialv C ka_M_1 dX11_crowdOf_48 (mI_hall hI _ (by decide)) (v := σ.1 1 _) rfl ?_
            refine jr_ncmp_ne C 84 dX11_crowdOf_49 (by decide) rfl rfl (fun b49 => ?_) (fun b49 => ?_)
            · refine jr_iconst C (v := 0) dX11_crowdOf_84 (by decide) ?_
              refine jr_iadd C dX11_crowdOf_85 ?_
              refine jr_istore_n C dX11_crowdOf_86 (by decide) ?_
              refine jr_iinc C _ dX11_crowdOf_87 rfl rfl (by decide) ?_
              refine jr_goto C 4 dX11_crowdOf_90 (by decide) ?_
              exact jr_sub [(0, jf_r E 0), (1, .int s), (2, .int _), (3, .int _)] rfl (ih _ _ (by omega) (by omega) (by omega) (by omega) (by omega))
            · refine jr_aload_n C dX11_crowdOf_52 rfl ?_
              refine jr_getr C kf_X11_59_0 dX11_crowdOf_53 ?_
              refine jr_iload_n C dX11_crowdOf_56 rfl ?_
              refine jr_ialv C ka_M_17 dX11_crowdOf_57 (ji_in (i := o) (by omega) (by omega)) (v := σ.1 17 _) rfl ?_
              refine jr_aload_n C dX11_crowdOf_58 rfl ?_
              refine jr_iload_n C dX11_crowdOf_59 rfl ?_
              refine jr_vip C [.int _] _ (ct_X11_endOf E _ _ hI h0 h1) ky_X11_endOf kv_X11_endOf kk_M_0 km_X11_192 (by decide) rfl (Nat.le_of_ble_eq_true rfl) dX11_crowdOf_60 ?_
              refine jr_ncmp_ge C 84 dX11_crowdOf_63 (by decide) rfl rfl (fun b63 => ?_) (fun b63 => ?_)
              · refine jr_iconst C (v := 0) dX11_crowdOf_84 (by decide) ?_
                refine jr_iadd C dX11_crowdOf_85 ?_
                refine jr_istore_n C dX11_crowdOf_86 (by decide) ?_
                refine jr_iinc C _ dX11_crowdOf_87 rfl rfl (by decide) ?_
                refine jr_goto C 4 dX11_crowdOf_90 (by decide) ?_
                exact jr_sub [(0, jf_r E 0), (1, .int s), (2, .int _), (3, .int _)] rfl (ih _ _ (by omega) (by omega) (by omega) (by omega) (by omega))
              · refine jr_aload_n C dX11_crowdOf_66 rfl ?_
                refine jr_iload_n C dX11_crowdOf_67 rfl ?_
                refine jr_vip C [.int _] _ (ct_X11_endOf E _ _ hI (by omega) (by omega)) ky_X11_endOf kv_X11_endOf kk_M_0 km_X11_192 (by decide) rfl (Nat.le_of_ble_eq_true rfl) dX11_crowdOf_68 ?_
                refine jr_aload_n C dX11_crowdOf_71 rfl ?_
                refine jr_getr C kf_X11_59_0 dX11_crowdOf_72 ?_
                refine jr_iload_n C dX11_crowdOf_75 rfl ?_
                refine jr_ialv C ka_M_17 dX11_crowdOf_76 (ji_in h0 h1) (v := σ.1 17 _) rfl ?_
                refine jr_ncmp_le C 84 dX11_crowdOf_77 (by decide) rfl rfl (fun b77 => ?_) (fun b77 => ?_)
                · refine jr_iconst C (v := 0) dX11_crowdOf_84 (by decide) ?_
                  refine jr_iadd C dX11_crowdOf_85 ?_
                  refine jr_istore_n C dX11_crowdOf_86 (by decide) ?_
                  refine jr_iinc C _ dX11_crowdOf_87 rfl rfl (by decide) ?_
                  refine jr_goto C 4 dX11_crowdOf_90 (by decide) ?_
                  exact jr_sub [(0, jf_r E 0), (1, .int s), (2, .int _), (3, .int _)] rfl (ih _ _ (by omega) (by omega) (by omega) (by omega) (by omega))
                · refine jr_iconst C (v := 1) dX11_crowdOf_80 (by decide) ?_
                  refine jr_goto C 85 dX11_crowdOf_81 (by decide) ?_
                  refine jr_iadd C dX11_crowdOf_85 ?_
                  refine jr_istore_n C dX11_crowdOf_86 (by decide) ?_
                  refine jr_iinc C _ dX11_crowdOf_87 rfl rfl (by decide) ?_
                  refine jr_goto C 4 dX11_crowdOf_90 (by decide) ?_
                  exact jr_sub [(0, jf_r E 0), (1, .int s), (2, .int _), (3, .int _)] rfl (ih _ _ (by omega) (by omega) (by omega) (by omega) (by omega))
  refine jr_iconst C (v := 1) dX11_crowdOf_0 (by decide) ?_
  refine jr_istore_n C dX11_crowdOf_1 (by decide) ?_
  refine jr_iconst C (v := 0) dX11_crowdOf_2 (by decide) ?_
  refine jr_istore_n C dX11_crowdOf_3 (by decide) ?_
  exact jr_sub [(0, jf_r E 0), (1, .int s), (2, .int 1), (3, .int 0)] rfl (loop 60 1 0 (by decide) hE.1 (by show _ - 0 ≤ _; omega) (by decide) (by decide))
theorem ct_X11_worthOf (E : jf_E) (σ : jf_S) (s : Int32) (hI : mI_s σ) (h0 : 0 ≤ s.toInt) (h1 : s.toInt < 60) : jf_I jh_M E yX11_worthOf cX11_worthOf 3 .int 2 [jf_r E 0, .int s] σ (fun r τ => σ = τ) := by
  refine jf_mkI (by decide) (Nat.le_of_ble_eq_true rfl) ?_
  intro G C ret
  refine jr_aload_n C dX11_worthOf_0 rfl ?_
  refine jr_iload_n C dX11_worthOf_1 rfl ?_
  refine jr_vi C [.int _] _ (ct_X11_crowdOf E _ _ hI h0 h1) ky_X11_crowdOf kv_X11_crowdOf kk_M_0 km_X11_207 (by decide) rfl (Nat.le_of_ble_eq_true rfl) dX11_worthOf_2 (fun r2 τ2 h2 => ?_)
  subst h2
  refine jr_istore_n C dX11_worthOf_5 (by decide) ?_
  refine jr_iload_n C dX11_worthOf_6 rfl ?_
  refine jr_aload_n C dX11_worthOf_7 rfl ?_
  refine jr_getr C kf_X11_13_0 dX11_worthOf_8 ?_
  refine jr_aload_n C dX11_worthOf_11 rfl ?_
  refine jr_getr C kf_X11_56_0 dX11_worthOf_12 ?_
  refine jr_iload_n C dX11_worthOf_15 rfl ?_
  refine jr_ialv C ka_M_16 dX11_worthOf_16 (ji_in h0 h1) (v := σ.1 16 _) rfl ?_
  refine jr_ialv C ka_M_2 dX11_worthOf_17 (mI_hall hI _ (by decide)) (v := σ.1 2 _) rfl ?_
  refine jr_ncmp_ge C 25 dX11_worthOf_18 (by decide) rfl rfl (fun b18 => ?_) (fun b18 => ?_)
  · refine jr_aload_n C dX11_worthOf_25 rfl ?_
    refine jr_getr C kf_X11_13_0 dX11_worthOf_26 ?_
    refine jr_aload_n C dX11_worthOf_29 rfl ?_
    refine jr_getr C kf_X11_56_0 dX11_worthOf_30 ?_
    refine jr_iload_n C dX11_worthOf_33 rfl ?_
    refine jr_ialv C ka_M_16 dX11_worthOf_34 (ji_in h0 h1) (v := σ.1 16 _) rfl ?_
    refine jr_ialv C ka_M_2 dX11_worthOf_35 (mI_hall hI _ (by decide)) (v := σ.1 2 _) rfl ?_
    exact ret _ _ _ _ dX11_worthOf_36 rfl (rfl)
  · refine jr_iload_n C dX11_worthOf_21 rfl ?_
    refine jr_goto C 36 dX11_worthOf_22 (by decide) ?_
    exact ret _ _ _ _ dX11_worthOf_36 rfl (rfl)
theorem ct_X11_gridOf (E : jf_E) (σ : jf_S) (hI : mI_s σ) : jf_I jh_M E yX11_gridOf cX11_gridOf 3 .int 3 [jf_r E 0] σ (fun r τ => σ = τ) := by
  refine jf_mkI (by decide) (Nat.le_of_ble_eq_true rfl) ?_
  intro G C ret
  have hE := hI.1
  have loop : ∀ (m : Nat) (n o : Int32), 0 ≤ o.toInt → o.toInt ≤ ((σ.1 0 17)).toInt → ((σ.1 0 17)).toInt - o.toInt < m → jf_X jh_M E G 3 4 [(0, jf_r E 0), (1, .int n), (2, .int o)] [] σ := by
    intro m
    induction m with
    | zero => intro n o g1 g2 g3; exfalso; omega
    | succ m ih =>
      intro n o g1 g2 g3
      have e1 := ji_inc (k := o) (by omega)
      refine jr_iload_n C dX11_gridOf_4 rfl ?_
      refine jr_aload_n C dX11_gridOf_5 rfl ?_
      refine jr_geti C kf_X11_160_0 dX11_gridOf_6 ?_
      refine jr_ncmp_ge C 39 dX11_gridOf_9 (by decide) rfl rfl (fun b9 => ?_) (fun b9 => ?_)
      · refine jr_iload_n C dX11_gridOf_39 rfl ?_
        exact ret _ _ _ _ dX11_gridOf_40 rfl (rfl)
      · refine jr_iload_n C dX11_gridOf_12 rfl ?_
        refine jr_aload_n C dX11_gridOf_13 rfl ?_
        refine jr_getr C kf_X11_49_0 dX11_gridOf_14 ?_
        refine jr_iload_n C dX11_gridOf_17 rfl ?_
        refine jr_zalv C ka_M_14 dX11_gridOf_18 (ji_in (i := o) (by omega) (by omega)) (v := σ.1 14 _) rfl ?_
        refine jr_nif_eq C 30 dX11_gridOf_19 (by decide) (fun b19 => ?_) (fun b19 => ?_)
        · refine jr_iconst C (v := 0) dX11_gridOf_30 (by decide) ?_
          refine jr_iadd C dX11_gridOf_31 ?_
          refine jr_istore_n C dX11_gridOf_32 (by decide) ?_
          refine jr_iinc C _ dX11_gridOf_33 rfl rfl (by decide) ?_
          refine jr_goto C 4 dX11_gridOf_36 (by decide) ?_
          exact jr_sub [(0, jf_r E 0), (1, .int _), (2, .int _)] rfl (ih _ _ (by omega) (by omega) (by omega))
        · refine jr_aload_n C dX11_gridOf_22 rfl ?_
          refine jr_iload_n C dX11_gridOf_23 rfl ?_
          refine jr_vi C [.int _] _ (ct_X11_worthOf E _ _ hI (by omega) (by omega)) ky_X11_worthOf kv_X11_worthOf kk_M_0 km_X11_210 (by decide) rfl (Nat.le_of_ble_eq_true rfl) dX11_gridOf_24 (fun r24 τ24 h24 => ?_)
          subst h24
          refine jr_goto C 31 dX11_gridOf_27 (by decide) ?_
          refine jr_iadd C dX11_gridOf_31 ?_
          refine jr_istore_n C dX11_gridOf_32 (by decide) ?_
          refine jr_iinc C _ dX11_gridOf_33 rfl rfl (by decide) ?_
          refine jr_goto C 4 dX11_gridOf_36 (by decide) ?_
          exact jr_sub [(0, jf_r E 0), (1, .int _), (2, .int _)] rfl (ih _ _ (by omega) (by omega) (by omega))
  refine jr_iconst C (v := 0) dX11_gridOf_0 (by decide) ?_
  refine jr_istore_n C dX11_gridOf_1 (by decide) ?_
  refine jr_iconst C (v := 0) dX11_gridOf_2 (by decide) ?_
  refine jr_istore_n C dX11_gridOf_3 (by decide) ?_
  exact jr_sub [(0, jf_r E 0), (1, .int 0), (2, .int 0)] rfl (loop 61 0 0 (by decide) hE.1 (by show _ - 0 < _; omega))
theorem ct_X11_nextTrue (E : jf_E) (σ : jf_S) (hI : mI_s σ) : jf_I jh_M E yX11_nextTrue cX11_nextTrue 3 .int 0 [jf_r E 0] σ (fun r τ => (r.toInt = -1 ∨ (0 ≤ r.toInt ∧ r.toInt < ((σ.1 0 17)).toInt ∧ (σ.1 24) r.toNatClampNeg = 0)) ∧ σ = τ) := by
  refine jf_mkI (by decide) (Nat.le_of_ble_eq_true rfl) ?_
  intro G C ret
  have hE := hI.1
  have loop : ∀ (m : Nat) (n o : Int32), 0 ≤ o.toInt → o.toInt ≤ ((σ.1 0 17)).toInt → ((σ.1 0 17)).toInt - o.toInt < m → (n.toInt = -1 ∨ (0 ≤ n.toInt ∧ n.toInt < ((σ.1 0 17)).toInt ∧ (σ.1 24) n.toNatClampNeg = 0)) → jf_X jh_M E G 3 4 [(0, jf_r E 0), (1, .int n), (2, .int o)] [] σ := by
    intro m
    induction m with
    | zero => intro n o g1 g2 g3; exfalso; omega
    | succ m ih =>
      intro n o g1 g2 g3 g4
      have e1 := ji_inc (k := o) (by omega)
      refine jr_iload_n C dX11_nextTrue_4 rfl ?_
      refine jr_aload_n C dX11_nextTrue_5 rfl ?_
      refine jr_geti C kf_X11_160_0 dX11_nextTrue_6 ?_
      refine jr_ncmp_ge C 52 dX11_nextTrue_9 (by decide) rfl rfl (fun b9 => ?_) (fun b9 => ?_)
      · refine jr_iload_n C dX11_nextTrue_52 rfl ?_
        exact ret _ _ _ _ dX11_nextTrue_53 rfl (⟨g4, rfl⟩)
      · refine jr_aload_n C dX11_nextTrue_12 rfl ?_
        refine jr_getr C kf_X11_84_0 dX11_nextTrue_13 ?_
        refine jr_iload_n C dX11_nextTrue_16 rfl ?_
        refine jr_zalv C ka_M_24 dX11_nextTrue_17 (ji_in (i := o) (by omega) (by omega)) (v := σ.1 24 _) rfl ?_
        refine jr_nif_ne C 44 dX11_nextTrue_18 (by decide) (fun b18 => ?_) (fun b18 => ?_)
        · refine jr_iload_n C dX11_nextTrue_44 rfl ?_
          refine jr_istore_n C dX11_nextTrue_45 (by decide) ?_
          refine jr_iinc C _ dX11_nextTrue_46 rfl rfl (by decide) ?_
          refine jr_goto C 4 dX11_nextTrue_49 (by decide) ?_
          first | exact jr_sub [(0, jf_r E 0), (1, .int n), (2, .int _)] rfl (ih _ _ (by omega) (by omega) (by omega) g4) | exact jr_sub [(0, jf_r E 0), (1, .int o), (2, .int _)] rfl (ih _ _ (by omega) (by omega) (by omega) (Or.inr ⟨by omega, by omega, jn_eq.mpr b18⟩))
        · refine jr_iload_n C dX11_nextTrue_21 rfl ?_
          refine jr_nif_lt C 40 dX11_nextTrue_22 (by decide) (fun b22 => ?_) (fun b22 => ?_)
          · refine jr_iload_n C dX11_nextTrue_40 rfl ?_
            refine jr_goto C 45 dX11_nextTrue_41 (by decide) ?_
            refine jr_istore_n C dX11_nextTrue_45 (by decide) ?_
            refine jr_iinc C _ dX11_nextTrue_46 rfl rfl (by decide) ?_
            refine jr_goto C 4 dX11_nextTrue_49 (by decide) ?_
            first | exact jr_sub [(0, jf_r E 0), (1, .int n), (2, .int _)] rfl (ih _ _ (by omega) (by omega) (by omega) g4) | exact jr_sub [(0, jf_r E 0), (1, .int o), (2, .int _)] rfl (ih _ _ (by omega) (by omega) (by omega) (Or.inr ⟨by omega, by omega, jn_eq.mpr b18⟩))
          · refine jr_aload_n C dX11_nextTrue_25 rfl ?_
            refine jr_getr C kf_X11_59_0 dX11_nextTrue_26 ?_
            refine jr_iload_n C dX11_nextTrue_29 rfl ?_
            refine jr_ialv C ka_M_17 dX11_nextTrue_30 (ji_in (i := o) (by omega) (by omega)) (v := σ.1 17 _) rfl ?_
            refine jr_aload_n C dX11_nextTrue_31 rfl ?_
            refine jr_getr C kf_X11_59_0 dX11_nextTrue_32 ?_
            refine jr_iload_n C dX11_nextTrue_35 rfl ?_
            refine jr_ialv C ka_M_17 dX11_nextTrue_36 (ji_in (i := n) (by omega) (by omega)) (v := σ.1 17 _) rfl ?_
            refine jr_ncmp_ge C 44 dX11_nextTrue_37 (by decide) rfl rfl (fun b37 => ?_) (fun b37 => ?_)
            · refine jr_iload_n C dX11_nextTrue_44 rfl ?_
              refine jr_istore_n C dX11_nextTrue_45 (by decide) ?_
              refine jr_iinc C _ dX11_nextTrue_46 rfl rfl (by decide) ?_
              refine jr_goto C 4 dX11_nextTrue_49 (by decide) ?_
              first | exact jr_sub [(0, jf_r E 0), (1, .int n), (2, .int _)] rfl (ih _ _ (by omega) (by omega) (by omega) g4) | exact jr_sub [(0, jf_r E 0), (1, .int o), (2, .int _)] rfl (ih _ _ (by omega) (by omega) (by omega) (Or.inr ⟨by omega, by omega, jn_eq.mpr b18⟩))
            · refine jr_iload_n C dX11_nextTrue_40 rfl ?_
              refine jr_goto C 45 dX11_nextTrue_41 (by decide) ?_
              refine jr_istore_n C dX11_nextTrue_45 (by decide) ?_
              refine jr_iinc C _ dX11_nextTrue_46 rfl rfl (by decide) ?_
              refine jr_goto C 4 dX11_nextTrue_49 (by decide) ?_
              first | exact jr_sub [(0, jf_r E 0), (1, .int n), (2, .int _)] rfl (ih _ _ (by omega) (by omega) (by omega) g4) | exact jr_sub [(0, jf_r E 0), (1, .int o), (2, .int _)] rfl (ih _ _ (by omega) (by omega) (by omega) (Or.inr ⟨by omega, by omega, jn_eq.mpr b18⟩))
  refine jr_iconst C (v := -1) dX11_nextTrue_0 (by decide) ?_
  refine jr_istore_n C dX11_nextTrue_1 (by decide) ?_
  refine jr_iconst C (v := 0) dX11_nextTrue_2 (by decide) ?_
  refine jr_istore_n C dX11_nextTrue_3 (by decide) ?_
  exact jr_sub [(0, jf_r E 0), (1, .int (-1)), (2, .int 0)] rfl (loop 61 (-1) 0 (by decide) hE.1 (by show _ - 0 < _; omega) (Or.inl rfl))
/-- the reference's two scratch rows of TRUE beginnings, changed at will -/
def mS_true (σ τ : jf_S) : Prop := τ.2 = σ.2 ∧ ∀ k, k ≠ 23 → k ≠ 24 → τ.1 k = σ.1 k
theorem mS_true_I {σ τ : jf_S} (h : mS_true σ τ) (hI : mI_s σ) : mI_s τ := by
  unfold mI_s
  rw [h.2 0 (by decide) (by decide), h.2 1 (by decide) (by decide), h.2 15 (by decide) (by decide), h.2 16 (by decide) (by decide), h.2 17 (by decide) (by decide)]
  exact hI
theorem mS_true_w {σ τ : jf_S} (h : mS_true σ τ) {k j : Nat} {v : Int32} (hk : k = 23 ∨ k = 24) : mS_true σ (jf_i τ k j v) := by
  refine ⟨h.1, fun a h1 h2 => ?_⟩
  rw [jf_i_o a (by rcases hk with e | e <;> omega)]
  exact h.2 a h1 h2
set_option maxHeartbeats 1000000 in
theorem ct_X11_findTrue (E : jf_E) (σ : jf_S) (hI : mI_s σ) : jf_V jh_M E yX11_findTrue cX11_findTrue 7 1 [jf_r E 0] σ (fun τ => mS_true σ τ) := by
  refine jf_mkV (by decide) (Nat.le_of_ble_eq_true rfl) ?_
  intro G C ret
  have loop2 : ∀ (m : Nat) (τ : jf_S) (nx : Int32), mS_true σ τ → (nx.toInt = -1 ∨ (0 ≤ nx.toInt ∧ nx.toInt < ((τ.1 0 17)).toInt ∧ (τ.1 24) nx.toNatClampNeg = 0)) → jx_ct (fun j => (τ.1 24) j == 0) 60 < m → jf_X jh_M E G 7 41 [(0, jf_r E 0), (1, .int nx)] [] τ := by
    intro m
    induction m with
    | zero => intro τ nx g1 g2 g3; exfalso; omega
    | succ m ih =>
      intro τ nx g1 g2 g3
      have hT := mS_true_I g1 hI
      have hE := hT.1
      refine jr_iload_n C dX11_findTrue_41 rfl ?_
      refine jr_nif_lt C 314 dX11_findTrue_42 (by decide) (fun b42 => ?_) (fun b42 => ?_)
      · exact ret _ _ _ dX11_findTrue_314 (g1)
      have g4 : 0 ≤ nx.toInt ∧ nx.toInt < ((τ.1 0 17)).toInt ∧ (τ.1 24) nx.toNatClampNeg = 0 := by
        rcases g2 with q | q
        · exfalso; omega
        · exact q
      have J298 : ∀ (L : List (Nat × Value)) (v : Int32), jf_lk 0 L = some (jf_r E 0) → jf_lk 1 L = some (.int nx) → jf_X jh_M E G 7 298 L [.int v, .int nx, jf_r E 23] τ := by
        intro L v hL0 hL1
        have w1 := mS_true_w (k := 24) (j := nx.toNatClampNeg) (v := 1) (mS_true_w (k := 23) (j := nx.toNatClampNeg) (v := v) g1 (Or.inl rfl)) (Or.inr rfl)
        refine jr_iast C ka_M_23 dX11_findTrue_298 (ji_in (by omega) (by omega)) ?_
        refine jr_aload_n C dX11_findTrue_299 hL0 ?_
        refine jr_getr C kf_X11_84_0 dX11_findTrue_300 ?_
        refine jr_iload_n C dX11_findTrue_303 hL1 ?_
        refine jr_iconst C (v := 1) dX11_findTrue_304 (by decide) ?_
        refine jr_zast C ka_M_24 dX11_findTrue_305 (ji_in (by omega) (by omega)) (Or.inr rfl) ?_
        refine jr_aload_n C dX11_findTrue_306 hL0 ?_
        refine jr_vi C [] _ (ct_X11_nextTrue E _ (mS_true_I w1 hI)) ky_X11_nextTrue kv_X11_nextTrue kk_M_0 km_X11_213 (by decide) rfl (Nat.le_of_ble_eq_true rfl) dX11_findTrue_307 (fun r307 τ307 h307 => ?_)
        obtain ⟨q1, rfl⟩ := h307
        refine jr_istore_n C dX11_findTrue_310 (by decide) ?_
        refine jr_goto C 41 dX11_findTrue_311 (by decide) ?_
        refine jr_sub [(0, jf_r E 0), (1, .int r307)] ?_ (ih _ _ w1 q1 ?_)
        · show [jf_lk 0 (jf_s1 1 _ L), some (Value.int r307)] = _
          rw [jf_lk_s1 (by decide) (by rw [hL0])]; rfl
        · have := jx_ct_off (p := fun j => (τ.1 24) j == 0) (q := fun j => (jf_i (jf_i τ 23 nx.toNatClampNeg v) 24 nx.toNatClampNeg 1).1 24 j == 0) (i := nx.toNatClampNeg) (by simp [g4.2.2]) (by simp [jf_i]) (fun j hj => by simp [jf_i, hj]) (n := 60) (by have := ji_tn g4.1; omega)
          omega
      have J263 : ∀ (a b c4 c5 c6 : Int32), jf_X jh_M E G 7 263 [(0, jf_r E 0), (1, .int nx), (4, .int c4), (5, .int c5), (6, .int c6)] [] τ := by
        intro a b c4 c5 c6
        refine jr_iload C dX11_findTrue_263 rfl ?_
        refine jr_iload C dX11_findTrue_265 rfl ?_
        refine jr_ncmp_le C 275 dX11_findTrue_267 (by decide) rfl rfl (fun b267 => ?_) (fun b267 => ?_)
        · refine jr_iload C dX11_findTrue_275 rfl ?_
          refine jr_istore C dX11_findTrue_277 (by decide) ?_
          refine jr_aload_n C dX11_findTrue_279 rfl ?_
          refine jr_getr C kf_X11_81_0 dX11_findTrue_280 ?_
          refine jr_iload_n C dX11_findTrue_283 rfl ?_
          refine jr_iload C dX11_findTrue_284 rfl ?_
          refine jr_iload C dX11_findTrue_286 rfl ?_
          refine jr_ncmp_le C 296 dX11_findTrue_288 (by decide) rfl rfl (fun b288 => ?_) (fun b288 => ?_)
          · refine jr_iload C dX11_findTrue_296 rfl ?_
            exact J298 _ _ rfl rfl
          · refine jr_iload C dX11_findTrue_291 rfl ?_
            refine jr_goto C 298 dX11_findTrue_293 (by decide) ?_
            exact J298 _ _ rfl rfl
        · refine jr_iload C dX11_findTrue_270 rfl ?_
          refine jr_goto C 277 dX11_findTrue_272 (by decide) ?_
          refine jr_istore C dX11_findTrue_277 (by decide) ?_
          refine jr_aload_n C dX11_findTrue_279 rfl ?_
          refine jr_getr C kf_X11_81_0 dX11_findTrue_280 ?_
          refine jr_iload_n C dX11_findTrue_283 rfl ?_
          refine jr_iload C dX11_findTrue_284 rfl ?_
          refine jr_iload C dX11_findTrue_286 rfl ?_
          refine jr_ncmp_le C 296 dX11_findTrue_288 (by decide) rfl rfl (fun b288 => ?_) (fun b288 => ?_)
          · refine jr_iload C dX11_findTrue_296 rfl ?_
            exact J298 _ _ rfl rfl
          · refine jr_iload C dX11_findTrue_291 rfl ?_
            refine jr_goto C 298 dX11_findTrue_293 (by decide) ?_
            exact J298 _ _ rfl rfl
      have J217 : ∀ (b c4 c5 : Int32), b.toInt < 60 → jf_X jh_M E G 7 217 [(0, jf_r E 0), (1, .int nx), (3, .int b), (4, .int c4), (5, .int c5)] [] τ := by
        intro b c4 c5 k2
        refine jr_iload_n C dX11_findTrue_217 rfl ?_
        refine jr_nif_ge C 225 dX11_findTrue_218 (by decide) (fun b218 => ?_) (fun b218 => ?_)
        · refine jr_aload_n C dX11_findTrue_225 rfl ?_
          refine jr_iload_n C dX11_findTrue_226 rfl ?_
          refine jr_vip C [.int _] _ (ct_X11_trueEnd E _ _ hT (by omega) (by omega)) ky_X11_trueEnd kv_X11_trueEnd kk_M_0 km_X11_217 (by decide) rfl (Nat.le_of_ble_eq_true rfl) dX11_findTrue_227 ?_
          refine jr_aload_n C dX11_findTrue_230 rfl ?_
          refine jr_getr C kf_X11_46_0 dX11_findTrue_231 ?_
          refine jr_iconst C (v := 5) dX11_findTrue_234 (by decide) ?_
          refine jr_aload_n C dX11_findTrue_235 rfl ?_
          refine jr_getr C kf_X11_7_0 dX11_findTrue_236 ?_
          refine jr_aload_n C dX11_findTrue_239 rfl ?_
          refine jr_getr C kf_X11_56_0 dX11_findTrue_240 ?_
          refine jr_iload_n C dX11_findTrue_243 rfl ?_
          refine jr_ialv C ka_M_16 dX11_findTrue_244 (ji_in (i := b) (by omega) (by omega)) (v := τ.1 16 _) rfl ?_
          refine jr_ialv C ka_M_1 dX11_findTrue_245 (mI_hall hT _ (by decide)) (v := τ.1 1 _) rfl ?_
          refine jr_imul C dX11_findTrue_246 ?_
          refine jr_aload_n C dX11_findTrue_247 rfl ?_
          refine jr_getr C kf_X11_7_0 dX11_findTrue_248 ?_
          refine jr_aload_n C dX11_findTrue_251 rfl ?_
          refine jr_getr C kf_X11_56_0 dX11_findTrue_252 ?_
          refine jr_iload_n C dX11_findTrue_255 rfl ?_
          refine jr_ialv C ka_M_16 dX11_findTrue_256 (ji_in (i := nx) (by omega) (by omega)) (v := τ.1 16 _) rfl ?_
          refine jr_ialv C ka_M_1 dX11_findTrue_257 (mI_hall hT _ (by decide)) (v := τ.1 1 _) rfl ?_
          refine jr_iadd C dX11_findTrue_258 ?_
          refine jr_ialv C ka_M_13 dX11_findTrue_259 (mI_way hT _ _) (v := τ.1 13 _) rfl ?_
          refine jr_iadd C dX11_findTrue_260 ?_
          refine jr_istore C dX11_findTrue_261 (by decide) ?_
          exact jr_sub [(0, jf_r E 0), (1, .int nx), (4, .int _), (5, .int _), (6, .int _)] rfl (J263 0 0 _ _ _)
        · refine jr_iconst C (v := 0) dX11_findTrue_221 (by decide) ?_
          refine jr_goto C 261 dX11_findTrue_222 (by decide) ?_
          refine jr_istore C dX11_findTrue_261 (by decide) ?_
          exact jr_sub [(0, jf_r E 0), (1, .int nx), (4, .int _), (5, .int _), (6, .int _)] rfl (J263 0 0 _ _ _)
      have inner : ∀ (n : Nat) (a b o : Int32), a.toInt < 60 → b.toInt < 60 → 0 ≤ o.toInt → o.toInt ≤ ((τ.1 0 17)).toInt → ((τ.1 0 17)).toInt - o.toInt < n → jf_X jh_M E G 7 52 [(0, jf_r E 0), (1, .int nx), (2, .int a), (3, .int b), (4, .int o)] [] τ := by
        intro n
        induction n with
        | zero => intro a b o k1 k2 k3 k4 k5; exfalso; omega
        | succ n jh =>
          intro a b o k1 k2 k3 k4 k5
          have e1 := ji_inc (k := o) (by omega)
          refine jr_iload C dX11_findTrue_52 rfl ?_
          refine jr_aload_n C dX11_findTrue_54 rfl ?_
          refine jr_geti C kf_X11_160_0 dX11_findTrue_55 ?_
          refine jr_ncmp_ge C 182 dX11_findTrue_58 (by decide) rfl rfl (fun b58 => ?_) (fun b58 => ?_)
          · refine jr_aload_n C dX11_findTrue_182 rfl ?_
            refine jr_getr C kf_X11_59_0 dX11_findTrue_183 ?_
            refine jr_iload_n C dX11_findTrue_186 rfl ?_
            refine jr_ialv C ka_M_17 dX11_findTrue_187 (ji_in (i := nx) (by omega) (by omega)) (v := τ.1 17 _) rfl ?_
            refine jr_istore C dX11_findTrue_188 (by decide) ?_
            refine jr_iload_n C dX11_findTrue_190 rfl ?_
            refine jr_nif_ge C 198 dX11_findTrue_191 (by decide) (fun b191 => ?_) (fun b191 => ?_)
            · refine jr_aload_n C dX11_findTrue_198 rfl ?_
              refine jr_iload_n C dX11_findTrue_199 rfl ?_
              refine jr_vip C [.int _] _ (ct_X11_trueEnd E _ _ hT (by omega) (by omega)) ky_X11_trueEnd kv_X11_trueEnd kk_M_0 km_X11_217 (by decide) rfl (Nat.le_of_ble_eq_true rfl) dX11_findTrue_200 ?_
              refine jr_aload_n C dX11_findTrue_203 rfl ?_
              refine jr_getr C kf_X11_16_0 dX11_findTrue_204 ?_
              refine jr_aload_n C dX11_findTrue_207 rfl ?_
              refine jr_getr C kf_X11_56_0 dX11_findTrue_208 ?_
              refine jr_iload_n C dX11_findTrue_211 rfl ?_
              refine jr_ialv C ka_M_16 dX11_findTrue_212 (ji_in (i := nx) (by omega) (by omega)) (v := τ.1 16 _) rfl ?_
              refine jr_ialv C ka_M_3 dX11_findTrue_213 (mI_hall hT _ (by decide)) (v := τ.1 3 _) rfl ?_
              refine jr_iadd C dX11_findTrue_214 ?_
              refine jr_istore C dX11_findTrue_215 (by decide) ?_
              exact jr_sub [(0, jf_r E 0), (1, .int nx), (3, .int _), (4, .int _), (5, .int _)] rfl (J217 _ _ _ k2)
            · refine jr_iconst C (v := 0) dX11_findTrue_194 (by decide) ?_
              refine jr_goto C 215 dX11_findTrue_195 (by decide) ?_
              refine jr_istore C dX11_findTrue_215 (by decide) ?_
              exact jr_sub [(0, jf_r E 0), (1, .int nx), (3, .int _), (4, .int _), (5, .int _)] rfl (J217 _ _ _ k2)
          · have J133 : ∀ (a : Int32), a.toInt < 60 → jf_X jh_M E G 7 133 [(0, jf_r E 0), (1, .int nx), (2, .int a), (3, .int b), (4, .int o)] [] τ := by
              intro a k1
              refine jr_aload_n C dX11_findTrue_133 rfl ?_
              refine jr_getr C kf_X11_53_0 dX11_findTrue_134 ?_
              refine jr_iload C dX11_findTrue_137 rfl ?_
              refine jr_ialv C ka_M_15 dX11_findTrue_139 (ji_in (i := o) (by omega) (by omega)) (v := τ.1 15 _) rfl ?_
              refine jr_aload_n C dX11_findTrue_140 rfl ?_
              refine jr_getr C kf_X11_53_0 dX11_findTrue_141 ?_
              refine jr_iload_n C dX11_findTrue_144 rfl ?_
              refine jr_ialv C ka_M_15 dX11_findTrue_145 (ji_in (i := nx) (by omega) (by omega)) (v := τ.1 15 _) rfl ?_
              refine jr_ncmp_ne C 174 dX11_findTrue_146 (by decide) rfl rfl (fun b146 => ?_) (fun b146 => ?_)
              · refine jr_iload_n C dX11_findTrue_174 rfl ?_
                refine jr_istore_n C dX11_findTrue_175 (by decide) ?_
                refine jr_iinc C _ dX11_findTrue_176 rfl rfl (by decide) ?_
                refine jr_goto C 52 dX11_findTrue_179 (by decide) ?_
                exact jr_sub [(0, jf_r E 0), (1, .int nx), (2, .int _), (3, .int _), (4, .int _)] rfl (jh _ _ _ (by omega) (by omega) (by omega) (by omega) (by omega))
              · refine jr_iload_n C dX11_findTrue_149 rfl ?_
                refine jr_nif_lt C 169 dX11_findTrue_150 (by decide) (fun b150 => ?_) (fun b150 => ?_)
                · refine jr_iload C dX11_findTrue_169 rfl ?_
                  refine jr_goto C 175 dX11_findTrue_171 (by decide) ?_
                  refine jr_istore_n C dX11_findTrue_175 (by decide) ?_
                  refine jr_iinc C _ dX11_findTrue_176 rfl rfl (by decide) ?_
                  refine jr_goto C 52 dX11_findTrue_179 (by decide) ?_
                  exact jr_sub [(0, jf_r E 0), (1, .int nx), (2, .int _), (3, .int _), (4, .int _)] rfl (jh _ _ _ (by omega) (by omega) (by omega) (by omega) (by omega))
                · refine jr_aload_n C dX11_findTrue_153 rfl ?_
                  refine jr_getr C kf_X11_59_0 dX11_findTrue_154 ?_
                  refine jr_iload C dX11_findTrue_157 rfl ?_
                  refine jr_ialv C ka_M_17 dX11_findTrue_159 (ji_in (i := o) (by omega) (by omega)) (v := τ.1 17 _) rfl ?_
                  refine jr_aload_n C dX11_findTrue_160 rfl ?_
                  refine jr_getr C kf_X11_59_0 dX11_findTrue_161 ?_
                  refine jr_iload_n C dX11_findTrue_164 rfl ?_
                  refine jr_ialv C ka_M_17 dX11_findTrue_165 (ji_in (i := b) (by omega) (by omega)) (v := τ.1 17 _) rfl ?_
                  refine jr_ncmp_le C 174 dX11_findTrue_166 (by decide) rfl rfl (fun b166 => ?_) (fun b166 => ?_)
                  · refine jr_iload_n C dX11_findTrue_174 rfl ?_
                    refine jr_istore_n C dX11_findTrue_175 (by decide) ?_
                    refine jr_iinc C _ dX11_findTrue_176 rfl rfl (by decide) ?_
                    refine jr_goto C 52 dX11_findTrue_179 (by decide) ?_
                    exact jr_sub [(0, jf_r E 0), (1, .int nx), (2, .int _), (3, .int _), (4, .int _)] rfl (jh _ _ _ (by omega) (by omega) (by omega) (by omega) (by omega))
                  · refine jr_iload C dX11_findTrue_169 rfl ?_
                    refine jr_goto C 175 dX11_findTrue_171 (by decide) ?_
                    refine jr_istore_n C dX11_findTrue_175 (by decide) ?_
                    refine jr_iinc C _ dX11_findTrue_176 rfl rfl (by decide) ?_
                    refine jr_goto C 52 dX11_findTrue_179 (by decide) ?_
                    exact jr_sub [(0, jf_r E 0), (1, .int nx), (2, .int _), (3, .int _), (4, .int _)] rfl (jh _ _ _ (by omega) (by omega) (by omega) (by omega) (by omega))
            refine jr_aload_n C dX11_findTrue_61 rfl ?_
            refine jr_getr C kf_X11_49_0 dX11_findTrue_62 ?_
            refine jr_iload C dX11_findTrue_65 rfl ?_
            refine jr_zalv C ka_M_14 dX11_findTrue_67 (ji_in (i := o) (by omega) (by omega)) (v := τ.1 14 _) rfl ?_
            refine jr_nif_eq C 176 dX11_findTrue_68 (by decide) (fun b68 => ?_) (fun b68 => ?_)
            · refine jr_iinc C _ dX11_findTrue_176 rfl rfl (by decide) ?_
              refine jr_goto C 52 dX11_findTrue_179 (by decide) ?_
              exact jr_sub [(0, jf_r E 0), (1, .int nx), (2, .int _), (3, .int _), (4, .int _)] rfl (jh _ _ _ (by omega) (by omega) (by omega) (by omega) (by omega))
            · refine jr_aload_n C dX11_findTrue_71 rfl ?_
              refine jr_getr C kf_X11_59_0 dX11_findTrue_72 ?_
              refine jr_iload C dX11_findTrue_75 rfl ?_
              refine jr_ialv C ka_M_17 dX11_findTrue_77 (ji_in (i := o) (by omega) (by omega)) (v := τ.1 17 _) rfl ?_
              refine jr_aload_n C dX11_findTrue_78 rfl ?_
              refine jr_getr C kf_X11_59_0 dX11_findTrue_79 ?_
              refine jr_iload_n C dX11_findTrue_82 rfl ?_
              refine jr_ialv C ka_M_17 dX11_findTrue_83 (ji_in (i := nx) (by omega) (by omega)) (v := τ.1 17 _) rfl ?_
              refine jr_ncmp_lt C 90 dX11_findTrue_84 (by decide) rfl rfl (fun b84 => ?_) (fun b84 => ?_)
              · refine jr_aload_n C dX11_findTrue_90 rfl ?_
                refine jr_getr C kf_X11_56_0 dX11_findTrue_91 ?_
                refine jr_iload C dX11_findTrue_94 rfl ?_
                refine jr_ialv C ka_M_16 dX11_findTrue_96 (ji_in (i := o) (by omega) (by omega)) (v := τ.1 16 _) rfl ?_
                refine jr_aload_n C dX11_findTrue_97 rfl ?_
                refine jr_getr C kf_X11_56_0 dX11_findTrue_98 ?_
                refine jr_iload_n C dX11_findTrue_101 rfl ?_
                refine jr_ialv C ka_M_16 dX11_findTrue_102 (ji_in (i := nx) (by omega) (by omega)) (v := τ.1 16 _) rfl ?_
                refine jr_ncmp_ne C 131 dX11_findTrue_103 (by decide) rfl rfl (fun b103 => ?_) (fun b103 => ?_)
                · refine jr_iload_n C dX11_findTrue_131 rfl ?_
                  refine jr_istore_n C dX11_findTrue_132 (by decide) ?_
                  exact jr_sub [(0, jf_r E 0), (1, .int nx), (2, .int _), (3, .int _), (4, .int _)] rfl (J133 _ (by omega))
                · refine jr_iload_n C dX11_findTrue_106 rfl ?_
                  refine jr_nif_lt C 126 dX11_findTrue_107 (by decide) (fun b107 => ?_) (fun b107 => ?_)
                  · refine jr_iload C dX11_findTrue_126 rfl ?_
                    refine jr_goto C 132 dX11_findTrue_128 (by decide) ?_
                    refine jr_istore_n C dX11_findTrue_132 (by decide) ?_
                    exact jr_sub [(0, jf_r E 0), (1, .int nx), (2, .int _), (3, .int _), (4, .int _)] rfl (J133 _ (by omega))
                  · refine jr_aload_n C dX11_findTrue_110 rfl ?_
                    refine jr_getr C kf_X11_59_0 dX11_findTrue_111 ?_
                    refine jr_iload C dX11_findTrue_114 rfl ?_
                    refine jr_ialv C ka_M_17 dX11_findTrue_116 (ji_in (i := o) (by omega) (by omega)) (v := τ.1 17 _) rfl ?_
                    refine jr_aload_n C dX11_findTrue_117 rfl ?_
                    refine jr_getr C kf_X11_59_0 dX11_findTrue_118 ?_
                    refine jr_iload_n C dX11_findTrue_121 rfl ?_
                    refine jr_ialv C ka_M_17 dX11_findTrue_122 (ji_in (i := a) (by omega) (by omega)) (v := τ.1 17 _) rfl ?_
                    refine jr_ncmp_le C 131 dX11_findTrue_123 (by decide) rfl rfl (fun b123 => ?_) (fun b123 => ?_)
                    · refine jr_iload_n C dX11_findTrue_131 rfl ?_
                      refine jr_istore_n C dX11_findTrue_132 (by decide) ?_
                      exact jr_sub [(0, jf_r E 0), (1, .int nx), (2, .int _), (3, .int _), (4, .int _)] rfl (J133 _ (by omega))
                    · refine jr_iload C dX11_findTrue_126 rfl ?_
                      refine jr_goto C 132 dX11_findTrue_128 (by decide) ?_
                      refine jr_istore_n C dX11_findTrue_132 (by decide) ?_
                      exact jr_sub [(0, jf_r E 0), (1, .int nx), (2, .int _), (3, .int _), (4, .int _)] rfl (J133 _ (by omega))
              · refine jr_goto C 176 dX11_findTrue_87 (by decide) ?_
                refine jr_iinc C _ dX11_findTrue_176 rfl rfl (by decide) ?_
                refine jr_goto C 52 dX11_findTrue_179 (by decide) ?_
                exact jr_sub [(0, jf_r E 0), (1, .int nx), (2, .int _), (3, .int _), (4, .int _)] rfl (jh _ _ _ (by omega) (by omega) (by omega) (by omega) (by omega))
      refine jr_iconst C (v := -1) dX11_findTrue_45 (by decide) ?_
      refine jr_istore_n C dX11_findTrue_46 (by decide) ?_
      refine jr_iconst C (v := -1) dX11_findTrue_47 (by decide) ?_
      refine jr_istore_n C dX11_findTrue_48 (by decide) ?_
      refine jr_iconst C (v := 0) dX11_findTrue_49 (by decide) ?_
      refine jr_istore C dX11_findTrue_50 (by decide) ?_
      exact jr_sub [(0, jf_r E 0), (1, .int nx), (2, .int (-1)), (3, .int (-1)), (4, .int 0)] rfl (inner 61 (-1) (-1) 0 (by decide) (by decide) (by decide) hE.1 (by show _ - 0 < _; omega))
  have loop1 : ∀ (m : Nat) (τ : jf_S) (o : Int32), mS_true σ τ → 0 ≤ o.toInt → o.toInt ≤ ((τ.1 0 17)).toInt → ((τ.1 0 17)).toInt - o.toInt < m → jf_X jh_M E G 7 2 [(0, jf_r E 0), (1, .int o)] [] τ := by
    intro m
    induction m with
    | zero => intro τ o g1 g2 g3 g4; exfalso; omega
    | succ m ih =>
      intro τ o g1 g2 g3 g4
      have hT := mS_true_I g1 hI
      have hE := hT.1
      have e1 := ji_inc (k := o) (by omega)
      refine jr_iload_n C dX11_findTrue_2 rfl ?_
      refine jr_aload_n C dX11_findTrue_3 rfl ?_
      refine jr_geti C kf_X11_160_0 dX11_findTrue_4 ?_
      refine jr_ncmp_ge C 36 dX11_findTrue_7 (by decide) rfl rfl (fun b7 => ?_) (fun b7 => ?_)
      · refine jr_aload_n C dX11_findTrue_36 rfl ?_
        refine jr_vi C [] _ (ct_X11_nextTrue E _ hT) ky_X11_nextTrue kv_X11_nextTrue kk_M_0 km_X11_213 (by decide) rfl (Nat.le_of_ble_eq_true rfl) dX11_findTrue_37 (fun r37 τ37 h37 => ?_)
        refine jr_istore_n C dX11_findTrue_40 (by decide) ?_
        obtain ⟨q1, rfl⟩ := h37
        refine jr_sub [(0, jf_r E 0), (1, .int _)] rfl (loop2 61 _ _ g1 q1 ?_)
        have := jx_ct_le (fun j => (τ.1 24) j == 0) 60
        omega
      · refine jr_aload_n C dX11_findTrue_10 rfl ?_
        refine jr_getr C kf_X11_84_0 dX11_findTrue_11 ?_
        refine jr_iload_n C dX11_findTrue_14 rfl ?_
        refine jr_aload_n C dX11_findTrue_15 rfl ?_
        refine jr_getr C kf_X11_49_0 dX11_findTrue_16 ?_
        refine jr_iload_n C dX11_findTrue_19 rfl ?_
        refine jr_zalv C ka_M_14 dX11_findTrue_20 (ji_in (i := o) (by omega) (by omega)) (v := τ.1 14 _) rfl ?_
        refine jr_nif_ne C 28 dX11_findTrue_21 (by decide) (fun b21 => ?_) (fun b21 => ?_)
        · refine jr_iconst C (v := 0) dX11_findTrue_28 (by decide) ?_
          refine jr_zast C ka_M_24 dX11_findTrue_29 (ji_in (i := o) (by omega) (by omega)) (by decide) ?_
          refine jr_iinc C _ dX11_findTrue_30 rfl rfl (by decide) ?_
          refine jr_goto C 2 dX11_findTrue_33 (by decide) ?_
          exact jr_sub [(0, jf_r E 0), (1, .int _)] rfl (ih _ _ (mS_true_w g1 (Or.inr rfl)) (by omega) (show _ ≤ ((τ.1 0 17)).toInt by omega) (show ((τ.1 0 17)).toInt - _ < _ by omega))
        · refine jr_iconst C (v := 1) dX11_findTrue_24 (by decide) ?_
          refine jr_goto C 29 dX11_findTrue_25 (by decide) ?_
          refine jr_zast C ka_M_24 dX11_findTrue_29 (ji_in (i := o) (by omega) (by omega)) (by decide) ?_
          refine jr_iinc C _ dX11_findTrue_30 rfl rfl (by decide) ?_
          refine jr_goto C 2 dX11_findTrue_33 (by decide) ?_
          exact jr_sub [(0, jf_r E 0), (1, .int _)] rfl (ih _ _ (mS_true_w g1 (Or.inr rfl)) (by omega) (show _ ≤ ((τ.1 0 17)).toInt by omega) (show ((τ.1 0 17)).toInt - _ < _ by omega))
  refine jr_iconst C (v := 0) dX11_findTrue_0 (by decide) ?_
  refine jr_istore_n C dX11_findTrue_1 (by decide) ?_
  exact jr_sub [(0, jf_r E 0), (1, .int 0)] rfl (loop1 61 σ 0 ⟨rfl, fun _ _ _ => rfl⟩ (by decide) hI.1.1 (by show _ - 0 < _; have := hI.1; omega))

