/-! the reference: counts, prize: safe -/
def mI_r (σ : jf_S) : Prop := (0 ≤ ((σ.1 0 39)).toInt ∧ ((σ.1 0 39)).toInt ≤ 100) ∧ (0 ≤ ((σ.1 0 46)).toInt ∧ ((σ.1 0 46)).toInt ≤ 300) ∧ m_val ((σ.1 32)) ((σ.1 0 46)).toNatClampNeg
def mI_v (σ : jf_S) : Prop := (0 ≤ ((σ.1 0 35)).toInt ∧ ((σ.1 0 35)).toInt ≤ 10) ∧ (0 ≤ ((σ.1 0 7)).toInt ∧ ((σ.1 0 7)).toInt ≤ 20) ∧ (∀ i, 0 ≤ ((σ.1 27) i).toInt ∧ ((σ.1 27) i).toInt ≤ 5) ∧ (∀ i, 0 ≤ ((σ.1 26) i).toInt ∧ ((σ.1 26) i).toInt ≤ 19)
theorem ct_X11_countsFor (E : jf_E) (σ : jf_S) (j f k : Int32) (j0 : 0 ≤ j.toInt) (j1 : j.toInt < 10) (hR : mI_r σ) (hV : mI_v σ) : jf_I jh_M E yX11_countsFor cX11_countsFor 4 .boolean 2 [jf_r E 0, .int j, .int f, .int k] σ (fun r τ => (r = 0 ∨ r = 1) ∧ mS_p σ τ) := by
  refine jf_mkI (by decide) (Nat.le_of_ble_eq_true rfl) ?_
  intro G C ret
  refine jr_aload_n C dX11_countsFor_0 rfl ?_
  refine jr_iload_n C dX11_countsFor_1 rfl ?_
  refine jr_iload_n C dX11_countsFor_2 rfl ?_
  refine jr_vi C [.int _, .int _] _ (ct_X11_placeOf E _ _ _ j0 j1 (hV.2.2.1 _).1 (hV.2.2.1 _).2) ky_X11_placeOf kv_X11_placeOf kk_M_0 km_X11_263 (by decide) rfl (Nat.le_of_ble_eq_true rfl) dX11_countsFor_3 (fun r3 τ3 h3 => ?_)
  obtain ⟨q3, rfl⟩ := h3
  refine jr_nif_lt C 23 dX11_countsFor_6 (by decide) (fun b6 => ?_) (fun b6 => ?_)
  · refine jr_iconst C (v := 0) dX11_countsFor_23 (by decide) ?_
    exact ret _ _ _ _ dX11_countsFor_24 (rfl) (⟨by decide, mS_p_r σ⟩)
  refine jr_aload_n C dX11_countsFor_9 rfl ?_
  refine jr_iload_n C dX11_countsFor_10 rfl ?_
  refine jr_iload_n C dX11_countsFor_11 rfl ?_
  refine jr_iload_n C dX11_countsFor_12 rfl ?_
  refine jr_vi C [.int _, .int _, .int _] _ (ct_X11_holds E _ _ _ _ j0 j1 hR.1.1 hR.1.2 hR.2.1.1 hR.2.1.2 hR.2.2) ky_X11_holds kv_X11_holds kk_M_0 km_X11_375 (by decide) rfl (Nat.le_of_ble_eq_true rfl) dX11_countsFor_13 (fun r13 τ13 h13 => ?_)
  refine jr_nif_eq C 23 dX11_countsFor_16 (by decide) (fun b16 => ?_) (fun b16 => ?_)
  · refine jr_iconst C (v := 0) dX11_countsFor_23 (by decide) ?_
    exact ret _ _ _ _ dX11_countsFor_24 (rfl) (⟨by decide, h13.2⟩)
  · refine jr_iconst C (v := 1) dX11_countsFor_19 (by decide) ?_
    refine jr_goto C 24 dX11_countsFor_20 (by decide) ?_
    exact ret _ _ _ _ dX11_countsFor_24 (rfl) (⟨by decide, h13.2⟩)
def m_countsq (σ : jf_S) (j f k r : Int32) : Prop := (¬ (0 ≤ k.toInt ∧ k.toInt ≤ 100000) → r = -1) ∧ ((0 ≤ k.toInt ∧ k.toInt ≤ 100000) → ¬ ((0 ≤ j.toInt ∧ j.toInt < ((σ.1 0 35)).toInt) ∧ (0 ≤ f.toInt ∧ f.toInt < ((σ.1 0 7)).toInt)) → r = -2)
theorem ct_X11_counts (E : jf_E) (σ : jf_S) (j f k : Int32) (hR : mI_r σ) (hV : mI_v σ) : jf_I jh_M E yX11_counts cX11_counts 4 .int 3 [jf_r E 0, .int j, .int f, .int k] σ (fun r τ => m_countsq σ j f k r ∧ mS_p (jf_i σ 0 0 0) τ) := by
  refine jf_mkI (by decide) (Nat.le_of_ble_eq_true rfl) ?_
  intro G C ret
  have hJ := hV.1
  have z := mS_p_r (jf_i σ 0 0 0)
  refine jr_aload_n C dX11_counts_0 rfl ?_
  refine jr_iconst C (v := 0) dX11_counts_1 (by decide) ?_
  refine jr_puti C kp_X11_144_0 dX11_counts_2 ?_
  refine jr_iload_n C dX11_counts_5 rfl ?_
  refine jr_i2l C dX11_counts_6 ?_
  refine jr_lconst C (v := 0) dX11_counts_7 (by decide) ?_
  refine jr_ldc2 C kc_X11_267 dX11_counts_8 ?_
  refine jr_sip C [.long _, .long _, .long _] _ (ct_X11_inw E _ _ _ _ 0 100000 rfl rfl) ky_X11_in ks_X11_in km_X11_153 (by decide) rfl (Nat.le_of_ble_eq_true rfl) dX11_counts_11 ?_
  refine jr_if_ne C 19 dX11_counts_14 (by decide) (fun b14 => ?_) (fun b14 => ?_)
  · replace b14 := jb_t b14
    refine jr_aload_n C dX11_counts_19 rfl ?_
    refine jr_iload_n C dX11_counts_20 rfl ?_
    refine jr_vip C [.int _] _ (ct_X11_isJuror E _ _ (σ.1 0 35) rfl) ky_X11_isJuror kv_X11_isJuror kk_M_0 km_X11_260 (by decide) rfl (Nat.le_of_ble_eq_true rfl) dX11_counts_21 ?_
    refine jr_if_eq C 35 dX11_counts_24 (by decide) (fun b24 => ?_) (fun b24 => ?_)
    · replace b24 := jb_f b24
      refine jr_bipush C (v := -2) dX11_counts_35 (by decide) ?_
      exact ret _ _ _ _ dX11_counts_37 rfl (⟨⟨fun q => by exfalso; omega, fun _ _ => rfl⟩, z⟩)
    · replace b24 := jb_t b24
      refine jr_aload_n C dX11_counts_27 rfl ?_
      refine jr_iload_n C dX11_counts_28 rfl ?_
      refine jr_vip C [.int _] _ (ct_X11_isFilm E _ _ (σ.1 0 7) rfl) ky_X11_isFilm kv_X11_isFilm kk_M_0 km_X11_187 (by decide) rfl (Nat.le_of_ble_eq_true rfl) dX11_counts_29 ?_
      refine jr_if_ne C 38 dX11_counts_32 (by decide) (fun b32 => ?_) (fun b32 => ?_)
      · replace b32 := jb_t b32
        refine jr_aload_n C dX11_counts_38 rfl ?_
        refine jr_getv C kf_X11_359_0 dX11_counts_39 (v := σ.1 0 44) rfl ?_
        refine jr_nif_ne C 50 dX11_counts_42 (by decide) (fun b42 => ?_) (fun b42 => ?_)
        · refine jr_aload_n C dX11_counts_50 rfl ?_
          refine jr_iload_n C dX11_counts_51 rfl ?_
          refine jr_iload_n C dX11_counts_52 rfl ?_
          refine jr_iload_n C dX11_counts_53 rfl ?_
          refine jr_vi C [.int _, .int _, .int _] _ (ct_X11_countsFor E _ _ _ _ (by omega) (by omega) hR hV) ky_X11_countsFor kv_X11_countsFor kk_M_0 km_X11_379 (by decide) rfl (Nat.le_of_ble_eq_true rfl) dX11_counts_54 (fun r54 τ54 h54 => ?_)
          refine jr_nif_eq C 64 dX11_counts_57 (by decide) (fun b57 => ?_) (fun b57 => ?_)
          · skip
            refine jr_iconst C (v := 0) dX11_counts_64 (by decide) ?_
            exact ret _ _ _ _ dX11_counts_65 rfl (by first | exact ⟨⟨fun q => by exfalso; omega, fun _ q => by exfalso; omega⟩, z⟩ | exact ⟨⟨fun q => by exfalso; omega, fun _ q => by exfalso; omega⟩, h54.2⟩)
          · skip
            refine jr_iconst C (v := 1) dX11_counts_60 (by decide) ?_
            refine jr_goto C 65 dX11_counts_61 (by decide) ?_
            exact ret _ _ _ _ dX11_counts_65 rfl (by first | exact ⟨⟨fun q => by exfalso; omega, fun _ q => by exfalso; omega⟩, z⟩ | exact ⟨⟨fun q => by exfalso; omega, fun _ q => by exfalso; omega⟩, h54.2⟩)
        · refine jr_bipush C (v := -6) dX11_counts_45 (by decide) ?_
          refine jr_goto C 65 dX11_counts_47 (by decide) ?_
          exact ret _ _ _ _ dX11_counts_65 rfl (by first | exact ⟨⟨fun q => by exfalso; omega, fun _ q => by exfalso; omega⟩, z⟩ | exact ⟨⟨fun q => by exfalso; omega, fun _ q => by exfalso; omega⟩, h54.2⟩)
      · replace b32 := jb_f b32
        refine jr_bipush C (v := -2) dX11_counts_35 (by decide) ?_
        exact ret _ _ _ _ dX11_counts_37 rfl (⟨⟨fun q => by exfalso; omega, fun _ _ => rfl⟩, z⟩)
  · replace b14 := jb_f b14
    refine jr_iconst C (v := -1) dX11_counts_17 (by decide) ?_
    exact ret _ _ _ _ dX11_counts_18 rfl (⟨⟨fun _ => rfl, fun q => absurd q b14⟩, z⟩)
/-- the place of a film in a round -/
theorem m_ix20 {k f : Int32} (k0 : 0 ≤ k.toInt) (k1 : k.toInt ≤ 20) (f0 : 0 ≤ f.toInt) (f1 : f.toInt < 20) : vp_in (20 * k + f) 420 ∧ (20 * k + f).toNatClampNeg = 20 * k.toNatClampNeg + f.toNatClampNeg := by
  have e : (20 * k + f).toInt = 20 * k.toInt + f.toInt := ji_lini rfl (by omega) (by omega)
  exact ⟨ji_in (by omega) (by omega), ji_cl (by rw [e, Int.natCast_add, Int.natCast_mul, ji_tn k0, ji_tn f0]; rfl)⟩
set_option maxHeartbeats 2000000 in
theorem ct_X11_extreme (E : jf_E) (σ : jf_S) (k a : Int32) (k0 : 0 ≤ k.toInt) (k1 : k.toInt ≤ 20) (f0 : 0 ≤ ((σ.1 0 7)).toInt) (f1 : ((σ.1 0 7)).toInt ≤ 20) : jf_I jh_M E yX11_extreme cX11_extreme 6 .int 1 [jf_r E 0, .int k, .int a] σ (fun r τ => ((r.toInt = -1 ∧ ∀ i : Nat, (i : Int) < ((σ.1 0 7)).toInt → ((σ.1 41) (20 * k.toNatClampNeg + i)).toInt = -1) ∨ (0 ≤ r.toInt ∧ r.toInt < ((σ.1 0 7)).toInt ∧ ¬ ((σ.1 41) (20 * k.toNatClampNeg + r.toNatClampNeg)).toInt = -1)) ∧ σ = τ) := by
  refine jf_mkI (by decide) (Nat.le_of_ble_eq_true rfl) ?_
  intro G C ret
  have loop : ∀ (m : Nat) (t f : Int32), 0 ≤ f.toInt → f.toInt ≤ ((σ.1 0 7)).toInt → ((σ.1 0 7)).toInt - f.toInt < m → ((t.toInt = -1 ∧ ∀ i : Nat, (i : Int) < f.toInt → ((σ.1 41) (20 * k.toNatClampNeg + i)).toInt = -1) ∨ (0 ≤ t.toInt ∧ t.toInt < ((σ.1 0 7)).toInt ∧ ¬ ((σ.1 41) (20 * k.toNatClampNeg + t.toNatClampNeg)).toInt = -1)) → jf_X jh_M E G 6 5 [(0, jf_r E 0), (1, .int k), (2, .int a), (3, .int t), (4, .int f)] [] σ := by
    intro m
    induction m with
    | zero => intro t f g1 g2 g3 g4; exfalso; omega
    | succ m ih =>
      intro t f g1 g2 g3 g4
      have e1 := ji_inc (k := f) (by omega)
      refine jr_iload C dX11_extreme_5 rfl ?_
      refine jr_aload_n C dX11_extreme_7 rfl ?_
      refine jr_geti C kf_X11_157_0 dX11_extreme_8 ?_
      refine jr_ncmp_ge C 160 dX11_extreme_11 (by decide) rfl rfl (fun b11 => ?_) (fun b11 => ?_)
      · refine jr_iload_n C dX11_extreme_160 rfl ?_
        exact ret _ _ _ _ dX11_extreme_161 rfl (⟨g4.imp (fun q => ⟨q.1, fun i hi => q.2 i (by omega)⟩) id, rfl⟩)
      have hF := m_ix20 k0 k1 g1 (by omega)
      refine jr_aload_n C dX11_extreme_14 rfl ?_
      refine jr_getr C kf_X11_138_0 dX11_extreme_15 ?_
      refine jr_bipush C (v := 20) dX11_extreme_18 (by decide) ?_
      refine jr_iload_n C dX11_extreme_20 rfl ?_
      refine jr_imul C dX11_extreme_21 ?_
      refine jr_iload C dX11_extreme_22 rfl ?_
      refine jr_iadd C dX11_extreme_24 ?_
      refine jr_iald C ka_M_41 dX11_extreme_25 hF.1 ?_
      refine jr_val (y := (σ.1 41) (20 * k.toNatClampNeg + f.toNatClampNeg)) (by rw [hF.2]) ?_
      refine jr_iconst C (v := -1) dX11_extreme_26 (by decide) ?_
      refine jr_ncmp_ne C (b := -1) 33 dX11_extreme_27 (by decide) rfl rfl (fun b27 => ?_) (fun b27 => ?_)
      · have J140 : ∀ (v : Int32), (t.toInt = -1 → ¬ v.toInt = 0) → jf_X jh_M E G 6 140 [(0, jf_r E 0), (1, .int k), (2, .int a), (3, .int t), (4, .int f)] [.int v] σ := by
          intro v hv
          refine jr_istore C dX11_extreme_140 (by decide) ?_
          refine jr_iload C dX11_extreme_142 rfl ?_
          refine jr_nif_eq C 152 dX11_extreme_144 (by decide) (fun b144 => ?_) (fun b144 => ?_)
          · refine jr_iload_n C dX11_extreme_152 rfl ?_
            refine jr_istore_n C dX11_extreme_153 (by decide) ?_
            refine jr_iinc C _ dX11_extreme_154 rfl rfl (by decide) ?_
            refine jr_goto C 5 dX11_extreme_157 (by decide) ?_
            first | exact jr_sub [(0, jf_r E 0), (1, .int k), (2, .int a), (3, .int f), (4, .int _)] rfl (ih _ _ (by omega) (by omega) (by omega) (Or.inr ⟨by omega, by omega, b27⟩)) | exact jr_sub [(0, jf_r E 0), (1, .int k), (2, .int a), (3, .int t), (4, .int _)] rfl (ih _ _ (by omega) (by omega) (by omega) (g4.elim (fun q => absurd b144 (hv q.1)) Or.inr))
          · refine jr_iload C dX11_extreme_147 rfl ?_
            refine jr_goto C 153 dX11_extreme_149 (by decide) ?_
            refine jr_istore_n C dX11_extreme_153 (by decide) ?_
            refine jr_iinc C _ dX11_extreme_154 rfl rfl (by decide) ?_
            refine jr_goto C 5 dX11_extreme_157 (by decide) ?_
            first | exact jr_sub [(0, jf_r E 0), (1, .int k), (2, .int a), (3, .int f), (4, .int _)] rfl (ih _ _ (by omega) (by omega) (by omega) (Or.inr ⟨by omega, by omega, b27⟩)) | exact jr_sub [(0, jf_r E 0), (1, .int k), (2, .int a), (3, .int t), (4, .int _)] rfl (ih _ _ (by omega) (by omega) (by omega) (g4.elim (fun q => absurd b144 (hv q.1)) Or.inr))
        refine jr_iload_n C dX11_extreme_33 rfl ?_
        refine jr_nif_lt C 135 dX11_extreme_34 (by decide) (fun b34 => ?_) (fun b34 => ?_)
        · refine jr_iconst C (v := 1) dX11_extreme_135 (by decide) ?_
          refine jr_goto C 140 dX11_extreme_136 (by decide) ?_
          exact J140 _ (fun _ => by decide)
        have hT := m_ix20 (f := t) k0 k1 (by omega) (by omega)
        refine jr_aload_n C dX11_extreme_37 rfl ?_
        refine jr_getr C kf_X11_138_0 dX11_extreme_38 ?_
        refine jr_bipush C (v := 20) dX11_extreme_41 (by decide) ?_
        refine jr_iload_n C dX11_extreme_43 rfl ?_
        refine jr_imul C dX11_extreme_44 ?_
        refine jr_iload C dX11_extreme_45 rfl ?_
        refine jr_iadd C dX11_extreme_47 ?_
        refine jr_ialv C ka_M_41 dX11_extreme_48 (by first | exact hF.1 | exact hT.1) (v := σ.1 41 _) rfl ?_
        refine jr_aload_n C dX11_extreme_49 rfl ?_
        refine jr_getr C kf_X11_138_0 dX11_extreme_50 ?_
        refine jr_bipush C (v := 20) dX11_extreme_53 (by decide) ?_
        refine jr_iload_n C dX11_extreme_55 rfl ?_
        refine jr_imul C dX11_extreme_56 ?_
        refine jr_iload_n C dX11_extreme_57 rfl ?_
        refine jr_iadd C dX11_extreme_58 ?_
        refine jr_ialv C ka_M_41 dX11_extreme_59 (by first | exact hF.1 | exact hT.1) (v := σ.1 41 _) rfl ?_
        refine jr_ncmp_eq C 98 dX11_extreme_60 (by decide) rfl rfl (fun b60 => ?_) (fun b60 => ?_)
        · refine jr_aload_n C dX11_extreme_98 rfl ?_
          refine jr_getr C kf_X11_138_0 dX11_extreme_99 ?_
          refine jr_bipush C (v := 20) dX11_extreme_102 (by decide) ?_
          refine jr_iload_n C dX11_extreme_104 rfl ?_
          refine jr_imul C dX11_extreme_105 ?_
          refine jr_iload C dX11_extreme_106 rfl ?_
          refine jr_iadd C dX11_extreme_108 ?_
          refine jr_ialv C ka_M_41 dX11_extreme_109 (by first | exact hF.1 | exact hT.1) (v := σ.1 41 _) rfl ?_
          refine jr_aload_n C dX11_extreme_110 rfl ?_
          refine jr_getr C kf_X11_138_0 dX11_extreme_111 ?_
          refine jr_bipush C (v := 20) dX11_extreme_114 (by decide) ?_
          refine jr_iload_n C dX11_extreme_116 rfl ?_
          refine jr_imul C dX11_extreme_117 ?_
          refine jr_iload_n C dX11_extreme_118 rfl ?_
          refine jr_iadd C dX11_extreme_119 ?_
          refine jr_ialv C ka_M_41 dX11_extreme_120 (by first | exact hF.1 | exact hT.1) (v := σ.1 41 _) rfl ?_
          refine jr_ncmp_ne C 139 dX11_extreme_121 (by decide) rfl rfl (fun b121 => ?_) (fun b121 => ?_)
          · refine jr_iconst C (v := 0) dX11_extreme_139 (by decide) ?_
            exact J140 _ (fun q => by exfalso; omega)
          · refine jr_aload_n C dX11_extreme_124 rfl ?_
            refine jr_iload C dX11_extreme_125 rfl ?_
            refine jr_iload_n C dX11_extreme_127 rfl ?_
            refine jr_vi C [.int _, .int _] _ (ct_X11_isAhead E _ _ _ (by omega) (by omega) (by omega) (by omega)) ky_X11_isAhead kv_X11_isAhead kk_M_0 km_X11_382 (by decide) rfl (Nat.le_of_ble_eq_true rfl) dX11_extreme_128 (fun r128 τ128 h128 => ?_)
            obtain ⟨q128, rfl⟩ := h128
            refine jr_iload_n C dX11_extreme_131 rfl ?_
            refine jr_ncmp_ne C 139 dX11_extreme_132 (by decide) rfl rfl (fun b132 => ?_) (fun b132 => ?_)
            · refine jr_iconst C (v := 0) dX11_extreme_139 (by decide) ?_
              exact J140 _ (fun q => by exfalso; omega)
            · refine jr_iconst C (v := 1) dX11_extreme_135 (by decide) ?_
              refine jr_goto C 140 dX11_extreme_136 (by decide) ?_
              exact J140 _ (fun q => by exfalso; omega)
        · refine jr_aload_n C dX11_extreme_63 rfl ?_
          refine jr_getr C kf_X11_138_0 dX11_extreme_64 ?_
          refine jr_bipush C (v := 20) dX11_extreme_67 (by decide) ?_
          refine jr_iload_n C dX11_extreme_69 rfl ?_
          refine jr_imul C dX11_extreme_70 ?_
          refine jr_iload C dX11_extreme_71 rfl ?_
          refine jr_iadd C dX11_extreme_73 ?_
          refine jr_ialv C ka_M_41 dX11_extreme_74 (by first | exact hF.1 | exact hT.1) (v := σ.1 41 _) rfl ?_
          refine jr_aload_n C dX11_extreme_75 rfl ?_
          refine jr_getr C kf_X11_138_0 dX11_extreme_76 ?_
          refine jr_bipush C (v := 20) dX11_extreme_79 (by decide) ?_
          refine jr_iload_n C dX11_extreme_81 rfl ?_
          refine jr_imul C dX11_extreme_82 ?_
          refine jr_iload_n C dX11_extreme_83 rfl ?_
          refine jr_iadd C dX11_extreme_84 ?_
          refine jr_ialv C ka_M_41 dX11_extreme_85 (by first | exact hF.1 | exact hT.1) (v := σ.1 41 _) rfl ?_
          refine jr_ncmp_le C 93 dX11_extreme_86 (by decide) rfl rfl (fun b86 => ?_) (fun b86 => ?_)
          · refine jr_iconst C (v := 0) dX11_extreme_93 (by decide) ?_
            refine jr_iload_n C dX11_extreme_94 rfl ?_
            refine jr_ncmp_eq C 135 dX11_extreme_95 (by decide) rfl rfl (fun b95 => ?_) (fun b95 => ?_)
            · refine jr_iconst C (v := 1) dX11_extreme_135 (by decide) ?_
              refine jr_goto C 140 dX11_extreme_136 (by decide) ?_
              exact J140 _ (fun q => by exfalso; omega)
            · refine jr_aload_n C dX11_extreme_98 rfl ?_
              refine jr_getr C kf_X11_138_0 dX11_extreme_99 ?_
              refine jr_bipush C (v := 20) dX11_extreme_102 (by decide) ?_
              refine jr_iload_n C dX11_extreme_104 rfl ?_
              refine jr_imul C dX11_extreme_105 ?_
              refine jr_iload C dX11_extreme_106 rfl ?_
              refine jr_iadd C dX11_extreme_108 ?_
              refine jr_ialv C ka_M_41 dX11_extreme_109 (by first | exact hF.1 | exact hT.1) (v := σ.1 41 _) rfl ?_
              refine jr_aload_n C dX11_extreme_110 rfl ?_
              refine jr_getr C kf_X11_138_0 dX11_extreme_111 ?_
              refine jr_bipush C (v := 20) dX11_extreme_114 (by decide) ?_
              refine jr_iload_n C dX11_extreme_116 rfl ?_
              refine jr_imul C dX11_extreme_117 ?_
              refine jr_iload_n C dX11_extreme_118 rfl ?_
              refine jr_iadd C dX11_extreme_119 ?_
              refine jr_ialv C ka_M_41 dX11_extreme_120 (by first | exact hF.1 | exact hT.1) (v := σ.1 41 _) rfl ?_
              refine jr_ncmp_ne C 139 dX11_extreme_121 (by decide) rfl rfl (fun b121 => ?_) (fun b121 => ?_)
              · refine jr_iconst C (v := 0) dX11_extreme_139 (by decide) ?_
                exact J140 _ (fun q => by exfalso; omega)
              · refine jr_aload_n C dX11_extreme_124 rfl ?_
                refine jr_iload C dX11_extreme_125 rfl ?_
                refine jr_iload_n C dX11_extreme_127 rfl ?_
                refine jr_vi C [.int _, .int _] _ (ct_X11_isAhead E _ _ _ (by omega) (by omega) (by omega) (by omega)) ky_X11_isAhead kv_X11_isAhead kk_M_0 km_X11_382 (by decide) rfl (Nat.le_of_ble_eq_true rfl) dX11_extreme_128 (fun r128 τ128 h128 => ?_)
                obtain ⟨q128, rfl⟩ := h128
                refine jr_iload_n C dX11_extreme_131 rfl ?_
                refine jr_ncmp_ne C 139 dX11_extreme_132 (by decide) rfl rfl (fun b132 => ?_) (fun b132 => ?_)
                · refine jr_iconst C (v := 0) dX11_extreme_139 (by decide) ?_
                  exact J140 _ (fun q => by exfalso; omega)
                · refine jr_iconst C (v := 1) dX11_extreme_135 (by decide) ?_
                  refine jr_goto C 140 dX11_extreme_136 (by decide) ?_
                  exact J140 _ (fun q => by exfalso; omega)
          · refine jr_iconst C (v := 1) dX11_extreme_89 (by decide) ?_
            refine jr_goto C 94 dX11_extreme_90 (by decide) ?_
            refine jr_iload_n C dX11_extreme_94 rfl ?_
            refine jr_ncmp_eq C 135 dX11_extreme_95 (by decide) rfl rfl (fun b95 => ?_) (fun b95 => ?_)
            · refine jr_iconst C (v := 1) dX11_extreme_135 (by decide) ?_
              refine jr_goto C 140 dX11_extreme_136 (by decide) ?_
              exact J140 _ (fun q => by exfalso; omega)
            · refine jr_aload_n C dX11_extreme_98 rfl ?_
              refine jr_getr C kf_X11_138_0 dX11_extreme_99 ?_
              refine jr_bipush C (v := 20) dX11_extreme_102 (by decide) ?_
              refine jr_iload_n C dX11_extreme_104 rfl ?_
              refine jr_imul C dX11_extreme_105 ?_
              refine jr_iload C dX11_extreme_106 rfl ?_
              refine jr_iadd C dX11_extreme_108 ?_
              refine jr_ialv C ka_M_41 dX11_extreme_109 (by first | exact hF.1 | exact hT.1) (v := σ.1 41 _) rfl ?_
              refine jr_aload_n C dX11_extreme_110 rfl ?_
              refine jr_getr C kf_X11_138_0 dX11_extreme_111 ?_
              refine jr_bipush C (v := 20) dX11_extreme_114 (by decide) ?_
              refine jr_iload_n C dX11_extreme_116 rfl ?_
              refine jr_imul C dX11_extreme_117 ?_
              refine jr_iload_n C dX11_extreme_118 rfl ?_
              refine jr_iadd C dX11_extreme_119 ?_
              refine jr_ialv C ka_M_41 dX11_extreme_120 (by first | exact hF.1 | exact hT.1) (v := σ.1 41 _) rfl ?_
              refine jr_ncmp_ne C 139 dX11_extreme_121 (by decide) rfl rfl (fun b121 => ?_) (fun b121 => ?_)
              · refine jr_iconst C (v := 0) dX11_extreme_139 (by decide) ?_
                exact J140 _ (fun q => by exfalso; omega)
              · refine jr_aload_n C dX11_extreme_124 rfl ?_
                refine jr_iload C dX11_extreme_125 rfl ?_
                refine jr_iload_n C dX11_extreme_127 rfl ?_
                refine jr_vi C [.int _, .int _] _ (ct_X11_isAhead E _ _ _ (by omega) (by omega) (by omega) (by omega)) ky_X11_isAhead kv_X11_isAhead kk_M_0 km_X11_382 (by decide) rfl (Nat.le_of_ble_eq_true rfl) dX11_extreme_128 (fun r128 τ128 h128 => ?_)
                obtain ⟨q128, rfl⟩ := h128
                refine jr_iload_n C dX11_extreme_131 rfl ?_
                refine jr_ncmp_ne C 139 dX11_extreme_132 (by decide) rfl rfl (fun b132 => ?_) (fun b132 => ?_)
                · refine jr_iconst C (v := 0) dX11_extreme_139 (by decide) ?_
                  exact J140 _ (fun q => by exfalso; omega)
                · refine jr_iconst C (v := 1) dX11_extreme_135 (by decide) ?_
                  refine jr_goto C 140 dX11_extreme_136 (by decide) ?_
                  exact J140 _ (fun q => by exfalso; omega)
      · refine jr_goto C 154 dX11_extreme_30 (by decide) ?_
        refine jr_iinc C _ dX11_extreme_154 rfl rfl (by decide) ?_
        refine jr_goto C 5 dX11_extreme_157 (by decide) ?_
        refine jr_sub [(0, jf_r E 0), (1, .int k), (2, .int a), (3, .int t), (4, .int _)] rfl (ih _ _ (by omega) (by omega) (by omega) (g4.imp (fun q => ⟨q.1, fun i hi => ?_⟩) id))
        rcases Int.lt_or_eq_of_le (show (i : Int) ≤ f.toInt by omega) with z | z
        · exact q.2 i z
        · rw [← show f.toNatClampNeg = i from ji_cl z.symm]; exact b27
  refine jr_iconst C (v := -1) dX11_extreme_0 (by decide) ?_
  refine jr_istore_n C dX11_extreme_1 (by decide) ?_
  refine jr_iconst C (v := 0) dX11_extreme_2 (by decide) ?_
  refine jr_istore C dX11_extreme_3 (by decide) ?_
  exact jr_sub [(0, jf_r E 0), (1, .int k), (2, .int a), (3, .int (-1)), (4, .int 0)] rfl (loop 21 (-1) 0 (by decide) f0 (by show _ - 0 < _; omega) (Or.inl ⟨rfl, fun i hi => by exfalso; have : (0 : Int32).toInt = 0 := rfl; omega⟩))

