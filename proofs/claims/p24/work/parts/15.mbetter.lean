/-! the reference: why, put, better, of, grid: safe -/
def m_bad (b s : Int32) : Prop := ¬ ((0 ≤ b.toInt ∧ b.toInt ≤ 14399) ∧ (0 ≤ s.toInt ∧ s.toInt ≤ 2))
def m_none (σ : jf_S) (f h : Int32) : Prop := ¬ ((0 ≤ f.toInt ∧ f.toInt < ((σ.1 0 7)).toInt) ∧ (0 ≤ h.toInt ∧ h.toInt < ((σ.1 0 2)).toInt))
def m_whyq (σ : jf_S) (f h b s r : Int32) : Prop := (m_bad b s → r = -1) ∧ (¬ m_bad b s → m_none σ f h → r = -2)
theorem ct_X11_why (E : jf_E) (σ : jf_S) (f h b s : Int32) (hI : mI_s σ) (h1 : ((σ.1 0 7)).toInt ≤ 20) (h2 : ((σ.1 0 2)).toInt ≤ 4) : jf_I jh_M E yX11_why cX11_why 5 .int 2 [jf_r E 0, .int f, .int h, .int b, .int s] σ (fun r τ => m_whyq σ f h b s r ∧ jf_i σ 0 0 0 = τ) := by
  refine jf_mkI (by decide) (Nat.le_of_ble_eq_true rfl) ?_
  intro G C ret
  refine jr_aload_n C dX11_why_0 rfl ?_
  refine jr_iconst C (v := 0) dX11_why_1 (by decide) ?_
  refine jr_puti C kp_X11_144_0 dX11_why_2 ?_
  refine jr_iload_n C dX11_why_5 rfl ?_
  refine jr_sip C [.int _] _ (ct_X11_isMinute E _ _) ky_X11_isMinute ks_X11_isMinute km_X11_183 (by decide) rfl (Nat.le_of_ble_eq_true rfl) dX11_why_6 ?_
  refine jr_if_eq C 25 dX11_why_9 (by decide) (fun b9 => ?_) (fun b9 => ?_)
  · replace b9 := jb_f b9
    refine jr_iconst C (v := -1) dX11_why_25 (by decide) ?_
    exact ret _ _ _ _ dX11_why_26 rfl (⟨⟨fun _ => rfl, fun q => absurd (by unfold m_bad; omega) q⟩, rfl⟩)
  · replace b9 := jb_t b9
    refine jr_iload C dX11_why_12 rfl ?_
    refine jr_i2l C dX11_why_14 ?_
    refine jr_lconst C (v := 0) dX11_why_15 (by decide) ?_
    refine jr_ldc2 C kc_X11_195 dX11_why_16 ?_
    refine jr_sip C [.long _, .long _, .long _] _ (ct_X11_inw E _ _ _ _ 0 2 rfl rfl) ky_X11_in ks_X11_in km_X11_153 (by decide) rfl (Nat.le_of_ble_eq_true rfl) dX11_why_19 ?_
    refine jr_if_ne C 27 dX11_why_22 (by decide) (fun b22 => ?_) (fun b22 => ?_)
    · replace b22 := jb_t b22
      refine jr_aload_n C dX11_why_27 rfl ?_
      refine jr_iload_n C dX11_why_28 rfl ?_
      refine jr_vip C [.int _] _ (ct_X11_isFilm E _ _ (σ.1 0 7) rfl) ky_X11_isFilm kv_X11_isFilm kk_M_0 km_X11_187 (by decide) rfl (Nat.le_of_ble_eq_true rfl) dX11_why_29 ?_
      refine jr_if_eq C 56 dX11_why_32 (by decide) (fun b32 => ?_) (fun b32 => ?_)
      · replace b32 := jb_f b32
        refine jr_bipush C (v := -2) dX11_why_56 (by decide) ?_
        exact ret _ _ _ _ dX11_why_58 rfl (by refine ⟨⟨fun q => ?_, fun _ q => ?_⟩, rfl⟩ <;> first | rfl | (exfalso; unfold m_bad at q; omega) | (exfalso; unfold m_none at q; omega))
      · replace b32 := jb_t b32
        refine jr_aload_n C dX11_why_35 rfl ?_
        refine jr_iload_n C dX11_why_36 rfl ?_
        refine jr_vip C [.int _] _ (ct_X11_isHall E _ _ (σ.1 0 2) rfl) ky_X11_isHall kv_X11_isHall kk_M_0 km_X11_197 (by decide) rfl (Nat.le_of_ble_eq_true rfl) dX11_why_37 ?_
        refine jr_if_eq C 56 dX11_why_40 (by decide) (fun b40 => ?_) (fun b40 => ?_)
        · replace b40 := jb_f b40
          refine jr_bipush C (v := -2) dX11_why_56 (by decide) ?_
          exact ret _ _ _ _ dX11_why_58 rfl (by refine ⟨⟨fun q => ?_, fun _ q => ?_⟩, rfl⟩ <;> first | rfl | (exfalso; unfold m_bad at q; omega) | (exfalso; unfold m_none at q; omega))
        · replace b40 := jb_t b40
          refine jr_aload_n C dX11_why_43 rfl ?_
          refine jr_iload_n C dX11_why_44 rfl ?_
          refine jr_iload_n C dX11_why_45 rfl ?_
          refine jr_iload_n C dX11_why_46 rfl ?_
          refine jr_iload C dX11_why_47 rfl ?_
          refine jr_iconst C (v := -1) dX11_why_49 (by decide) ?_
          refine jr_vi C [.int _, .int _, .int _, .int _, .int _] _ (ct_X11_whyOf E _ _ _ _ _ _ hI (by omega) (by omega) (by omega) (by omega)) ky_X11_whyOf kv_X11_whyOf kk_M_0 km_X11_200 (by decide) rfl (Nat.le_of_ble_eq_true rfl) dX11_why_50 (fun r50 τ50 h50 => ?_)
          obtain ⟨q50, rfl⟩ := h50
          refine jr_goto C 58 dX11_why_53 (by decide) ?_
          exact ret _ _ _ _ dX11_why_58 rfl (by refine ⟨⟨fun q => ?_, fun _ q => ?_⟩, rfl⟩ <;> first | rfl | (exfalso; unfold m_bad at q; omega) | (exfalso; unfold m_none at q; omega))
    · replace b22 := jb_f b22
      refine jr_iconst C (v := -1) dX11_why_25 (by decide) ?_
      exact ret _ _ _ _ dX11_why_26 rfl (⟨⟨fun _ => rfl, fun q => absurd (by unfold m_bad; omega) q⟩, rfl⟩)
/-- what put leaves: refused, or one more showing -/
def m_putq (σ : jf_S) (f h b s r : Int32) (τ : jf_S) : Prop :=
  (m_bad b s ∧ r = -1 ∧ τ = m_told (jf_i σ 0 0 0) (-1)) ∨ (¬ m_bad b s ∧ m_none σ f h ∧ r = -2 ∧ τ = m_told (jf_i σ 0 0 0) (-2)) ∨ (¬ m_bad b s ∧ ¬ m_none σ f h ∧ r = -3 ∧ τ = m_told (jf_i σ 0 0 0) (-3)) ∨ (¬ m_bad b s ∧ ¬ m_none σ f h ∧ ((σ.1 0 17)).toInt = 60 ∧ r = -5 ∧ τ = m_told (jf_i σ 0 0 0) (-5)) ∨
  (¬ m_bad b s ∧ ¬ m_none σ f h ∧ ((σ.1 0 17)).toInt < 60 ∧ r = (σ.1 0 17) + 1 - 1 ∧ τ = m_told (jf_i (jf_i (jf_i (jf_i (jf_i (jf_i (jf_i σ 0 0 0) 14 ((σ.1 0 17)).toNatClampNeg 1) 15 ((σ.1 0 17)).toNatClampNeg f) 16 ((σ.1 0 17)).toNatClampNeg h) 17 ((σ.1 0 17)).toNatClampNeg b) 18 ((σ.1 0 17)).toNatClampNeg s) 0 17 ((σ.1 0 17) + 1)) ((σ.1 0 17) + 1 - 1))
theorem ct_X11_put (E : jf_E) (σ : jf_S) (f h b s : Int32) (hI : mI_s σ) (h1 : ((σ.1 0 7)).toInt ≤ 20) (h2 : ((σ.1 0 2)).toInt ≤ 4) : jf_I jh_M E yX11_put cX11_put 5 .int 2 [jf_r E 0, .int f, .int h, .int b, .int s] σ (fun r τ => m_putq σ f h b s r τ) := by
  refine jf_mkI (by decide) (Nat.le_of_ble_eq_true rfl) ?_
  intro G C ret
  have hE := hI.1
  refine jr_aload_n C dX11_put_0 rfl ?_
  refine jr_iconst C (v := 0) dX11_put_1 (by decide) ?_
  refine jr_puti C kp_X11_144_0 dX11_put_2 ?_
  refine jr_iload_n C dX11_put_5 rfl ?_
  refine jr_sip C [.int _] _ (ct_X11_isMinute E _ _) ky_X11_isMinute ks_X11_isMinute km_X11_183 (by decide) rfl (Nat.le_of_ble_eq_true rfl) dX11_put_6 ?_
  refine jr_if_eq C 25 dX11_put_9 (by decide) (fun b9 => ?_) (fun b9 => ?_)
  · replace b9 := jb_f b9
    refine jr_aload_n C dX11_put_25 rfl ?_
    refine jr_iconst C (v := -1) dX11_put_26 (by decide) ?_
    refine jr_vip C [.int _] _ (ct_X11_told E _ _) ky_X11_told kv_X11_told kk_M_0 km_X11_173 (by decide) rfl (Nat.le_of_ble_eq_true rfl) dX11_put_27 ?_
    exact ret _ _ _ _ dX11_put_30 rfl (Or.inl ⟨by unfold m_bad; omega, rfl, rfl⟩)
  · replace b9 := jb_t b9
    refine jr_iload C dX11_put_12 rfl ?_
    refine jr_i2l C dX11_put_14 ?_
    refine jr_lconst C (v := 0) dX11_put_15 (by decide) ?_
    refine jr_ldc2 C kc_X11_195 dX11_put_16 ?_
    refine jr_sip C [.long _, .long _, .long _] _ (ct_X11_inw E _ _ _ _ 0 2 rfl rfl) ky_X11_in ks_X11_in km_X11_153 (by decide) rfl (Nat.le_of_ble_eq_true rfl) dX11_put_19 ?_
    refine jr_if_ne C 31 dX11_put_22 (by decide) (fun b22 => ?_) (fun b22 => ?_)
    · replace b22 := jb_t b22
      refine jr_aload_n C dX11_put_31 rfl ?_
      refine jr_iload_n C dX11_put_32 rfl ?_
      refine jr_vip C [.int _] _ (ct_X11_isFilm E _ _ (σ.1 0 7) rfl) ky_X11_isFilm kv_X11_isFilm kk_M_0 km_X11_187 (by decide) rfl (Nat.le_of_ble_eq_true rfl) dX11_put_33 ?_
      refine jr_if_eq C 47 dX11_put_36 (by decide) (fun b36 => ?_) (fun b36 => ?_)
      · replace b36 := jb_f b36
        refine jr_aload_n C dX11_put_47 rfl ?_
        refine jr_bipush C (v := -2) dX11_put_48 (by decide) ?_
        refine jr_vip C [.int _] _ (ct_X11_told E _ _) ky_X11_told kv_X11_told kk_M_0 km_X11_173 (by decide) rfl (Nat.le_of_ble_eq_true rfl) dX11_put_50 ?_
        exact ret _ _ _ _ dX11_put_53 rfl (Or.inr (Or.inl ⟨by unfold m_bad; omega, by unfold m_none; omega, rfl, rfl⟩))
      · replace b36 := jb_t b36
        refine jr_aload_n C dX11_put_39 rfl ?_
        refine jr_iload_n C dX11_put_40 rfl ?_
        refine jr_vip C [.int _] _ (ct_X11_isHall E _ _ (σ.1 0 2) rfl) ky_X11_isHall kv_X11_isHall kk_M_0 km_X11_197 (by decide) rfl (Nat.le_of_ble_eq_true rfl) dX11_put_41 ?_
        refine jr_if_ne C 54 dX11_put_44 (by decide) (fun b44 => ?_) (fun b44 => ?_)
        · replace b44 := jb_t b44
          refine jr_aload_n C dX11_put_54 rfl ?_
          refine jr_iload_n C dX11_put_55 rfl ?_
          refine jr_iload_n C dX11_put_56 rfl ?_
          refine jr_iload_n C dX11_put_57 rfl ?_
          refine jr_iload C dX11_put_58 rfl ?_
          refine jr_iconst C (v := -1) dX11_put_60 (by decide) ?_
          refine jr_vi C [.int _, .int _, .int _, .int _, .int _] _ (ct_X11_whyOf E _ _ _ _ _ _ hI (by omega) (by omega) (by omega) (by omega)) ky_X11_whyOf kv_X11_whyOf kk_M_0 km_X11_200 (by decide) rfl (Nat.le_of_ble_eq_true rfl) dX11_put_61 (fun r61 τ61 h61 => ?_)
          obtain ⟨q61, rfl⟩ := h61
          refine jr_nif_le C 74 dX11_put_64 (by decide) (fun b64 => ?_) (fun b64 => ?_)
          · refine jr_aload_n C dX11_put_74 rfl ?_
            refine jr_getv C kf_X11_160_0 dX11_put_75 (v := σ.1 0 17) rfl ?_
            refine jr_bipush C (v := 60) dX11_put_78 (by decide) ?_
            refine jr_ncmp_ne C (b := 60) 90 dX11_put_80 (by decide) rfl rfl (fun b80 => ?_) (fun b80 => ?_)
            · refine jr_aload_n C dX11_put_90 rfl ?_
              refine jr_getr C kf_X11_49_0 dX11_put_91 ?_
              refine jr_aload_n C dX11_put_94 rfl ?_
              refine jr_getv C kf_X11_160_0 dX11_put_95 (v := σ.1 0 17) rfl ?_
              refine jr_iconst C (v := 1) dX11_put_98 (by decide) ?_
              refine jr_zast C ka_M_14 dX11_put_99 (ji_in (i := (σ.1 0 17)) (by omega) (by omega)) (Or.inr rfl) ?_
              refine jr_aload_n C dX11_put_100 rfl ?_
              refine jr_getr C kf_X11_53_0 dX11_put_101 ?_
              refine jr_aload_n C dX11_put_104 rfl ?_
              refine jr_getv C kf_X11_160_0 dX11_put_105 (v := σ.1 0 17) rfl ?_
              refine jr_iload_n C dX11_put_108 rfl ?_
              refine jr_iast C ka_M_15 dX11_put_109 (ji_in (i := (σ.1 0 17)) (by omega) (by omega)) ?_
              refine jr_aload_n C dX11_put_110 rfl ?_
              refine jr_getr C kf_X11_56_0 dX11_put_111 ?_
              refine jr_aload_n C dX11_put_114 rfl ?_
              refine jr_getv C kf_X11_160_0 dX11_put_115 (v := σ.1 0 17) rfl ?_
              refine jr_iload_n C dX11_put_118 rfl ?_
              refine jr_iast C ka_M_16 dX11_put_119 (ji_in (i := (σ.1 0 17)) (by omega) (by omega)) ?_
              refine jr_aload_n C dX11_put_120 rfl ?_
              refine jr_getr C kf_X11_59_0 dX11_put_121 ?_
              refine jr_aload_n C dX11_put_124 rfl ?_
              refine jr_getv C kf_X11_160_0 dX11_put_125 (v := σ.1 0 17) rfl ?_
              refine jr_iload_n C dX11_put_128 rfl ?_
              refine jr_iast C ka_M_17 dX11_put_129 (ji_in (i := (σ.1 0 17)) (by omega) (by omega)) ?_
              refine jr_aload_n C dX11_put_130 rfl ?_
              refine jr_getr C kf_X11_62_0 dX11_put_131 ?_
              refine jr_aload_n C dX11_put_134 rfl ?_
              refine jr_getv C kf_X11_160_0 dX11_put_135 (v := σ.1 0 17) rfl ?_
              refine jr_iload C dX11_put_138 rfl ?_
              refine jr_iast C ka_M_18 dX11_put_140 (ji_in (i := (σ.1 0 17)) (by omega) (by omega)) ?_
              refine jr_aload_n C dX11_put_141 rfl ?_
              refine jr_dup C dX11_put_142 rfl ?_
              refine jr_getv C kf_X11_160_0 dX11_put_143 (v := σ.1 0 17) rfl ?_
              refine jr_iconst C (v := 1) dX11_put_146 (by decide) ?_
              refine jr_iadd C dX11_put_147 ?_
              refine jr_puti C kp_X11_160_0 dX11_put_148 ?_
              refine jr_aload_n C dX11_put_151 rfl ?_
              refine jr_aload_n C dX11_put_152 rfl ?_
              refine jr_geti C kf_X11_160_0 dX11_put_153 ?_
              refine jr_iconst C (v := 1) dX11_put_156 (by decide) ?_
              refine jr_isub C dX11_put_157 ?_
              refine jr_vip C [.int _] _ (ct_X11_told E _ _) ky_X11_told kv_X11_told kk_M_0 km_X11_173 (by decide) rfl (Nat.le_of_ble_eq_true rfl) dX11_put_158 ?_
              exact ret _ _ _ _ dX11_put_161 rfl (Or.inr (Or.inr (Or.inr (Or.inr ⟨by unfold m_bad; omega, by unfold m_none; omega, by omega, rfl, rfl⟩))))
            · refine jr_aload_n C dX11_put_83 rfl ?_
              refine jr_bipush C (v := -5) dX11_put_84 (by decide) ?_
              refine jr_vip C [.int _] _ (ct_X11_told E _ _) ky_X11_told kv_X11_told kk_M_0 km_X11_173 (by decide) rfl (Nat.le_of_ble_eq_true rfl) dX11_put_86 ?_
              exact ret _ _ _ _ dX11_put_89 rfl (Or.inr (Or.inr (Or.inr (Or.inl ⟨by unfold m_bad; omega, by unfold m_none; omega, by omega, rfl, rfl⟩))))
          · refine jr_aload_n C dX11_put_67 rfl ?_
            refine jr_bipush C (v := -3) dX11_put_68 (by decide) ?_
            refine jr_vip C [.int _] _ (ct_X11_told E _ _) ky_X11_told kv_X11_told kk_M_0 km_X11_173 (by decide) rfl (Nat.le_of_ble_eq_true rfl) dX11_put_70 ?_
            exact ret _ _ _ _ dX11_put_73 rfl (Or.inr (Or.inr (Or.inl ⟨by unfold m_bad; omega, by unfold m_none; omega, rfl, rfl⟩)))
        · replace b44 := jb_f b44
          refine jr_aload_n C dX11_put_47 rfl ?_
          refine jr_bipush C (v := -2) dX11_put_48 (by decide) ?_
          refine jr_vip C [.int _] _ (ct_X11_told E _ _) ky_X11_told kv_X11_told kk_M_0 km_X11_173 (by decide) rfl (Nat.le_of_ble_eq_true rfl) dX11_put_50 ?_
          exact ret _ _ _ _ dX11_put_53 rfl (Or.inr (Or.inl ⟨by unfold m_bad; omega, by unfold m_none; omega, rfl, rfl⟩))
    · replace b22 := jb_f b22
      refine jr_aload_n C dX11_put_25 rfl ?_
      refine jr_iconst C (v := -1) dX11_put_26 (by decide) ?_
      refine jr_vip C [.int _] _ (ct_X11_told E _ _) ky_X11_told kv_X11_told kk_M_0 km_X11_173 (by decide) rfl (Nat.le_of_ble_eq_true rfl) dX11_put_27 ?_
      exact ret _ _ _ _ dX11_put_30 rfl (Or.inl ⟨by unfold m_bad; omega, rfl, rfl⟩)
theorem ct_X11_grid (E : jf_E) (σ : jf_S) (hI : mI_s σ) : jf_I jh_M E yX11_grid cX11_grid 1 .int 4 [jf_r E 0] σ (fun r τ => jf_i σ 0 0 0 = τ) := by
  refine jf_mkI (by decide) (Nat.le_of_ble_eq_true rfl) ?_
  intro G C ret
  refine jr_aload_n C dX11_grid_0 rfl ?_
  refine jr_iconst C (v := 0) dX11_grid_1 (by decide) ?_
  refine jr_puti C kp_X11_144_0 dX11_grid_2 ?_
  refine jr_aload_n C dX11_grid_5 rfl ?_
  refine jr_vi C [] _ (ct_X11_gridOf E _ hI) ky_X11_gridOf kv_X11_gridOf kk_M_0 km_X11_225 (by decide) rfl (Nat.le_of_ble_eq_true rfl) dX11_grid_6 (fun r6 τ6 h6 => ?_)
  exact ret _ _ _ _ dX11_grid_9 rfl (h6)
/-- the changes that better may make to the state -/
def mS_b (σ τ : jf_S) : Prop := τ.2 = σ.2 ∧ (∀ k, k ≠ 0 → k ≠ 16 → k ≠ 17 → τ.1 k = σ.1 k) ∧ (∀ j, j ≠ 0 → j ≠ 27 → j ≠ 31 → j ≠ 32 → j ≠ 33 → j ≠ 34 → τ.1 0 j = σ.1 0 j)
theorem mS_b_r (σ : jf_S) : mS_b σ σ := ⟨rfl, fun _ _ _ _ => rfl, fun _ _ _ _ _ _ _ => rfl⟩
theorem mS_b_t {σ τ υ : jf_S} (h : mS_b σ τ) (g : mS_b τ υ) : mS_b σ υ := ⟨g.1.trans h.1, fun k a b c => (g.2.1 k a b c).trans (h.2.1 k a b c), fun j a b c d e f => (g.2.2 j a b c d e f).trans (h.2.2 j a b c d e f)⟩
theorem mS_b_w {σ τ : jf_S} (h : mS_b σ τ) {k j : Nat} {v : Int32} (hk : k = 16 ∨ k = 17) : mS_b σ (jf_i τ k j v) := by
  refine ⟨h.1, fun a h1 h2 h3 => ?_, fun i h1 h2 h3 h4 h5 h6 => ?_⟩
  · rw [jf_i_o a (by rcases hk with e | e <;> omega)]; exact h.2.1 a h1 h2 h3
  · rw [jf_i_o 0 (by rcases hk with e | e <;> omega)]; exact h.2.2 i h1 h2 h3 h4 h5 h6
theorem mS_b_f {σ τ : jf_S} (h : mS_b σ τ) {j : Nat} {v : Int32} (hj : j = 0 ∨ j = 27 ∨ j = 31 ∨ j = 32 ∨ j = 33 ∨ j = 34) : mS_b σ (jf_i τ 0 j v) := by
  refine ⟨h.1, fun a h1 h2 h3 => ?_, fun i h1 h2 h3 h4 h5 h6 => ?_⟩
  · rw [jf_i_o a h1]; exact h.2.1 a h1 h2 h3
  · rw [jf_i_at]; unfold upd; rw [if_neg (by omega)]; exact h.2.2 i h1 h2 h3 h4 h5 h6
/-- the change kept so far -/
def mI_c (σ : jf_S) : Prop := ((σ.1 0 31)).toInt < 60 ∧ (0 ≤ ((σ.1 0 31)).toInt → (0 ≤ ((σ.1 0 32)).toInt ∧ ((σ.1 0 32)).toInt ≤ 3) ∧ (0 ≤ ((σ.1 0 33)).toInt ∧ ((σ.1 0 33)).toInt ≤ 14399))
theorem mI_s_h {σ : jf_S} (h : mI_s σ) {j : Nat} {v : Int32} (hv : 0 ≤ v.toInt ∧ v.toInt ≤ 3) : mI_s (jf_i σ 16 j v) := by
  refine ⟨h.1, h.2.1, h.2.2.1, fun i => ?_, h.2.2.2.2⟩
  rw [jf_i_at]; unfold upd; split
  · exact hv
  · exact h.2.2.2.1 i
theorem mI_s_b {σ : jf_S} (h : mI_s σ) {j : Nat} {v : Int32} (hv : 0 ≤ v.toInt ∧ v.toInt ≤ 14399) : mI_s (jf_i σ 17 j v) := by
  refine ⟨h.1, h.2.1, h.2.2.1, h.2.2.2.1, fun i => ?_⟩
  rw [jf_i_at]; unfold upd; split
  · exact hv
  · exact h.2.2.2.2 i
theorem mI_s_f {σ : jf_S} (h : mI_s σ) {j : Nat} {v : Int32} (hj : j ≠ 17) : mI_s (jf_i σ 0 j v) := by
  refine ⟨?_, h.2.1, h.2.2.1, h.2.2.2.1, h.2.2.2.2⟩
  rw [jf_i_at]; unfold upd; rw [if_neg (Ne.symm hj)]; exact h.1
theorem ct_X11_tryChange (E : jf_E) (σ : jf_S) (s h b : Int32) (hI : mI_s σ) (s0 : 0 ≤ s.toInt) (s1 : s.toInt < 60) (h0 : 0 ≤ h.toInt) (h1 : h.toInt < 4) (b0 : 0 ≤ b.toInt) (b1 : b.toInt ≤ 14399) (hc : mI_c σ) : jf_V jh_M E yX11_tryChange cX11_tryChange 7 4 [jf_r E 0, .int s, .int h, .int b] σ (fun τ => mI_s τ ∧ mI_c τ ∧ mS_b σ τ ∧ (τ.1 0 2) = (σ.1 0 2) ∧ (τ.1 0 27) = (σ.1 0 27)) := by
  refine jf_mkV (by decide) (Nat.le_of_ble_eq_true rfl) ?_
  intro G C ret
  have f0 := (hI.2.2.1 s.toNatClampNeg)
  refine jr_aload_n C dX11_tryChange_0 rfl ?_
  refine jr_aload_n C dX11_tryChange_1 rfl ?_
  refine jr_getr C kf_X11_53_0 dX11_tryChange_2 ?_
  refine jr_iload_n C dX11_tryChange_5 rfl ?_
  refine jr_ialv C ka_M_15 dX11_tryChange_6 (ji_in s0 s1) (v := σ.1 15 _) rfl ?_
  refine jr_iload_n C dX11_tryChange_7 rfl ?_
  refine jr_iload_n C dX11_tryChange_8 rfl ?_
  refine jr_aload_n C dX11_tryChange_9 rfl ?_
  refine jr_getr C kf_X11_62_0 dX11_tryChange_10 ?_
  refine jr_iload_n C dX11_tryChange_13 rfl ?_
  refine jr_ialv C ka_M_18 dX11_tryChange_14 (ji_in s0 s1) (v := σ.1 18 _) rfl ?_
  refine jr_iload_n C dX11_tryChange_15 rfl ?_
  refine jr_vi C [.int _, .int _, .int _, .int _, .int _] _ (ct_X11_whyOf E _ _ _ _ _ _ hI (by omega) (by omega) (by omega) (by omega)) ky_X11_whyOf kv_X11_whyOf kk_M_0 km_X11_200 (by decide) rfl (Nat.le_of_ble_eq_true rfl) dX11_tryChange_16 (fun r16 τ16 h16 => ?_)
  obtain ⟨q16, rfl⟩ := h16
  refine jr_nif_le C 23 dX11_tryChange_19 (by decide) (fun b19 => ?_) (fun b19 => ?_)
  · refine jr_aload_n C dX11_tryChange_23 rfl ?_
    refine jr_getr C kf_X11_56_0 dX11_tryChange_24 ?_
    refine jr_iload_n C dX11_tryChange_27 rfl ?_
    refine jr_ialv C ka_M_16 dX11_tryChange_28 (ji_in s0 s1) (v := σ.1 16 _) rfl ?_
    refine jr_istore C dX11_tryChange_29 (by decide) ?_
    refine jr_aload_n C dX11_tryChange_31 rfl ?_
    refine jr_getr C kf_X11_59_0 dX11_tryChange_32 ?_
    refine jr_iload_n C dX11_tryChange_35 rfl ?_
    refine jr_ialv C ka_M_17 dX11_tryChange_36 (ji_in s0 s1) (v := σ.1 17 _) rfl ?_
    refine jr_istore C dX11_tryChange_37 (by decide) ?_
    refine jr_aload_n C dX11_tryChange_39 rfl ?_
    refine jr_getr C kf_X11_56_0 dX11_tryChange_40 ?_
    refine jr_iload_n C dX11_tryChange_43 rfl ?_
    refine jr_iload_n C dX11_tryChange_44 rfl ?_
    refine jr_iast C ka_M_16 dX11_tryChange_45 (ji_in s0 s1) ?_
    refine jr_aload_n C dX11_tryChange_46 rfl ?_
    refine jr_getr C kf_X11_59_0 dX11_tryChange_47 ?_
    refine jr_iload_n C dX11_tryChange_50 rfl ?_
    refine jr_iload_n C dX11_tryChange_51 rfl ?_
    refine jr_iast C ka_M_17 dX11_tryChange_52 (ji_in s0 s1) ?_
    refine jr_aload_n C dX11_tryChange_53 rfl ?_
    refine jr_vi C [] _ (ct_X11_gridOf E _ (mI_s_b (mI_s_h hI (by omega)) (by omega))) ky_X11_gridOf kv_X11_gridOf kk_M_0 km_X11_225 (by decide) rfl (Nat.le_of_ble_eq_true rfl) dX11_tryChange_54 (fun r54 τ54 h54 => ?_)
    subst h54
    refine jr_istore C dX11_tryChange_57 (by decide) ?_
    refine jr_iload C dX11_tryChange_59 rfl ?_
    refine jr_aload_n C dX11_tryChange_61 rfl ?_
    refine jr_getv C kf_X11_231_0 dX11_tryChange_62 (v := σ.1 0 34) rfl ?_
    refine jr_ncmp_le C 89 dX11_tryChange_65 (by decide) rfl rfl (fun b65 => ?_) (fun b65 => ?_)
    · refine jr_aload_n C dX11_tryChange_89 rfl ?_
      refine jr_getr C kf_X11_56_0 dX11_tryChange_90 ?_
      refine jr_iload_n C dX11_tryChange_93 rfl ?_
      refine jr_iload C dX11_tryChange_94 rfl ?_
      refine jr_iast C ka_M_16 dX11_tryChange_96 (ji_in s0 s1) ?_
      refine jr_aload_n C dX11_tryChange_97 rfl ?_
      refine jr_getr C kf_X11_59_0 dX11_tryChange_98 ?_
      refine jr_iload_n C dX11_tryChange_101 rfl ?_
      refine jr_iload C dX11_tryChange_102 rfl ?_
      refine jr_iast C ka_M_17 dX11_tryChange_104 (ji_in s0 s1) ?_
      refine ret _ _ _ dX11_tryChange_105 ?_
      first | exact ⟨mI_s_b (mI_s_h (mI_s_b (mI_s_h hI (by omega)) (by omega)) (hI.2.2.2.1 _)) (hI.2.2.2.2 _), hc, mS_b_w (mS_b_w (mS_b_w (mS_b_w (mS_b_r σ) (by omega)) (by omega)) (by omega)) (by omega), rfl, rfl⟩ | exact ⟨mI_s_b (mI_s_h (mI_s_f (mI_s_f (mI_s_f (mI_s_f (mI_s_b (mI_s_h hI (by omega)) (by omega)) (by decide)) (by decide)) (by decide)) (by decide)) (hI.2.2.2.1 _)) (hI.2.2.2.2 _), ⟨s1, fun _ => ⟨⟨h0, show h.toInt ≤ 3 by omega⟩, ⟨b0, b1⟩⟩⟩, mS_b_w (mS_b_w (mS_b_f (mS_b_f (mS_b_f (mS_b_f (mS_b_w (mS_b_w (mS_b_r σ) (by omega)) (by omega)) (by omega)) (by omega)) (by omega)) (by omega)) (by omega)) (by omega), rfl, rfl⟩
    · refine jr_aload_n C dX11_tryChange_68 rfl ?_
      refine jr_iload C dX11_tryChange_69 rfl ?_
      refine jr_puti C kp_X11_231_0 dX11_tryChange_71 ?_
      refine jr_aload_n C dX11_tryChange_74 rfl ?_
      refine jr_iload_n C dX11_tryChange_75 rfl ?_
      refine jr_puti C kp_X11_234_0 dX11_tryChange_76 ?_
      refine jr_aload_n C dX11_tryChange_79 rfl ?_
      refine jr_iload_n C dX11_tryChange_80 rfl ?_
      refine jr_puti C kp_X11_237_0 dX11_tryChange_81 ?_
      refine jr_aload_n C dX11_tryChange_84 rfl ?_
      refine jr_iload_n C dX11_tryChange_85 rfl ?_
      refine jr_puti C kp_X11_240_0 dX11_tryChange_86 ?_
      refine jr_aload_n C dX11_tryChange_89 rfl ?_
      refine jr_getr C kf_X11_56_0 dX11_tryChange_90 ?_
      refine jr_iload_n C dX11_tryChange_93 rfl ?_
      refine jr_iload C dX11_tryChange_94 rfl ?_
      refine jr_iast C ka_M_16 dX11_tryChange_96 (ji_in s0 s1) ?_
      refine jr_aload_n C dX11_tryChange_97 rfl ?_
      refine jr_getr C kf_X11_59_0 dX11_tryChange_98 ?_
      refine jr_iload_n C dX11_tryChange_101 rfl ?_
      refine jr_iload C dX11_tryChange_102 rfl ?_
      refine jr_iast C ka_M_17 dX11_tryChange_104 (ji_in s0 s1) ?_
      refine ret _ _ _ dX11_tryChange_105 ?_
      first | exact ⟨mI_s_b (mI_s_h (mI_s_b (mI_s_h hI (by omega)) (by omega)) (hI.2.2.2.1 _)) (hI.2.2.2.2 _), hc, mS_b_w (mS_b_w (mS_b_w (mS_b_w (mS_b_r σ) (by omega)) (by omega)) (by omega)) (by omega), rfl, rfl⟩ | exact ⟨mI_s_b (mI_s_h (mI_s_f (mI_s_f (mI_s_f (mI_s_f (mI_s_b (mI_s_h hI (by omega)) (by omega)) (by decide)) (by decide)) (by decide)) (by decide)) (hI.2.2.2.1 _)) (hI.2.2.2.2 _), ⟨s1, fun _ => ⟨⟨h0, show h.toInt ≤ 3 by omega⟩, ⟨b0, b1⟩⟩⟩, mS_b_w (mS_b_w (mS_b_f (mS_b_f (mS_b_f (mS_b_f (mS_b_w (mS_b_w (mS_b_r σ) (by omega)) (by omega)) (by omega)) (by omega)) (by omega)) (by omega)) (by omega)) (by omega), rfl, rfl⟩
  · exact ret _ _ _ dX11_tryChange_22 (⟨hI, hc, mS_b_r σ, rfl, rfl⟩)
def mK (σ τ : jf_S) : Prop := mI_s τ ∧ mS_b σ τ ∧ (τ.1 0 2) = (σ.1 0 2) ∧ (τ.1 0 27) = (σ.1 0 27)
theorem mK_ever {σ τ : jf_S} (h : mK σ τ) : (τ.1 0 17) = (σ.1 0 17) := h.2.1.2.2 17 (by decide) (by decide) (by decide) (by decide) (by decide) (by decide)
theorem mK_hours {σ τ : jf_S} (h : mK σ τ) : (τ.1 22) = (σ.1 22) := h.2.1.2.1 22 (by decide) (by decide) (by decide)
theorem mK_t {σ τ υ : jf_S} (h : mK σ τ) (g : mI_s υ ∧ mI_c υ ∧ mS_b τ υ ∧ (υ.1 0 2) = (τ.1 0 2) ∧ (υ.1 0 27) = (τ.1 0 27)) : mK σ υ := ⟨g.1, mS_b_t h.2.1 g.2.2.1, g.2.2.2.1.trans h.2.2.1, g.2.2.2.2.trans h.2.2.2⟩
set_option maxHeartbeats 2000000 in
theorem ct_X11_better (E : jf_E) (σ : jf_S) (hI : mI_s σ) (h4 : ((σ.1 0 2)).toInt ≤ 4) (hh : ((σ.1 0 27)).toInt ≤ 10) (hr : ∀ j, 0 ≤ ((σ.1 22) j).toInt ∧ ((σ.1 22) j).toInt ≤ 14399) : jf_I jh_M E yX11_better cX11_better 6 .int 5 [jf_r E 0] σ (fun r τ => mI_s τ ∧ mS_b σ τ ∧ (τ.1 0 2) = (σ.1 0 2) ∧ (τ.1 0 27) = 0) := by
  refine jf_mkI (by decide) (Nat.le_of_ble_eq_true rfl) ?_
  intro G C ret
  have hE0 := hI.1
  have J169 : ∀ (υ : jf_S) (c : Int32) (L : List (Nat × Value)), mK σ υ → jf_lk 0 L = some (jf_r E 0) → jf_lk 1 L = some (.int c) → jf_X jh_M E G 6 169 L [] υ := by
    intro υ c L hU hL0 hL1
    refine jr_aload_n C dX11_better_169 hL0 ?_
    refine jr_iconst C (v := 0) dX11_better_170 (by decide) ?_
    refine jr_puti C kp_X11_228_0 dX11_better_171 ?_
    refine jr_iload_n C dX11_better_174 hL1 ?_
    exact ret _ _ _ _ dX11_better_175 rfl (⟨mI_s_f hU.1 (by decide), mS_b_f hU.2.1 (by omega), hU.2.2.1, rfl⟩)
  have J9z : ∀ (υ : jf_S) (c : Int32), mK σ υ → jf_X jh_M E G 6 9 [(0, jf_r E 0), (1, .int c), (2, .int 0)] [] υ := by
    intro υ c hU
    refine jr_iload_n C dX11_better_9 rfl ?_
    refine jr_if_eq C 169 dX11_better_10 (by decide) (fun _ => ?_) (fun b => absurd rfl b)
    exact J169 _ _ _ hU rfl rfl
  have outer : ∀ (m : Nat) (τ : jf_S) (c a : Int32), mK σ τ → 40 - c.toInt < m → 0 ≤ c.toInt → c.toInt ≤ 40 → jf_X jh_M E G 6 9 [(0, jf_r E 0), (1, .int c), (2, .int a)] [] τ := by
    intro m
    induction m with
    | zero => intro τ c a hK g1 g2 g3; exfalso; omega
    | succ m ih =>
      intro τ c a hK g1 g2 g3
      have ec := ji_inc (k := c) (by omega)
      have J120 : ∀ (υ : jf_S), mK σ υ → mI_c υ → c.toInt < 40 → jf_X jh_M E G 6 120 [(0, jf_r E 0), (1, .int c)] [] υ := by
        intro υ hU hC gc
        refine jr_aload_n C dX11_better_120 rfl ?_
        refine jr_getv C kf_X11_234_0 dX11_better_121 (v := υ.1 0 31) rfl ?_
        refine jr_nif_lt C 131 dX11_better_124 (by decide) (fun b124 => ?_) (fun b124 => ?_)
        · refine jr_iconst C (v := 0) dX11_better_131 (by decide) ?_
          refine jr_istore_n C dX11_better_132 (by decide) ?_
          refine jr_iload_n C dX11_better_133 rfl ?_
          refine jr_if_eq C 9 dX11_better_134 (by decide) (fun _ => ?_) (fun b => absurd b (by decide))
          first | exact jr_sub [(0, jf_r E 0), (1, .int c), (2, .int 0)] rfl (J9z _ _ hU) | exact jr_sub [(0, jf_r E 0), (1, .int _), (2, .int _)] rfl (ih _ _ _ ⟨mI_s_b (mI_s_h hU.1 (hC.2 (by omega)).1) (hC.2 (by omega)).2, mS_b_w (mS_b_w hU.2.1 (by omega)) (by omega), hU.2.2.1, hU.2.2.2⟩ (by omega) (by omega) (by omega))
        · refine jr_iconst C (v := 1) dX11_better_127 (by decide) ?_
          refine jr_goto C 132 dX11_better_128 (by decide) ?_
          refine jr_istore_n C dX11_better_132 (by decide) ?_
          refine jr_iload_n C dX11_better_133 rfl ?_
          refine jr_if_eq C 9 dX11_better_134 (by decide) (fun b => absurd b (by decide)) (fun _ => ?_)
          refine jr_aload_n C dX11_better_137 rfl ?_
          refine jr_getr C kf_X11_56_0 dX11_better_138 ?_
          refine jr_aload_n C dX11_better_141 rfl ?_
          refine jr_getv C kf_X11_234_0 dX11_better_142 (v := υ.1 0 31) rfl ?_
          refine jr_aload_n C dX11_better_145 rfl ?_
          refine jr_getv C kf_X11_237_0 dX11_better_146 (v := υ.1 0 32) rfl ?_
          refine jr_iast C ka_M_16 dX11_better_149 (ji_in (i := (υ.1 0 31)) (by omega) (by have := hC.1; omega)) ?_
          refine jr_aload_n C dX11_better_150 rfl ?_
          refine jr_getr C kf_X11_59_0 dX11_better_151 ?_
          refine jr_aload_n C dX11_better_154 rfl ?_
          refine jr_getv C kf_X11_234_0 dX11_better_155 (v := υ.1 0 31) rfl ?_
          refine jr_aload_n C dX11_better_158 rfl ?_
          refine jr_getv C kf_X11_240_0 dX11_better_159 (v := υ.1 0 33) rfl ?_
          refine jr_iast C ka_M_17 dX11_better_162 (ji_in (i := (υ.1 0 31)) (by omega) (by have := hC.1; omega)) ?_
          refine jr_iinc C _ dX11_better_163 rfl rfl (by decide) ?_
          refine jr_goto C 9 dX11_better_166 (by decide) ?_
          first | exact jr_sub [(0, jf_r E 0), (1, .int c), (2, .int 0)] rfl (J9z _ _ hU) | exact jr_sub [(0, jf_r E 0), (1, .int _), (2, .int _)] rfl (ih _ _ _ ⟨mI_s_b (mI_s_h hU.1 (hC.2 (by omega)).1) (hC.2 (by omega)).2, mS_b_w (mS_b_w hU.2.1 (by omega)) (by omega), hU.2.2.1, hU.2.2.2⟩ (by omega) (by omega) (by omega))
      have loopS : ∀ (n : Nat) (υ : jf_S) (o : Int32), mK σ υ → mI_c υ → c.toInt < 40 → 0 ≤ o.toInt → o.toInt ≤ ((σ.1 0 17)).toInt → ((σ.1 0 17)).toInt - o.toInt < n → jf_X jh_M E G 6 34 [(0, jf_r E 0), (1, .int c), (3, .int o)] [] υ := by
        intro n
        induction n with
        | zero => intro υ o k1 k2 k3 k4 k5 k6; exfalso; omega
        | succ n ihS =>
          intro υ o k1 k2 k3 k4 k5 k6
          have eo := ji_inc (k := o) (by have := hI.1; omega)
          have hE := k1.1.1
          have ee := mK_ever k1
          refine jr_iload_n C dX11_better_34 rfl ?_
          refine jr_aload_n C dX11_better_35 rfl ?_
          refine jr_geti C kf_X11_160_0 dX11_better_36 ?_
          refine jr_ncmp_ge C (b := ((σ.1 0 17)).toInt) 120 dX11_better_39 (by decide) rfl (by rw [ee]) (fun b39 => ?_) (fun b39 => ?_)
          · exact jr_sub [(0, jf_r E 0), (1, .int c)] rfl (J120 _ k1 k2 k3)
          have loopH : ∀ (q : Nat) (υ : jf_S) (h : Int32), mK σ υ → mI_c υ → 0 ≤ h.toInt → h.toInt ≤ 4 → 4 - h.toInt < q → jf_X jh_M E G 6 45 [(0, jf_r E 0), (1, .int c), (3, .int o), (4, .int h)] [] υ := by
            intro q
            induction q with
            | zero => intro υ h l1 l2 l3 l4 l5; exfalso; omega
            | succ q ihH =>
              intro υ h l1 l2 l3 l4 l5
              have eh := ji_inc (k := h) (by omega)
              have J114 : ∀ (L : List (Nat × Value)), jf_lk 0 L = some (jf_r E 0) → jf_X jh_M E G 6 114 [(0, jf_r E 0), (1, .int c), (3, .int o)] [] υ := by
                intro L _
                refine jr_iinc C _ dX11_better_114 rfl rfl (by decide) ?_
                refine jr_goto C 34 dX11_better_117 (by decide) ?_
                exact jr_sub [(0, jf_r E 0), (1, .int c), (3, .int _)] rfl (ihS _ _ l1 l2 k3 (by omega) (by omega) (by omega))
              have ee := mK_ever l1
              have loopK : ∀ (z : Nat) (υ : jf_S) (k : Int32), mK σ υ → mI_c υ → h.toInt < 4 → 0 ≤ k.toInt → k.toInt ≤ 10 → 10 - k.toInt < z → jf_X jh_M E G 6 66 [(0, jf_r E 0), (1, .int c), (3, .int o), (4, .int h), (5, .int k)] [] υ := by
                intro z
                induction z with
                | zero => intro υ k p1 p2 p3 p4 p5 p6; exfalso; omega
                | succ z ihK =>
                  intro υ k p1 p2 p3 p4 p5 p6
                  have ek := ji_inc (k := k) (by omega)
                  have eh2 := p1.2.2.2
                  have eq := mK_hours p1
                  have r1 : 0 ≤ ((υ.1 22) k.toNatClampNeg).toInt ∧ ((υ.1 22) k.toNatClampNeg).toInt ≤ 14399 := by rw [eq]; exact hr _
                  refine jr_iload C dX11_better_66 rfl ?_
                  refine jr_aload_n C dX11_better_68 rfl ?_
                  refine jr_geti C kf_X11_228_0 dX11_better_69 ?_
                  refine jr_ncmp_ge C (b := ((σ.1 0 27)).toInt) 95 dX11_better_72 (by decide) rfl (by rw [eh2]) (fun b72 => ?_) (fun b72 => ?_)
                  · refine jr_aload_n C dX11_better_95 rfl ?_
                    refine jr_iload_n C dX11_better_96 rfl ?_
                    refine jr_iload C dX11_better_97 rfl ?_
                    refine jr_aload_n C dX11_better_99 rfl ?_
                    refine jr_getr C kf_X11_59_0 dX11_better_100 ?_
                    refine jr_iload_n C dX11_better_103 rfl ?_
                    refine jr_iald C ka_M_17 dX11_better_104 (ji_in (i := o) (by omega) (by omega)) ?_
                    refine jr_vv C [.int _, .int _, .int _] _ (ct_X11_tryChange E _ _ _ _ p1.1 (by omega) (by omega) (by omega) (by omega) (p1.1.2.2.2.2 _).1 (p1.1.2.2.2.2 _).2 p2) ky_X11_tryChange kv_X11_tryChange kk_M_0 km_X11_243 (by decide) rfl (Nat.le_of_ble_eq_true rfl) dX11_better_105 (fun τ105 h105 => ?_)
                    refine jr_iinc C _ dX11_better_108 rfl rfl (by decide) ?_
                    refine jr_goto C 45 dX11_better_111 (by decide) ?_
                    exact jr_sub [(0, jf_r E 0), (1, .int c), (3, .int o), (4, .int _)] rfl (ihH _ _ (mK_t p1 h105) h105.2.1 (by omega) (by omega) (by omega))
                  · refine jr_aload_n C dX11_better_75 rfl ?_
                    refine jr_iload_n C dX11_better_76 rfl ?_
                    refine jr_iload C dX11_better_77 rfl ?_
                    refine jr_aload_n C dX11_better_79 rfl ?_
                    refine jr_getr C kf_X11_74_0 dX11_better_80 ?_
                    refine jr_iload C dX11_better_83 rfl ?_
                    refine jr_iald C ka_M_22 dX11_better_85 (ji_in (i := k) (by omega) (by omega)) ?_
                    refine jr_vv C [.int _, .int _, .int _] _ (ct_X11_tryChange E _ _ _ _ p1.1 (by omega) (by omega) (by omega) (by omega) r1.1 r1.2 p2) ky_X11_tryChange kv_X11_tryChange kk_M_0 km_X11_243 (by decide) rfl (Nat.le_of_ble_eq_true rfl) dX11_better_86 (fun τ86 h86 => ?_)
                    refine jr_iinc C _ dX11_better_89 rfl rfl (by decide) ?_
                    refine jr_goto C 66 dX11_better_92 (by decide) ?_
                    exact jr_sub [(0, jf_r E 0), (1, .int c), (3, .int o), (4, .int h), (5, .int _)] rfl (ihK _ _ (mK_t p1 h86) h86.2.1 p3 (by omega) (by omega) (by omega))
              have e4 := l1.2.2.1
              refine jr_iload C dX11_better_45 rfl ?_
              refine jr_aload_n C dX11_better_47 rfl ?_
              refine jr_geti C kf_X11_150_0 dX11_better_48 ?_
              refine jr_ncmp_ge C (b := ((σ.1 0 2)).toInt) 114 dX11_better_51 (by decide) rfl (by rw [e4]) (fun b51 => ?_) (fun b51 => ?_)
              · exact jr_sub [(0, jf_r E 0), (1, .int c), (3, .int o)] rfl (J114 [(0, jf_r E 0)] rfl)
              refine jr_aload_n C dX11_better_54 rfl ?_
              refine jr_getr C kf_X11_49_0 dX11_better_55 ?_
              refine jr_iload_n C dX11_better_58 rfl ?_
              refine jr_zald C ka_M_14 dX11_better_59 (ji_in (i := o) (by omega) (by omega)) ?_
              refine jr_nif_eq C 114 dX11_better_60 (by decide) (fun b60 => ?_) (fun b60 => ?_)
              · exact jr_sub [(0, jf_r E 0), (1, .int c), (3, .int o)] rfl (J114 [(0, jf_r E 0)] rfl)
              refine jr_iconst C (v := 0) dX11_better_63 (by decide) ?_
              refine jr_istore C dX11_better_64 (by decide) ?_
              exact jr_sub [(0, jf_r E 0), (1, .int c), (3, .int o), (4, .int h), (5, .int 0)] rfl (loopK 11 _ 0 l1 l2 (by omega) (by decide) (by decide) (by decide))
          refine jr_iconst C (v := 0) dX11_better_42 (by decide) ?_
          refine jr_istore C dX11_better_43 (by decide) ?_
          exact jr_sub [(0, jf_r E 0), (1, .int c), (3, .int o), (4, .int 0)] rfl (loopH 5 _ 0 k1 k2 (by decide) (by decide) (by decide))
      refine jr_iload_n C dX11_better_9 rfl ?_
      refine jr_nif_eq C 169 dX11_better_10 (by decide) (fun b10 => ?_) (fun b10 => ?_)
      · exact J169 _ _ _ hK rfl rfl
      refine jr_iload_n C dX11_better_13 rfl ?_
      refine jr_bipush C (v := 40) dX11_better_14 (by decide) ?_
      refine jr_ncmp_ge C (b := 40) 169 dX11_better_16 (by decide) rfl rfl (fun b16 => ?_) (fun b16 => ?_)
      · exact J169 _ _ _ hK rfl rfl
      refine jr_aload_n C dX11_better_19 rfl ?_
      refine jr_aload_n C dX11_better_20 rfl ?_
      refine jr_vi C [] _ (ct_X11_gridOf E _ hK.1) ky_X11_gridOf kv_X11_gridOf kk_M_0 km_X11_225 (by decide) rfl (Nat.le_of_ble_eq_true rfl) dX11_better_21 (fun r21 τ21 h21 => ?_)
      subst h21
      refine jr_puti C kp_X11_231_0 dX11_better_24 ?_
      refine jr_aload_n C dX11_better_27 rfl ?_
      refine jr_iconst C (v := -1) dX11_better_28 (by decide) ?_
      refine jr_puti C kp_X11_234_0 dX11_better_29 ?_
      refine jr_iconst C (v := 0) dX11_better_32 (by decide) ?_
      refine jr_istore_n C dX11_better_33 (by decide) ?_
      have hk2 : mK σ (jf_i (jf_i τ 0 34 r21) 0 31 (-1)) := ⟨mI_s_f (mI_s_f hK.1 (by decide)) (by decide), mS_b_f (mS_b_f hK.2.1 (by omega)) (by omega), hK.2.2.1, hK.2.2.2⟩
      exact jr_sub [(0, jf_r E 0), (1, .int c), (3, .int 0)] rfl (loopS 61 _ 0 hk2 ⟨show (-1 : Int32).toInt < 60 by decide, fun q => absurd (show 0 ≤ (-1 : Int32).toInt from q) (by decide)⟩ (by omega) (by decide) hI.1.1 (by show _ - 0 < _; have := hI.1; omega))
  refine jr_aload_n C dX11_better_0 rfl ?_
  refine jr_iconst C (v := 0) dX11_better_1 (by decide) ?_
  refine jr_puti C kp_X11_144_0 dX11_better_2 ?_
  refine jr_iconst C (v := 0) dX11_better_5 (by decide) ?_
  refine jr_istore_n C dX11_better_6 (by decide) ?_
  refine jr_iconst C (v := 1) dX11_better_7 (by decide) ?_
  refine jr_istore_n C dX11_better_8 (by decide) ?_
  exact jr_sub [(0, jf_r E 0), (1, .int 0), (2, .int 1)] rfl (outer 41 _ 0 1 ⟨hI, mS_b_f (mS_b_r σ) (by omega), rfl, rfl⟩ (by decide) (by decide) (by decide))

