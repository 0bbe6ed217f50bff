/-! the reference: counts, prize: safe -/
def mI_r (σ : jf_S) : Prop := (0 ≤ ((σ.1 0 39)).toInt ∧ ((σ.1 0 39)).toInt ≤ 100) ∧ (0 ≤ ((σ.1 0 46)).toInt ∧ ((σ.1 0 46)).toInt ≤ 300) ∧ m_val ((σ.1 32)) ((σ.1 0 46)).toNatClampNeg
def mI_v (σ : jf_S) : Prop := (0 ≤ ((σ.1 0 35)).toInt ∧ ((σ.1 0 35)).toInt ≤ 10) ∧ (0 ≤ ((σ.1 0 7)).toInt ∧ ((σ.1 0 7)).toInt ≤ 20) ∧ (∀ i, 0 ≤ ((σ.1 27) i).toInt ∧ ((σ.1 27) i).toInt ≤ 5) ∧ (∀ i, 0 ≤ ((σ.1 26) i).toInt ∧ ((σ.1 26) i).toInt ≤ 19)
theorem ct_X11_countsFor (E : jf_E) (σ : jf_S) (j f k : Int32) (j0 : 0 ≤ j.toInt) (j1 : j.toInt < 10) (hR : mI_r σ) (hV : mI_v σ) : jf_I jh_M E yX11_countsFor cX11_countsFor 4 .boolean 2 [jf_r E 0, .int j, .int f, .int k] σ (fun r τ => (r = 0 ∨ r = 1) ∧ mS_p σ τ) := by
  refine jf_mkI (by decide) (Nat.le_of_ble_eq_true rfl) ?_
  intro G C ret
  refine jr_aload_n C dX11_countsFor_0 rfl ?_
  refine jr_iload_n C dX11_countsFor_1 rfl ?_
  refine jr_iload_n C dX11_countsFor_2 rfl ?_
  refine jr_vi C [.int _, .int _] _ (ct_X11_placeOf E _ _ _ j0 j1 (hV.2.2.1 _).1 (hV.2.2.1 _).2) ky_X11_placeOf kv_X11_placeOf kk_M_0 km_X11_263 (by decide) rfl (Nat.le_of_ble_eq_true rfl) dX11_countsFor_3 (fun r3 τ3 h3 => ?_)
  obtain ⟨q3, rfl⟩ := h3
  refine jr_nif_lt C 23 dX11_countsFor_6 (by decide) (fun b6 => ?_) (fun b6 => ?_)
  · refine jr_iconst C (v := 0) dX11_countsFor_23 (by decide) ?_
    exact ret _ _ _ _ dX11_countsFor_24 (rfl) (⟨by decide, mS_p_r σ⟩)
  refine jr_aload_n C dX11_countsFor_9 rfl ?_
  refine jr_iload_n C dX11_countsFor_10 rfl ?_
  refine jr_iload_n C dX11_countsFor_11 rfl ?_
  refine jr_iload_n C dX11_countsFor_12 rfl ?_
  refine jr_vi C [.int _, .int _, .int _] _ (ct_X11_holds E _ _ _ _ j0 j1 hR.1.1 hR.1.2 hR.2.1.1 hR.2.1.2 hR.2.2) ky_X11_holds kv_X11_holds kk_M_0 km_X11_375 (by decide) rfl (Nat.le_of_ble_eq_true rfl) dX11_countsFor_13 (fun r13 τ13 h13 => ?_)
  refine jr_nif_eq C 23 dX11_countsFor_16 (by decide) (fun b16 => ?_) (fun b16 => ?_)
  · refine jr_iconst C (v := 0) dX11_countsFor_23 (by decide) ?_
    exact ret _ _ _ _ dX11_countsFor_24 (rfl) (⟨by decide, h13.2⟩)
  · refine jr_iconst C (v := 1) dX11_countsFor_19 (by decide) ?_
    refine jr_goto C 24 dX11_countsFor_20 (by decide) ?_
    exact ret _ _ _ _ dX11_countsFor_24 (rfl) (⟨by decide, h13.2⟩)
def m_countsq (σ : jf_S) (j f k r : Int32) : Prop := (¬ (0 ≤ k.toInt ∧ k.toInt ≤ 100000) → r = -1) ∧ ((0 ≤ k.toInt ∧ k.toInt ≤ 100000) → ¬ ((0 ≤ j.toInt ∧ j.toInt < ((σ.1 0 35)).toInt) ∧ (0 ≤ f.toInt ∧ f.toInt < ((σ.1 0 7)).toInt)) → r = -2)
theorem ct_X11_counts (E : jf_E) (σ : jf_S) (j f k : Int32) (hR : mI_r σ) (hV : mI_v σ) : jf_I jh_M E yX11_counts cX11_counts 4 .int 3 [jf_r E 0, .int j, .int f, .int k] σ (fun r τ => m_countsq σ j f k r ∧ mS_p (jf_i σ 0 0 0) τ) := by
  refine jf_mkI (by decide) (Nat.le_of_ble_eq_true rfl) ?_
  intro G C ret
  have hJ := hV.1
  have z := mS_p_r (jf_i σ 0 0 0)
  refine jr_aload_n C dX11_counts_0 rfl ?_
  refine jr_iconst C (v := 0) dX11_counts_1 (by decide) ?_
  refine jr_puti C kp_X11_144_0 dX11_counts_2 ?_
  refine jr_iload_n C dX11_counts_5 rfl ?_
  refine jr_i2l C dX11_counts_6 ?_
  refine jr_lconst C (v := 0) dX11_counts_7 (by decide) ?_
  refine jr_ldc2 C kc_X11_267 dX11_counts_8 ?_
  refine jr_sip C [.long _, .long _, .long _] _ (ct_X11_inw E _ _ _ _ 0 100000 rfl rfl) ky_X11_in ks_X11_in km_X11_153 (by decide) rfl (Nat.le_of_ble_eq_true rfl) dX11_counts_11 ?_
  refine jr_if_ne C 19 dX11_counts_14 (by decide) (fun b14 => ?_) (fun b14 => ?_)
  · replace b14 := jb_t b14
    refine jr_aload_n C dX11_counts_19 rfl ?_
    refine jr_iload_n C dX11_counts_20 rfl ?_
    refine jr_vip C [.int _] _ (ct_X11_isJuror E _ _ (σ.1 0 35) rfl) ky_X11_isJuror kv_X11_isJuror kk_M_0 km_X11_260 (by decide) rfl (Nat.le_of_ble_eq_true rfl) dX11_counts_21 ?_
    refine jr_if_eq C 35 dX11_counts_24 (by decide) (fun b24 => ?_) (fun b24 => ?_)
    · replace b24 := jb_f b24
      refine jr_bipush C (v := -2) dX11_counts_35 (by decide) ?_
      exact ret _ _ _ _ dX11_counts_37 rfl (⟨⟨fun q => by exfalso; omega, fun _ _ => rfl⟩, z⟩)
    · replace b24 := jb_t b24
      refine jr_aload_n C dX11_counts_27 rfl ?_
      refine jr_iload_n C dX11_counts_28 rfl ?_
      refine jr_vip C [.int _] _ (ct_X11_isFilm E _ _ (σ.1 0 7) rfl) ky_X11_isFilm kv_X11_isFilm kk_M_0 km_X11_187 (by decide) rfl (Nat.le_of_ble_eq_true rfl) dX11_counts_29 ?_
      refine jr_if_ne C 38 dX11_counts_32 (by decide) (fun b32 => ?_) (fun b32 => ?_)
      · replace b32 := jb_t b32
        refine jr_aload_n C dX11_counts_38 rfl ?_
        refine jr_getv C kf_X11_359_0 dX11_counts_39 (v := σ.1 0 44) rfl ?_
        refine jr_nif_ne C 50 dX11_counts_42 (by decide) (fun b42 => ?_) (fun b42 => ?_)
        · refine jr_aload_n C dX11_counts_50 rfl ?_
          refine jr_iload_n C dX11_counts_51 rfl ?_
          refine jr_iload_n C dX11_counts_52 rfl ?_
          refine jr_iload_n C dX11_counts_53 rfl ?_
          refine jr_vi C [.int _, .int _, .int _] _ (ct_X11_countsFor E _ _ _ _ (by omega) (by omega) hR hV) ky_X11_countsFor kv_X11_countsFor kk_M_0 km_X11_379 (by decide) rfl (Nat.le_of_ble_eq_true rfl) dX11_counts_54 (fun r54 τ54 h54 => ?_)
          refine jr_nif_eq C 64 dX11_counts_57 (by decide) (fun b57 => ?_) (fun b57 => ?_)
          · skip
            refine jr_iconst C (v := 0) dX11_counts_64 (by decide) ?_
            exact ret _ _ _ _ dX11_counts_65 rfl (by first | exact ⟨⟨fun q => by exfalso; omega, fun _ q => by exfalso; omega⟩, z⟩ | exact ⟨⟨fun q => by exfalso; omega, fun _ q => by exfalso; omega⟩, h54.2⟩)
          · skip
            refine jr_iconst C (v := 1) dX11_counts_60 (by decide) ?_
            refine jr_goto C 65 dX11_counts_61 (by decide) ?_
            exact ret _ _ _ _ dX11_counts_65 rfl (by first | exact ⟨⟨fun q => by exfalso; omega, fun _ q => by exfalso; omega⟩, z⟩ | exact ⟨⟨fun q => by exfalso; omega, fun _ q => by exfalso; omega⟩, h54.2⟩)
        · refine jr_bipush C (v := -6) dX11_counts_45 (by decide) ?_
          refine jr_goto C 65 dX11_counts_47 (by decide) ?_
          exact ret _ _ _ _ dX11_counts_65 rfl (by first | exact ⟨⟨fun q => by exfalso; omega, fun _ q => by exfalso; omega⟩, z⟩ | exact ⟨⟨fun q => by exfalso; omega, fun _ q => by exfalso; omega⟩, h54.2⟩)
      · replace b32 := jb_f b32
        refine jr_bipush C (v := -2) dX11_counts_35 (by decide) ?_
        exact ret _ _ _ _ dX11_counts_37 rfl (⟨⟨fun q => by exfalso; omega, fun _ _ => rfl⟩, z⟩)
  · replace b14 := jb_f b14
    refine jr_iconst C (v := -1) dX11_counts_17 (by decide) ?_
    exact ret _ _ _ _ dX11_counts_18 rfl (⟨⟨fun _ => rfl, fun q => absurd q b14⟩, z⟩)

