/-! the reference: BETTER exactly -/
def m_q (σ : jf_S) : Int32 × Int32 × Int32 × Int32 := ((σ.1 0 34), (σ.1 0 31), (σ.1 0 32), (σ.1 0 33))
theorem m_G_mv {σ : jf_S} {j : Nat} {h b : Int32} : m_G (jf_i (jf_i σ 16 j h) 17 j b) = g_mv (m_G σ) j h b := by rw [m_G_17, m_G_16]; rfl
theorem m_G_back {σ τ : jf_S} {j : Nat} {h b x y : Int32} (e : m_G τ = g_mv (m_G σ) j h b) (hx : x = (σ.1 16) j) (hy : y = (σ.1 17) j) : m_G (jf_i (jf_i τ 16 j x) 17 j y) = m_G σ := by
  rw [m_G_17, m_G_16, e, hx, hy]
  exact g_back (V := m_G σ)
theorem m_G_c {σ : jf_S} {j : Nat} {v : Int32} : m_G (jf_i σ 0 j v) = m_G σ := m_G_o (by decide)
theorem ct_X11_tryChange2 (E : jf_E) (σ : jf_S) (s h b : Int32) (hI : mI_s σ) (s0 : 0 ≤ s.toInt) (s1 : s.toInt < 60) (h0 : 0 ≤ h.toInt) (h1 : h.toInt < 4) (b0 : 0 ≤ b.toInt) (b1 : b.toInt ≤ 14399) (hc : mI_c σ) : jf_V jh_M E yX11_tryChange cX11_tryChange 7 4 [jf_r E 0, .int s, .int h, .int b] σ (fun τ => (mI_s τ ∧ mI_c τ ∧ mS_b σ τ ∧ (τ.1 0 2) = (σ.1 0 2) ∧ (τ.1 0 27) = (σ.1 0 27)) ∧ m_G τ = m_G σ ∧ m_q τ = g_try (m_G σ) ((σ.1 0 17)).toNatClampNeg s h b (m_q σ)) := by
  refine jf_mkV (by decide) (Nat.le_of_ble_eq_true rfl) ?_
  intro G C ret
  have f0 := (hI.2.2.1 s.toNatClampNeg)
  have T0 : ¬ ((g_why (m_G σ) ((σ.1 0 17)).toNatClampNeg ((σ.1 15) s.toNatClampNeg) h b ((σ.1 18) s.toNatClampNeg) s).toInt = 0 ∧ ((σ.1 0 34)).toInt < (g_grid (g_mv (m_G σ) s.toNatClampNeg h b) ((σ.1 0 17)).toNatClampNeg).toInt) → m_q σ = g_try (m_G σ) ((σ.1 0 17)).toNatClampNeg s h b (m_q σ) := fun q => (if_neg q).symm
  have T1 : ((g_why (m_G σ) ((σ.1 0 17)).toNatClampNeg ((σ.1 15) s.toNatClampNeg) h b ((σ.1 18) s.toNatClampNeg) s).toInt = 0 ∧ ((σ.1 0 34)).toInt < (g_grid (g_mv (m_G σ) s.toNatClampNeg h b) ((σ.1 0 17)).toNatClampNeg).toInt) → (g_grid (g_mv (m_G σ) s.toNatClampNeg h b) ((σ.1 0 17)).toNatClampNeg, s, h, b) = g_try (m_G σ) ((σ.1 0 17)).toNatClampNeg s h b (m_q σ) := fun q => (if_pos q).symm
  have mv : m_G (jf_i (jf_i σ 16 s.toNatClampNeg h) 17 s.toNatClampNeg b) = g_mv (m_G σ) s.toNatClampNeg h b := m_G_mv
  refine jr_aload_n C dX11_tryChange_0 rfl ?_
  refine jr_aload_n C dX11_tryChange_1 rfl ?_
  refine jr_getr C kf_X11_53_0 dX11_tryChange_2 ?_
  refine jr_iload_n C dX11_tryChange_5 rfl ?_
  refine jr_ialv C ka_M_15 dX11_tryChange_6 (ji_in s0 s1) (v := σ.1 15 _) rfl ?_
  refine jr_iload_n C dX11_tryChange_7 rfl ?_
  refine jr_iload_n C dX11_tryChange_8 rfl ?_
  refine jr_aload_n C dX11_tryChange_9 rfl ?_
  refine jr_getr C kf_X11_62_0 dX11_tryChange_10 ?_
  refine jr_iload_n C dX11_tryChange_13 rfl ?_
  refine jr_ialv C ka_M_18 dX11_tryChange_14 (ji_in s0 s1) (v := σ.1 18 _) rfl ?_
  refine jr_iload_n C dX11_tryChange_15 rfl ?_
  refine jr_vi C [.int _, .int _, .int _, .int _, .int _] _ (ct_X11_whyOf2 E _ _ _ _ _ _ hI (by omega) (by omega) (by omega) (by omega)) ky_X11_whyOf kv_X11_whyOf kk_M_0 km_X11_200 (by decide) rfl (Nat.le_of_ble_eq_true rfl) dX11_tryChange_16 (fun r16 τ16 h16 => ?_)
  obtain ⟨⟨q16, k16⟩, rfl⟩ := h16; have c16 := congrArg Int32.toInt q16
  refine jr_nif_le C 23 dX11_tryChange_19 (by decide) (fun b19 => ?_) (fun b19 => ?_)
  · refine jr_aload_n C dX11_tryChange_23 rfl ?_
    refine jr_getr C kf_X11_56_0 dX11_tryChange_24 ?_
    refine jr_iload_n C dX11_tryChange_27 rfl ?_
    refine jr_ialv C ka_M_16 dX11_tryChange_28 (ji_in s0 s1) (v := σ.1 16 _) rfl ?_
    refine jr_istore C dX11_tryChange_29 (by decide) ?_
    refine jr_aload_n C dX11_tryChange_31 rfl ?_
    refine jr_getr C kf_X11_59_0 dX11_tryChange_32 ?_
    refine jr_iload_n C dX11_tryChange_35 rfl ?_
    refine jr_ialv C ka_M_17 dX11_tryChange_36 (ji_in s0 s1) (v := σ.1 17 _) rfl ?_
    refine jr_istore C dX11_tryChange_37 (by decide) ?_
    refine jr_aload_n C dX11_tryChange_39 rfl ?_
    refine jr_getr C kf_X11_56_0 dX11_tryChange_40 ?_
    refine jr_iload_n C dX11_tryChange_43 rfl ?_
    refine jr_iload_n C dX11_tryChange_44 rfl ?_
    refine jr_iast C ka_M_16 dX11_tryChange_45 (ji_in s0 s1) ?_
    refine jr_aload_n C dX11_tryChange_46 rfl ?_
    refine jr_getr C kf_X11_59_0 dX11_tryChange_47 ?_
    refine jr_iload_n C dX11_tryChange_50 rfl ?_
    refine jr_iload_n C dX11_tryChange_51 rfl ?_
    refine jr_iast C ka_M_17 dX11_tryChange_52 (ji_in s0 s1) ?_
    refine jr_aload_n C dX11_tryChange_53 rfl ?_
    refine jr_vi C [] _ (ct_X11_gridOf2 E _ (mI_s_b (mI_s_h hI (by omega)) (by omega))) ky_X11_gridOf kv_X11_gridOf kk_M_0 km_X11_225 (by decide) rfl (Nat.le_of_ble_eq_true rfl) dX11_tryChange_54 (fun r54 τ54 h54 => ?_)
    obtain ⟨q54, rfl⟩ := h54; rw [mv] at q54; have g54 : r54 = g_grid (g_mv (m_G σ) s.toNatClampNeg h b) ((σ.1 0 17)).toNatClampNeg := q54; have c54 := congrArg Int32.toInt g54
    refine jr_istore C dX11_tryChange_57 (by decide) ?_
    refine jr_iload C dX11_tryChange_59 rfl ?_
    refine jr_aload_n C dX11_tryChange_61 rfl ?_
    refine jr_getv C kf_X11_231_0 dX11_tryChange_62 (v := σ.1 0 34) rfl ?_
    refine jr_ncmp_le C 89 dX11_tryChange_65 (by decide) rfl rfl (fun b65 => ?_) (fun b65 => ?_)
    · refine jr_aload_n C dX11_tryChange_89 rfl ?_
      refine jr_getr C kf_X11_56_0 dX11_tryChange_90 ?_
      refine jr_iload_n C dX11_tryChange_93 rfl ?_
      refine jr_iload C dX11_tryChange_94 rfl ?_
      refine jr_iast C ka_M_16 dX11_tryChange_96 (ji_in s0 s1) ?_
      refine jr_aload_n C dX11_tryChange_97 rfl ?_
      refine jr_getr C kf_X11_59_0 dX11_tryChange_98 ?_
      refine jr_iload_n C dX11_tryChange_101 rfl ?_
      refine jr_iload C dX11_tryChange_102 rfl ?_
      refine jr_iast C ka_M_17 dX11_tryChange_104 (ji_in s0 s1) ?_
      refine ret _ _ _ dX11_tryChange_105 ?_
      first | (have t := T0 (by omega)); exact ⟨⟨mI_s_b (mI_s_h (mI_s_b (mI_s_h hI (by omega)) (by omega)) (hI.2.2.2.1 _)) (hI.2.2.2.2 _), hc, mS_b_w (mS_b_w (mS_b_w (mS_b_w (mS_b_r σ) (by omega)) (by omega)) (by omega)) (by omega), rfl, rfl⟩, m_G_back mv rfl rfl, t⟩ | (have t := T1 (by omega)); rw [← g54] at t; exact ⟨⟨mI_s_b (mI_s_h (mI_s_f (mI_s_f (mI_s_f (mI_s_f (mI_s_b (mI_s_h hI (by omega)) (by omega)) (by decide)) (by decide)) (by decide)) (by decide)) (hI.2.2.2.1 _)) (hI.2.2.2.2 _), ⟨s1, fun _ => ⟨⟨h0, show h.toInt ≤ 3 by omega⟩, ⟨b0, b1⟩⟩⟩, mS_b_w (mS_b_w (mS_b_f (mS_b_f (mS_b_f (mS_b_f (mS_b_w (mS_b_w (mS_b_r σ) (by omega)) (by omega)) (by omega)) (by omega)) (by omega)) (by omega)) (by omega)) (by omega), rfl, rfl⟩, m_G_back (by rw [m_G_c, m_G_c, m_G_c, m_G_c]; exact mv) rfl rfl, t⟩
    · refine jr_aload_n C dX11_tryChange_68 rfl ?_
      refine jr_iload C dX11_tryChange_69 rfl ?_
      refine jr_puti C kp_X11_231_0 dX11_tryChange_71 ?_
      refine jr_aload_n C dX11_tryChange_74 rfl ?_
      refine jr_iload_n C dX11_tryChange_75 rfl ?_
      refine jr_puti C kp_X11_234_0 dX11_tryChange_76 ?_
      refine jr_aload_n C dX11_tryChange_79 rfl ?_
      refine jr_iload_n C dX11_tryChange_80 rfl ?_
      refine jr_puti C kp_X11_237_0 dX11_tryChange_81 ?_
      refine jr_aload_n C dX11_tryChange_84 rfl ?_
      refine jr_iload_n C dX11_tryChange_85 rfl ?_
      refine jr_puti C kp_X11_240_0 dX11_tryChange_86 ?_
      refine jr_aload_n C dX11_tryChange_89 rfl ?_
      refine jr_getr C kf_X11_56_0 dX11_tryChange_90 ?_
      refine jr_iload_n C dX11_tryChange_93 rfl ?_
      refine jr_iload C dX11_tryChange_94 rfl ?_
      refine jr_iast C ka_M_16 dX11_tryChange_96 (ji_in s0 s1) ?_
      refine jr_aload_n C dX11_tryChange_97 rfl ?_
      refine jr_getr C kf_X11_59_0 dX11_tryChange_98 ?_
      refine jr_iload_n C dX11_tryChange_101 rfl ?_
      refine jr_iload C dX11_tryChange_102 rfl ?_
      refine jr_iast C ka_M_17 dX11_tryChange_104 (ji_in s0 s1) ?_
      refine ret _ _ _ dX11_tryChange_105 ?_
      first | (have t := T0 (by omega)); exact ⟨⟨mI_s_b (mI_s_h (mI_s_b (mI_s_h hI (by omega)) (by omega)) (hI.2.2.2.1 _)) (hI.2.2.2.2 _), hc, mS_b_w (mS_b_w (mS_b_w (mS_b_w (mS_b_r σ) (by omega)) (by omega)) (by omega)) (by omega), rfl, rfl⟩, m_G_back mv rfl rfl, t⟩ | (have t := T1 (by omega)); rw [← g54] at t; exact ⟨⟨mI_s_b (mI_s_h (mI_s_f (mI_s_f (mI_s_f (mI_s_f (mI_s_b (mI_s_h hI (by omega)) (by omega)) (by decide)) (by decide)) (by decide)) (by decide)) (hI.2.2.2.1 _)) (hI.2.2.2.2 _), ⟨s1, fun _ => ⟨⟨h0, show h.toInt ≤ 3 by omega⟩, ⟨b0, b1⟩⟩⟩, mS_b_w (mS_b_w (mS_b_f (mS_b_f (mS_b_f (mS_b_f (mS_b_w (mS_b_w (mS_b_r σ) (by omega)) (by omega)) (by omega)) (by omega)) (by omega)) (by omega)) (by omega)) (by omega), rfl, rfl⟩, m_G_back (by rw [m_G_c, m_G_c, m_G_c, m_G_c]; exact mv) rfl rfl, t⟩
  · exact ret _ _ _ dX11_tryChange_22 (⟨⟨hI, hc, mS_b_r σ, rfl, rfl⟩, rfl, T0 (by omega)⟩)

