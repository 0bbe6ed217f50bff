/-! put, grid, better: exactly -/
def x_none (σ : jf_S) (f h : Int32) : Prop := ¬ ((0 ≤ f.toInt ∧ f.toInt < ((σ.1 2 8)).toInt) ∧ (0 ≤ h.toInt ∧ h.toInt < ((σ.1 1 5)).toInt))
theorem ct_X10_reasonAgainst2 (E : jf_E) (σ : jf_S) (f h b s : Int32) (hI : xI σ) (hN : xN σ) (h1 : ((σ.1 2 8)).toInt ≤ 20) (h2 : ((σ.1 1 5)).toInt ≤ 4) : jf_I jh_X E yX10_reasonAgainst cX10_reasonAgainst 5 .int 3 [jf_r E 0, .int f, .int h, .int b, .int s] σ (fun r τ => (((m_bad b s ∨ x_none σ f h) ∧ r.toInt < 0) ∨ ((¬ m_bad b s ∧ ¬ x_none σ f h) ∧ 0 ≤ r.toInt ∧ (jx_ct (g_pc (x_G σ) f (-1)) (x_N σ) < 60 → r = g_why (x_G σ) (x_N σ) f h b s (-1)))) ∧ σ = τ) := by
  refine jf_mkI (by decide) (Nat.le_of_ble_eq_true rfl) ?_
  intro G C ret
  refine jr_iload_n C dX10_reasonAgainst_0 rfl ?_
  refine jr_sip C [.int _] _ (ct_X10_isMinute E _ _) ky_X10_isMinute ks_X10_isMinute km_X10_112 (by decide) rfl (Nat.le_of_ble_eq_true rfl) dX10_reasonAgainst_1 ?_
  refine jr_if_eq C 17 dX10_reasonAgainst_4 (by decide) (fun b4 => ?_) (fun b4 => ?_)
  · replace b4 := jb_f b4
    refine jr_iconst C (v := -1) dX10_reasonAgainst_17 (by decide) ?_
    exact ret _ _ _ _ dX10_reasonAgainst_18 rfl (⟨by first | exact Or.inl ⟨Or.inl (by unfold m_bad; omega), by decide⟩ | exact Or.inl ⟨Or.inr (by unfold x_none; omega), by decide⟩ | exact Or.inr ⟨⟨by unfold m_bad; omega, by unfold x_none; omega⟩, q54.2.1, q54.1⟩, rfl⟩)
  · replace b4 := jb_t b4
    refine jr_iload C dX10_reasonAgainst_7 rfl ?_
    refine jr_iconst C (v := 0) dX10_reasonAgainst_9 (by decide) ?_
    refine jr_iconst C (v := 2) dX10_reasonAgainst_10 (by decide) ?_
    refine jr_sip C [.int _, .int _, .int _] _ (ct_X10_withinw E _ _ _ _ 0 2 rfl rfl) ky_X10_within ks_X10_within km_X10_93 (by decide) rfl (Nat.le_of_ble_eq_true rfl) dX10_reasonAgainst_11 ?_
    refine jr_if_ne C 19 dX10_reasonAgainst_14 (by decide) (fun b14 => ?_) (fun b14 => ?_)
    · replace b14 := jb_t b14
      refine jr_aload_n C dX10_reasonAgainst_19 rfl ?_
      refine jr_getr C kf_X10_19_0 dX10_reasonAgainst_20 ?_
      refine jr_iload_n C dX10_reasonAgainst_23 rfl ?_
      refine jr_vip C [.int _] _ (ct_X2_has E _ _ (σ.1 2 8) rfl) ky_X2_has kv_X2_has kk_X_2 km_X10_115 (by decide) rfl (Nat.le_of_ble_eq_true rfl) dX10_reasonAgainst_24 ?_
      refine jr_if_eq C 41 dX10_reasonAgainst_27 (by decide) (fun b27 => ?_) (fun b27 => ?_)
      · replace b27 := jb_f b27
        refine jr_bipush C (v := -2) dX10_reasonAgainst_41 (by decide) ?_
        exact ret _ _ _ _ dX10_reasonAgainst_43 rfl (⟨by first | exact Or.inl ⟨Or.inl (by unfold m_bad; omega), by decide⟩ | exact Or.inl ⟨Or.inr (by unfold x_none; omega), by decide⟩ | exact Or.inr ⟨⟨by unfold m_bad; omega, by unfold x_none; omega⟩, q54.2.1, q54.1⟩, rfl⟩)
      · replace b27 := jb_t b27
        refine jr_aload_n C dX10_reasonAgainst_30 rfl ?_
        refine jr_getr C kf_X10_10_0 dX10_reasonAgainst_31 ?_
        refine jr_iload_n C dX10_reasonAgainst_34 rfl ?_
        refine jr_vip C [.int _] _ (ct_X3_has E _ _ (σ.1 1 5) rfl) ky_X3_has kv_X3_has kk_X_1 km_X10_288 (by decide) rfl (Nat.le_of_ble_eq_true rfl) dX10_reasonAgainst_35 ?_
        refine jr_if_ne C 44 dX10_reasonAgainst_38 (by decide) (fun b38 => ?_) (fun b38 => ?_)
        · replace b38 := jb_t b38
          refine jr_aload_n C dX10_reasonAgainst_44 rfl ?_
          refine jr_getr C kf_X10_35_0 dX10_reasonAgainst_45 ?_
          refine jr_iload_n C dX10_reasonAgainst_48 rfl ?_
          refine jr_iload_n C dX10_reasonAgainst_49 rfl ?_
          refine jr_iload_n C dX10_reasonAgainst_50 rfl ?_
          refine jr_iload C dX10_reasonAgainst_51 rfl ?_
          refine jr_iconst C (v := -1) dX10_reasonAgainst_53 (by decide) ?_
          refine jr_vi C [.int _, .int _, .int _, .int _, .int _] _ (ct_X1_reason2 E _ _ _ _ _ _ hI hN ⟨by omega, by omega⟩ ⟨by omega, by omega⟩) ky_X1_reason kv_X1_reason kk_X_4 km_X10_289 (by decide) rfl (Nat.le_of_ble_eq_true rfl) dX10_reasonAgainst_54 (fun r54 τ54 h54 => ?_)
          obtain ⟨q54, rfl⟩ := h54
          exact ret _ _ _ _ dX10_reasonAgainst_57 rfl (⟨by first | exact Or.inl ⟨Or.inl (by unfold m_bad; omega), by decide⟩ | exact Or.inl ⟨Or.inr (by unfold x_none; omega), by decide⟩ | exact Or.inr ⟨⟨by unfold m_bad; omega, by unfold x_none; omega⟩, q54.2.1, q54.1⟩, rfl⟩)
        · replace b38 := jb_f b38
          refine jr_bipush C (v := -2) dX10_reasonAgainst_41 (by decide) ?_
          exact ret _ _ _ _ dX10_reasonAgainst_43 rfl (⟨by first | exact Or.inl ⟨Or.inl (by unfold m_bad; omega), by decide⟩ | exact Or.inl ⟨Or.inr (by unfold x_none; omega), by decide⟩ | exact Or.inr ⟨⟨by unfold m_bad; omega, by unfold x_none; omega⟩, q54.2.1, q54.1⟩, rfl⟩)
    · replace b14 := jb_f b14
      refine jr_iconst C (v := -1) dX10_reasonAgainst_17 (by decide) ?_
      exact ret _ _ _ _ dX10_reasonAgainst_18 rfl (⟨by first | exact Or.inl ⟨Or.inl (by unfold m_bad; omega), by decide⟩ | exact Or.inl ⟨Or.inr (by unfold x_none; omega), by decide⟩ | exact Or.inr ⟨⟨by unfold m_bad; omega, by unfold x_none; omega⟩, q54.2.1, q54.1⟩, rfl⟩)
/-- what put leaves of the class -/
def x_putq (σ : jf_S) (f h b s : Int32) (τ : jf_S) : Prop :=
  ((∃ v : Int32, τ = x_told σ v) ∧ (m_bad b s ∨ x_none σ f h ∨ ((σ.1 3 8)).toInt = 60 ∨ 0 < (g_why (x_G σ) (x_N σ) f h b s (-1)).toInt)) ∨
  ((∃ v : Int32, τ = x_told (x_sadd σ f h b (b + (σ.1 17) f.toNatClampNeg) s).2 v) ∧ ¬ m_bad b s ∧ ¬ x_none σ f h ∧ ((σ.1 3 8)).toInt < 60 ∧ (g_why (x_G σ) (x_N σ) f h b s (-1)).toInt = 0)
theorem x_putq_0 {σ τ : jf_S} {f h b s v : Int32} (e : τ = x_told σ v) (q : m_bad b s ∨ x_none σ f h ∨ ((σ.1 3 8)).toInt = 60 ∨ 0 < (g_why (x_G σ) (x_N σ) f h b s (-1)).toInt) : x_putq σ f h b s τ := Or.inl ⟨⟨v, e⟩, q⟩
theorem x_ct_60 {σ : jf_S} (hI : xI σ) {f x : Int32} (h : ¬ ((σ.1 3 8)).toInt = 60) : jx_ct (g_pc (x_G σ) f x) (x_N σ) < 60 := by
  have a := jx_ct_le (g_pc (x_G σ) f x) (x_N σ)
  have t := ji_tn hI.1.1
  have := hI.1.2
  have e : x_N σ = ((σ.1 3 8)).toNatClampNeg := rfl
  omega
theorem ct_X10_put2 (E : jf_E) (σ : jf_S) (f h b s : Int32) (hI : xI σ) (hN : xN σ) (h1 : ((σ.1 2 8)).toInt ≤ 20) (h2 : ((σ.1 1 5)).toInt ≤ 4) : jf_I jh_X E yX10_put cX10_put 6 .int 4 [jf_r E 0, .int f, .int h, .int b, .int s] σ (fun r τ => x_putq σ f h b s τ) := by
  refine jf_mkI (by decide) (Nat.le_of_ble_eq_true rfl) ?_
  intro G C ret
  have hE := hI.1
  have bd : ¬ m_bad b s ↔ ((0 ≤ b.toInt ∧ b.toInt ≤ 14399) ∧ (0 ≤ s.toInt ∧ s.toInt ≤ 2)) := by unfold m_bad; omega
  have nn : ¬ x_none σ f h ↔ ((0 ≤ f.toInt ∧ f.toInt < ((σ.1 2 8)).toInt) ∧ (0 ≤ h.toInt ∧ h.toInt < ((σ.1 1 5)).toInt)) := by unfold x_none; omega
  have K : ∀ r : Int32, (((m_bad b s ∨ x_none σ f h) ∧ r.toInt < 0) ∨ ((¬ m_bad b s ∧ ¬ x_none σ f h) ∧ 0 ≤ r.toInt ∧ (jx_ct (g_pc (x_G σ) f (-1)) (x_N σ) < 60 → r = g_why (x_G σ) (x_N σ) f h b s (-1)))) → (¬ r.toInt = 0 → m_bad b s ∨ x_none σ f h ∨ ((σ.1 3 8)).toInt = 60 ∨ 0 < (g_why (x_G σ) (x_N σ) f h b s (-1)).toInt) ∧ (0 ≤ r.toInt → ((0 ≤ b.toInt ∧ b.toInt ≤ 14399) ∧ (0 ≤ s.toInt ∧ s.toInt ≤ 2)) ∧ ((0 ≤ f.toInt ∧ f.toInt < ((σ.1 2 8)).toInt) ∧ (0 ≤ h.toInt ∧ h.toInt < ((σ.1 1 5)).toInt))) ∧ (r.toInt = 0 → (¬ m_bad b s ∧ ¬ x_none σ f h) ∧ (¬ ((σ.1 3 8)).toInt = 60 → (g_why (x_G σ) (x_N σ) f h b s (-1)).toInt = 0)) := by
    intro r q
    rcases q with ⟨q1, q2⟩ | ⟨q1, q2, q3⟩
    · exact ⟨fun _ => by rcases q1 with q | q; exact Or.inl q; exact Or.inr (Or.inl q), fun k => by omega, fun k => by omega⟩
    · refine ⟨fun k => ?_, fun _ => ⟨bd.mp q1.1, nn.mp q1.2⟩, fun k => ⟨q1, fun k2 => ?_⟩⟩
      · by_cases c : ((σ.1 3 8)).toInt = 60
        · exact Or.inr (Or.inr (Or.inl c))
        · have := congrArg Int32.toInt (q3 (x_ct_60 hI c)); exact Or.inr (Or.inr (Or.inr (by omega)))
      · have := congrArg Int32.toInt (q3 (x_ct_60 hI k2)); omega
  refine jr_aload_n C dX10_put_0 rfl ?_
  refine jr_iload_n C dX10_put_1 rfl ?_
  refine jr_iload_n C dX10_put_2 rfl ?_
  refine jr_iload_n C dX10_put_3 rfl ?_
  refine jr_iload C dX10_put_4 rfl ?_
  refine jr_vi C [.int _, .int _, .int _, .int _] _ (ct_X10_reasonAgainst2 E _ _ _ _ _ hI hN h1 h2) ky_X10_reasonAgainst kv_X10_reasonAgainst kk_X_0 km_X10_125 (by decide) rfl (Nat.le_of_ble_eq_true rfl) dX10_put_6 (fun r6 τ6 h6 => ?_)
  obtain ⟨q6, rfl⟩ := h6; obtain ⟨k1, k2, k3⟩ := K _ q6
  refine jr_istore C dX10_put_9 (by decide) ?_
  refine jr_iload C dX10_put_11 rfl ?_
  refine jr_nif_ge C 23 dX10_put_13 (by decide) (fun b13 => ?_) (fun b13 => ?_)
  · refine jr_iload C dX10_put_23 rfl ?_
    refine jr_nif_le C 35 dX10_put_25 (by decide) (fun b25 => ?_) (fun b25 => ?_)
    · refine jr_aload_n C dX10_put_35 rfl ?_
      refine jr_aload_n C dX10_put_36 rfl ?_
      refine jr_getr C kf_X10_26_0 dX10_put_37 ?_
      refine jr_iload_n C dX10_put_40 rfl ?_
      refine jr_iload_n C dX10_put_41 rfl ?_
      refine jr_iload_n C dX10_put_42 rfl ?_
      refine jr_iload_n C dX10_put_43 rfl ?_
      refine jr_aload_n C dX10_put_44 rfl ?_
      refine jr_getr C kf_X10_19_0 dX10_put_45 ?_
      refine jr_getr C kf_X10_128_2 dX10_put_48 ?_
      refine jr_iload_n C dX10_put_51 rfl ?_
      refine jr_ialv C ka_X_17 dX10_put_52 (ji_in (i := f) (by have := k2 (by omega); omega) (by have := k2 (by omega); omega)) (v := σ.1 17 _) rfl ?_
      refine jr_iadd C dX10_put_53 ?_
      refine jr_iload C dX10_put_54 rfl ?_
      refine jr_vip C [.int _, .int _, .int _, .int _, .int _] _ (ct_X8_add E _ _ _ _ _ _ hE.1) ky_X8_add kv_X8_add kk_X_3 km_X10_132 (by decide) rfl (Nat.le_of_ble_eq_true rfl) dX10_put_56 ?_
      refine jr_vip C [.int _] _ (ct_X10_told E _ _) ky_X10_told kv_X10_told kk_X_0 km_X10_97 (by decide) rfl (Nat.le_of_ble_eq_true rfl) dX10_put_59 ?_
      exact ret _ _ _ _ dX10_put_62 rfl (by first | exact x_putq_0 rfl (k1 (by omega)) | (by_cases c : ((σ.1 3 8)).toInt = 60; (have z : x_sadd σ f h b (b + (σ.1 17) f.toNatClampNeg) s = (-5, σ) := if_pos (by omega)); exact Or.inl ⟨⟨_, by rw [z]⟩, Or.inr (Or.inr (Or.inl c))⟩; exact Or.inr ⟨⟨_, rfl⟩, (k3 (by omega)).1.1, (k3 (by omega)).1.2, by omega, (k3 (by omega)).2 c⟩))
    · refine jr_aload_n C dX10_put_28 rfl ?_
      refine jr_bipush C (v := -3) dX10_put_29 (by decide) ?_
      refine jr_vip C [.int _] _ (ct_X10_told E _ _) ky_X10_told kv_X10_told kk_X_0 km_X10_97 (by decide) rfl (Nat.le_of_ble_eq_true rfl) dX10_put_31 ?_
      exact ret _ _ _ _ dX10_put_34 rfl (by first | exact x_putq_0 rfl (k1 (by omega)) | (by_cases c : ((σ.1 3 8)).toInt = 60; (have z : x_sadd σ f h b (b + (σ.1 17) f.toNatClampNeg) s = (-5, σ) := if_pos (by omega)); exact Or.inl ⟨⟨_, by rw [z]⟩, Or.inr (Or.inr (Or.inl c))⟩; exact Or.inr ⟨⟨_, rfl⟩, (k3 (by omega)).1.1, (k3 (by omega)).1.2, by omega, (k3 (by omega)).2 c⟩))
  · refine jr_aload_n C dX10_put_16 rfl ?_
    refine jr_iload C dX10_put_17 rfl ?_
    refine jr_vip C [.int _] _ (ct_X10_told E _ _) ky_X10_told kv_X10_told kk_X_0 km_X10_97 (by decide) rfl (Nat.le_of_ble_eq_true rfl) dX10_put_19 ?_
    exact ret _ _ _ _ dX10_put_22 rfl (by first | exact x_putq_0 rfl (k1 (by omega)) | (by_cases c : ((σ.1 3 8)).toInt = 60; (have z : x_sadd σ f h b (b + (σ.1 17) f.toNatClampNeg) s = (-5, σ) := if_pos (by omega)); exact Or.inl ⟨⟨_, by rw [z]⟩, Or.inr (Or.inr (Or.inl c))⟩; exact Or.inr ⟨⟨_, rfl⟩, (k3 (by omega)).1.1, (k3 (by omega)).1.2, by omega, (k3 (by omega)).2 c⟩))
theorem ct_X10_grid2 (E : jf_E) (σ : jf_S) (hI : xI σ) (hN : xN σ) : jf_I jh_X E yX10_grid cX10_grid 1 .int 5 [jf_r E 0] σ (fun r τ => r = g_grid (x_G σ) (x_N σ) ∧ σ = τ) := by
  refine jf_mkI (by decide) (Nat.le_of_ble_eq_true rfl) ?_
  intro G C ret
  refine jr_aload_n C dX10_grid_0 rfl ?_
  refine jr_getr C kf_X10_44_0 dX10_grid_1 ?_
  refine jr_vi C [] _ (ct_X9_sum2 E _ hI hN) ky_X9_sum kv_X9_sum kk_X_5 km_X10_173 (by decide) rfl (Nat.le_of_ble_eq_true rfl) dX10_grid_4 (fun r4 τ4 h4 => ?_)
  obtain ⟨q4, rfl⟩ := h4
  exact ret _ _ _ _ dX10_grid_7 rfl (⟨q4, rfl⟩)
theorem ct_X10_better2 (E : jf_E) (σ : jf_S) (hI : xI σ) (hN : xN σ) (hg : gI (x_G σ)) (hH : xH σ) (hm : 0 ≤ ((σ.1 1 5)).toInt ∧ ((σ.1 1 5)).toInt ≤ 4) : jf_I jh_X E yX10_better cX10_better 1 .int 6 [jf_r E 0] σ (fun r τ => (∃ υ : jf_S, xS_b σ υ ∧ xI υ ∧ τ = jf_i υ 5 8 0) ∧ r = nI (g_be (x_N σ) (x_M σ) (x_H σ) 40 (x_G σ)).1 ∧ x_G τ = (g_be (x_N σ) (x_M σ) (x_H σ) 40 (x_G σ)).2 ∧ xN τ) := by
  refine jf_mkI (by decide) (Nat.le_of_ble_eq_true rfl) ?_
  intro G C ret
  refine jr_aload_n C dX10_better_0 rfl ?_
  refine jr_getr C kf_X10_44_0 dX10_better_1 ?_
  refine jr_vi C [] _ (ct_X9_improve2 E _ hI hN hg hH hm) ky_X9_improve kv_X9_improve kk_X_5 km_X10_180 (by decide) rfl (Nat.le_of_ble_eq_true rfl) dX10_better_4 (fun r4 τ4 h4 => ?_)
  exact ret _ _ _ _ dX10_better_7 rfl (h4)
def m_E (σ : jf_S) : Nat := ((σ.1 0 17)).toNatClampNeg
/-- what put leaves of the reference -/
def m_putw (σ : jf_S) (f h b s r : Int32) (τ : jf_S) : Prop :=
  m_putq σ f h b s r τ ∧ (((∃ v : Int32, τ = m_told (jf_i σ 0 0 0) v) ∧ (m_bad b s ∨ m_none σ f h ∨ ((σ.1 0 17)).toInt = 60 ∨ 0 < (g_why (m_G σ) (m_E σ) f h b s (-1)).toInt)) ∨
  ((∃ v : Int32, τ = m_told (jf_i (jf_i (jf_i (jf_i (jf_i (jf_i (jf_i σ 0 0 0) 14 ((σ.1 0 17)).toNatClampNeg 1) 15 ((σ.1 0 17)).toNatClampNeg f) 16 ((σ.1 0 17)).toNatClampNeg h) 17 ((σ.1 0 17)).toNatClampNeg b) 18 ((σ.1 0 17)).toNatClampNeg s) 0 17 ((σ.1 0 17) + 1)) v) ∧ ¬ m_bad b s ∧ ¬ m_none σ f h ∧ ((σ.1 0 17)).toInt < 60 ∧ (g_why (m_G σ) (m_E σ) f h b s (-1)).toInt = 0))
theorem ct_X11_put2 (E : jf_E) (σ : jf_S) (f h b s : Int32) (hI : mI_s σ) (h1 : ((σ.1 0 7)).toInt ≤ 20) (h2 : ((σ.1 0 2)).toInt ≤ 4) : jf_I jh_M E yX11_put cX11_put 5 .int 2 [jf_r E 0, .int f, .int h, .int b, .int s] σ (fun r τ => m_putw σ f h b s r τ) := by
  refine jf_mkI (by decide) (Nat.le_of_ble_eq_true rfl) ?_
  intro G C ret
  have hE := hI.1
  have mt : m_G (jf_i σ 0 0 0) = m_G σ := m_G_c
  refine jr_aload_n C dX11_put_0 rfl ?_
  refine jr_iconst C (v := 0) dX11_put_1 (by decide) ?_
  refine jr_puti C kp_X11_144_0 dX11_put_2 ?_
  refine jr_iload_n C dX11_put_5 rfl ?_
  refine jr_sip C [.int _] _ (ct_X11_isMinute E _ _) ky_X11_isMinute ks_X11_isMinute km_X11_183 (by decide) rfl (Nat.le_of_ble_eq_true rfl) dX11_put_6 ?_
  refine jr_if_eq C 25 dX11_put_9 (by decide) (fun b9 => ?_) (fun b9 => ?_)
  · replace b9 := jb_f b9
    refine jr_aload_n C dX11_put_25 rfl ?_
    refine jr_iconst C (v := -1) dX11_put_26 (by decide) ?_
    refine jr_vip C [.int _] _ (ct_X11_told E _ _) ky_X11_told kv_X11_told kk_M_0 km_X11_173 (by decide) rfl (Nat.le_of_ble_eq_true rfl) dX11_put_27 ?_
    exact ret _ _ _ _ dX11_put_30 rfl (⟨Or.inl ⟨by unfold m_bad; omega, rfl, rfl⟩, Or.inl ⟨⟨_, rfl⟩, Or.inl (by unfold m_bad; omega)⟩⟩)
  · replace b9 := jb_t b9
    refine jr_iload C dX11_put_12 rfl ?_
    refine jr_i2l C dX11_put_14 ?_
    refine jr_lconst C (v := 0) dX11_put_15 (by decide) ?_
    refine jr_ldc2 C kc_X11_195 dX11_put_16 ?_
    refine jr_sip C [.long _, .long _, .long _] _ (ct_X11_inw E _ _ _ _ 0 2 rfl rfl) ky_X11_in ks_X11_in km_X11_153 (by decide) rfl (Nat.le_of_ble_eq_true rfl) dX11_put_19 ?_
    refine jr_if_ne C 31 dX11_put_22 (by decide) (fun b22 => ?_) (fun b22 => ?_)
    · replace b22 := jb_t b22
      refine jr_aload_n C dX11_put_31 rfl ?_
      refine jr_iload_n C dX11_put_32 rfl ?_
      refine jr_vip C [.int _] _ (ct_X11_isFilm E _ _ (σ.1 0 7) rfl) ky_X11_isFilm kv_X11_isFilm kk_M_0 km_X11_187 (by decide) rfl (Nat.le_of_ble_eq_true rfl) dX11_put_33 ?_
      refine jr_if_eq C 47 dX11_put_36 (by decide) (fun b36 => ?_) (fun b36 => ?_)
      · replace b36 := jb_f b36
        refine jr_aload_n C dX11_put_47 rfl ?_
        refine jr_bipush C (v := -2) dX11_put_48 (by decide) ?_
        refine jr_vip C [.int _] _ (ct_X11_told E _ _) ky_X11_told kv_X11_told kk_M_0 km_X11_173 (by decide) rfl (Nat.le_of_ble_eq_true rfl) dX11_put_50 ?_
        exact ret _ _ _ _ dX11_put_53 rfl (⟨Or.inr (Or.inl ⟨by unfold m_bad; omega, by unfold m_none; omega, rfl, rfl⟩), Or.inl ⟨⟨_, rfl⟩, Or.inr (Or.inl (by unfold m_none; omega))⟩⟩)
      · replace b36 := jb_t b36
        refine jr_aload_n C dX11_put_39 rfl ?_
        refine jr_iload_n C dX11_put_40 rfl ?_
        refine jr_vip C [.int _] _ (ct_X11_isHall E _ _ (σ.1 0 2) rfl) ky_X11_isHall kv_X11_isHall kk_M_0 km_X11_197 (by decide) rfl (Nat.le_of_ble_eq_true rfl) dX11_put_41 ?_
        refine jr_if_ne C 54 dX11_put_44 (by decide) (fun b44 => ?_) (fun b44 => ?_)
        · replace b44 := jb_t b44
          refine jr_aload_n C dX11_put_54 rfl ?_
          refine jr_iload_n C dX11_put_55 rfl ?_
          refine jr_iload_n C dX11_put_56 rfl ?_
          refine jr_iload_n C dX11_put_57 rfl ?_
          refine jr_iload C dX11_put_58 rfl ?_
          refine jr_iconst C (v := -1) dX11_put_60 (by decide) ?_
          refine jr_vi C [.int _, .int _, .int _, .int _, .int _] _ (ct_X11_whyOf2 E _ _ _ _ _ _ hI (by omega) (by omega) (by omega) (by omega)) ky_X11_whyOf kv_X11_whyOf kk_M_0 km_X11_200 (by decide) rfl (Nat.le_of_ble_eq_true rfl) dX11_put_61 (fun r61 τ61 h61 => ?_)
          obtain ⟨⟨q61, k61⟩, rfl⟩ := h61; rw [mt] at q61; have g61 : r61 = g_why (m_G σ) (m_E σ) f h b s (-1) := q61; have c61 := congrArg Int32.toInt g61
          refine jr_nif_le C 74 dX11_put_64 (by decide) (fun b64 => ?_) (fun b64 => ?_)
          · refine jr_aload_n C dX11_put_74 rfl ?_
            refine jr_getv C kf_X11_160_0 dX11_put_75 (v := σ.1 0 17) rfl ?_
            refine jr_bipush C (v := 60) dX11_put_78 (by decide) ?_
            refine jr_ncmp_ne C (b := 60) 90 dX11_put_80 (by decide) rfl rfl (fun b80 => ?_) (fun b80 => ?_)
            · refine jr_aload_n C dX11_put_90 rfl ?_
              refine jr_getr C kf_X11_49_0 dX11_put_91 ?_
              refine jr_aload_n C dX11_put_94 rfl ?_
              refine jr_getv C kf_X11_160_0 dX11_put_95 (v := σ.1 0 17) rfl ?_
              refine jr_iconst C (v := 1) dX11_put_98 (by decide) ?_
              refine jr_zast C ka_M_14 dX11_put_99 (ji_in (i := (σ.1 0 17)) (by omega) (by omega)) (Or.inr rfl) ?_
              refine jr_aload_n C dX11_put_100 rfl ?_
              refine jr_getr C kf_X11_53_0 dX11_put_101 ?_
              refine jr_aload_n C dX11_put_104 rfl ?_
              refine jr_getv C kf_X11_160_0 dX11_put_105 (v := σ.1 0 17) rfl ?_
              refine jr_iload_n C dX11_put_108 rfl ?_
              refine jr_iast C ka_M_15 dX11_put_109 (ji_in (i := (σ.1 0 17)) (by omega) (by omega)) ?_
              refine jr_aload_n C dX11_put_110 rfl ?_
              refine jr_getr C kf_X11_56_0 dX11_put_111 ?_
              refine jr_aload_n C dX11_put_114 rfl ?_
              refine jr_getv C kf_X11_160_0 dX11_put_115 (v := σ.1 0 17) rfl ?_
              refine jr_iload_n C dX11_put_118 rfl ?_
              refine jr_iast C ka_M_16 dX11_put_119 (ji_in (i := (σ.1 0 17)) (by omega) (by omega)) ?_
              refine jr_aload_n C dX11_put_120 rfl ?_
              refine jr_getr C kf_X11_59_0 dX11_put_121 ?_
              refine jr_aload_n C dX11_put_124 rfl ?_
              refine jr_getv C kf_X11_160_0 dX11_put_125 (v := σ.1 0 17) rfl ?_
              refine jr_iload_n C dX11_put_128 rfl ?_
              refine jr_iast C ka_M_17 dX11_put_129 (ji_in (i := (σ.1 0 17)) (by omega) (by omega)) ?_
              refine jr_aload_n C dX11_put_130 rfl ?_
              refine jr_getr C kf_X11_62_0 dX11_put_131 ?_
              refine jr_aload_n C dX11_put_134 rfl ?_
              refine jr_getv C kf_X11_160_0 dX11_put_135 (v := σ.1 0 17) rfl ?_
              refine jr_iload C dX11_put_138 rfl ?_
              refine jr_iast C ka_M_18 dX11_put_140 (ji_in (i := (σ.1 0 17)) (by omega) (by omega)) ?_
              refine jr_aload_n C dX11_put_141 rfl ?_
              refine jr_dup C dX11_put_142 rfl ?_
              refine jr_getv C kf_X11_160_0 dX11_put_143 (v := σ.1 0 17) rfl ?_
              refine jr_iconst C (v := 1) dX11_put_146 (by decide) ?_
              refine jr_iadd C dX11_put_147 ?_
              refine jr_puti C kp_X11_160_0 dX11_put_148 ?_
              refine jr_aload_n C dX11_put_151 rfl ?_
              refine jr_aload_n C dX11_put_152 rfl ?_
              refine jr_geti C kf_X11_160_0 dX11_put_153 ?_
              refine jr_iconst C (v := 1) dX11_put_156 (by decide) ?_
              refine jr_isub C dX11_put_157 ?_
              refine jr_vip C [.int _] _ (ct_X11_told E _ _) ky_X11_told kv_X11_told kk_M_0 km_X11_173 (by decide) rfl (Nat.le_of_ble_eq_true rfl) dX11_put_158 ?_
              exact ret _ _ _ _ dX11_put_161 rfl (⟨Or.inr (Or.inr (Or.inr (Or.inr ⟨by unfold m_bad; omega, by unfold m_none; omega, by omega, rfl, rfl⟩))), Or.inr ⟨⟨_, rfl⟩, by unfold m_bad; omega, by unfold m_none; omega, by omega, by omega⟩⟩)
            · refine jr_aload_n C dX11_put_83 rfl ?_
              refine jr_bipush C (v := -5) dX11_put_84 (by decide) ?_
              refine jr_vip C [.int _] _ (ct_X11_told E _ _) ky_X11_told kv_X11_told kk_M_0 km_X11_173 (by decide) rfl (Nat.le_of_ble_eq_true rfl) dX11_put_86 ?_
              exact ret _ _ _ _ dX11_put_89 rfl (⟨Or.inr (Or.inr (Or.inr (Or.inl ⟨by unfold m_bad; omega, by unfold m_none; omega, by omega, rfl, rfl⟩))), Or.inl ⟨⟨_, rfl⟩, Or.inr (Or.inr (Or.inl (by omega)))⟩⟩)
          · refine jr_aload_n C dX11_put_67 rfl ?_
            refine jr_bipush C (v := -3) dX11_put_68 (by decide) ?_
            refine jr_vip C [.int _] _ (ct_X11_told E _ _) ky_X11_told kv_X11_told kk_M_0 km_X11_173 (by decide) rfl (Nat.le_of_ble_eq_true rfl) dX11_put_70 ?_
            exact ret _ _ _ _ dX11_put_73 rfl (⟨Or.inr (Or.inr (Or.inl ⟨by unfold m_bad; omega, by unfold m_none; omega, rfl, rfl⟩)), Or.inl ⟨⟨_, rfl⟩, Or.inr (Or.inr (Or.inr (by omega)))⟩⟩)
        · replace b44 := jb_f b44
          refine jr_aload_n C dX11_put_47 rfl ?_
          refine jr_bipush C (v := -2) dX11_put_48 (by decide) ?_
          refine jr_vip C [.int _] _ (ct_X11_told E _ _) ky_X11_told kv_X11_told kk_M_0 km_X11_173 (by decide) rfl (Nat.le_of_ble_eq_true rfl) dX11_put_50 ?_
          exact ret _ _ _ _ dX11_put_53 rfl (⟨Or.inr (Or.inl ⟨by unfold m_bad; omega, by unfold m_none; omega, rfl, rfl⟩), Or.inl ⟨⟨_, rfl⟩, Or.inr (Or.inl (by unfold m_none; omega))⟩⟩)
    · replace b22 := jb_f b22
      refine jr_aload_n C dX11_put_25 rfl ?_
      refine jr_iconst C (v := -1) dX11_put_26 (by decide) ?_
      refine jr_vip C [.int _] _ (ct_X11_told E _ _) ky_X11_told kv_X11_told kk_M_0 km_X11_173 (by decide) rfl (Nat.le_of_ble_eq_true rfl) dX11_put_27 ?_
      exact ret _ _ _ _ dX11_put_30 rfl (⟨Or.inl ⟨by unfold m_bad; omega, rfl, rfl⟩, Or.inl ⟨⟨_, rfl⟩, Or.inl (by unfold m_bad; omega)⟩⟩)
theorem ct_X11_grid2 (E : jf_E) (σ : jf_S) (hI : mI_s σ) : jf_I jh_M E yX11_grid cX11_grid 1 .int 4 [jf_r E 0] σ (fun r τ => r = g_grid (m_G σ) (m_E σ) ∧ jf_i σ 0 0 0 = τ) := by
  refine jf_mkI (by decide) (Nat.le_of_ble_eq_true rfl) ?_
  intro G C ret
  have mt : m_G (jf_i σ 0 0 0) = m_G σ := m_G_c
  refine jr_aload_n C dX11_grid_0 rfl ?_
  refine jr_iconst C (v := 0) dX11_grid_1 (by decide) ?_
  refine jr_puti C kp_X11_144_0 dX11_grid_2 ?_
  refine jr_aload_n C dX11_grid_5 rfl ?_
  refine jr_vi C [] _ (ct_X11_gridOf2 E _ hI) ky_X11_gridOf kv_X11_gridOf kk_M_0 km_X11_225 (by decide) rfl (Nat.le_of_ble_eq_true rfl) dX11_grid_6 (fun r6 τ6 h6 => ?_)
  obtain ⟨q6, rfl⟩ := h6; rw [mt] at q6
  exact ret _ _ _ _ dX11_grid_9 rfl (⟨q6, rfl⟩)

