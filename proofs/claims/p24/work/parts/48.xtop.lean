/-! the class: what the office asks of its showings, safe -/
def x_sadd (σ : jf_S) (f h b e s : Int32) : Int32 × jf_S :=
  if 60 ≤ ((σ.1 3 8)).toInt then (-5, σ)
  else ((σ.1 3 8) + 1 - 1, jf_i (jf_i (jf_i (jf_i (jf_i (jf_i (jf_i σ 25 ((σ.1 3 8)).toNatClampNeg f) 26 ((σ.1 3 8)).toNatClampNeg h) 27 ((σ.1 3 8)).toNatClampNeg b) 28 ((σ.1 3 8)).toNatClampNeg e) 29 ((σ.1 3 8)).toNatClampNeg s) 31 ((σ.1 3 8)).toNatClampNeg 1) 3 8 ((σ.1 3 8) + 1))
theorem ct_X8_add (E : jf_E) (σ : jf_S) (f h b e s : Int32) (h0 : 0 ≤ ((σ.1 3 8)).toInt) : jf_I jh_X E yX8_add cX8_add 6 .int 0 [jf_r E 3, .int f, .int h, .int b, .int e, .int s] σ (fun r τ => r = (x_sadd σ f h b e s).1 ∧ τ = (x_sadd σ f h b e s).2) := by
  refine jf_mkI (by decide) (Nat.le_of_ble_eq_true rfl) ?_
  intro G C ret
  refine jr_aload_n C dX8_add_0 rfl ?_
  refine jr_getv C kf_X8_37_3 dX8_add_1 (v := σ.1 3 8) rfl ?_
  refine jr_bipush C (v := 60) dX8_add_4 (by decide) ?_
  refine jr_ncmp_lt C (b := 60) 12 dX8_add_6 (by decide) rfl rfl (fun b6 => ?_) (fun b6 => ?_)
  · refine jr_aload_n C dX8_add_12 rfl ?_
    refine jr_getr C kf_X8_9_3 dX8_add_13 ?_
    refine jr_aload_n C dX8_add_16 rfl ?_
    refine jr_getv C kf_X8_37_3 dX8_add_17 (v := σ.1 3 8) rfl ?_
    refine jr_iload_n C dX8_add_20 rfl ?_
    refine jr_iast C ka_X_25 dX8_add_21 (ji_in (i := (σ.1 3 8)) h0 (by omega)) ?_
    refine jr_aload_n C dX8_add_22 rfl ?_
    refine jr_getr C kf_X8_15_3 dX8_add_23 ?_
    refine jr_aload_n C dX8_add_26 rfl ?_
    refine jr_getv C kf_X8_37_3 dX8_add_27 (v := σ.1 3 8) rfl ?_
    refine jr_iload_n C dX8_add_30 rfl ?_
    refine jr_iast C ka_X_26 dX8_add_31 (ji_in (i := (σ.1 3 8)) h0 (by omega)) ?_
    refine jr_aload_n C dX8_add_32 rfl ?_
    refine jr_getr C kf_X8_18_3 dX8_add_33 ?_
    refine jr_aload_n C dX8_add_36 rfl ?_
    refine jr_getv C kf_X8_37_3 dX8_add_37 (v := σ.1 3 8) rfl ?_
    refine jr_iload_n C dX8_add_40 rfl ?_
    refine jr_iast C ka_X_27 dX8_add_41 (ji_in (i := (σ.1 3 8)) h0 (by omega)) ?_
    refine jr_aload_n C dX8_add_42 rfl ?_
    refine jr_getr C kf_X8_21_3 dX8_add_43 ?_
    refine jr_aload_n C dX8_add_46 rfl ?_
    refine jr_getv C kf_X8_37_3 dX8_add_47 (v := σ.1 3 8) rfl ?_
    refine jr_iload C dX8_add_50 rfl ?_
    refine jr_iast C ka_X_28 dX8_add_52 (ji_in (i := (σ.1 3 8)) h0 (by omega)) ?_
    refine jr_aload_n C dX8_add_53 rfl ?_
    refine jr_getr C kf_X8_24_3 dX8_add_54 ?_
    refine jr_aload_n C dX8_add_57 rfl ?_
    refine jr_getv C kf_X8_37_3 dX8_add_58 (v := σ.1 3 8) rfl ?_
    refine jr_iload C dX8_add_61 rfl ?_
    refine jr_iast C ka_X_29 dX8_add_63 (ji_in (i := (σ.1 3 8)) h0 (by omega)) ?_
    refine jr_aload_n C dX8_add_64 rfl ?_
    refine jr_getr C kf_X8_30_3 dX8_add_65 ?_
    refine jr_aload_n C dX8_add_68 rfl ?_
    refine jr_getv C kf_X8_37_3 dX8_add_69 (v := σ.1 3 8) rfl ?_
    refine jr_iconst C (v := 1) dX8_add_72 (by decide) ?_
    refine jr_zast C ka_X_31 dX8_add_73 (ji_in (i := (σ.1 3 8)) h0 (by omega)) (Or.inr rfl) ?_
    refine jr_aload_n C dX8_add_74 rfl ?_
    refine jr_dup C dX8_add_75 rfl ?_
    refine jr_getv C kf_X8_37_3 dX8_add_76 (v := σ.1 3 8) rfl ?_
    refine jr_iconst C (v := 1) dX8_add_79 (by decide) ?_
    refine jr_iadd C dX8_add_80 ?_
    refine jr_puti C kp_X8_37_3 dX8_add_81 ?_
    refine jr_aload_n C dX8_add_84 rfl ?_
    refine jr_geti C kf_X8_37_3 dX8_add_85 ?_
    refine jr_iconst C (v := 1) dX8_add_88 (by decide) ?_
    refine jr_isub C dX8_add_89 ?_
    exact ret _ _ _ _ dX8_add_90 rfl (by unfold x_sadd; (repeat' split) <;> first | (exfalso; omega) | exact ⟨rfl, rfl⟩)
  · refine jr_bipush C (v := -5) dX8_add_9 (by decide) ?_
    exact ret _ _ _ _ dX8_add_11 rfl (by unfold x_sadd; (repeat' split) <;> first | (exfalso; omega) | exact ⟨rfl, rfl⟩)
theorem ct_X10_reasonAgainst (E : jf_E) (σ : jf_S) (f h b s : Int32) (hI : xI σ) (h1 : ((σ.1 2 8)).toInt ≤ 20) (h2 : ((σ.1 1 5)).toInt ≤ 4) : jf_I jh_X E yX10_reasonAgainst cX10_reasonAgainst 5 .int 3 [jf_r E 0, .int f, .int h, .int b, .int s] σ (fun r τ => (r.toInt < 0 ∨ ((0 ≤ f.toInt ∧ f.toInt < 20) ∧ (0 ≤ h.toInt ∧ h.toInt < 4) ∧ (0 ≤ b.toInt ∧ b.toInt ≤ 14399))) ∧ σ = τ) := by
  refine jf_mkI (by decide) (Nat.le_of_ble_eq_true rfl) ?_
  intro G C ret
  refine jr_iload_n C dX10_reasonAgainst_0 rfl ?_
  refine jr_sip C [.int _] _ (ct_X10_isMinute E _ _) ky_X10_isMinute ks_X10_isMinute km_X10_112 (by decide) rfl (Nat.le_of_ble_eq_true rfl) dX10_reasonAgainst_1 ?_
  refine jr_if_eq C 17 dX10_reasonAgainst_4 (by decide) (fun b4 => ?_) (fun b4 => ?_)
  · replace b4 := jb_f b4
    refine jr_iconst C (v := -1) dX10_reasonAgainst_17 (by decide) ?_
    exact ret _ _ _ _ dX10_reasonAgainst_18 rfl (⟨by first | exact Or.inl (by decide) | exact Or.inr ⟨⟨by omega, by omega⟩, ⟨by omega, by omega⟩, ⟨by omega, by omega⟩⟩, rfl⟩)
  · replace b4 := jb_t b4
    refine jr_iload C dX10_reasonAgainst_7 rfl ?_
    refine jr_iconst C (v := 0) dX10_reasonAgainst_9 (by decide) ?_
    refine jr_iconst C (v := 2) dX10_reasonAgainst_10 (by decide) ?_
    refine jr_sip C [.int _, .int _, .int _] _ (ct_X10_withinw E _ _ _ _ 0 2 rfl rfl) ky_X10_within ks_X10_within km_X10_93 (by decide) rfl (Nat.le_of_ble_eq_true rfl) dX10_reasonAgainst_11 ?_
    refine jr_if_ne C 19 dX10_reasonAgainst_14 (by decide) (fun b14 => ?_) (fun b14 => ?_)
    · replace b14 := jb_t b14
      refine jr_aload_n C dX10_reasonAgainst_19 rfl ?_
      refine jr_getr C kf_X10_19_0 dX10_reasonAgainst_20 ?_
      refine jr_iload_n C dX10_reasonAgainst_23 rfl ?_
      refine jr_vip C [.int _] _ (ct_X2_has E _ _ (σ.1 2 8) rfl) ky_X2_has kv_X2_has kk_X_2 km_X10_115 (by decide) rfl (Nat.le_of_ble_eq_true rfl) dX10_reasonAgainst_24 ?_
      refine jr_if_eq C 41 dX10_reasonAgainst_27 (by decide) (fun b27 => ?_) (fun b27 => ?_)
      · replace b27 := jb_f b27
        refine jr_bipush C (v := -2) dX10_reasonAgainst_41 (by decide) ?_
        exact ret _ _ _ _ dX10_reasonAgainst_43 rfl (⟨by first | exact Or.inl (by decide) | exact Or.inr ⟨⟨by omega, by omega⟩, ⟨by omega, by omega⟩, ⟨by omega, by omega⟩⟩, rfl⟩)
      · replace b27 := jb_t b27
        refine jr_aload_n C dX10_reasonAgainst_30 rfl ?_
        refine jr_getr C kf_X10_10_0 dX10_reasonAgainst_31 ?_
        refine jr_iload_n C dX10_reasonAgainst_34 rfl ?_
        refine jr_vip C [.int _] _ (ct_X3_has E _ _ (σ.1 1 5) rfl) ky_X3_has kv_X3_has kk_X_1 km_X10_288 (by decide) rfl (Nat.le_of_ble_eq_true rfl) dX10_reasonAgainst_35 ?_
        refine jr_if_ne C 44 dX10_reasonAgainst_38 (by decide) (fun b38 => ?_) (fun b38 => ?_)
        · replace b38 := jb_t b38
          refine jr_aload_n C dX10_reasonAgainst_44 rfl ?_
          refine jr_getr C kf_X10_35_0 dX10_reasonAgainst_45 ?_
          refine jr_iload_n C dX10_reasonAgainst_48 rfl ?_
          refine jr_iload_n C dX10_reasonAgainst_49 rfl ?_
          refine jr_iload_n C dX10_reasonAgainst_50 rfl ?_
          refine jr_iload C dX10_reasonAgainst_51 rfl ?_
          refine jr_iconst C (v := -1) dX10_reasonAgainst_53 (by decide) ?_
          refine jr_vi C [.int _, .int _, .int _, .int _, .int _] _ (ct_X1_reason E _ _ _ _ _ _ hI ⟨by omega, by omega⟩ ⟨by omega, by omega⟩) ky_X1_reason kv_X1_reason kk_X_4 km_X10_289 (by decide) rfl (Nat.le_of_ble_eq_true rfl) dX10_reasonAgainst_54 (fun r54 τ54 h54 => ?_)
          obtain ⟨-, rfl⟩ := h54
          exact ret _ _ _ _ dX10_reasonAgainst_57 rfl (⟨by first | exact Or.inl (by decide) | exact Or.inr ⟨⟨by omega, by omega⟩, ⟨by omega, by omega⟩, ⟨by omega, by omega⟩⟩, rfl⟩)
        · replace b38 := jb_f b38
          refine jr_bipush C (v := -2) dX10_reasonAgainst_41 (by decide) ?_
          exact ret _ _ _ _ dX10_reasonAgainst_43 rfl (⟨by first | exact Or.inl (by decide) | exact Or.inr ⟨⟨by omega, by omega⟩, ⟨by omega, by omega⟩, ⟨by omega, by omega⟩⟩, rfl⟩)
    · replace b14 := jb_f b14
      refine jr_iconst C (v := -1) dX10_reasonAgainst_17 (by decide) ?_
      exact ret _ _ _ _ dX10_reasonAgainst_18 rfl (⟨by first | exact Or.inl (by decide) | exact Or.inr ⟨⟨by omega, by omega⟩, ⟨by omega, by omega⟩, ⟨by omega, by omega⟩⟩, rfl⟩)
theorem ct_X10_why (E : jf_E) (σ : jf_S) (f h b s : Int32) (hI : xI σ) (h1 : ((σ.1 2 8)).toInt ≤ 20) (h2 : ((σ.1 1 5)).toInt ≤ 4) : jf_I jh_X E yX10_why cX10_why 5 .int 4 [jf_r E 0, .int f, .int h, .int b, .int s] σ (fun r τ => σ = τ) := by
  refine jf_mkI (by decide) (Nat.le_of_ble_eq_true rfl) ?_
  intro G C ret
  refine jr_aload_n C dX10_why_0 rfl ?_
  refine jr_iload_n C dX10_why_1 rfl ?_
  refine jr_iload_n C dX10_why_2 rfl ?_
  refine jr_iload_n C dX10_why_3 rfl ?_
  refine jr_iload C dX10_why_4 rfl ?_
  refine jr_vi C [.int _, .int _, .int _, .int _] _ (ct_X10_reasonAgainst E _ _ _ _ _ hI h1 h2) ky_X10_reasonAgainst kv_X10_reasonAgainst kk_X_0 km_X10_125 (by decide) rfl (Nat.le_of_ble_eq_true rfl) dX10_why_6 (fun r6 τ6 h6 => ?_)
  obtain ⟨-, rfl⟩ := h6
  exact ret _ _ _ _ dX10_why_9 rfl (rfl)
theorem ct_X10_put (E : jf_E) (σ : jf_S) (f h b s : Int32) (hI : xI σ) (h1 : ((σ.1 2 8)).toInt ≤ 20) (h2 : ((σ.1 1 5)).toInt ≤ 4) : jf_I jh_X E yX10_put cX10_put 6 .int 4 [jf_r E 0, .int f, .int h, .int b, .int s] σ (fun r τ => (∃ v : Int32, τ = x_told σ v) ∨ (∃ e v : Int32, ((0 ≤ f.toInt ∧ f.toInt < 20) ∧ (0 ≤ h.toInt ∧ h.toInt < 4) ∧ (0 ≤ b.toInt ∧ b.toInt ≤ 14399)) ∧ τ = x_told (x_sadd σ f h b e s).2 v)) := by
  refine jf_mkI (by decide) (Nat.le_of_ble_eq_true rfl) ?_
  intro G C ret
  have hE := hI.1
  refine jr_aload_n C dX10_put_0 rfl ?_
  refine jr_iload_n C dX10_put_1 rfl ?_
  refine jr_iload_n C dX10_put_2 rfl ?_
  refine jr_iload_n C dX10_put_3 rfl ?_
  refine jr_iload C dX10_put_4 rfl ?_
  refine jr_vi C [.int _, .int _, .int _, .int _] _ (ct_X10_reasonAgainst E _ _ _ _ _ hI h1 h2) ky_X10_reasonAgainst kv_X10_reasonAgainst kk_X_0 km_X10_125 (by decide) rfl (Nat.le_of_ble_eq_true rfl) dX10_put_6 (fun r6 τ6 h6 => ?_)
  obtain ⟨q6, rfl⟩ := h6
  refine jr_istore C dX10_put_9 (by decide) ?_
  refine jr_iload C dX10_put_11 rfl ?_
  refine jr_nif_ge C 23 dX10_put_13 (by decide) (fun b13 => ?_) (fun b13 => ?_)
  · refine jr_iload C dX10_put_23 rfl ?_
    refine jr_nif_le C 35 dX10_put_25 (by decide) (fun b25 => ?_) (fun b25 => ?_)
    · refine jr_aload_n C dX10_put_35 rfl ?_
      refine jr_aload_n C dX10_put_36 rfl ?_
      refine jr_getr C kf_X10_26_0 dX10_put_37 ?_
      refine jr_iload_n C dX10_put_40 rfl ?_
      refine jr_iload_n C dX10_put_41 rfl ?_
      refine jr_iload_n C dX10_put_42 rfl ?_
      refine jr_iload_n C dX10_put_43 rfl ?_
      refine jr_aload_n C dX10_put_44 rfl ?_
      refine jr_getr C kf_X10_19_0 dX10_put_45 ?_
      refine jr_getr C kf_X10_128_2 dX10_put_48 ?_
      refine jr_iload_n C dX10_put_51 rfl ?_
      refine jr_ialv C ka_X_17 dX10_put_52 (ji_in (i := f) (by omega) (by omega)) (v := σ.1 17 _) rfl ?_
      refine jr_iadd C dX10_put_53 ?_
      refine jr_iload C dX10_put_54 rfl ?_
      refine jr_vip C [.int _, .int _, .int _, .int _, .int _] _ (ct_X8_add E _ _ _ _ _ _ hE.1) ky_X8_add kv_X8_add kk_X_3 km_X10_132 (by decide) rfl (Nat.le_of_ble_eq_true rfl) dX10_put_56 ?_
      refine jr_vip C [.int _] _ (ct_X10_told E _ _) ky_X10_told kv_X10_told kk_X_0 km_X10_97 (by decide) rfl (Nat.le_of_ble_eq_true rfl) dX10_put_59 ?_
      exact ret _ _ _ _ dX10_put_62 rfl (by first | exact Or.inl ⟨_, rfl⟩ | exact Or.inr ⟨_, _, q6.resolve_left (by omega), rfl⟩)
    · refine jr_aload_n C dX10_put_28 rfl ?_
      refine jr_bipush C (v := -3) dX10_put_29 (by decide) ?_
      refine jr_vip C [.int _] _ (ct_X10_told E _ _) ky_X10_told kv_X10_told kk_X_0 km_X10_97 (by decide) rfl (Nat.le_of_ble_eq_true rfl) dX10_put_31 ?_
      exact ret _ _ _ _ dX10_put_34 rfl (by first | exact Or.inl ⟨_, rfl⟩ | exact Or.inr ⟨_, _, q6.resolve_left (by omega), rfl⟩)
  · refine jr_aload_n C dX10_put_16 rfl ?_
    refine jr_iload C dX10_put_17 rfl ?_
    refine jr_vip C [.int _] _ (ct_X10_told E _ _) ky_X10_told kv_X10_told kk_X_0 km_X10_97 (by decide) rfl (Nat.le_of_ble_eq_true rfl) dX10_put_19 ?_
    exact ret _ _ _ _ dX10_put_22 rfl (by first | exact Or.inl ⟨_, rfl⟩ | exact Or.inr ⟨_, _, q6.resolve_left (by omega), rfl⟩)
theorem ct_X10_grid (E : jf_E) (σ : jf_S) (hI : xI σ) : jf_I jh_X E yX10_grid cX10_grid 1 .int 5 [jf_r E 0] σ (fun r τ => σ = τ) := by
  refine jf_mkI (by decide) (Nat.le_of_ble_eq_true rfl) ?_
  intro G C ret
  refine jr_aload_n C dX10_grid_0 rfl ?_
  refine jr_getr C kf_X10_44_0 dX10_grid_1 ?_
  refine jr_vi C [] _ (ct_X9_sum E _ hI) ky_X9_sum kv_X9_sum kk_X_5 km_X10_173 (by decide) rfl (Nat.le_of_ble_eq_true rfl) dX10_grid_4 (fun r4 τ4 h4 => ?_)
  subst h4
  exact ret _ _ _ _ dX10_grid_7 rfl (rfl)
theorem ct_X10_better (E : jf_E) (σ : jf_S) (hI : xI σ) (hH : xH σ) (hm : 0 ≤ ((σ.1 1 5)).toInt ∧ ((σ.1 1 5)).toInt ≤ 4) : jf_I jh_X E yX10_better cX10_better 1 .int 6 [jf_r E 0] σ (fun r τ => ∃ υ : jf_S, xS_b σ υ ∧ xI υ ∧ τ = jf_i υ 5 8 0) := by
  refine jf_mkI (by decide) (Nat.le_of_ble_eq_true rfl) ?_
  intro G C ret
  refine jr_aload_n C dX10_better_0 rfl ?_
  refine jr_getr C kf_X10_44_0 dX10_better_1 ?_
  refine jr_vi C [] _ (ct_X9_improve E _ hI hH hm) ky_X9_improve kv_X9_improve kk_X_5 km_X10_180 (by decide) rfl (Nat.le_of_ble_eq_true rfl) dX10_better_4 (fun r4 τ4 h4 => ?_)
  exact ret _ _ _ _ dX10_better_7 rfl (h4)
theorem ct_X10_of (E : jf_E) (σ : jf_S) (s w : Int32) (hI : xI σ) (hO : xO σ) : jf_I jh_X E yX10_of cX10_of 3 .int 4 [jf_r E 0, .int s, .int w] σ (fun r τ => xS_l σ τ ∧ xO τ) := by
  refine jf_mkI (by decide) (Nat.le_of_ble_eq_true rfl) ?_
  intro G C ret
  have hE := hI.1
  refine jr_aload_n C dX10_of_0 rfl ?_
  refine jr_getr C kf_X10_26_0 dX10_of_1 ?_
  refine jr_iload_n C dX10_of_4 rfl ?_
  refine jr_vip C [.int _] _ (ct_X8_has E _ _ (σ.1 3 8) (σ.1 31) rfl rfl (by omega)) ky_X8_has kv_X8_has kk_X_3 km_X10_135 (by decide) rfl (Nat.le_of_ble_eq_true rfl) dX10_of_5 ?_
  refine jr_if_ne C 13 dX10_of_8 (by decide) (fun b8 => ?_) (fun b8 => ?_)
  · replace b8 := jb_t b8
    refine jr_iload_n C dX10_of_13 rfl ?_
    have w14 : w.toInt < 0 ∨ w.toInt = 0 ∨ w.toInt = 1 ∨ w.toInt = 2 ∨ w.toInt = 3 ∨ w.toInt = 4 ∨ w.toInt = 5 ∨ w.toInt = 6 ∨ w.toInt = 7 ∨ w.toInt = 8 ∨ 8 < w.toInt := by omega
    rcases w14 with w14 | w14 | w14 | w14 | w14 | w14 | w14 | w14 | w14 | w14 | w14
    · refine jr_tabOut C 166 dX10_of_14 (Or.inl w14) (by decide) ?_
      refine jr_iconst C (v := -1) dX10_of_166 (by decide) ?_
      exact ret _ _ _ _ dX10_of_167 rfl (by first | exact ⟨xS_l_r σ, hO⟩ | exact h136 | exact h153)
    · refine jr_tabIn C 64 dX10_of_14 (by omega) (by omega) (by rw [w14]; rfl) (by decide) ?_
      refine jr_aload_n C dX10_of_64 rfl ?_
      refine jr_getr C kf_X10_26_0 dX10_of_65 ?_
      refine jr_getr C kf_X10_140_3 dX10_of_68 ?_
      refine jr_iload_n C dX10_of_71 rfl ?_
      refine jr_ialv C ka_X_25 dX10_of_72 (ji_in (i := s) (by omega) (by omega)) (v := σ.1 25 _) rfl ?_
      exact ret _ _ _ _ dX10_of_73 rfl (by first | exact ⟨xS_l_r σ, hO⟩ | exact h136 | exact h153)
    · refine jr_tabIn C 74 dX10_of_14 (by omega) (by omega) (by rw [w14]; rfl) (by decide) ?_
      refine jr_aload_n C dX10_of_74 rfl ?_
      refine jr_getr C kf_X10_26_0 dX10_of_75 ?_
      refine jr_getr C kf_X10_143_3 dX10_of_78 ?_
      refine jr_iload_n C dX10_of_81 rfl ?_
      refine jr_ialv C ka_X_26 dX10_of_82 (ji_in (i := s) (by omega) (by omega)) (v := σ.1 26 _) rfl ?_
      exact ret _ _ _ _ dX10_of_83 rfl (by first | exact ⟨xS_l_r σ, hO⟩ | exact h136 | exact h153)
    · refine jr_tabIn C 84 dX10_of_14 (by omega) (by omega) (by rw [w14]; rfl) (by decide) ?_
      refine jr_aload_n C dX10_of_84 rfl ?_
      refine jr_getr C kf_X10_26_0 dX10_of_85 ?_
      refine jr_getr C kf_X10_146_3 dX10_of_88 ?_
      refine jr_iload_n C dX10_of_91 rfl ?_
      refine jr_ialv C ka_X_27 dX10_of_92 (ji_in (i := s) (by omega) (by omega)) (v := σ.1 27 _) rfl ?_
      exact ret _ _ _ _ dX10_of_93 rfl (by first | exact ⟨xS_l_r σ, hO⟩ | exact h136 | exact h153)
    · refine jr_tabIn C 94 dX10_of_14 (by omega) (by omega) (by rw [w14]; rfl) (by decide) ?_
      refine jr_aload_n C dX10_of_94 rfl ?_
      refine jr_getr C kf_X10_26_0 dX10_of_95 ?_
      refine jr_getr C kf_X10_149_3 dX10_of_98 ?_
      refine jr_iload_n C dX10_of_101 rfl ?_
      refine jr_ialv C ka_X_29 dX10_of_102 (ji_in (i := s) (by omega) (by omega)) (v := σ.1 29 _) rfl ?_
      exact ret _ _ _ _ dX10_of_103 rfl (by first | exact ⟨xS_l_r σ, hO⟩ | exact h136 | exact h153)
    · refine jr_tabIn C 104 dX10_of_14 (by omega) (by omega) (by rw [w14]; rfl) (by decide) ?_
      refine jr_aload_n C dX10_of_104 rfl ?_
      refine jr_getr C kf_X10_26_0 dX10_of_105 ?_
      refine jr_getr C kf_X10_152_3 dX10_of_108 ?_
      refine jr_iload_n C dX10_of_111 rfl ?_
      refine jr_ialv C ka_X_28 dX10_of_112 (ji_in (i := s) (by omega) (by omega)) (v := σ.1 28 _) rfl ?_
      exact ret _ _ _ _ dX10_of_113 rfl (by first | exact ⟨xS_l_r σ, hO⟩ | exact h136 | exact h153)
    · refine jr_tabIn C 114 dX10_of_14 (by omega) (by omega) (by rw [w14]; rfl) (by decide) ?_
      refine jr_aload_n C dX10_of_114 rfl ?_
      refine jr_getr C kf_X10_44_0 dX10_of_115 ?_
      refine jr_iload_n C dX10_of_118 rfl ?_
      refine jr_vi C [.int _] _ (ct_X9_crowdOf E _ _ hI ⟨by omega, by omega⟩) ky_X9_crowdOf kv_X9_crowdOf kk_X_5 km_X10_155 (by decide) rfl (Nat.le_of_ble_eq_true rfl) dX10_of_119 (fun r119 τ119 h119 => ?_)
      subst h119
      exact ret _ _ _ _ dX10_of_122 rfl (by first | exact ⟨xS_l_r σ, hO⟩ | exact h136 | exact h153)
    · refine jr_tabIn C 123 dX10_of_14 (by omega) (by omega) (by rw [w14]; rfl) (by decide) ?_
      refine jr_aload_n C dX10_of_123 rfl ?_
      refine jr_getr C kf_X10_44_0 dX10_of_124 ?_
      refine jr_iload_n C dX10_of_127 rfl ?_
      refine jr_vi C [.int _] _ (ct_X9_worthOf E _ _ hI ⟨by omega, by omega⟩) ky_X9_worthOf kv_X9_worthOf kk_X_5 km_X10_158 (by decide) rfl (Nat.le_of_ble_eq_true rfl) dX10_of_128 (fun r128 τ128 h128 => ?_)
      subst h128
      exact ret _ _ _ _ dX10_of_131 rfl (by first | exact ⟨xS_l_r σ, hO⟩ | exact h136 | exact h153)
    · refine jr_tabIn C 132 dX10_of_14 (by omega) (by omega) (by rw [w14]; rfl) (by decide) ?_
      refine jr_aload_n C dX10_of_132 rfl ?_
      refine jr_getr C kf_X10_51_0 dX10_of_133 ?_
      refine jr_vv C [] _ (ct_X5_reckon E _ hI hO) ky_X5_reckon kv_X5_reckon kk_X_6 km_X10_161 (by decide) rfl (Nat.le_of_ble_eq_true rfl) dX10_of_136 (fun τ136 h136 => ?_)
      refine jr_aload_n C dX10_of_139 rfl ?_
      refine jr_getr C kf_X10_51_0 dX10_of_140 ?_
      refine jr_getr C kf_X10_164_6 dX10_of_143 ?_
      refine jr_iload_n C dX10_of_146 rfl ?_
      refine jr_iald C ka_X_38 dX10_of_147 (ji_in (i := s) (by omega) (by omega)) ?_
      exact ret _ _ _ _ dX10_of_148 rfl (by first | exact ⟨xS_l_r σ, hO⟩ | exact h136 | exact h153)
    · refine jr_tabIn C 149 dX10_of_14 (by omega) (by omega) (by rw [w14]; rfl) (by decide) ?_
      refine jr_aload_n C dX10_of_149 rfl ?_
      refine jr_getr C kf_X10_51_0 dX10_of_150 ?_
      refine jr_vv C [] _ (ct_X5_reckon E _ hI hO) ky_X5_reckon kv_X5_reckon kk_X_6 km_X10_161 (by decide) rfl (Nat.le_of_ble_eq_true rfl) dX10_of_153 (fun τ153 h153 => ?_)
      refine jr_aload_n C dX10_of_156 rfl ?_
      refine jr_getr C kf_X10_51_0 dX10_of_157 ?_
      refine jr_getr C kf_X10_167_6 dX10_of_160 ?_
      refine jr_iload_n C dX10_of_163 rfl ?_
      refine jr_iald C ka_X_39 dX10_of_164 (ji_in (i := s) (by omega) (by omega)) ?_
      exact ret _ _ _ _ dX10_of_165 rfl (by first | exact ⟨xS_l_r σ, hO⟩ | exact h136 | exact h153)
    · refine jr_tabOut C 166 dX10_of_14 (Or.inr w14) (by decide) ?_
      refine jr_iconst C (v := -1) dX10_of_166 (by decide) ?_
      exact ret _ _ _ _ dX10_of_167 rfl (by first | exact ⟨xS_l_r σ, hO⟩ | exact h136 | exact h153)
  · replace b8 := jb_f b8
    refine jr_iconst C (v := -1) dX10_of_11 (by decide) ?_
    exact ret _ _ _ _ dX10_of_12 rfl (by first | exact ⟨xS_l_r σ, hO⟩ | exact h136 | exact h153)
theorem ct_X10_queue (E : jf_E) (σ : jf_S) (s m w : Int32) (hI : xI σ) (hO : xO σ) : jf_I jh_X E yX10_queue cX10_queue 4 .int 3 [jf_r E 0, .int s, .int m, .int w] σ (fun r τ => xS_l σ τ ∧ xO τ) := by
  refine jf_mkI (by decide) (Nat.le_of_ble_eq_true rfl) ?_
  intro G C ret
  have hE := hI.1
  refine jr_iload_n C dX10_queue_0 rfl ?_
  refine jr_bipush C (v := -40) dX10_queue_1 (by decide) ?_
  refine jr_sipush C (v := 400) dX10_queue_3 (by decide) ?_
  refine jr_sip C [.int _, .int _, .int _] _ (ct_X10_withinw E _ _ _ _ (-40) 400 rfl rfl) ky_X10_within ks_X10_within km_X10_93 (by decide) rfl (Nat.le_of_ble_eq_true rfl) dX10_queue_6 ?_
  refine jr_if_eq C 32 dX10_queue_9 (by decide) (fun b9 => ?_) (fun b9 => ?_)
  · replace b9 := jb_f b9
    refine jr_iconst C (v := -1) dX10_queue_32 (by decide) ?_
    exact ret _ _ _ _ dX10_queue_33 rfl (by first | exact ⟨xS_l_r σ, hO⟩ | exact ⟨xS_l_t h38.1 (xS_6_l h47), xS_6_O h47 h38.2⟩)
  · replace b9 := jb_t b9
    refine jr_iload_n C dX10_queue_12 rfl ?_
    refine jr_iconst C (v := 0) dX10_queue_13 (by decide) ?_
    refine jr_iconst C (v := 2) dX10_queue_14 (by decide) ?_
    refine jr_sip C [.int _, .int _, .int _] _ (ct_X10_withinw E _ _ _ _ 0 2 rfl rfl) ky_X10_within ks_X10_within km_X10_93 (by decide) rfl (Nat.le_of_ble_eq_true rfl) dX10_queue_15 ?_
    refine jr_if_eq C 32 dX10_queue_18 (by decide) (fun b18 => ?_) (fun b18 => ?_)
    · replace b18 := jb_f b18
      refine jr_iconst C (v := -1) dX10_queue_32 (by decide) ?_
      exact ret _ _ _ _ dX10_queue_33 rfl (by first | exact ⟨xS_l_r σ, hO⟩ | exact ⟨xS_l_t h38.1 (xS_6_l h47), xS_6_O h47 h38.2⟩)
    · replace b18 := jb_t b18
      refine jr_aload_n C dX10_queue_21 rfl ?_
      refine jr_getr C kf_X10_26_0 dX10_queue_22 ?_
      refine jr_iload_n C dX10_queue_25 rfl ?_
      refine jr_vip C [.int _] _ (ct_X8_has E _ _ (σ.1 3 8) (σ.1 31) rfl rfl (by omega)) ky_X8_has kv_X8_has kk_X_3 km_X10_135 (by decide) rfl (Nat.le_of_ble_eq_true rfl) dX10_queue_26 ?_
      refine jr_if_ne C 34 dX10_queue_29 (by decide) (fun b29 => ?_) (fun b29 => ?_)
      · replace b29 := jb_t b29
        refine jr_aload_n C dX10_queue_34 rfl ?_
        refine jr_getr C kf_X10_51_0 dX10_queue_35 ?_
        refine jr_vv C [] _ (ct_X5_reckon E _ hI hO) ky_X5_reckon kv_X5_reckon kk_X_6 km_X10_161 (by decide) rfl (Nat.le_of_ble_eq_true rfl) dX10_queue_38 (fun τ38 h38 => ?_)
        refine jr_aload_n C dX10_queue_41 rfl ?_
        refine jr_getr C kf_X10_51_0 dX10_queue_42 ?_
        refine jr_iload_n C dX10_queue_45 rfl ?_
        refine jr_iload_n C dX10_queue_46 rfl ?_
        refine jr_vv C [.int _, .int _] _ (ct_X5_step E _ _ _ (xS_l_I h38.1 hI) ⟨by omega, by omega⟩ (by omega)) ky_X5_step kv_X5_step kk_X_6 km_X10_192 (by decide) rfl (Nat.le_of_ble_eq_true rfl) dX10_queue_47 (fun τ47 h47 => ?_)
        refine jr_iload_n C dX10_queue_50 rfl ?_
        refine jr_nif_ne C 62 dX10_queue_51 (by decide) (fun b51 => ?_) (fun b51 => ?_)
        · refine jr_iload_n C dX10_queue_62 rfl ?_
          refine jr_iconst C (v := 1) dX10_queue_63 (by decide) ?_
          refine jr_ncmp_ne C (b := 1) 77 dX10_queue_64 (by decide) rfl rfl (fun b64 => ?_) (fun b64 => ?_)
          · refine jr_aload_n C dX10_queue_77 rfl ?_
            refine jr_getr C kf_X10_51_0 dX10_queue_78 ?_
            refine jr_geti C kf_X10_196_6 dX10_queue_81 ?_
            refine jr_aload_n C dX10_queue_84 rfl ?_
            refine jr_getr C kf_X10_51_0 dX10_queue_85 ?_
            refine jr_geti C kf_X10_199_6 dX10_queue_88 ?_
            refine jr_iadd C dX10_queue_91 ?_
            exact ret _ _ _ _ dX10_queue_92 rfl (by first | exact ⟨xS_l_r σ, hO⟩ | exact ⟨xS_l_t h38.1 (xS_6_l h47), xS_6_O h47 h38.2⟩)
          · refine jr_aload_n C dX10_queue_67 rfl ?_
            refine jr_getr C kf_X10_51_0 dX10_queue_68 ?_
            refine jr_geti C kf_X10_199_6 dX10_queue_71 ?_
            refine jr_goto C 92 dX10_queue_74 (by decide) ?_
            exact ret _ _ _ _ dX10_queue_92 rfl (by first | exact ⟨xS_l_r σ, hO⟩ | exact ⟨xS_l_t h38.1 (xS_6_l h47), xS_6_O h47 h38.2⟩)
        · refine jr_aload_n C dX10_queue_54 rfl ?_
          refine jr_getr C kf_X10_51_0 dX10_queue_55 ?_
          refine jr_geti C kf_X10_196_6 dX10_queue_58 ?_
          exact ret _ _ _ _ dX10_queue_61 rfl (by first | exact ⟨xS_l_r σ, hO⟩ | exact ⟨xS_l_t h38.1 (xS_6_l h47), xS_6_O h47 h38.2⟩)
      · replace b29 := jb_f b29
        refine jr_iconst C (v := -1) dX10_queue_32 (by decide) ?_
        exact ret _ _ _ _ dX10_queue_33 rfl (by first | exact ⟨xS_l_r σ, hO⟩ | exact ⟨xS_l_t h38.1 (xS_6_l h47), xS_6_O h47 h38.2⟩)

