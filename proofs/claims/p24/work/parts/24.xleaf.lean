/-! the class: leaves -/
def x_told (σ : jf_S) (v : Int32) : jf_S := jf_i σ 0 10 (if 0 < v then 0 else v)
theorem ct_X10_within (E : jf_E) (σ : jf_S) (v low high : Int32) : jf_I jh_X E yX10_within cX10_within 3 .boolean 0 [.int v, .int low, .int high] σ (fun r τ => r = jb (low.toInt ≤ v.toInt ∧ v.toInt ≤ high.toInt) ∧ τ = σ) := by
  refine jf_mkI (by decide) (Nat.le_of_ble_eq_true rfl) ?_
  intro G C ret
  refine jr_iload_n C dX10_within_0 rfl ?_
  refine jr_iload_n C dX10_within_1 rfl ?_
  refine jr_ncmp_lt C 14 dX10_within_2 (by decide) rfl rfl (fun b2 => ?_) (fun b2 => ?_)
  · refine jr_iconst C (v := 0) dX10_within_14 (by decide) ?_
    exact ret _ _ _ _ dX10_within_15 (rfl) (⟨by first | exact jb_tt ⟨by omega, by omega⟩ | exact jb_ff (fun h => by omega), rfl⟩)
  · refine jr_iload_n C dX10_within_5 rfl ?_
    refine jr_iload_n C dX10_within_6 rfl ?_
    refine jr_ncmp_gt C 14 dX10_within_7 (by decide) rfl rfl (fun b7 => ?_) (fun b7 => ?_)
    · refine jr_iconst C (v := 0) dX10_within_14 (by decide) ?_
      exact ret _ _ _ _ dX10_within_15 (rfl) (⟨by first | exact jb_tt ⟨by omega, by omega⟩ | exact jb_ff (fun h => by omega), rfl⟩)
    · refine jr_iconst C (v := 1) dX10_within_10 (by decide) ?_
      refine jr_goto C 15 dX10_within_11 (by decide) ?_
      exact ret _ _ _ _ dX10_within_15 (rfl) (⟨by first | exact jb_tt ⟨by omega, by omega⟩ | exact jb_ff (fun h => by omega), rfl⟩)
theorem ct_X10_withinw (E : jf_E) (σ : jf_S) (v low high : Int32) (a b : Int) (ha : low.toInt = a) (hb : high.toInt = b) : jf_I jh_X E yX10_within cX10_within 3 .boolean 0 [.int v, .int low, .int high] σ (fun r τ => r = jb (a ≤ v.toInt ∧ v.toInt ≤ b) ∧ τ = σ) := by
  subst ha; subst hb
  exact ct_X10_within E σ v low high
theorem ct_X10_isTown (E : jf_E) (σ : jf_S) (v : Int32) : jf_I jh_X E yX10_isTown cX10_isTown 1 .boolean 1 [.int v] σ (fun r τ => r = jb (0 ≤ v.toInt ∧ v.toInt ≤ 4) ∧ τ = σ) := by
  refine jf_mkI (by decide) (Nat.le_of_ble_eq_true rfl) ?_
  intro G C ret
  refine jr_iload_n C dX10_isTown_0 rfl ?_
  refine jr_iconst C (v := 0) dX10_isTown_1 (by decide) ?_
  refine jr_iconst C (v := 4) dX10_isTown_2 (by decide) ?_
  refine jr_sip C [.int _, .int _, .int _] _ (ct_X10_withinw E _ _ _ _ 0 4 rfl rfl) ky_X10_within ks_X10_within km_X10_93 (by decide) rfl (Nat.le_of_ble_eq_true rfl) dX10_isTown_3 ?_
  exact ret _ _ _ _ dX10_isTown_6 (jb_n) (⟨rfl, rfl⟩)
theorem ct_X10_isMinute (E : jf_E) (σ : jf_S) (v : Int32) : jf_I jh_X E yX10_isMinute cX10_isMinute 1 .boolean 1 [.int v] σ (fun r τ => r = jb (0 ≤ v.toInt ∧ v.toInt ≤ 14399) ∧ τ = σ) := by
  refine jf_mkI (by decide) (Nat.le_of_ble_eq_true rfl) ?_
  intro G C ret
  refine jr_iload_n C dX10_isMinute_0 rfl ?_
  refine jr_iconst C (v := 0) dX10_isMinute_1 (by decide) ?_
  refine jr_sipush C (v := 14399) dX10_isMinute_2 (by decide) ?_
  refine jr_sip C [.int _, .int _, .int _] _ (ct_X10_withinw E _ _ _ _ 0 14399 rfl rfl) ky_X10_within ks_X10_within km_X10_93 (by decide) rfl (Nat.le_of_ble_eq_true rfl) dX10_isMinute_5 ?_
  exact ret _ _ _ _ dX10_isMinute_8 (jb_n) (⟨rfl, rfl⟩)
theorem ct_X10_isKnown (E : jf_E) (σ : jf_S) (v : Int32) : jf_I jh_X E yX10_isKnown cX10_isKnown 1 .boolean 1 [.int v] σ (fun r τ => r = jb (0 ≤ v.toInt ∧ v.toInt ≤ 100000) ∧ τ = σ) := by
  refine jf_mkI (by decide) (Nat.le_of_ble_eq_true rfl) ?_
  intro G C ret
  refine jr_iload_n C dX10_isKnown_0 rfl ?_
  refine jr_iconst C (v := 0) dX10_isKnown_1 (by decide) ?_
  refine jr_ldcw C kc_X10_292 dX10_isKnown_2 ?_
  refine jr_sip C [.int _, .int _, .int _] _ (ct_X10_withinw E _ _ _ _ 0 100000 rfl rfl) ky_X10_within ks_X10_within km_X10_93 (by decide) rfl (Nat.le_of_ble_eq_true rfl) dX10_isKnown_5 ?_
  exact ret _ _ _ _ dX10_isKnown_8 (jb_n) (⟨rfl, rfl⟩)
theorem ct_X10_told (E : jf_E) (σ : jf_S) (v : Int32) : jf_I jh_X E yX10_told cX10_told 2 .int 1 [jf_r E 0, .int v] σ (fun r τ => r = v ∧ τ = x_told σ v) := by
  refine jf_mkI (by decide) (Nat.le_of_ble_eq_true rfl) ?_
  intro G C ret
  refine jr_aload_n C dX10_told_0 rfl ?_
  refine jr_iload_n C dX10_told_1 rfl ?_
  refine jr_iconst C (v := 0) dX10_told_2 (by decide) ?_
  refine jr_mmin C km_X10_283 (by decide) (Nat.le_of_ble_eq_true rfl) dX10_told_3 ?_
  refine jr_puti C kp_X10_85_0 dX10_told_6 ?_
  refine jr_iload_n C dX10_told_9 rfl ?_
  exact ret _ _ _ _ dX10_told_10 rfl (⟨rfl, rfl⟩)
theorem ct_X2_has (E : jf_E) (σ : jf_S) (h : Int32) (n : Int32) (hn : (σ.1 2 8) = n) : jf_I jh_X E yX2_has cX2_has 2 .boolean 0 [jf_r E 2, .int h] σ (fun r τ => r = jb (0 ≤ h.toInt ∧ h.toInt < n.toInt) ∧ τ = σ) := by
  subst hn
  refine jf_mkI (by decide) (Nat.le_of_ble_eq_true rfl) ?_
  intro G C ret
  refine jr_iload_n C dX2_has_0 rfl ?_
  refine jr_nif_lt C 16 dX2_has_1 (by decide) (fun b1 => ?_) (fun b1 => ?_)
  · refine jr_iconst C (v := 0) dX2_has_16 (by decide) ?_
    exact ret _ _ _ _ dX2_has_17 (rfl) (⟨by first | exact jb_tt ⟨by omega, by omega⟩ | exact jb_ff (fun h => by omega), rfl⟩)
  · refine jr_iload_n C dX2_has_4 rfl ?_
    refine jr_aload_n C dX2_has_5 rfl ?_
    refine jr_getv C kf_X2_36_2 dX2_has_6 (v := σ.1 2 8) rfl ?_
    refine jr_ncmp_ge C 16 dX2_has_9 (by decide) rfl rfl (fun b9 => ?_) (fun b9 => ?_)
    · refine jr_iconst C (v := 0) dX2_has_16 (by decide) ?_
      exact ret _ _ _ _ dX2_has_17 (rfl) (⟨by first | exact jb_tt ⟨by omega, by omega⟩ | exact jb_ff (fun h => by omega), rfl⟩)
    · refine jr_iconst C (v := 1) dX2_has_12 (by decide) ?_
      refine jr_goto C 17 dX2_has_13 (by decide) ?_
      exact ret _ _ _ _ dX2_has_17 (rfl) (⟨by first | exact jb_tt ⟨by omega, by omega⟩ | exact jb_ff (fun h => by omega), rfl⟩)
theorem ct_X3_has (E : jf_E) (σ : jf_S) (h : Int32) (n : Int32) (hn : (σ.1 1 5) = n) : jf_I jh_X E yX3_has cX3_has 2 .boolean 0 [jf_r E 1, .int h] σ (fun r τ => r = jb (0 ≤ h.toInt ∧ h.toInt < n.toInt) ∧ τ = σ) := by
  subst hn
  refine jf_mkI (by decide) (Nat.le_of_ble_eq_true rfl) ?_
  intro G C ret
  refine jr_iload_n C dX3_has_0 rfl ?_
  refine jr_nif_lt C 16 dX3_has_1 (by decide) (fun b1 => ?_) (fun b1 => ?_)
  · refine jr_iconst C (v := 0) dX3_has_16 (by decide) ?_
    exact ret _ _ _ _ dX3_has_17 (rfl) (⟨by first | exact jb_tt ⟨by omega, by omega⟩ | exact jb_ff (fun h => by omega), rfl⟩)
  · refine jr_iload_n C dX3_has_4 rfl ?_
    refine jr_aload_n C dX3_has_5 rfl ?_
    refine jr_getv C kf_X3_27_1 dX3_has_6 (v := σ.1 1 5) rfl ?_
    refine jr_ncmp_ge C 16 dX3_has_9 (by decide) rfl rfl (fun b9 => ?_) (fun b9 => ?_)
    · refine jr_iconst C (v := 0) dX3_has_16 (by decide) ?_
      exact ret _ _ _ _ dX3_has_17 (rfl) (⟨by first | exact jb_tt ⟨by omega, by omega⟩ | exact jb_ff (fun h => by omega), rfl⟩)
    · refine jr_iconst C (v := 1) dX3_has_12 (by decide) ?_
      refine jr_goto C 17 dX3_has_13 (by decide) ?_
      exact ret _ _ _ _ dX3_has_17 (rfl) (⟨by first | exact jb_tt ⟨by omega, by omega⟩ | exact jb_ff (fun h => by omega), rfl⟩)
theorem ct_X4_has (E : jf_E) (σ : jf_S) (h : Int32) (n : Int32) (hn : (σ.1 7 7) = n) : jf_I jh_X E yX4_has cX4_has 2 .boolean 0 [jf_r E 7, .int h] σ (fun r τ => r = jb (0 ≤ h.toInt ∧ h.toInt < n.toInt) ∧ τ = σ) := by
  subst hn
  refine jf_mkI (by decide) (Nat.le_of_ble_eq_true rfl) ?_
  intro G C ret
  refine jr_iload_n C dX4_has_0 rfl ?_
  refine jr_nif_lt C 16 dX4_has_1 (by decide) (fun b1 => ?_) (fun b1 => ?_)
  · refine jr_iconst C (v := 0) dX4_has_16 (by decide) ?_
    exact ret _ _ _ _ dX4_has_17 (rfl) (⟨by first | exact jb_tt ⟨by omega, by omega⟩ | exact jb_ff (fun h => by omega), rfl⟩)
  · refine jr_iload_n C dX4_has_4 rfl ?_
    refine jr_aload_n C dX4_has_5 rfl ?_
    refine jr_getv C kf_X4_33_7 dX4_has_6 (v := σ.1 7 7) rfl ?_
    refine jr_ncmp_ge C 16 dX4_has_9 (by decide) rfl rfl (fun b9 => ?_) (fun b9 => ?_)
    · refine jr_iconst C (v := 0) dX4_has_16 (by decide) ?_
      exact ret _ _ _ _ dX4_has_17 (rfl) (⟨by first | exact jb_tt ⟨by omega, by omega⟩ | exact jb_ff (fun h => by omega), rfl⟩)
    · refine jr_iconst C (v := 1) dX4_has_12 (by decide) ?_
      refine jr_goto C 17 dX4_has_13 (by decide) ?_
      exact ret _ _ _ _ dX4_has_17 (rfl) (⟨by first | exact jb_tt ⟨by omega, by omega⟩ | exact jb_ff (fun h => by omega), rfl⟩)
theorem ct_X8_has (E : jf_E) (σ : jf_S) (h : Int32) (n : Int32) (a : Nat → Int32) (hn : (σ.1 3 8) = n) (ha : (σ.1 31) = a) (he : n.toInt ≤ 60) : jf_I jh_X E yX8_has cX8_has 2 .boolean 0 [jf_r E 3, .int h] σ (fun r τ => r = jb (0 ≤ h.toInt ∧ h.toInt < n.toInt ∧ ¬ a h.toNatClampNeg = 0) ∧ τ = σ) := by
  subst hn; subst ha
  refine jf_mkI (by decide) (Nat.le_of_ble_eq_true rfl) ?_
  intro G C ret
  refine jr_iload_n C dX8_has_0 rfl ?_
  refine jr_nif_lt C 25 dX8_has_1 (by decide) (fun b1 => ?_) (fun b1 => ?_)
  · refine jr_iconst C (v := 0) dX8_has_25 (by decide) ?_
    exact ret _ _ _ _ dX8_has_26 (rfl) (⟨by first | exact jb_tt ⟨by omega, by omega, jn_ne.mpr (by assumption)⟩ | exact jb_ff (fun q => by omega) | exact jb_ff (fun q => q.2.2 (jn_eq.mpr (by assumption))), rfl⟩)
  · refine jr_iload_n C dX8_has_4 rfl ?_
    refine jr_aload_n C dX8_has_5 rfl ?_
    refine jr_getv C kf_X8_37_3 dX8_has_6 (v := σ.1 3 8) rfl ?_
    refine jr_ncmp_ge C 25 dX8_has_9 (by decide) rfl rfl (fun b9 => ?_) (fun b9 => ?_)
    · refine jr_iconst C (v := 0) dX8_has_25 (by decide) ?_
      exact ret _ _ _ _ dX8_has_26 (rfl) (⟨by first | exact jb_tt ⟨by omega, by omega, jn_ne.mpr (by assumption)⟩ | exact jb_ff (fun q => by omega) | exact jb_ff (fun q => q.2.2 (jn_eq.mpr (by assumption))), rfl⟩)
    · refine jr_aload_n C dX8_has_12 rfl ?_
      refine jr_getr C kf_X8_30_3 dX8_has_13 ?_
      refine jr_iload_n C dX8_has_16 rfl ?_
      refine jr_zalv C ka_X_31 dX8_has_17 (ji_in (i := h) (by omega) (by omega)) (v := σ.1 31 _) rfl ?_
      refine jr_nif_eq C 25 dX8_has_18 (by decide) (fun b18 => ?_) (fun b18 => ?_)
      · refine jr_iconst C (v := 0) dX8_has_25 (by decide) ?_
        exact ret _ _ _ _ dX8_has_26 (rfl) (⟨by first | exact jb_tt ⟨by omega, by omega, jn_ne.mpr (by assumption)⟩ | exact jb_ff (fun q => by omega) | exact jb_ff (fun q => q.2.2 (jn_eq.mpr (by assumption))), rfl⟩)
      · refine jr_iconst C (v := 1) dX8_has_21 (by decide) ?_
        refine jr_goto C 26 dX8_has_22 (by decide) ?_
        exact ret _ _ _ _ dX8_has_26 (rfl) (⟨by first | exact jb_tt ⟨by omega, by omega, jn_ne.mpr (by assumption)⟩ | exact jb_ff (fun q => by omega) | exact jb_ff (fun q => q.2.2 (jn_eq.mpr (by assumption))), rfl⟩)

