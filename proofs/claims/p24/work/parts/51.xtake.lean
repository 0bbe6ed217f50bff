/-! the class: the reader's small steps, safe -/
theorem ct_X6_takeNumber (E : jf_E) (σ : jf_S) (hT : xT σ) : jf_I jh_X E yX6_takeNumber cX6_takeNumber 1 .boolean 1 [jf_r E 9] σ (fun r τ => (r = 0 ∨ r = 1) ∧ xS_t σ τ ∧ xT τ) := by
  refine jf_mkI (by decide) (Nat.le_of_ble_eq_true rfl) ?_
  intro G C ret
  refine jr_aload_n C dX6_takeNumber_0 rfl ?_
  refine jr_getv C kf_X6_71_9 dX6_takeNumber_1 (v := σ.1 9 6) rfl ?_
  refine jr_iconst C (v := -1) dX6_takeNumber_4 (by decide) ?_
  refine jr_ncmp_eq C (b := -1) 18 dX6_takeNumber_5 (by decide) rfl rfl (fun b5 => ?_) (fun b5 => ?_)
  · refine jr_iconst C (v := 0) dX6_takeNumber_18 (by decide) ?_
    exact ret _ _ _ _ dX6_takeNumber_19 (rfl) (⟨by decide, xS_t_r σ, hT⟩)
  · refine jr_aload_n C dX6_takeNumber_8 rfl ?_
    refine jr_getv C kf_X6_71_9 dX6_takeNumber_9 (v := σ.1 9 6) rfl ?_
    refine jr_sipush C (v := 1000) dX6_takeNumber_12 (by decide) ?_
    refine jr_ncmp_le C (b := 1000) 20 dX6_takeNumber_15 (by decide) rfl rfl (fun b15 => ?_) (fun b15 => ?_)
    · refine jr_aload_n C dX6_takeNumber_20 rfl ?_
      refine jr_vv C [] _ (ct_X6_advance E _ hT) ky_X6_advance kv_X6_advance kk_X_9 km_X6_35 (by decide) rfl (Nat.le_of_ble_eq_true rfl) dX6_takeNumber_21 (fun τ21 h21 => ?_)
      refine jr_iconst C (v := 1) dX6_takeNumber_24 (by decide) ?_
      exact ret _ _ _ _ dX6_takeNumber_25 (rfl) (⟨by decide, h21⟩)
    · refine jr_iconst C (v := 0) dX6_takeNumber_18 (by decide) ?_
      exact ret _ _ _ _ dX6_takeNumber_19 (rfl) (⟨by decide, xS_t_r σ, hT⟩)
theorem ct_X6_takeByte (E : jf_E) (σ : jf_S) (c : Int32) (hT : xT σ) : jf_I jh_X E yX6_takeByte cX6_takeByte 2 .boolean 1 [jf_r E 9, .int c] σ (fun r τ => (r = 0 ∨ r = 1) ∧ xS_t σ τ ∧ xT τ) := by
  refine jf_mkI (by decide) (Nat.le_of_ble_eq_true rfl) ?_
  intro G C ret
  have h1 := hT.1
  have h2 := hT.2.1
  refine jr_aload_n C dX6_takeByte_0 rfl ?_
  refine jr_getv C kf_X6_61_9 dX6_takeByte_1 (v := σ.1 9 4) rfl ?_
  refine jr_aload_n C dX6_takeByte_4 rfl ?_
  refine jr_getv C kf_X6_22_9 dX6_takeByte_5 (v := σ.1 9 2) rfl ?_
  refine jr_ncmp_ge C 24 dX6_takeByte_8 (by decide) rfl rfl (fun b8 => ?_) (fun b8 => ?_)
  · refine jr_iconst C (v := 0) dX6_takeByte_24 (by decide) ?_
    exact ret _ _ _ _ dX6_takeByte_25 (rfl) (⟨by decide, xS_t_r σ, hT⟩)
  · refine jr_aload_n C dX6_takeByte_11 rfl ?_
    refine jr_getr C kf_X6_11_9 dX6_takeByte_12 ?_
    refine jr_aload_n C dX6_takeByte_15 rfl ?_
    refine jr_getv C kf_X6_61_9 dX6_takeByte_16 (v := σ.1 9 4) rfl ?_
    refine jr_ialv C ka_X_49 dX6_takeByte_19 (ji_in (i := (σ.1 9 4)) (by omega) (by omega)) (v := σ.1 49 _) rfl ?_
    refine jr_iload_n C dX6_takeByte_20 rfl ?_
    refine jr_ncmp_eq C 26 dX6_takeByte_21 (by decide) rfl rfl (fun b21 => ?_) (fun b21 => ?_)
    · refine jr_aload_n C dX6_takeByte_26 rfl ?_
      refine jr_vv C [] _ (ct_X6_advance E _ hT) ky_X6_advance kv_X6_advance kk_X_9 km_X6_35 (by decide) rfl (Nat.le_of_ble_eq_true rfl) dX6_takeByte_27 (fun τ27 h27 => ?_)
      refine jr_iconst C (v := 1) dX6_takeByte_30 (by decide) ?_
      exact ret _ _ _ _ dX6_takeByte_31 (rfl) (⟨by decide, h27⟩)
    · refine jr_iconst C (v := 0) dX6_takeByte_24 (by decide) ?_
      exact ret _ _ _ _ dX6_takeByte_25 (rfl) (⟨by decide, xS_t_r σ, hT⟩)

