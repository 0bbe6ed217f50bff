/-! the class: simple methods -/
theorem ji_linr {a b c : Int32} (n : Int) {N : Nat} (hc : c.toInt = n) (h2 : 0 ≤ a.toInt * n ∧ 0 ≤ a.toInt * n + b.toInt ∧ a.toInt * n + b.toInt < N) (h3 : -1000000 ≤ b.toInt ∧ b.toInt ≤ 1000000) (h4 : a.toInt * n < 1000000 ∧ (N : Int) ≤ 1000000) : vp_in (a * c + b) N := by
  have e1 : (a * c).toInt = a.toInt * n := by rw [fb_mulI, hc] <;> (rw [hc]; omega)
  have e2 : (a * c + b).toInt = a.toInt * n + b.toInt := by rw [fb_addI, e1] <;> (rw [e1]; omega)
  exact ji_in (by rw [e2]; omega) (by rw [e2]; omega)
theorem ji_linr3 {a b c e : Int32} (n m : Int) {N : Nat} (hc : c.toInt = n) (he : e.toInt = m) (h1 : 0 ≤ a.toInt * n + b.toInt - m ∧ a.toInt * n + b.toInt - m < N) (h2 : -1000000 ≤ a.toInt * n ∧ a.toInt * n ≤ 1000000) (h3 : -1000000 ≤ b.toInt ∧ b.toInt ≤ 1000000 ∧ -1000000 ≤ m ∧ m ≤ 1000000 ∧ (N : Int) ≤ 2147483648) : vp_in (a * c + b - e) N := by
  have e1 : (a * c).toInt = a.toInt * n := by rw [fb_mulI, hc] <;> (rw [hc]; omega)
  have e2 : (a * c + b).toInt = a.toInt * n + b.toInt := by rw [fb_addI, e1] <;> (rw [e1]; omega)
  have e3 : (a * c + b - e).toInt = a.toInt * n + b.toInt - m := by rw [fb_subI, e2, he] <;> (rw [e2, he]; omega)
  exact ji_in (by rw [e3]; omega) (by rw [e3]; omega)
def x_hadd (σ : jf_S) (t s c f : Int32) : Int32 × jf_S :=
  if 4 ≤ ((σ.1 1 5)).toInt then (-5, σ)
  else ((σ.1 1 5) + 1 - 1, jf_i (jf_i (jf_i (jf_i (jf_i σ 12 ((σ.1 1 5)).toNatClampNeg t) 13 ((σ.1 1 5)).toNatClampNeg s) 14 ((σ.1 1 5)).toNatClampNeg c) 15 ((σ.1 1 5)).toNatClampNeg f) 1 5 ((σ.1 1 5) + 1))
theorem ct_X3_add (E : jf_E) (σ : jf_S) (t s c f : Int32) (h0 : 0 ≤ ((σ.1 1 5)).toInt) : jf_I jh_X E yX3_add cX3_add 5 .int 0 [jf_r E 1, .int t, .int s, .int c, .int f] σ (fun r τ => r = (x_hadd σ t s c f).1 ∧ τ = (x_hadd σ t s c f).2) := by
  refine jf_mkI (by decide) (Nat.le_of_ble_eq_true rfl) ?_
  intro G C ret
  refine jr_aload_n C dX3_add_0 rfl ?_
  refine jr_getv C kf_X3_27_1 dX3_add_1 (v := σ.1 1 5) rfl ?_
  refine jr_iconst C (v := 4) dX3_add_4 (by decide) ?_
  refine jr_ncmp_lt C (b := 4) 11 dX3_add_5 (by decide) rfl rfl (fun b5 => ?_) (fun b5 => ?_)
  · refine jr_aload_n C dX3_add_11 rfl ?_
    refine jr_getr C kf_X3_9_1 dX3_add_12 ?_
    refine jr_aload_n C dX3_add_15 rfl ?_
    refine jr_getv C kf_X3_27_1 dX3_add_16 (v := σ.1 1 5) rfl ?_
    refine jr_iload_n C dX3_add_19 rfl ?_
    refine jr_iast C ka_X_12 dX3_add_20 (ji_in (i := (σ.1 1 5)) h0 (by omega)) ?_
    refine jr_aload_n C dX3_add_21 rfl ?_
    refine jr_getr C kf_X3_15_1 dX3_add_22 ?_
    refine jr_aload_n C dX3_add_25 rfl ?_
    refine jr_getv C kf_X3_27_1 dX3_add_26 (v := σ.1 1 5) rfl ?_
    refine jr_iload_n C dX3_add_29 rfl ?_
    refine jr_iast C ka_X_13 dX3_add_30 (ji_in (i := (σ.1 1 5)) h0 (by omega)) ?_
    refine jr_aload_n C dX3_add_31 rfl ?_
    refine jr_getr C kf_X3_18_1 dX3_add_32 ?_
    refine jr_aload_n C dX3_add_35 rfl ?_
    refine jr_getv C kf_X3_27_1 dX3_add_36 (v := σ.1 1 5) rfl ?_
    refine jr_iload_n C dX3_add_39 rfl ?_
    refine jr_iast C ka_X_14 dX3_add_40 (ji_in (i := (σ.1 1 5)) h0 (by omega)) ?_
    refine jr_aload_n C dX3_add_41 rfl ?_
    refine jr_getr C kf_X3_21_1 dX3_add_42 ?_
    refine jr_aload_n C dX3_add_45 rfl ?_
    refine jr_getv C kf_X3_27_1 dX3_add_46 (v := σ.1 1 5) rfl ?_
    refine jr_iload C dX3_add_49 rfl ?_
    refine jr_iast C ka_X_15 dX3_add_51 (ji_in (i := (σ.1 1 5)) h0 (by omega)) ?_
    refine jr_aload_n C dX3_add_52 rfl ?_
    refine jr_dup C dX3_add_53 rfl ?_
    refine jr_getv C kf_X3_27_1 dX3_add_54 (v := σ.1 1 5) rfl ?_
    refine jr_iconst C (v := 1) dX3_add_57 (by decide) ?_
    refine jr_iadd C dX3_add_58 ?_
    refine jr_puti C kp_X3_27_1 dX3_add_59 ?_
    refine jr_aload_n C dX3_add_62 rfl ?_
    refine jr_geti C kf_X3_27_1 dX3_add_63 ?_
    refine jr_iconst C (v := 1) dX3_add_66 (by decide) ?_
    refine jr_isub C dX3_add_67 ?_
    exact ret _ _ _ _ dX3_add_68 rfl (by unfold x_hadd; (repeat' split) <;> first | (exfalso; omega) | exact ⟨rfl, rfl⟩)
  · refine jr_bipush C (v := -5) dX3_add_8 (by decide) ?_
    exact ret _ _ _ _ dX3_add_10 rfl (by unfold x_hadd; (repeat' split) <;> first | (exfalso; omega) | exact ⟨rfl, rfl⟩)
def x_hall (σ : jf_S) (t s c f : Int32) : Int32 × jf_S :=
  if ¬ ((0 ≤ t.toInt ∧ t.toInt ≤ 4) ∧ (1 ≤ s.toInt ∧ s.toInt ≤ 2000) ∧ (0 ≤ c.toInt ∧ c.toInt ≤ 120) ∧ (1 ≤ f.toInt ∧ f.toInt ≤ 15)) then (-1, x_told σ (-1))
  else ((x_hadd σ t s c f).1, x_told (x_hadd σ t s c f).2 (x_hadd σ t s c f).1)
theorem ct_X10_hall (E : jf_E) (σ : jf_S) (t s c f : Int32) (h0 : 0 ≤ ((σ.1 1 5)).toInt) : jf_I jh_X E yX10_hall cX10_hall 5 .int 2 [jf_r E 0, .int t, .int s, .int c, .int f] σ (fun r τ => (r, τ) = x_hall σ t s c f) := by
  refine jf_mkI (by decide) (Nat.le_of_ble_eq_true rfl) ?_
  intro G C ret
  refine jr_iload_n C dX10_hall_0 rfl ?_
  refine jr_sip C [.int _] _ (ct_X10_isTown E _ _) ky_X10_isTown ks_X10_isTown km_X10_89 (by decide) rfl (Nat.le_of_ble_eq_true rfl) dX10_hall_1 ?_
  refine jr_if_eq C 39 dX10_hall_4 (by decide) (fun b4 => ?_) (fun b4 => ?_)
  · replace b4 := jb_f b4
    refine jr_aload_n C dX10_hall_39 rfl ?_
    refine jr_iconst C (v := -1) dX10_hall_40 (by decide) ?_
    refine jr_vip C [.int _] _ (ct_X10_told E _ _) ky_X10_told kv_X10_told kk_X_0 km_X10_97 (by decide) rfl (Nat.le_of_ble_eq_true rfl) dX10_hall_41 ?_
    exact ret _ _ _ _ dX10_hall_44 rfl (by unfold x_hall; (repeat' split) <;> first | (exfalso; omega) | rfl)
  · replace b4 := jb_t b4
    refine jr_iload_n C dX10_hall_7 rfl ?_
    refine jr_iconst C (v := 1) dX10_hall_8 (by decide) ?_
    refine jr_sipush C (v := 2000) dX10_hall_9 (by decide) ?_
    refine jr_sip C [.int _, .int _, .int _] _ (ct_X10_withinw E _ _ _ _ 1 2000 rfl rfl) ky_X10_within ks_X10_within km_X10_93 (by decide) rfl (Nat.le_of_ble_eq_true rfl) dX10_hall_12 ?_
    refine jr_if_eq C 39 dX10_hall_15 (by decide) (fun b15 => ?_) (fun b15 => ?_)
    · replace b15 := jb_f b15
      refine jr_aload_n C dX10_hall_39 rfl ?_
      refine jr_iconst C (v := -1) dX10_hall_40 (by decide) ?_
      refine jr_vip C [.int _] _ (ct_X10_told E _ _) ky_X10_told kv_X10_told kk_X_0 km_X10_97 (by decide) rfl (Nat.le_of_ble_eq_true rfl) dX10_hall_41 ?_
      exact ret _ _ _ _ dX10_hall_44 rfl (by unfold x_hall; (repeat' split) <;> first | (exfalso; omega) | rfl)
    · replace b15 := jb_t b15
      refine jr_iload_n C dX10_hall_18 rfl ?_
      refine jr_iconst C (v := 0) dX10_hall_19 (by decide) ?_
      refine jr_bipush C (v := 120) dX10_hall_20 (by decide) ?_
      refine jr_sip C [.int _, .int _, .int _] _ (ct_X10_withinw E _ _ _ _ 0 120 rfl rfl) ky_X10_within ks_X10_within km_X10_93 (by decide) rfl (Nat.le_of_ble_eq_true rfl) dX10_hall_22 ?_
      refine jr_if_eq C 39 dX10_hall_25 (by decide) (fun b25 => ?_) (fun b25 => ?_)
      · replace b25 := jb_f b25
        refine jr_aload_n C dX10_hall_39 rfl ?_
        refine jr_iconst C (v := -1) dX10_hall_40 (by decide) ?_
        refine jr_vip C [.int _] _ (ct_X10_told E _ _) ky_X10_told kv_X10_told kk_X_0 km_X10_97 (by decide) rfl (Nat.le_of_ble_eq_true rfl) dX10_hall_41 ?_
        exact ret _ _ _ _ dX10_hall_44 rfl (by unfold x_hall; (repeat' split) <;> first | (exfalso; omega) | rfl)
      · replace b25 := jb_t b25
        refine jr_iload C dX10_hall_28 rfl ?_
        refine jr_iconst C (v := 1) dX10_hall_30 (by decide) ?_
        refine jr_bipush C (v := 15) dX10_hall_31 (by decide) ?_
        refine jr_sip C [.int _, .int _, .int _] _ (ct_X10_withinw E _ _ _ _ 1 15 rfl rfl) ky_X10_within ks_X10_within km_X10_93 (by decide) rfl (Nat.le_of_ble_eq_true rfl) dX10_hall_33 ?_
        refine jr_if_ne C 45 dX10_hall_36 (by decide) (fun b36 => ?_) (fun b36 => ?_)
        · replace b36 := jb_t b36
          refine jr_aload_n C dX10_hall_45 rfl ?_
          refine jr_aload_n C dX10_hall_46 rfl ?_
          refine jr_getr C kf_X10_10_0 dX10_hall_47 ?_
          refine jr_iload_n C dX10_hall_50 rfl ?_
          refine jr_iload_n C dX10_hall_51 rfl ?_
          refine jr_iload_n C dX10_hall_52 rfl ?_
          refine jr_iload C dX10_hall_53 rfl ?_
          refine jr_vip C [.int _, .int _, .int _, .int _] _ (ct_X3_add E _ _ _ _ _ h0) ky_X3_add kv_X3_add kk_X_1 km_X10_101 (by decide) rfl (Nat.le_of_ble_eq_true rfl) dX10_hall_55 ?_
          refine jr_vip C [.int _] _ (ct_X10_told E _ _) ky_X10_told kv_X10_told kk_X_0 km_X10_97 (by decide) rfl (Nat.le_of_ble_eq_true rfl) dX10_hall_58 ?_
          exact ret _ _ _ _ dX10_hall_61 rfl (by unfold x_hall; (repeat' split) <;> first | (exfalso; omega) | rfl)
        · replace b36 := jb_f b36
          refine jr_aload_n C dX10_hall_39 rfl ?_
          refine jr_iconst C (v := -1) dX10_hall_40 (by decide) ?_
          refine jr_vip C [.int _] _ (ct_X10_told E _ _) ky_X10_told kv_X10_told kk_X_0 km_X10_97 (by decide) rfl (Nat.le_of_ble_eq_true rfl) dX10_hall_41 ?_
          exact ret _ _ _ _ dX10_hall_44 rfl (by unfold x_hall; (repeat' split) <;> first | (exfalso; omega) | rfl)
theorem ct_X2_setGuest (E : jf_E) (σ : jf_S) (f a b : Int32) (h0 : 0 ≤ f.toInt) (h1 : f.toInt < 20) : jf_V jh_X E yX2_setGuest cX2_setGuest 4 0 [jf_r E 2, .int f, .int a, .int b] σ (fun τ => τ = jf_i (jf_i σ 20 f.toNatClampNeg a) 21 f.toNatClampNeg b) := by
  refine jf_mkV (by decide) (Nat.le_of_ble_eq_true rfl) ?_
  intro G C ret
  refine jr_aload_n C dX2_setGuest_0 rfl ?_
  refine jr_getr C kf_X2_21_2 dX2_setGuest_1 ?_
  refine jr_iload_n C dX2_setGuest_4 rfl ?_
  refine jr_iload_n C dX2_setGuest_5 rfl ?_
  refine jr_iast C ka_X_20 dX2_setGuest_6 (ji_in (i := f) h0 h1) ?_
  refine jr_aload_n C dX2_setGuest_7 rfl ?_
  refine jr_getr C kf_X2_24_2 dX2_setGuest_8 ?_
  refine jr_iload_n C dX2_setGuest_11 rfl ?_
  refine jr_iload_n C dX2_setGuest_12 rfl ?_
  refine jr_iast C ka_X_21 dX2_setGuest_13 (ji_in (i := f) h0 h1) ?_
  exact ret _ _ _ dX2_setGuest_14 (rfl)
theorem ct_X2_setBars (E : jf_E) (σ : jf_S) (f a b c : Int32) (h0 : 0 ≤ f.toInt) (h1 : f.toInt < 20) : jf_V jh_X E yX2_setBars cX2_setBars 5 0 [jf_r E 2, .int f, .int a, .int b, .int c] σ (fun τ => τ = jf_i (jf_i (jf_i σ 22 f.toNatClampNeg a) 23 f.toNatClampNeg b) 24 f.toNatClampNeg c) := by
  refine jf_mkV (by decide) (Nat.le_of_ble_eq_true rfl) ?_
  intro G C ret
  refine jr_aload_n C dX2_setBars_0 rfl ?_
  refine jr_getr C kf_X2_27_2 dX2_setBars_1 ?_
  refine jr_iload_n C dX2_setBars_4 rfl ?_
  refine jr_iload_n C dX2_setBars_5 rfl ?_
  refine jr_iast C ka_X_22 dX2_setBars_6 (ji_in (i := f) h0 h1) ?_
  refine jr_aload_n C dX2_setBars_7 rfl ?_
  refine jr_getr C kf_X2_30_2 dX2_setBars_8 ?_
  refine jr_iload_n C dX2_setBars_11 rfl ?_
  refine jr_iload_n C dX2_setBars_12 rfl ?_
  refine jr_iast C ka_X_23 dX2_setBars_13 (ji_in (i := f) h0 h1) ?_
  refine jr_aload_n C dX2_setBars_14 rfl ?_
  refine jr_getr C kf_X2_33_2 dX2_setBars_15 ?_
  refine jr_iload_n C dX2_setBars_18 rfl ?_
  refine jr_iload C dX2_setBars_19 rfl ?_
  refine jr_iast C ka_X_24 dX2_setBars_21 (ji_in (i := f) h0 h1) ?_
  exact ret _ _ _ dX2_setBars_22 (rfl)
def x_fadd (σ : jf_S) (m f p : Int32) : Int32 × jf_S :=
  if 20 ≤ ((σ.1 2 8)).toInt then (-5, σ)
  else ((σ.1 2 8) + 1 - 1, jf_i (jf_i (jf_i (jf_i (jf_i (jf_i (jf_i (jf_i (jf_i σ 17 ((σ.1 2 8)).toNatClampNeg m) 18 ((σ.1 2 8)).toNatClampNeg f) 19 ((σ.1 2 8)).toNatClampNeg p) 20 ((σ.1 2 8)).toNatClampNeg (-1)) 21 ((σ.1 2 8)).toNatClampNeg (-1)) 22 ((σ.1 2 8)).toNatClampNeg 0) 23 ((σ.1 2 8)).toNatClampNeg 60) 24 ((σ.1 2 8)).toNatClampNeg (-1)) 2 8 ((σ.1 2 8) + 1))
theorem ct_X2_add (E : jf_E) (σ : jf_S) (m f p : Int32) (h0 : 0 ≤ ((σ.1 2 8)).toInt) : jf_I jh_X E yX2_add cX2_add 4 .int 1 [jf_r E 2, .int m, .int f, .int p] σ (fun r τ => r = (x_fadd σ m f p).1 ∧ τ = (x_fadd σ m f p).2) := by
  refine jf_mkI (by decide) (Nat.le_of_ble_eq_true rfl) ?_
  intro G C ret
  refine jr_aload_n C dX2_add_0 rfl ?_
  refine jr_getv C kf_X2_36_2 dX2_add_1 (v := σ.1 2 8) rfl ?_
  refine jr_bipush C (v := 20) dX2_add_4 (by decide) ?_
  refine jr_ncmp_lt C (b := 20) 12 dX2_add_6 (by decide) rfl rfl (fun b6 => ?_) (fun b6 => ?_)
  · refine jr_aload_n C dX2_add_12 rfl ?_
    refine jr_getr C kf_X2_9_2 dX2_add_13 ?_
    refine jr_aload_n C dX2_add_16 rfl ?_
    refine jr_getv C kf_X2_36_2 dX2_add_17 (v := σ.1 2 8) rfl ?_
    refine jr_iload_n C dX2_add_20 rfl ?_
    refine jr_iast C ka_X_17 dX2_add_21 (ji_in (i := (σ.1 2 8)) h0 (by omega)) ?_
    refine jr_aload_n C dX2_add_22 rfl ?_
    refine jr_getr C kf_X2_15_2 dX2_add_23 ?_
    refine jr_aload_n C dX2_add_26 rfl ?_
    refine jr_getv C kf_X2_36_2 dX2_add_27 (v := σ.1 2 8) rfl ?_
    refine jr_iload_n C dX2_add_30 rfl ?_
    refine jr_iast C ka_X_18 dX2_add_31 (ji_in (i := (σ.1 2 8)) h0 (by omega)) ?_
    refine jr_aload_n C dX2_add_32 rfl ?_
    refine jr_getr C kf_X2_18_2 dX2_add_33 ?_
    refine jr_aload_n C dX2_add_36 rfl ?_
    refine jr_getv C kf_X2_36_2 dX2_add_37 (v := σ.1 2 8) rfl ?_
    refine jr_iload_n C dX2_add_40 rfl ?_
    refine jr_iast C ka_X_19 dX2_add_41 (ji_in (i := (σ.1 2 8)) h0 (by omega)) ?_
    refine jr_aload_n C dX2_add_42 rfl ?_
    refine jr_aload_n C dX2_add_43 rfl ?_
    refine jr_getv C kf_X2_36_2 dX2_add_44 (v := σ.1 2 8) rfl ?_
    refine jr_iconst C (v := -1) dX2_add_47 (by decide) ?_
    refine jr_iconst C (v := -1) dX2_add_48 (by decide) ?_
    refine jr_vvp C [.int _, .int _, .int _] _ (ct_X2_setGuest E _ _ _ _ h0 (by omega)) ky_X2_setGuest kv_X2_setGuest kk_X_2 km_X2_40 (by decide) rfl (Nat.le_of_ble_eq_true rfl) dX2_add_49 ?_
    refine jr_aload_n C dX2_add_52 rfl ?_
    refine jr_aload_n C dX2_add_53 rfl ?_
    refine jr_getv C kf_X2_36_2 dX2_add_54 (v := σ.1 2 8) rfl ?_
    refine jr_iconst C (v := 0) dX2_add_57 (by decide) ?_
    refine jr_bipush C (v := 60) dX2_add_58 (by decide) ?_
    refine jr_iconst C (v := -1) dX2_add_60 (by decide) ?_
    refine jr_vvp C [.int _, .int _, .int _, .int _] _ (ct_X2_setBars E _ _ _ _ _ h0 (by omega)) ky_X2_setBars kv_X2_setBars kk_X_2 km_X2_44 (by decide) rfl (Nat.le_of_ble_eq_true rfl) dX2_add_61 ?_
    refine jr_aload_n C dX2_add_64 rfl ?_
    refine jr_dup C dX2_add_65 rfl ?_
    refine jr_getv C kf_X2_36_2 dX2_add_66 (v := σ.1 2 8) rfl ?_
    refine jr_iconst C (v := 1) dX2_add_69 (by decide) ?_
    refine jr_iadd C dX2_add_70 ?_
    refine jr_puti C kp_X2_36_2 dX2_add_71 ?_
    refine jr_aload_n C dX2_add_74 rfl ?_
    refine jr_geti C kf_X2_36_2 dX2_add_75 ?_
    refine jr_iconst C (v := 1) dX2_add_78 (by decide) ?_
    refine jr_isub C dX2_add_79 ?_
    exact ret _ _ _ _ dX2_add_80 rfl (by unfold x_fadd; (repeat' split) <;> first | (exfalso; omega) | exact ⟨rfl, rfl⟩)
  · refine jr_bipush C (v := -5) dX2_add_9 (by decide) ?_
    exact ret _ _ _ _ dX2_add_11 rfl (by unfold x_fadd; (repeat' split) <;> first | (exfalso; omega) | exact ⟨rfl, rfl⟩)
def x_film (σ : jf_S) (m f p : Int32) : Int32 × jf_S :=
  if ¬ ((1 ≤ m.toInt ∧ m.toInt ≤ 300) ∧ (0 ≤ f.toInt ∧ f.toInt ≤ 3) ∧ (0 ≤ p.toInt ∧ p.toInt ≤ 1000)) then (-1, x_told σ (-1))
  else ((x_fadd σ m f p).1, x_told (x_fadd σ m f p).2 (x_fadd σ m f p).1)
theorem ct_X10_film (E : jf_E) (σ : jf_S) (m f p : Int32) (h0 : 0 ≤ ((σ.1 2 8)).toInt) : jf_I jh_X E yX10_film cX10_film 4 .int 2 [jf_r E 0, .int m, .int f, .int p] σ (fun r τ => (r, τ) = x_film σ m f p) := by
  refine jf_mkI (by decide) (Nat.le_of_ble_eq_true rfl) ?_
  intro G C ret
  refine jr_iload_n C dX10_film_0 rfl ?_
  refine jr_iconst C (v := 1) dX10_film_1 (by decide) ?_
  refine jr_sipush C (v := 300) dX10_film_2 (by decide) ?_
  refine jr_sip C [.int _, .int _, .int _] _ (ct_X10_withinw E _ _ _ _ 1 300 rfl rfl) ky_X10_within ks_X10_within km_X10_93 (by decide) rfl (Nat.le_of_ble_eq_true rfl) dX10_film_5 ?_
  refine jr_if_eq C 31 dX10_film_8 (by decide) (fun b8 => ?_) (fun b8 => ?_)
  · replace b8 := jb_f b8
    refine jr_aload_n C dX10_film_31 rfl ?_
    refine jr_iconst C (v := -1) dX10_film_32 (by decide) ?_
    refine jr_vip C [.int _] _ (ct_X10_told E _ _) ky_X10_told kv_X10_told kk_X_0 km_X10_97 (by decide) rfl (Nat.le_of_ble_eq_true rfl) dX10_film_33 ?_
    exact ret _ _ _ _ dX10_film_36 rfl (by unfold x_film; (repeat' split) <;> first | (exfalso; omega) | rfl)
  · replace b8 := jb_t b8
    refine jr_iload_n C dX10_film_11 rfl ?_
    refine jr_iconst C (v := 0) dX10_film_12 (by decide) ?_
    refine jr_iconst C (v := 3) dX10_film_13 (by decide) ?_
    refine jr_sip C [.int _, .int _, .int _] _ (ct_X10_withinw E _ _ _ _ 0 3 rfl rfl) ky_X10_within ks_X10_within km_X10_93 (by decide) rfl (Nat.le_of_ble_eq_true rfl) dX10_film_14 ?_
    refine jr_if_eq C 31 dX10_film_17 (by decide) (fun b17 => ?_) (fun b17 => ?_)
    · replace b17 := jb_f b17
      refine jr_aload_n C dX10_film_31 rfl ?_
      refine jr_iconst C (v := -1) dX10_film_32 (by decide) ?_
      refine jr_vip C [.int _] _ (ct_X10_told E _ _) ky_X10_told kv_X10_told kk_X_0 km_X10_97 (by decide) rfl (Nat.le_of_ble_eq_true rfl) dX10_film_33 ?_
      exact ret _ _ _ _ dX10_film_36 rfl (by unfold x_film; (repeat' split) <;> first | (exfalso; omega) | rfl)
    · replace b17 := jb_t b17
      refine jr_iload_n C dX10_film_20 rfl ?_
      refine jr_iconst C (v := 0) dX10_film_21 (by decide) ?_
      refine jr_sipush C (v := 1000) dX10_film_22 (by decide) ?_
      refine jr_sip C [.int _, .int _, .int _] _ (ct_X10_withinw E _ _ _ _ 0 1000 rfl rfl) ky_X10_within ks_X10_within km_X10_93 (by decide) rfl (Nat.le_of_ble_eq_true rfl) dX10_film_25 ?_
      refine jr_if_ne C 37 dX10_film_28 (by decide) (fun b28 => ?_) (fun b28 => ?_)
      · replace b28 := jb_t b28
        refine jr_aload_n C dX10_film_37 rfl ?_
        refine jr_aload_n C dX10_film_38 rfl ?_
        refine jr_getr C kf_X10_19_0 dX10_film_39 ?_
        refine jr_iload_n C dX10_film_42 rfl ?_
        refine jr_iload_n C dX10_film_43 rfl ?_
        refine jr_iload_n C dX10_film_44 rfl ?_
        refine jr_vip C [.int _, .int _, .int _] _ (ct_X2_add E _ _ _ _ h0) ky_X2_add kv_X2_add kk_X_2 km_X10_105 (by decide) rfl (Nat.le_of_ble_eq_true rfl) dX10_film_45 ?_
        refine jr_vip C [.int _] _ (ct_X10_told E _ _) ky_X10_told kv_X10_told kk_X_0 km_X10_97 (by decide) rfl (Nat.le_of_ble_eq_true rfl) dX10_film_48 ?_
        exact ret _ _ _ _ dX10_film_51 rfl (by unfold x_film; (repeat' split) <;> first | (exfalso; omega) | rfl)
      · replace b28 := jb_f b28
        refine jr_aload_n C dX10_film_31 rfl ?_
        refine jr_iconst C (v := -1) dX10_film_32 (by decide) ?_
        refine jr_vip C [.int _] _ (ct_X10_told E _ _) ky_X10_told kv_X10_told kk_X_0 km_X10_97 (by decide) rfl (Nat.le_of_ble_eq_true rfl) dX10_film_33 ?_
        exact ret _ _ _ _ dX10_film_36 rfl (by unfold x_film; (repeat' split) <;> first | (exfalso; omega) | rfl)
theorem ct_X3_setWay (E : jf_E) (σ : jf_S) (a b m : Int32) (a0 : 0 ≤ a.toInt) (a1 : a.toInt ≤ 4) (b0 : 0 ≤ b.toInt) (b1 : b.toInt ≤ 4) : jf_V jh_X E yX3_setWay cX3_setWay 4 0 [jf_r E 1, .int a, .int b, .int m] σ (fun τ => τ = jf_i (jf_i σ 16 (a * 5 + b).toNatClampNeg m) 16 (b * 5 + a).toNatClampNeg m) := by
  refine jf_mkV (by decide) (Nat.le_of_ble_eq_true rfl) ?_
  intro G C ret
  refine jr_aload_n C dX3_setWay_0 rfl ?_
  refine jr_getr C kf_X3_24_1 dX3_setWay_1 ?_
  refine jr_iload_n C dX3_setWay_4 rfl ?_
  refine jr_iconst C (v := 5) dX3_setWay_5 (by decide) ?_
  refine jr_imul C dX3_setWay_6 ?_
  refine jr_iload_n C dX3_setWay_7 rfl ?_
  refine jr_iadd C dX3_setWay_8 ?_
  refine jr_iload_n C dX3_setWay_9 rfl ?_
  refine jr_iast C ka_X_16 dX3_setWay_10 (ji_linr 5 rfl (by omega) (by omega) (by omega)) ?_
  refine jr_aload_n C dX3_setWay_11 rfl ?_
  refine jr_getr C kf_X3_24_1 dX3_setWay_12 ?_
  refine jr_iload_n C dX3_setWay_15 rfl ?_
  refine jr_iconst C (v := 5) dX3_setWay_16 (by decide) ?_
  refine jr_imul C dX3_setWay_17 ?_
  refine jr_iload_n C dX3_setWay_18 rfl ?_
  refine jr_iadd C dX3_setWay_19 ?_
  refine jr_iload_n C dX3_setWay_20 rfl ?_
  refine jr_iast C ka_X_16 dX3_setWay_21 (ji_linr 5 rfl (by omega) (by omega) (by omega)) ?_
  exact ret _ _ _ dX3_setWay_22 (rfl)
def x_way (σ : jf_S) (a b m : Int32) : Int32 × jf_S :=
  if ¬ ((0 ≤ a.toInt ∧ a.toInt ≤ 4) ∧ (0 ≤ b.toInt ∧ b.toInt ≤ 4) ∧ ¬ a.toInt = b.toInt ∧ (0 ≤ m.toInt ∧ m.toInt ≤ 2000)) then (-1, x_told σ (-1))
  else (0, x_told (jf_i (jf_i σ 16 (a * 5 + b).toNatClampNeg m) 16 (b * 5 + a).toNatClampNeg m) 0)
theorem ct_X10_way (E : jf_E) (σ : jf_S) (a b m : Int32) : jf_I jh_X E yX10_way cX10_way 4 .int 2 [jf_r E 0, .int a, .int b, .int m] σ (fun r τ => (r, τ) = x_way σ a b m) := by
  refine jf_mkI (by decide) (Nat.le_of_ble_eq_true rfl) ?_
  intro G C ret
  refine jr_iload_n C dX10_way_0 rfl ?_
  refine jr_sip C [.int _] _ (ct_X10_isTown E _ _) ky_X10_isTown ks_X10_isTown km_X10_89 (by decide) rfl (Nat.le_of_ble_eq_true rfl) dX10_way_1 ?_
  refine jr_if_eq C 30 dX10_way_4 (by decide) (fun b4 => ?_) (fun b4 => ?_)
  · replace b4 := jb_f b4
    refine jr_aload_n C dX10_way_30 rfl ?_
    refine jr_iconst C (v := -1) dX10_way_31 (by decide) ?_
    refine jr_vip C [.int _] _ (ct_X10_told E _ _) ky_X10_told kv_X10_told kk_X_0 km_X10_97 (by decide) rfl (Nat.le_of_ble_eq_true rfl) dX10_way_32 ?_
    exact ret _ _ _ _ dX10_way_35 rfl (by unfold x_way; (repeat' split) <;> first | (exfalso; omega) | rfl)
  · replace b4 := jb_t b4
    refine jr_iload_n C dX10_way_7 rfl ?_
    refine jr_sip C [.int _] _ (ct_X10_isTown E _ _) ky_X10_isTown ks_X10_isTown km_X10_89 (by decide) rfl (Nat.le_of_ble_eq_true rfl) dX10_way_8 ?_
    refine jr_if_eq C 30 dX10_way_11 (by decide) (fun b11 => ?_) (fun b11 => ?_)
    · replace b11 := jb_f b11
      refine jr_aload_n C dX10_way_30 rfl ?_
      refine jr_iconst C (v := -1) dX10_way_31 (by decide) ?_
      refine jr_vip C [.int _] _ (ct_X10_told E _ _) ky_X10_told kv_X10_told kk_X_0 km_X10_97 (by decide) rfl (Nat.le_of_ble_eq_true rfl) dX10_way_32 ?_
      exact ret _ _ _ _ dX10_way_35 rfl (by unfold x_way; (repeat' split) <;> first | (exfalso; omega) | rfl)
    · replace b11 := jb_t b11
      refine jr_iload_n C dX10_way_14 rfl ?_
      refine jr_iload_n C dX10_way_15 rfl ?_
      refine jr_ncmp_eq C 30 dX10_way_16 (by decide) rfl rfl (fun b16 => ?_) (fun b16 => ?_)
      · refine jr_aload_n C dX10_way_30 rfl ?_
        refine jr_iconst C (v := -1) dX10_way_31 (by decide) ?_
        refine jr_vip C [.int _] _ (ct_X10_told E _ _) ky_X10_told kv_X10_told kk_X_0 km_X10_97 (by decide) rfl (Nat.le_of_ble_eq_true rfl) dX10_way_32 ?_
        exact ret _ _ _ _ dX10_way_35 rfl (by unfold x_way; (repeat' split) <;> first | (exfalso; omega) | rfl)
      · refine jr_iload_n C dX10_way_19 rfl ?_
        refine jr_iconst C (v := 0) dX10_way_20 (by decide) ?_
        refine jr_sipush C (v := 2000) dX10_way_21 (by decide) ?_
        refine jr_sip C [.int _, .int _, .int _] _ (ct_X10_withinw E _ _ _ _ 0 2000 rfl rfl) ky_X10_within ks_X10_within km_X10_93 (by decide) rfl (Nat.le_of_ble_eq_true rfl) dX10_way_24 ?_
        refine jr_if_ne C 36 dX10_way_27 (by decide) (fun b27 => ?_) (fun b27 => ?_)
        · replace b27 := jb_t b27
          refine jr_aload_n C dX10_way_36 rfl ?_
          refine jr_getr C kf_X10_10_0 dX10_way_37 ?_
          refine jr_iload_n C dX10_way_40 rfl ?_
          refine jr_iload_n C dX10_way_41 rfl ?_
          refine jr_iload_n C dX10_way_42 rfl ?_
          refine jr_vvp C [.int _, .int _, .int _] _ (ct_X3_setWay E _ _ _ _ (by omega) (by omega) (by omega) (by omega)) ky_X3_setWay kv_X3_setWay kk_X_1 km_X10_108 (by decide) rfl (Nat.le_of_ble_eq_true rfl) dX10_way_43 ?_
          refine jr_aload_n C dX10_way_46 rfl ?_
          refine jr_iconst C (v := 0) dX10_way_47 (by decide) ?_
          refine jr_vip C [.int _] _ (ct_X10_told E _ _) ky_X10_told kv_X10_told kk_X_0 km_X10_97 (by decide) rfl (Nat.le_of_ble_eq_true rfl) dX10_way_48 ?_
          exact ret _ _ _ _ dX10_way_51 rfl (by unfold x_way; (repeat' split) <;> first | (exfalso; omega) | rfl)
        · replace b27 := jb_f b27
          refine jr_aload_n C dX10_way_30 rfl ?_
          refine jr_iconst C (v := -1) dX10_way_31 (by decide) ?_
          refine jr_vip C [.int _] _ (ct_X10_told E _ _) ky_X10_told kv_X10_told kk_X_0 km_X10_97 (by decide) rfl (Nat.le_of_ble_eq_true rfl) dX10_way_32 ?_
          exact ret _ _ _ _ dX10_way_35 rfl (by unfold x_way; (repeat' split) <;> first | (exfalso; omega) | rfl)
def x_guest (σ : jf_S) (f a b : Int32) : Int32 × jf_S :=
  if ¬ (a.toInt = -1 ∧ b.toInt = -1) ∧ ¬ ((0 ≤ a.toInt ∧ a.toInt ≤ 14399) ∧ (0 ≤ b.toInt ∧ b.toInt ≤ 14399) ∧ a.toInt ≤ b.toInt) then (-1, x_told σ (-1))
  else if ¬ (0 ≤ f.toInt ∧ f.toInt < ((σ.1 2 8)).toInt) then (-2, x_told σ (-2))
  else (0, x_told (jf_i (jf_i σ 20 f.toNatClampNeg a) 21 f.toNatClampNeg b) 0)
theorem ct_X10_guest (E : jf_E) (σ : jf_S) (f a b : Int32) (h4 : ((σ.1 2 8)).toInt ≤ 20) : jf_I jh_X E yX10_guest cX10_guest 5 .int 2 [jf_r E 0, .int f, .int a, .int b] σ (fun r τ => (r, τ) = x_guest σ f a b) := by
  refine jf_mkI (by decide) (Nat.le_of_ble_eq_true rfl) ?_
  intro G C ret
  refine jr_iload_n C dX10_guest_0 rfl ?_
  refine jr_iconst C (v := -1) dX10_guest_1 (by decide) ?_
  refine jr_ncmp_ne C (b := -1) 14 dX10_guest_2 (by decide) rfl rfl (fun b2 => ?_) (fun b2 => ?_)
  · refine jr_iconst C (v := 0) dX10_guest_14 (by decide) ?_
    refine jr_istore C dX10_guest_15 (by decide) ?_
    refine jr_iload C dX10_guest_17 rfl ?_
    refine jr_if_ne C 47 dX10_guest_19 (by decide) (fun b => absurd b (by decide)) (fun _ => ?_)
    refine jr_iload_n C dX10_guest_22 rfl ?_
    refine jr_sip C [.int _] _ (ct_X10_isMinute E _ _) ky_X10_isMinute ks_X10_isMinute km_X10_112 (by decide) rfl (Nat.le_of_ble_eq_true rfl) dX10_guest_23 ?_
    refine jr_if_eq C 41 dX10_guest_26 (by decide) (fun b26 => ?_) (fun b26 => ?_)
    · replace b26 := jb_f b26
      refine jr_aload_n C dX10_guest_41 rfl ?_
      refine jr_iconst C (v := -1) dX10_guest_42 (by decide) ?_
      refine jr_vip C [.int _] _ (ct_X10_told E _ _) ky_X10_told kv_X10_told kk_X_0 km_X10_97 (by decide) rfl (Nat.le_of_ble_eq_true rfl) dX10_guest_43 ?_
      exact ret _ _ _ _ dX10_guest_46 rfl (by unfold x_guest; (repeat' split) <;> first | (exfalso; omega) | rfl)
    · replace b26 := jb_t b26
      refine jr_iload_n C dX10_guest_29 rfl ?_
      refine jr_sip C [.int _] _ (ct_X10_isMinute E _ _) ky_X10_isMinute ks_X10_isMinute km_X10_112 (by decide) rfl (Nat.le_of_ble_eq_true rfl) dX10_guest_30 ?_
      refine jr_if_eq C 41 dX10_guest_33 (by decide) (fun b33 => ?_) (fun b33 => ?_)
      · replace b33 := jb_f b33
        refine jr_aload_n C dX10_guest_41 rfl ?_
        refine jr_iconst C (v := -1) dX10_guest_42 (by decide) ?_
        refine jr_vip C [.int _] _ (ct_X10_told E _ _) ky_X10_told kv_X10_told kk_X_0 km_X10_97 (by decide) rfl (Nat.le_of_ble_eq_true rfl) dX10_guest_43 ?_
        exact ret _ _ _ _ dX10_guest_46 rfl (by unfold x_guest; (repeat' split) <;> first | (exfalso; omega) | rfl)
      · replace b33 := jb_t b33
        refine jr_iload_n C dX10_guest_36 rfl ?_
        refine jr_iload_n C dX10_guest_37 rfl ?_
        refine jr_ncmp_le C 47 dX10_guest_38 (by decide) rfl rfl (fun b38 => ?_) (fun b38 => ?_)
        · refine jr_aload_n C dX10_guest_47 rfl ?_
          refine jr_getr C kf_X10_19_0 dX10_guest_48 ?_
          refine jr_iload_n C dX10_guest_51 rfl ?_
          refine jr_vip C [.int _] _ (ct_X2_has E _ _ (σ.1 2 8) rfl) ky_X2_has kv_X2_has kk_X_2 km_X10_115 (by decide) rfl (Nat.le_of_ble_eq_true rfl) dX10_guest_52 ?_
          refine jr_if_ne C 65 dX10_guest_55 (by decide) (fun b55 => ?_) (fun b55 => ?_)
          · replace b55 := jb_t b55
            refine jr_aload_n C dX10_guest_65 rfl ?_
            refine jr_getr C kf_X10_19_0 dX10_guest_66 ?_
            refine jr_iload_n C dX10_guest_69 rfl ?_
            refine jr_iload_n C dX10_guest_70 rfl ?_
            refine jr_iload_n C dX10_guest_71 rfl ?_
            refine jr_vvp C [.int _, .int _, .int _] _ (ct_X2_setGuest E _ _ _ _ (by omega) (by omega)) ky_X2_setGuest kv_X2_setGuest kk_X_2 km_X10_118 (by decide) rfl (Nat.le_of_ble_eq_true rfl) dX10_guest_72 ?_
            refine jr_aload_n C dX10_guest_75 rfl ?_
            refine jr_iconst C (v := 0) dX10_guest_76 (by decide) ?_
            refine jr_vip C [.int _] _ (ct_X10_told E _ _) ky_X10_told kv_X10_told kk_X_0 km_X10_97 (by decide) rfl (Nat.le_of_ble_eq_true rfl) dX10_guest_77 ?_
            exact ret _ _ _ _ dX10_guest_80 rfl (by unfold x_guest; (repeat' split) <;> first | (exfalso; omega) | rfl)
          · replace b55 := jb_f b55
            refine jr_aload_n C dX10_guest_58 rfl ?_
            refine jr_bipush C (v := -2) dX10_guest_59 (by decide) ?_
            refine jr_vip C [.int _] _ (ct_X10_told E _ _) ky_X10_told kv_X10_told kk_X_0 km_X10_97 (by decide) rfl (Nat.le_of_ble_eq_true rfl) dX10_guest_61 ?_
            exact ret _ _ _ _ dX10_guest_64 rfl (by unfold x_guest; (repeat' split) <;> first | (exfalso; omega) | rfl)
        · refine jr_aload_n C dX10_guest_41 rfl ?_
          refine jr_iconst C (v := -1) dX10_guest_42 (by decide) ?_
          refine jr_vip C [.int _] _ (ct_X10_told E _ _) ky_X10_told kv_X10_told kk_X_0 km_X10_97 (by decide) rfl (Nat.le_of_ble_eq_true rfl) dX10_guest_43 ?_
          exact ret _ _ _ _ dX10_guest_46 rfl (by unfold x_guest; (repeat' split) <;> first | (exfalso; omega) | rfl)
  · refine jr_iload_n C dX10_guest_5 rfl ?_
    refine jr_iconst C (v := -1) dX10_guest_6 (by decide) ?_
    refine jr_ncmp_ne C (b := -1) 14 dX10_guest_7 (by decide) rfl rfl (fun b7 => ?_) (fun b7 => ?_)
    · refine jr_iconst C (v := 0) dX10_guest_14 (by decide) ?_
      refine jr_istore C dX10_guest_15 (by decide) ?_
      refine jr_iload C dX10_guest_17 rfl ?_
      refine jr_if_ne C 47 dX10_guest_19 (by decide) (fun b => absurd b (by decide)) (fun _ => ?_)
      refine jr_iload_n C dX10_guest_22 rfl ?_
      refine jr_sip C [.int _] _ (ct_X10_isMinute E _ _) ky_X10_isMinute ks_X10_isMinute km_X10_112 (by decide) rfl (Nat.le_of_ble_eq_true rfl) dX10_guest_23 ?_
      refine jr_if_eq C 41 dX10_guest_26 (by decide) (fun b26 => ?_) (fun b26 => ?_)
      · replace b26 := jb_f b26
        refine jr_aload_n C dX10_guest_41 rfl ?_
        refine jr_iconst C (v := -1) dX10_guest_42 (by decide) ?_
        refine jr_vip C [.int _] _ (ct_X10_told E _ _) ky_X10_told kv_X10_told kk_X_0 km_X10_97 (by decide) rfl (Nat.le_of_ble_eq_true rfl) dX10_guest_43 ?_
        exact ret _ _ _ _ dX10_guest_46 rfl (by unfold x_guest; (repeat' split) <;> first | (exfalso; omega) | rfl)
      · replace b26 := jb_t b26
        refine jr_iload_n C dX10_guest_29 rfl ?_
        refine jr_sip C [.int _] _ (ct_X10_isMinute E _ _) ky_X10_isMinute ks_X10_isMinute km_X10_112 (by decide) rfl (Nat.le_of_ble_eq_true rfl) dX10_guest_30 ?_
        refine jr_if_eq C 41 dX10_guest_33 (by decide) (fun b33 => ?_) (fun b33 => ?_)
        · replace b33 := jb_f b33
          refine jr_aload_n C dX10_guest_41 rfl ?_
          refine jr_iconst C (v := -1) dX10_guest_42 (by decide) ?_
          refine jr_vip C [.int _] _ (ct_X10_told E _ _) ky_X10_told kv_X10_told kk_X_0 km_X10_97 (by decide) rfl (Nat.le_of_ble_eq_true rfl) dX10_guest_43 ?_
          exact ret _ _ _ _ dX10_guest_46 rfl (by unfold x_guest; (repeat' split) <;> first | (exfalso; omega) | rfl)
        · replace b33 := jb_t b33
          refine jr_iload_n C dX10_guest_36 rfl ?_
          refine jr_iload_n C dX10_guest_37 rfl ?_
          refine jr_ncmp_le C 47 dX10_guest_38 (by decide) rfl rfl (fun b38 => ?_) (fun b38 => ?_)
          · refine jr_aload_n C dX10_guest_47 rfl ?_
            refine jr_getr C kf_X10_19_0 dX10_guest_48 ?_
            refine jr_iload_n C dX10_guest_51 rfl ?_
            refine jr_vip C [.int _] _ (ct_X2_has E _ _ (σ.1 2 8) rfl) ky_X2_has kv_X2_has kk_X_2 km_X10_115 (by decide) rfl (Nat.le_of_ble_eq_true rfl) dX10_guest_52 ?_
            refine jr_if_ne C 65 dX10_guest_55 (by decide) (fun b55 => ?_) (fun b55 => ?_)
            · replace b55 := jb_t b55
              refine jr_aload_n C dX10_guest_65 rfl ?_
              refine jr_getr C kf_X10_19_0 dX10_guest_66 ?_
              refine jr_iload_n C dX10_guest_69 rfl ?_
              refine jr_iload_n C dX10_guest_70 rfl ?_
              refine jr_iload_n C dX10_guest_71 rfl ?_
              refine jr_vvp C [.int _, .int _, .int _] _ (ct_X2_setGuest E _ _ _ _ (by omega) (by omega)) ky_X2_setGuest kv_X2_setGuest kk_X_2 km_X10_118 (by decide) rfl (Nat.le_of_ble_eq_true rfl) dX10_guest_72 ?_
              refine jr_aload_n C dX10_guest_75 rfl ?_
              refine jr_iconst C (v := 0) dX10_guest_76 (by decide) ?_
              refine jr_vip C [.int _] _ (ct_X10_told E _ _) ky_X10_told kv_X10_told kk_X_0 km_X10_97 (by decide) rfl (Nat.le_of_ble_eq_true rfl) dX10_guest_77 ?_
              exact ret _ _ _ _ dX10_guest_80 rfl (by unfold x_guest; (repeat' split) <;> first | (exfalso; omega) | rfl)
            · replace b55 := jb_f b55
              refine jr_aload_n C dX10_guest_58 rfl ?_
              refine jr_bipush C (v := -2) dX10_guest_59 (by decide) ?_
              refine jr_vip C [.int _] _ (ct_X10_told E _ _) ky_X10_told kv_X10_told kk_X_0 km_X10_97 (by decide) rfl (Nat.le_of_ble_eq_true rfl) dX10_guest_61 ?_
              exact ret _ _ _ _ dX10_guest_64 rfl (by unfold x_guest; (repeat' split) <;> first | (exfalso; omega) | rfl)
          · refine jr_aload_n C dX10_guest_41 rfl ?_
            refine jr_iconst C (v := -1) dX10_guest_42 (by decide) ?_
            refine jr_vip C [.int _] _ (ct_X10_told E _ _) ky_X10_told kv_X10_told kk_X_0 km_X10_97 (by decide) rfl (Nat.le_of_ble_eq_true rfl) dX10_guest_43 ?_
            exact ret _ _ _ _ dX10_guest_46 rfl (by unfold x_guest; (repeat' split) <;> first | (exfalso; omega) | rfl)
    · refine jr_iconst C (v := 1) dX10_guest_10 (by decide) ?_
      refine jr_goto C 15 dX10_guest_11 (by decide) ?_
      refine jr_istore C dX10_guest_15 (by decide) ?_
      refine jr_iload C dX10_guest_17 rfl ?_
      refine jr_if_ne C 47 dX10_guest_19 (by decide) (fun _ => ?_) (fun b => absurd b (by decide))
      refine jr_aload_n C dX10_guest_47 rfl ?_
      refine jr_getr C kf_X10_19_0 dX10_guest_48 ?_
      refine jr_iload_n C dX10_guest_51 rfl ?_
      refine jr_vip C [.int _] _ (ct_X2_has E _ _ (σ.1 2 8) rfl) ky_X2_has kv_X2_has kk_X_2 km_X10_115 (by decide) rfl (Nat.le_of_ble_eq_true rfl) dX10_guest_52 ?_
      refine jr_if_ne C 65 dX10_guest_55 (by decide) (fun b55 => ?_) (fun b55 => ?_)
      · replace b55 := jb_t b55
        refine jr_aload_n C dX10_guest_65 rfl ?_
        refine jr_getr C kf_X10_19_0 dX10_guest_66 ?_
        refine jr_iload_n C dX10_guest_69 rfl ?_
        refine jr_iload_n C dX10_guest_70 rfl ?_
        refine jr_iload_n C dX10_guest_71 rfl ?_
        refine jr_vvp C [.int _, .int _, .int _] _ (ct_X2_setGuest E _ _ _ _ (by omega) (by omega)) ky_X2_setGuest kv_X2_setGuest kk_X_2 km_X10_118 (by decide) rfl (Nat.le_of_ble_eq_true rfl) dX10_guest_72 ?_
        refine jr_aload_n C dX10_guest_75 rfl ?_
        refine jr_iconst C (v := 0) dX10_guest_76 (by decide) ?_
        refine jr_vip C [.int _] _ (ct_X10_told E _ _) ky_X10_told kv_X10_told kk_X_0 km_X10_97 (by decide) rfl (Nat.le_of_ble_eq_true rfl) dX10_guest_77 ?_
        exact ret _ _ _ _ dX10_guest_80 rfl (by unfold x_guest; (repeat' split) <;> first | (exfalso; omega) | rfl)
      · replace b55 := jb_f b55
        refine jr_aload_n C dX10_guest_58 rfl ?_
        refine jr_bipush C (v := -2) dX10_guest_59 (by decide) ?_
        refine jr_vip C [.int _] _ (ct_X10_told E _ _) ky_X10_told kv_X10_told kk_X_0 km_X10_97 (by decide) rfl (Nat.le_of_ble_eq_true rfl) dX10_guest_61 ?_
        exact ret _ _ _ _ dX10_guest_64 rfl (by unfold x_guest; (repeat' split) <;> first | (exfalso; omega) | rfl)
def x_bar (σ : jf_S) (f b m o : Int32) : Int32 × jf_S :=
  if ¬ (0 ≤ b.toInt ∧ b.toInt ≤ 14399) ∨ ¬ (0 ≤ m.toInt ∧ m.toInt ≤ 60) ∨ (¬ o.toInt = -1 ∧ o.toInt = f.toInt) then (-1, x_told σ (-1))
  else if ¬ (0 ≤ f.toInt ∧ f.toInt < ((σ.1 2 8)).toInt) ∨ (¬ o.toInt = -1 ∧ ¬ (0 ≤ o.toInt ∧ o.toInt < ((σ.1 2 8)).toInt)) then (-2, x_told σ (-2))
  else (0, x_told (jf_i (jf_i (jf_i σ 22 f.toNatClampNeg b) 23 f.toNatClampNeg m) 24 f.toNatClampNeg o) 0)
theorem ct_X10_bar (E : jf_E) (σ : jf_S) (f b m o : Int32) (h4 : ((σ.1 2 8)).toInt ≤ 20) : jf_I jh_X E yX10_bar cX10_bar 6 .int 2 [jf_r E 0, .int f, .int b, .int m, .int o] σ (fun r τ => (r, τ) = x_bar σ f b m o) := by
  refine jf_mkI (by decide) (Nat.le_of_ble_eq_true rfl) ?_
  intro G C ret
  refine jr_iload C dX10_bar_0 rfl ?_
  refine jr_iconst C (v := -1) dX10_bar_2 (by decide) ?_
  refine jr_ncmp_eq C (b := -1) 16 dX10_bar_3 (by decide) rfl rfl (fun b3 => ?_) (fun b3 => ?_)
  · refine jr_iconst C (v := 0) dX10_bar_16 (by decide) ?_
    refine jr_istore C dX10_bar_17 (by decide) ?_
    refine jr_iload_n C dX10_bar_19 rfl ?_
    refine jr_sip C [.int _] _ (ct_X10_isMinute E _ _) ky_X10_isMinute ks_X10_isMinute km_X10_112 (by decide) rfl (Nat.le_of_ble_eq_true rfl) dX10_bar_20 ?_
    refine jr_if_eq C 41 dX10_bar_23 (by decide) (fun b23 => ?_) (fun b23 => ?_)
    · replace b23 := jb_f b23
      refine jr_aload_n C dX10_bar_41 rfl ?_
      refine jr_iconst C (v := -1) dX10_bar_42 (by decide) ?_
      refine jr_vip C [.int _] _ (ct_X10_told E _ _) ky_X10_told kv_X10_told kk_X_0 km_X10_97 (by decide) rfl (Nat.le_of_ble_eq_true rfl) dX10_bar_43 ?_
      exact ret _ _ _ _ dX10_bar_46 rfl (by unfold x_bar; (repeat' split) <;> first | (exfalso; omega) | rfl)
    · replace b23 := jb_t b23
      refine jr_iload_n C dX10_bar_26 rfl ?_
      refine jr_iconst C (v := 0) dX10_bar_27 (by decide) ?_
      refine jr_bipush C (v := 60) dX10_bar_28 (by decide) ?_
      refine jr_sip C [.int _, .int _, .int _] _ (ct_X10_withinw E _ _ _ _ 0 60 rfl rfl) ky_X10_within ks_X10_within km_X10_93 (by decide) rfl (Nat.le_of_ble_eq_true rfl) dX10_bar_30 ?_
      refine jr_if_eq C 41 dX10_bar_33 (by decide) (fun b33 => ?_) (fun b33 => ?_)
      · replace b33 := jb_f b33
        refine jr_aload_n C dX10_bar_41 rfl ?_
        refine jr_iconst C (v := -1) dX10_bar_42 (by decide) ?_
        refine jr_vip C [.int _] _ (ct_X10_told E _ _) ky_X10_told kv_X10_told kk_X_0 km_X10_97 (by decide) rfl (Nat.le_of_ble_eq_true rfl) dX10_bar_43 ?_
        exact ret _ _ _ _ dX10_bar_46 rfl (by unfold x_bar; (repeat' split) <;> first | (exfalso; omega) | rfl)
      · replace b33 := jb_t b33
        refine jr_iload C dX10_bar_36 rfl ?_
        refine jr_if_eq C 47 dX10_bar_38 (by decide) (fun _ => ?_) (fun b => absurd b (by decide))
        refine jr_aload_n C dX10_bar_47 rfl ?_
        refine jr_getr C kf_X10_19_0 dX10_bar_48 ?_
        refine jr_iload_n C dX10_bar_51 rfl ?_
        refine jr_vip C [.int _] _ (ct_X2_has E _ _ (σ.1 2 8) rfl) ky_X2_has kv_X2_has kk_X_2 km_X10_115 (by decide) rfl (Nat.le_of_ble_eq_true rfl) dX10_bar_52 ?_
        refine jr_if_eq C 76 dX10_bar_55 (by decide) (fun b55 => ?_) (fun b55 => ?_)
        · replace b55 := jb_f b55
          refine jr_aload_n C dX10_bar_76 rfl ?_
          refine jr_bipush C (v := -2) dX10_bar_77 (by decide) ?_
          refine jr_vip C [.int _] _ (ct_X10_told E _ _) ky_X10_told kv_X10_told kk_X_0 km_X10_97 (by decide) rfl (Nat.le_of_ble_eq_true rfl) dX10_bar_79 ?_
          exact ret _ _ _ _ dX10_bar_82 rfl (by unfold x_bar; (repeat' split) <;> first | (exfalso; omega) | rfl)
        · replace b55 := jb_t b55
          refine jr_iload C dX10_bar_58 rfl ?_
          refine jr_iconst C (v := -1) dX10_bar_60 (by decide) ?_
          refine jr_ncmp_eq C (b := -1) 83 dX10_bar_61 (by decide) rfl rfl (fun b61 => ?_) (fun b61 => ?_)
          · refine jr_aload_n C dX10_bar_83 rfl ?_
            refine jr_getr C kf_X10_19_0 dX10_bar_84 ?_
            refine jr_iload_n C dX10_bar_87 rfl ?_
            refine jr_iload_n C dX10_bar_88 rfl ?_
            refine jr_iload_n C dX10_bar_89 rfl ?_
            refine jr_iload C dX10_bar_90 rfl ?_
            refine jr_vvp C [.int _, .int _, .int _, .int _] _ (ct_X2_setBars E _ _ _ _ _ (by omega) (by omega)) ky_X2_setBars kv_X2_setBars kk_X_2 km_X10_121 (by decide) rfl (Nat.le_of_ble_eq_true rfl) dX10_bar_92 ?_
            refine jr_aload_n C dX10_bar_95 rfl ?_
            refine jr_iconst C (v := 0) dX10_bar_96 (by decide) ?_
            refine jr_vip C [.int _] _ (ct_X10_told E _ _) ky_X10_told kv_X10_told kk_X_0 km_X10_97 (by decide) rfl (Nat.le_of_ble_eq_true rfl) dX10_bar_97 ?_
            exact ret _ _ _ _ dX10_bar_100 rfl (by unfold x_bar; (repeat' split) <;> first | (exfalso; omega) | rfl)
          · refine jr_aload_n C dX10_bar_64 rfl ?_
            refine jr_getr C kf_X10_19_0 dX10_bar_65 ?_
            refine jr_iload C dX10_bar_68 rfl ?_
            refine jr_vip C [.int _] _ (ct_X2_has E _ _ (σ.1 2 8) rfl) ky_X2_has kv_X2_has kk_X_2 km_X10_115 (by decide) rfl (Nat.le_of_ble_eq_true rfl) dX10_bar_70 ?_
            refine jr_if_ne C 83 dX10_bar_73 (by decide) (fun b73 => ?_) (fun b73 => ?_)
            · replace b73 := jb_t b73
              refine jr_aload_n C dX10_bar_83 rfl ?_
              refine jr_getr C kf_X10_19_0 dX10_bar_84 ?_
              refine jr_iload_n C dX10_bar_87 rfl ?_
              refine jr_iload_n C dX10_bar_88 rfl ?_
              refine jr_iload_n C dX10_bar_89 rfl ?_
              refine jr_iload C dX10_bar_90 rfl ?_
              refine jr_vvp C [.int _, .int _, .int _, .int _] _ (ct_X2_setBars E _ _ _ _ _ (by omega) (by omega)) ky_X2_setBars kv_X2_setBars kk_X_2 km_X10_121 (by decide) rfl (Nat.le_of_ble_eq_true rfl) dX10_bar_92 ?_
              refine jr_aload_n C dX10_bar_95 rfl ?_
              refine jr_iconst C (v := 0) dX10_bar_96 (by decide) ?_
              refine jr_vip C [.int _] _ (ct_X10_told E _ _) ky_X10_told kv_X10_told kk_X_0 km_X10_97 (by decide) rfl (Nat.le_of_ble_eq_true rfl) dX10_bar_97 ?_
              exact ret _ _ _ _ dX10_bar_100 rfl (by unfold x_bar; (repeat' split) <;> first | (exfalso; omega) | rfl)
            · replace b73 := jb_f b73
              refine jr_aload_n C dX10_bar_76 rfl ?_
              refine jr_bipush C (v := -2) dX10_bar_77 (by decide) ?_
              refine jr_vip C [.int _] _ (ct_X10_told E _ _) ky_X10_told kv_X10_told kk_X_0 km_X10_97 (by decide) rfl (Nat.le_of_ble_eq_true rfl) dX10_bar_79 ?_
              exact ret _ _ _ _ dX10_bar_82 rfl (by unfold x_bar; (repeat' split) <;> first | (exfalso; omega) | rfl)
  · refine jr_iload C dX10_bar_6 rfl ?_
    refine jr_iload_n C dX10_bar_8 rfl ?_
    refine jr_ncmp_ne C 16 dX10_bar_9 (by decide) rfl rfl (fun b9 => ?_) (fun b9 => ?_)
    · refine jr_iconst C (v := 0) dX10_bar_16 (by decide) ?_
      refine jr_istore C dX10_bar_17 (by decide) ?_
      refine jr_iload_n C dX10_bar_19 rfl ?_
      refine jr_sip C [.int _] _ (ct_X10_isMinute E _ _) ky_X10_isMinute ks_X10_isMinute km_X10_112 (by decide) rfl (Nat.le_of_ble_eq_true rfl) dX10_bar_20 ?_
      refine jr_if_eq C 41 dX10_bar_23 (by decide) (fun b23 => ?_) (fun b23 => ?_)
      · replace b23 := jb_f b23
        refine jr_aload_n C dX10_bar_41 rfl ?_
        refine jr_iconst C (v := -1) dX10_bar_42 (by decide) ?_
        refine jr_vip C [.int _] _ (ct_X10_told E _ _) ky_X10_told kv_X10_told kk_X_0 km_X10_97 (by decide) rfl (Nat.le_of_ble_eq_true rfl) dX10_bar_43 ?_
        exact ret _ _ _ _ dX10_bar_46 rfl (by unfold x_bar; (repeat' split) <;> first | (exfalso; omega) | rfl)
      · replace b23 := jb_t b23
        refine jr_iload_n C dX10_bar_26 rfl ?_
        refine jr_iconst C (v := 0) dX10_bar_27 (by decide) ?_
        refine jr_bipush C (v := 60) dX10_bar_28 (by decide) ?_
        refine jr_sip C [.int _, .int _, .int _] _ (ct_X10_withinw E _ _ _ _ 0 60 rfl rfl) ky_X10_within ks_X10_within km_X10_93 (by decide) rfl (Nat.le_of_ble_eq_true rfl) dX10_bar_30 ?_
        refine jr_if_eq C 41 dX10_bar_33 (by decide) (fun b33 => ?_) (fun b33 => ?_)
        · replace b33 := jb_f b33
          refine jr_aload_n C dX10_bar_41 rfl ?_
          refine jr_iconst C (v := -1) dX10_bar_42 (by decide) ?_
          refine jr_vip C [.int _] _ (ct_X10_told E _ _) ky_X10_told kv_X10_told kk_X_0 km_X10_97 (by decide) rfl (Nat.le_of_ble_eq_true rfl) dX10_bar_43 ?_
          exact ret _ _ _ _ dX10_bar_46 rfl (by unfold x_bar; (repeat' split) <;> first | (exfalso; omega) | rfl)
        · replace b33 := jb_t b33
          refine jr_iload C dX10_bar_36 rfl ?_
          refine jr_if_eq C 47 dX10_bar_38 (by decide) (fun _ => ?_) (fun b => absurd b (by decide))
          refine jr_aload_n C dX10_bar_47 rfl ?_
          refine jr_getr C kf_X10_19_0 dX10_bar_48 ?_
          refine jr_iload_n C dX10_bar_51 rfl ?_
          refine jr_vip C [.int _] _ (ct_X2_has E _ _ (σ.1 2 8) rfl) ky_X2_has kv_X2_has kk_X_2 km_X10_115 (by decide) rfl (Nat.le_of_ble_eq_true rfl) dX10_bar_52 ?_
          refine jr_if_eq C 76 dX10_bar_55 (by decide) (fun b55 => ?_) (fun b55 => ?_)
          · replace b55 := jb_f b55
            refine jr_aload_n C dX10_bar_76 rfl ?_
            refine jr_bipush C (v := -2) dX10_bar_77 (by decide) ?_
            refine jr_vip C [.int _] _ (ct_X10_told E _ _) ky_X10_told kv_X10_told kk_X_0 km_X10_97 (by decide) rfl (Nat.le_of_ble_eq_true rfl) dX10_bar_79 ?_
            exact ret _ _ _ _ dX10_bar_82 rfl (by unfold x_bar; (repeat' split) <;> first | (exfalso; omega) | rfl)
          · replace b55 := jb_t b55
            refine jr_iload C dX10_bar_58 rfl ?_
            refine jr_iconst C (v := -1) dX10_bar_60 (by decide) ?_
            refine jr_ncmp_eq C (b := -1) 83 dX10_bar_61 (by decide) rfl rfl (fun b61 => ?_) (fun b61 => ?_)
            · refine jr_aload_n C dX10_bar_83 rfl ?_
              refine jr_getr C kf_X10_19_0 dX10_bar_84 ?_
              refine jr_iload_n C dX10_bar_87 rfl ?_
              refine jr_iload_n C dX10_bar_88 rfl ?_
              refine jr_iload_n C dX10_bar_89 rfl ?_
              refine jr_iload C dX10_bar_90 rfl ?_
              refine jr_vvp C [.int _, .int _, .int _, .int _] _ (ct_X2_setBars E _ _ _ _ _ (by omega) (by omega)) ky_X2_setBars kv_X2_setBars kk_X_2 km_X10_121 (by decide) rfl (Nat.le_of_ble_eq_true rfl) dX10_bar_92 ?_
              refine jr_aload_n C dX10_bar_95 rfl ?_
              refine jr_iconst C (v := 0) dX10_bar_96 (by decide) ?_
              refine jr_vip C [.int _] _ (ct_X10_told E _ _) ky_X10_told kv_X10_told kk_X_0 km_X10_97 (by decide) rfl (Nat.le_of_ble_eq_true rfl) dX10_bar_97 ?_
              exact ret _ _ _ _ dX10_bar_100 rfl (by unfold x_bar; (repeat' split) <;> first | (exfalso; omega) | rfl)
            · refine jr_aload_n C dX10_bar_64 rfl ?_
              refine jr_getr C kf_X10_19_0 dX10_bar_65 ?_
              refine jr_iload C dX10_bar_68 rfl ?_
              refine jr_vip C [.int _] _ (ct_X2_has E _ _ (σ.1 2 8) rfl) ky_X2_has kv_X2_has kk_X_2 km_X10_115 (by decide) rfl (Nat.le_of_ble_eq_true rfl) dX10_bar_70 ?_
              refine jr_if_ne C 83 dX10_bar_73 (by decide) (fun b73 => ?_) (fun b73 => ?_)
              · replace b73 := jb_t b73
                refine jr_aload_n C dX10_bar_83 rfl ?_
                refine jr_getr C kf_X10_19_0 dX10_bar_84 ?_
                refine jr_iload_n C dX10_bar_87 rfl ?_
                refine jr_iload_n C dX10_bar_88 rfl ?_
                refine jr_iload_n C dX10_bar_89 rfl ?_
                refine jr_iload C dX10_bar_90 rfl ?_
                refine jr_vvp C [.int _, .int _, .int _, .int _] _ (ct_X2_setBars E _ _ _ _ _ (by omega) (by omega)) ky_X2_setBars kv_X2_setBars kk_X_2 km_X10_121 (by decide) rfl (Nat.le_of_ble_eq_true rfl) dX10_bar_92 ?_
                refine jr_aload_n C dX10_bar_95 rfl ?_
                refine jr_iconst C (v := 0) dX10_bar_96 (by decide) ?_
                refine jr_vip C [.int _] _ (ct_X10_told E _ _) ky_X10_told kv_X10_told kk_X_0 km_X10_97 (by decide) rfl (Nat.le_of_ble_eq_true rfl) dX10_bar_97 ?_
                exact ret _ _ _ _ dX10_bar_100 rfl (by unfold x_bar; (repeat' split) <;> first | (exfalso; omega) | rfl)
              · replace b73 := jb_f b73
                refine jr_aload_n C dX10_bar_76 rfl ?_
                refine jr_bipush C (v := -2) dX10_bar_77 (by decide) ?_
                refine jr_vip C [.int _] _ (ct_X10_told E _ _) ky_X10_told kv_X10_told kk_X_0 km_X10_97 (by decide) rfl (Nat.le_of_ble_eq_true rfl) dX10_bar_79 ?_
                exact ret _ _ _ _ dX10_bar_82 rfl (by unfold x_bar; (repeat' split) <;> first | (exfalso; omega) | rfl)
    · refine jr_iconst C (v := 1) dX10_bar_12 (by decide) ?_
      refine jr_goto C 17 dX10_bar_13 (by decide) ?_
      refine jr_istore C dX10_bar_17 (by decide) ?_
      refine jr_iload_n C dX10_bar_19 rfl ?_
      refine jr_sip C [.int _] _ (ct_X10_isMinute E _ _) ky_X10_isMinute ks_X10_isMinute km_X10_112 (by decide) rfl (Nat.le_of_ble_eq_true rfl) dX10_bar_20 ?_
      refine jr_if_eq C 41 dX10_bar_23 (by decide) (fun b23 => ?_) (fun b23 => ?_)
      · replace b23 := jb_f b23
        refine jr_aload_n C dX10_bar_41 rfl ?_
        refine jr_iconst C (v := -1) dX10_bar_42 (by decide) ?_
        refine jr_vip C [.int _] _ (ct_X10_told E _ _) ky_X10_told kv_X10_told kk_X_0 km_X10_97 (by decide) rfl (Nat.le_of_ble_eq_true rfl) dX10_bar_43 ?_
        exact ret _ _ _ _ dX10_bar_46 rfl (by unfold x_bar; (repeat' split) <;> first | (exfalso; omega) | rfl)
      · replace b23 := jb_t b23
        refine jr_iload_n C dX10_bar_26 rfl ?_
        refine jr_iconst C (v := 0) dX10_bar_27 (by decide) ?_
        refine jr_bipush C (v := 60) dX10_bar_28 (by decide) ?_
        refine jr_sip C [.int _, .int _, .int _] _ (ct_X10_withinw E _ _ _ _ 0 60 rfl rfl) ky_X10_within ks_X10_within km_X10_93 (by decide) rfl (Nat.le_of_ble_eq_true rfl) dX10_bar_30 ?_
        refine jr_if_eq C 41 dX10_bar_33 (by decide) (fun b33 => ?_) (fun b33 => ?_)
        · replace b33 := jb_f b33
          refine jr_aload_n C dX10_bar_41 rfl ?_
          refine jr_iconst C (v := -1) dX10_bar_42 (by decide) ?_
          refine jr_vip C [.int _] _ (ct_X10_told E _ _) ky_X10_told kv_X10_told kk_X_0 km_X10_97 (by decide) rfl (Nat.le_of_ble_eq_true rfl) dX10_bar_43 ?_
          exact ret _ _ _ _ dX10_bar_46 rfl (by unfold x_bar; (repeat' split) <;> first | (exfalso; omega) | rfl)
        · replace b33 := jb_t b33
          refine jr_iload C dX10_bar_36 rfl ?_
          refine jr_if_eq C 47 dX10_bar_38 (by decide) (fun b => absurd b (by decide)) (fun _ => ?_)
          refine jr_aload_n C dX10_bar_41 rfl ?_
          refine jr_iconst C (v := -1) dX10_bar_42 (by decide) ?_
          refine jr_vip C [.int _] _ (ct_X10_told E _ _) ky_X10_told kv_X10_told kk_X_0 km_X10_97 (by decide) rfl (Nat.le_of_ble_eq_true rfl) dX10_bar_43 ?_
          exact ret _ _ _ _ dX10_bar_46 rfl (by unfold x_bar; (repeat' split) <;> first | (exfalso; omega) | rfl)
def x_part (σ : jf_S) (h p : Int32) : Int32 × jf_S :=
  if ¬ ((0 ≤ h.toInt ∧ h.toInt ≤ 23) ∧ (0 ≤ p.toInt ∧ p.toInt ≤ 300)) then (-1, x_told σ (-1))
  else (0, x_told (jf_i σ 33 h.toNatClampNeg p) 0)
theorem ct_X10_part (E : jf_E) (σ : jf_S) (h p : Int32) : jf_I jh_X E yX10_part cX10_part 3 .int 2 [jf_r E 0, .int h, .int p] σ (fun r τ => (r, τ) = x_part σ h p) := by
  refine jf_mkI (by decide) (Nat.le_of_ble_eq_true rfl) ?_
  intro G C ret
  refine jr_iload_n C dX10_part_0 rfl ?_
  refine jr_iconst C (v := 0) dX10_part_1 (by decide) ?_
  refine jr_bipush C (v := 23) dX10_part_2 (by decide) ?_
  refine jr_sip C [.int _, .int _, .int _] _ (ct_X10_withinw E _ _ _ _ 0 23 rfl rfl) ky_X10_within ks_X10_within km_X10_93 (by decide) rfl (Nat.le_of_ble_eq_true rfl) dX10_part_4 ?_
  refine jr_if_eq C 21 dX10_part_7 (by decide) (fun b7 => ?_) (fun b7 => ?_)
  · replace b7 := jb_f b7
    refine jr_aload_n C dX10_part_21 rfl ?_
    refine jr_iconst C (v := -1) dX10_part_22 (by decide) ?_
    refine jr_vip C [.int _] _ (ct_X10_told E _ _) ky_X10_told kv_X10_told kk_X_0 km_X10_97 (by decide) rfl (Nat.le_of_ble_eq_true rfl) dX10_part_23 ?_
    exact ret _ _ _ _ dX10_part_26 rfl (by unfold x_part; (repeat' split) <;> first | (exfalso; omega) | rfl)
  · replace b7 := jb_t b7
    refine jr_iload_n C dX10_part_10 rfl ?_
    refine jr_iconst C (v := 0) dX10_part_11 (by decide) ?_
    refine jr_sipush C (v := 300) dX10_part_12 (by decide) ?_
    refine jr_sip C [.int _, .int _, .int _] _ (ct_X10_withinw E _ _ _ _ 0 300 rfl rfl) ky_X10_within ks_X10_within km_X10_93 (by decide) rfl (Nat.le_of_ble_eq_true rfl) dX10_part_15 ?_
    refine jr_if_ne C 27 dX10_part_18 (by decide) (fun b18 => ?_) (fun b18 => ?_)
    · replace b18 := jb_t b18
      refine jr_aload_n C dX10_part_27 rfl ?_
      refine jr_getr C kf_X10_44_0 dX10_part_28 ?_
      refine jr_getr C kf_X10_170_5 dX10_part_31 ?_
      refine jr_iload_n C dX10_part_34 rfl ?_
      refine jr_iload_n C dX10_part_35 rfl ?_
      refine jr_iast C ka_X_33 dX10_part_36 (ji_in (i := h) (by omega) (by omega)) ?_
      refine jr_aload_n C dX10_part_37 rfl ?_
      refine jr_iconst C (v := 0) dX10_part_38 (by decide) ?_
      refine jr_vip C [.int _] _ (ct_X10_told E _ _) ky_X10_told kv_X10_told kk_X_0 km_X10_97 (by decide) rfl (Nat.le_of_ble_eq_true rfl) dX10_part_39 ?_
      exact ret _ _ _ _ dX10_part_42 rfl (by unfold x_part; (repeat' split) <;> first | (exfalso; omega) | rfl)
    · replace b18 := jb_f b18
      refine jr_aload_n C dX10_part_21 rfl ?_
      refine jr_iconst C (v := -1) dX10_part_22 (by decide) ?_
      refine jr_vip C [.int _] _ (ct_X10_told E _ _) ky_X10_told kv_X10_told kk_X_0 km_X10_97 (by decide) rfl (Nat.le_of_ble_eq_true rfl) dX10_part_23 ?_
      exact ret _ _ _ _ dX10_part_26 rfl (by unfold x_part; (repeat' split) <;> first | (exfalso; omega) | rfl)
def x_hradd (σ : jf_S) (m : Int32) : Int32 × jf_S :=
  if 10 ≤ ((σ.1 5 8)).toInt then (-5, σ)
  else ((σ.1 5 8) + 1, jf_i (jf_i σ 34 ((σ.1 5 8)).toNatClampNeg m) 5 8 ((σ.1 5 8) + 1))
theorem ct_X9_addHour (E : jf_E) (σ : jf_S) (m : Int32) (h0 : 0 ≤ ((σ.1 5 8)).toInt) : jf_I jh_X E yX9_addHour cX9_addHour 2 .int 0 [jf_r E 5, .int m] σ (fun r τ => r = (x_hradd σ m).1 ∧ τ = (x_hradd σ m).2) := by
  refine jf_mkI (by decide) (Nat.le_of_ble_eq_true rfl) ?_
  intro G C ret
  refine jr_aload_n C dX9_addHour_0 rfl ?_
  refine jr_getv C kf_X9_24_5 dX9_addHour_1 (v := σ.1 5 8) rfl ?_
  refine jr_bipush C (v := 10) dX9_addHour_4 (by decide) ?_
  refine jr_ncmp_lt C (b := 10) 12 dX9_addHour_6 (by decide) rfl rfl (fun b6 => ?_) (fun b6 => ?_)
  · refine jr_aload_n C dX9_addHour_12 rfl ?_
    refine jr_getr C kf_X9_15_5 dX9_addHour_13 ?_
    refine jr_aload_n C dX9_addHour_16 rfl ?_
    refine jr_getv C kf_X9_24_5 dX9_addHour_17 (v := σ.1 5 8) rfl ?_
    refine jr_iload_n C dX9_addHour_20 rfl ?_
    refine jr_iast C ka_X_34 dX9_addHour_21 (ji_in (i := (σ.1 5 8)) h0 (by omega)) ?_
    refine jr_aload_n C dX9_addHour_22 rfl ?_
    refine jr_dup C dX9_addHour_23 rfl ?_
    refine jr_getv C kf_X9_24_5 dX9_addHour_24 (v := σ.1 5 8) rfl ?_
    refine jr_iconst C (v := 1) dX9_addHour_27 (by decide) ?_
    refine jr_iadd C dX9_addHour_28 ?_
    refine jr_puti C kp_X9_24_5 dX9_addHour_29 ?_
    refine jr_aload_n C dX9_addHour_32 rfl ?_
    refine jr_geti C kf_X9_24_5 dX9_addHour_33 ?_
    exact ret _ _ _ _ dX9_addHour_36 rfl (by unfold x_hradd; (repeat' split) <;> first | (exfalso; omega) | exact ⟨rfl, rfl⟩)
  · refine jr_bipush C (v := -5) dX9_addHour_9 (by decide) ?_
    exact ret _ _ _ _ dX9_addHour_11 rfl (by unfold x_hradd; (repeat' split) <;> first | (exfalso; omega) | exact ⟨rfl, rfl⟩)
def x_hour (σ : jf_S) (m : Int32) : Int32 × jf_S :=
  if ¬ (0 ≤ m.toInt ∧ m.toInt ≤ 14399) then (-1, x_told σ (-1))
  else ((x_hradd σ m).1, x_told (x_hradd σ m).2 (x_hradd σ m).1)
theorem ct_X10_hour (E : jf_E) (σ : jf_S) (m : Int32) (h0 : 0 ≤ ((σ.1 5 8)).toInt) : jf_I jh_X E yX10_hour cX10_hour 2 .int 2 [jf_r E 0, .int m] σ (fun r τ => (r, τ) = x_hour σ m) := by
  refine jf_mkI (by decide) (Nat.le_of_ble_eq_true rfl) ?_
  intro G C ret
  refine jr_iload_n C dX10_hour_0 rfl ?_
  refine jr_sip C [.int _] _ (ct_X10_isMinute E _ _) ky_X10_isMinute ks_X10_isMinute km_X10_112 (by decide) rfl (Nat.le_of_ble_eq_true rfl) dX10_hour_1 ?_
  refine jr_if_ne C 13 dX10_hour_4 (by decide) (fun b4 => ?_) (fun b4 => ?_)
  · replace b4 := jb_t b4
    refine jr_aload_n C dX10_hour_13 rfl ?_
    refine jr_aload_n C dX10_hour_14 rfl ?_
    refine jr_getr C kf_X10_44_0 dX10_hour_15 ?_
    refine jr_iload_n C dX10_hour_18 rfl ?_
    refine jr_vip C [.int _] _ (ct_X9_addHour E _ _ h0) ky_X9_addHour kv_X9_addHour kk_X_5 km_X10_177 (by decide) rfl (Nat.le_of_ble_eq_true rfl) dX10_hour_19 ?_
    refine jr_vip C [.int _] _ (ct_X10_told E _ _) ky_X10_told kv_X10_told kk_X_0 km_X10_97 (by decide) rfl (Nat.le_of_ble_eq_true rfl) dX10_hour_22 ?_
    exact ret _ _ _ _ dX10_hour_25 rfl (by unfold x_hour; (repeat' split) <;> first | (exfalso; omega) | rfl)
  · replace b4 := jb_f b4
    refine jr_aload_n C dX10_hour_7 rfl ?_
    refine jr_iconst C (v := -1) dX10_hour_8 (by decide) ?_
    refine jr_vip C [.int _] _ (ct_X10_told E _ _) ky_X10_told kv_X10_told kk_X_0 km_X10_97 (by decide) rfl (Nat.le_of_ble_eq_true rfl) dX10_hour_9 ?_
    exact ret _ _ _ _ dX10_hour_12 rfl (by unfold x_hour; (repeat' split) <;> first | (exfalso; omega) | rfl)
def x_doors (σ : jf_S) (m : Int32) : Int32 × jf_S :=
  if ¬ (1 ≤ m.toInt ∧ m.toInt ≤ 500) then (-1, x_told σ (-1))
  else ((σ.1 6 6), x_told (jf_i σ 6 6 m) ((σ.1 6 6)))
theorem ct_X10_doors (E : jf_E) (σ : jf_S) (m : Int32) : jf_I jh_X E yX10_doors cX10_doors 3 .int 2 [jf_r E 0, .int m] σ (fun r τ => (r, τ) = x_doors σ m) := by
  refine jf_mkI (by decide) (Nat.le_of_ble_eq_true rfl) ?_
  intro G C ret
  refine jr_iload_n C dX10_doors_0 rfl ?_
  refine jr_iconst C (v := 1) dX10_doors_1 (by decide) ?_
  refine jr_sipush C (v := 500) dX10_doors_2 (by decide) ?_
  refine jr_sip C [.int _, .int _, .int _] _ (ct_X10_withinw E _ _ _ _ 1 500 rfl rfl) ky_X10_within ks_X10_within km_X10_93 (by decide) rfl (Nat.le_of_ble_eq_true rfl) dX10_doors_5 ?_
  refine jr_if_ne C 17 dX10_doors_8 (by decide) (fun b8 => ?_) (fun b8 => ?_)
  · replace b8 := jb_t b8
    refine jr_aload_n C dX10_doors_17 rfl ?_
    refine jr_getr C kf_X10_51_0 dX10_doors_18 ?_
    refine jr_getv C kf_X10_186_6 dX10_doors_21 (v := σ.1 6 6) rfl ?_
    refine jr_istore_n C dX10_doors_24 (by decide) ?_
    refine jr_aload_n C dX10_doors_25 rfl ?_
    refine jr_getr C kf_X10_51_0 dX10_doors_26 ?_
    refine jr_iload_n C dX10_doors_29 rfl ?_
    refine jr_puti C kp_X10_186_6 dX10_doors_30 ?_
    refine jr_aload_n C dX10_doors_33 rfl ?_
    refine jr_iload_n C dX10_doors_34 rfl ?_
    refine jr_vip C [.int _] _ (ct_X10_told E _ _) ky_X10_told kv_X10_told kk_X_0 km_X10_97 (by decide) rfl (Nat.le_of_ble_eq_true rfl) dX10_doors_35 ?_
    exact ret _ _ _ _ dX10_doors_38 rfl (by unfold x_doors; (repeat' split) <;> first | (exfalso; omega) | rfl)
  · replace b8 := jb_f b8
    refine jr_aload_n C dX10_doors_11 rfl ?_
    refine jr_iconst C (v := -1) dX10_doors_12 (by decide) ?_
    refine jr_vip C [.int _] _ (ct_X10_told E _ _) ky_X10_told kv_X10_told kk_X_0 km_X10_97 (by decide) rfl (Nat.le_of_ble_eq_true rfl) dX10_doors_13 ?_
    exact ret _ _ _ _ dX10_doors_16 rfl (by unfold x_doors; (repeat' split) <;> first | (exfalso; omega) | rfl)
def x_jadd (σ : jf_S) (a : Int32) : Int32 × jf_S :=
  if 10 ≤ ((σ.1 7 7)).toInt then (-5, σ)
  else ((σ.1 7 7) + 1 - 1, jf_i (jf_i σ 40 ((σ.1 7 7)).toNatClampNeg a) 7 7 ((σ.1 7 7) + 1))
theorem ct_X4_add (E : jf_E) (σ : jf_S) (a : Int32) (h0 : 0 ≤ ((σ.1 7 7)).toInt) : jf_I jh_X E yX4_add cX4_add 2 .int 0 [jf_r E 7, .int a] σ (fun r τ => r = (x_jadd σ a).1 ∧ τ = (x_jadd σ a).2) := by
  refine jf_mkI (by decide) (Nat.le_of_ble_eq_true rfl) ?_
  intro G C ret
  refine jr_aload_n C dX4_add_0 rfl ?_
  refine jr_getv C kf_X4_33_7 dX4_add_1 (v := σ.1 7 7) rfl ?_
  refine jr_bipush C (v := 10) dX4_add_4 (by decide) ?_
  refine jr_ncmp_lt C (b := 10) 12 dX4_add_6 (by decide) rfl rfl (fun b6 => ?_) (fun b6 => ?_)
  · refine jr_aload_n C dX4_add_12 rfl ?_
    refine jr_getr C kf_X4_9_7 dX4_add_13 ?_
    refine jr_aload_n C dX4_add_16 rfl ?_
    refine jr_getv C kf_X4_33_7 dX4_add_17 (v := σ.1 7 7) rfl ?_
    refine jr_iload_n C dX4_add_20 rfl ?_
    refine jr_iast C ka_X_40 dX4_add_21 (ji_in (i := (σ.1 7 7)) h0 (by omega)) ?_
    refine jr_aload_n C dX4_add_22 rfl ?_
    refine jr_dup C dX4_add_23 rfl ?_
    refine jr_getv C kf_X4_33_7 dX4_add_24 (v := σ.1 7 7) rfl ?_
    refine jr_iconst C (v := 1) dX4_add_27 (by decide) ?_
    refine jr_iadd C dX4_add_28 ?_
    refine jr_puti C kp_X4_33_7 dX4_add_29 ?_
    refine jr_aload_n C dX4_add_32 rfl ?_
    refine jr_geti C kf_X4_33_7 dX4_add_33 ?_
    refine jr_iconst C (v := 1) dX4_add_36 (by decide) ?_
    refine jr_isub C dX4_add_37 ?_
    exact ret _ _ _ _ dX4_add_38 rfl (by unfold x_jadd; (repeat' split) <;> first | (exfalso; omega) | exact ⟨rfl, rfl⟩)
  · refine jr_bipush C (v := -5) dX4_add_9 (by decide) ?_
    exact ret _ _ _ _ dX4_add_11 rfl (by unfold x_jadd; (repeat' split) <;> first | (exfalso; omega) | exact ⟨rfl, rfl⟩)
def x_juror (σ : jf_S) (a : Int32) : Int32 × jf_S :=
  if ¬ (0 ≤ a.toInt ∧ a.toInt ≤ 120) then (-1, x_told σ (-1))
  else ((x_jadd σ a).1, x_told (x_jadd σ a).2 (x_jadd σ a).1)
theorem ct_X10_juror (E : jf_E) (σ : jf_S) (a : Int32) (h0 : 0 ≤ ((σ.1 7 7)).toInt) : jf_I jh_X E yX10_juror cX10_juror 2 .int 2 [jf_r E 0, .int a] σ (fun r τ => (r, τ) = x_juror σ a) := by
  refine jf_mkI (by decide) (Nat.le_of_ble_eq_true rfl) ?_
  intro G C ret
  refine jr_iload_n C dX10_juror_0 rfl ?_
  refine jr_iconst C (v := 0) dX10_juror_1 (by decide) ?_
  refine jr_bipush C (v := 120) dX10_juror_2 (by decide) ?_
  refine jr_sip C [.int _, .int _, .int _] _ (ct_X10_withinw E _ _ _ _ 0 120 rfl rfl) ky_X10_within ks_X10_within km_X10_93 (by decide) rfl (Nat.le_of_ble_eq_true rfl) dX10_juror_4 ?_
  refine jr_if_ne C 16 dX10_juror_7 (by decide) (fun b7 => ?_) (fun b7 => ?_)
  · replace b7 := jb_t b7
    refine jr_aload_n C dX10_juror_16 rfl ?_
    refine jr_aload_n C dX10_juror_17 rfl ?_
    refine jr_getr C kf_X10_58_0 dX10_juror_18 ?_
    refine jr_iload_n C dX10_juror_21 rfl ?_
    refine jr_vip C [.int _] _ (ct_X4_add E _ _ h0) ky_X4_add kv_X4_add kk_X_7 km_X10_202 (by decide) rfl (Nat.le_of_ble_eq_true rfl) dX10_juror_22 ?_
    refine jr_vip C [.int _] _ (ct_X10_told E _ _) ky_X10_told kv_X10_told kk_X_0 km_X10_97 (by decide) rfl (Nat.le_of_ble_eq_true rfl) dX10_juror_25 ?_
    exact ret _ _ _ _ dX10_juror_28 rfl (by unfold x_juror; (repeat' split) <;> first | (exfalso; omega) | rfl)
  · replace b7 := jb_f b7
    refine jr_aload_n C dX10_juror_10 rfl ?_
    refine jr_iconst C (v := -1) dX10_juror_11 (by decide) ?_
    refine jr_vip C [.int _] _ (ct_X10_told E _ _) ky_X10_told kv_X10_told kk_X_0 km_X10_97 (by decide) rfl (Nat.le_of_ble_eq_true rfl) dX10_juror_12 ?_
    exact ret _ _ _ _ dX10_juror_15 rfl (by unfold x_juror; (repeat' split) <;> first | (exfalso; omega) | rfl)
def x_clear (σ : jf_S) (j : Int32) : Int32 × jf_S :=
  if ¬ (0 ≤ j.toInt ∧ j.toInt < ((σ.1 7 7)).toInt) then (-2, x_told σ (-2))
  else ((σ.1 41) j.toNatClampNeg, x_told (jf_i σ 41 j.toNatClampNeg 0) ((σ.1 41) j.toNatClampNeg))
theorem ct_X10_clear (E : jf_E) (σ : jf_S) (j : Int32) (h4 : ((σ.1 7 7)).toInt ≤ 10) : jf_I jh_X E yX10_clear cX10_clear 3 .int 2 [jf_r E 0, .int j] σ (fun r τ => (r, τ) = x_clear σ j) := by
  refine jf_mkI (by decide) (Nat.le_of_ble_eq_true rfl) ?_
  intro G C ret
  refine jr_aload_n C dX10_clear_0 rfl ?_
  refine jr_getr C kf_X10_58_0 dX10_clear_1 ?_
  refine jr_iload_n C dX10_clear_4 rfl ?_
  refine jr_vip C [.int _] _ (ct_X4_has E _ _ (σ.1 7 7) rfl) ky_X4_has kv_X4_has kk_X_7 km_X10_204 (by decide) rfl (Nat.le_of_ble_eq_true rfl) dX10_clear_5 ?_
  refine jr_if_ne C 18 dX10_clear_8 (by decide) (fun b8 => ?_) (fun b8 => ?_)
  · replace b8 := jb_t b8
    refine jr_aload_n C dX10_clear_18 rfl ?_
    refine jr_getr C kf_X10_58_0 dX10_clear_19 ?_
    refine jr_getr C kf_X10_209_7 dX10_clear_22 ?_
    refine jr_iload_n C dX10_clear_25 rfl ?_
    refine jr_ialv C ka_X_41 dX10_clear_26 (ji_in (i := j) (by omega) (by omega)) (v := σ.1 41 _) rfl ?_
    refine jr_istore_n C dX10_clear_27 (by decide) ?_
    refine jr_aload_n C dX10_clear_28 rfl ?_
    refine jr_getr C kf_X10_58_0 dX10_clear_29 ?_
    refine jr_getr C kf_X10_209_7 dX10_clear_32 ?_
    refine jr_iload_n C dX10_clear_35 rfl ?_
    refine jr_iconst C (v := 0) dX10_clear_36 (by decide) ?_
    refine jr_iast C ka_X_41 dX10_clear_37 (ji_in (i := j) (by omega) (by omega)) ?_
    refine jr_aload_n C dX10_clear_38 rfl ?_
    refine jr_iload_n C dX10_clear_39 rfl ?_
    refine jr_vip C [.int _] _ (ct_X10_told E _ _) ky_X10_told kv_X10_told kk_X_0 km_X10_97 (by decide) rfl (Nat.le_of_ble_eq_true rfl) dX10_clear_40 ?_
    exact ret _ _ _ _ dX10_clear_43 rfl (by unfold x_clear; (repeat' split) <;> first | (exfalso; omega) | rfl)
  · replace b8 := jb_f b8
    refine jr_aload_n C dX10_clear_11 rfl ?_
    refine jr_bipush C (v := -2) dX10_clear_12 (by decide) ?_
    refine jr_vip C [.int _] _ (ct_X10_told E _ _) ky_X10_told kv_X10_told kk_X_0 km_X10_97 (by decide) rfl (Nat.le_of_ble_eq_true rfl) dX10_clear_14 ?_
    exact ret _ _ _ _ dX10_clear_17 rfl (by unfold x_clear; (repeat' split) <;> first | (exfalso; omega) | rfl)
def x_radd (σ : jf_S) (s j f k : Int32) : Int32 × jf_S :=
  if 100 ≤ ((σ.1 7 8)).toInt then (-5, σ)
  else ((σ.1 7 8) + 1, jf_i (jf_i (jf_i (jf_i (jf_i σ 43 ((σ.1 7 8)).toNatClampNeg s) 44 ((σ.1 7 8)).toNatClampNeg j) 45 ((σ.1 7 8)).toNatClampNeg f) 46 ((σ.1 7 8)).toNatClampNeg k) 7 8 ((σ.1 7 8) + 1))
theorem ct_X4_addRow (E : jf_E) (σ : jf_S) (s j f k : Int32) (h0 : 0 ≤ ((σ.1 7 8)).toInt) : jf_I jh_X E yX4_addRow cX4_addRow 5 .int 0 [jf_r E 7, .int s, .int j, .int f, .int k] σ (fun r τ => r = (x_radd σ s j f k).1 ∧ τ = (x_radd σ s j f k).2) := by
  refine jf_mkI (by decide) (Nat.le_of_ble_eq_true rfl) ?_
  intro G C ret
  refine jr_aload_n C dX4_addRow_0 rfl ?_
  refine jr_getv C kf_X4_37_7 dX4_addRow_1 (v := σ.1 7 8) rfl ?_
  refine jr_bipush C (v := 100) dX4_addRow_4 (by decide) ?_
  refine jr_ncmp_lt C (b := 100) 12 dX4_addRow_6 (by decide) rfl rfl (fun b6 => ?_) (fun b6 => ?_)
  · refine jr_aload_n C dX4_addRow_12 rfl ?_
    refine jr_getr C kf_X4_21_7 dX4_addRow_13 ?_
    refine jr_aload_n C dX4_addRow_16 rfl ?_
    refine jr_getv C kf_X4_37_7 dX4_addRow_17 (v := σ.1 7 8) rfl ?_
    refine jr_iload_n C dX4_addRow_20 rfl ?_
    refine jr_iast C ka_X_43 dX4_addRow_21 (ji_in (i := (σ.1 7 8)) h0 (by omega)) ?_
    refine jr_aload_n C dX4_addRow_22 rfl ?_
    refine jr_getr C kf_X4_24_7 dX4_addRow_23 ?_
    refine jr_aload_n C dX4_addRow_26 rfl ?_
    refine jr_getv C kf_X4_37_7 dX4_addRow_27 (v := σ.1 7 8) rfl ?_
    refine jr_iload_n C dX4_addRow_30 rfl ?_
    refine jr_iast C ka_X_44 dX4_addRow_31 (ji_in (i := (σ.1 7 8)) h0 (by omega)) ?_
    refine jr_aload_n C dX4_addRow_32 rfl ?_
    refine jr_getr C kf_X4_27_7 dX4_addRow_33 ?_
    refine jr_aload_n C dX4_addRow_36 rfl ?_
    refine jr_getv C kf_X4_37_7 dX4_addRow_37 (v := σ.1 7 8) rfl ?_
    refine jr_iload_n C dX4_addRow_40 rfl ?_
    refine jr_iast C ka_X_45 dX4_addRow_41 (ji_in (i := (σ.1 7 8)) h0 (by omega)) ?_
    refine jr_aload_n C dX4_addRow_42 rfl ?_
    refine jr_getr C kf_X4_30_7 dX4_addRow_43 ?_
    refine jr_aload_n C dX4_addRow_46 rfl ?_
    refine jr_getv C kf_X4_37_7 dX4_addRow_47 (v := σ.1 7 8) rfl ?_
    refine jr_iload C dX4_addRow_50 rfl ?_
    refine jr_iast C ka_X_46 dX4_addRow_52 (ji_in (i := (σ.1 7 8)) h0 (by omega)) ?_
    refine jr_aload_n C dX4_addRow_53 rfl ?_
    refine jr_dup C dX4_addRow_54 rfl ?_
    refine jr_getv C kf_X4_37_7 dX4_addRow_55 (v := σ.1 7 8) rfl ?_
    refine jr_iconst C (v := 1) dX4_addRow_58 (by decide) ?_
    refine jr_iadd C dX4_addRow_59 ?_
    refine jr_puti C kp_X4_37_7 dX4_addRow_60 ?_
    refine jr_aload_n C dX4_addRow_63 rfl ?_
    refine jr_geti C kf_X4_37_7 dX4_addRow_64 ?_
    exact ret _ _ _ _ dX4_addRow_67 rfl (by unfold x_radd; (repeat' split) <;> first | (exfalso; omega) | exact ⟨rfl, rfl⟩)
  · refine jr_bipush C (v := -5) dX4_addRow_9 (by decide) ?_
    exact ret _ _ _ _ dX4_addRow_11 rfl (by unfold x_radd; (repeat' split) <;> first | (exfalso; omega) | exact ⟨rfl, rfl⟩)
def x_row (σ : jf_S) (s j f k : Int32) : Int32 × jf_S :=
  if ¬ ((0 ≤ s.toInt ∧ s.toInt ≤ 1) ∧ (0 ≤ k.toInt ∧ k.toInt ≤ 100000)) then (-1, x_told σ (-1))
  else if ¬ ((0 ≤ j.toInt ∧ j.toInt < ((σ.1 7 7)).toInt) ∧ (0 ≤ f.toInt ∧ f.toInt < ((σ.1 2 8)).toInt)) then (-2, x_told σ (-2))
  else ((x_radd σ s j f k).1, x_told (x_radd σ s j f k).2 (x_radd σ s j f k).1)
theorem ct_X10_row (E : jf_E) (σ : jf_S) (s j f k : Int32) (h0 : 0 ≤ ((σ.1 7 8)).toInt) : jf_I jh_X E yX10_row cX10_row 5 .int 2 [jf_r E 0, .int s, .int j, .int f, .int k] σ (fun r τ => (r, τ) = x_row σ s j f k) := by
  refine jf_mkI (by decide) (Nat.le_of_ble_eq_true rfl) ?_
  intro G C ret
  refine jr_iload_n C dX10_row_0 rfl ?_
  refine jr_iconst C (v := 0) dX10_row_1 (by decide) ?_
  refine jr_iconst C (v := 1) dX10_row_2 (by decide) ?_
  refine jr_sip C [.int _, .int _, .int _] _ (ct_X10_withinw E _ _ _ _ 0 1 rfl rfl) ky_X10_within ks_X10_within km_X10_93 (by decide) rfl (Nat.le_of_ble_eq_true rfl) dX10_row_3 ?_
  refine jr_if_eq C 17 dX10_row_6 (by decide) (fun b6 => ?_) (fun b6 => ?_)
  · replace b6 := jb_f b6
    refine jr_aload_n C dX10_row_17 rfl ?_
    refine jr_iconst C (v := -1) dX10_row_18 (by decide) ?_
    refine jr_vip C [.int _] _ (ct_X10_told E _ _) ky_X10_told kv_X10_told kk_X_0 km_X10_97 (by decide) rfl (Nat.le_of_ble_eq_true rfl) dX10_row_19 ?_
    exact ret _ _ _ _ dX10_row_22 rfl (by unfold x_row; (repeat' split) <;> first | (exfalso; omega) | rfl)
  · replace b6 := jb_t b6
    refine jr_iload C dX10_row_9 rfl ?_
    refine jr_sip C [.int _] _ (ct_X10_isKnown E _ _) ky_X10_isKnown ks_X10_isKnown km_X10_212 (by decide) rfl (Nat.le_of_ble_eq_true rfl) dX10_row_11 ?_
    refine jr_if_ne C 23 dX10_row_14 (by decide) (fun b14 => ?_) (fun b14 => ?_)
    · replace b14 := jb_t b14
      refine jr_aload_n C dX10_row_23 rfl ?_
      refine jr_getr C kf_X10_58_0 dX10_row_24 ?_
      refine jr_iload_n C dX10_row_27 rfl ?_
      refine jr_vip C [.int _] _ (ct_X4_has E _ _ (σ.1 7 7) rfl) ky_X4_has kv_X4_has kk_X_7 km_X10_204 (by decide) rfl (Nat.le_of_ble_eq_true rfl) dX10_row_28 ?_
      refine jr_if_eq C 45 dX10_row_31 (by decide) (fun b31 => ?_) (fun b31 => ?_)
      · replace b31 := jb_f b31
        refine jr_aload_n C dX10_row_45 rfl ?_
        refine jr_bipush C (v := -2) dX10_row_46 (by decide) ?_
        refine jr_vip C [.int _] _ (ct_X10_told E _ _) ky_X10_told kv_X10_told kk_X_0 km_X10_97 (by decide) rfl (Nat.le_of_ble_eq_true rfl) dX10_row_48 ?_
        exact ret _ _ _ _ dX10_row_51 rfl (by unfold x_row; (repeat' split) <;> first | (exfalso; omega) | rfl)
      · replace b31 := jb_t b31
        refine jr_aload_n C dX10_row_34 rfl ?_
        refine jr_getr C kf_X10_19_0 dX10_row_35 ?_
        refine jr_iload_n C dX10_row_38 rfl ?_
        refine jr_vip C [.int _] _ (ct_X2_has E _ _ (σ.1 2 8) rfl) ky_X2_has kv_X2_has kk_X_2 km_X10_115 (by decide) rfl (Nat.le_of_ble_eq_true rfl) dX10_row_39 ?_
        refine jr_if_ne C 52 dX10_row_42 (by decide) (fun b42 => ?_) (fun b42 => ?_)
        · replace b42 := jb_t b42
          refine jr_aload_n C dX10_row_52 rfl ?_
          refine jr_aload_n C dX10_row_53 rfl ?_
          refine jr_getr C kf_X10_58_0 dX10_row_54 ?_
          refine jr_iload_n C dX10_row_57 rfl ?_
          refine jr_iload_n C dX10_row_58 rfl ?_
          refine jr_iload_n C dX10_row_59 rfl ?_
          refine jr_iload C dX10_row_60 rfl ?_
          refine jr_vip C [.int _, .int _, .int _, .int _] _ (ct_X4_addRow E _ _ _ _ _ h0) ky_X4_addRow kv_X4_addRow kk_X_7 km_X10_215 (by decide) rfl (Nat.le_of_ble_eq_true rfl) dX10_row_62 ?_
          refine jr_vip C [.int _] _ (ct_X10_told E _ _) ky_X10_told kv_X10_told kk_X_0 km_X10_97 (by decide) rfl (Nat.le_of_ble_eq_true rfl) dX10_row_65 ?_
          exact ret _ _ _ _ dX10_row_68 rfl (by unfold x_row; (repeat' split) <;> first | (exfalso; omega) | rfl)
        · replace b42 := jb_f b42
          refine jr_aload_n C dX10_row_45 rfl ?_
          refine jr_bipush C (v := -2) dX10_row_46 (by decide) ?_
          refine jr_vip C [.int _] _ (ct_X10_told E _ _) ky_X10_told kv_X10_told kk_X_0 km_X10_97 (by decide) rfl (Nat.le_of_ble_eq_true rfl) dX10_row_48 ?_
          exact ret _ _ _ _ dX10_row_51 rfl (by unfold x_row; (repeat' split) <;> first | (exfalso; omega) | rfl)
    · replace b14 := jb_f b14
      refine jr_aload_n C dX10_row_17 rfl ?_
      refine jr_iconst C (v := -1) dX10_row_18 (by decide) ?_
      refine jr_vip C [.int _] _ (ct_X10_told E _ _) ky_X10_told kv_X10_told kk_X_0 km_X10_97 (by decide) rfl (Nat.le_of_ble_eq_true rfl) dX10_row_19 ?_
      exact ret _ _ _ _ dX10_row_22 rfl (by unfold x_row; (repeat' split) <;> first | (exfalso; omega) | rfl)
def x_delay (σ : jf_S) (s m : Int32) : Int32 × jf_S :=
  if ¬ (0 ≤ m.toInt ∧ m.toInt ≤ 300) then (-1, x_told σ (-1))
  else if ¬ (0 ≤ s.toInt ∧ s.toInt < ((σ.1 3 8)).toInt ∧ ¬ (σ.1 31) s.toNatClampNeg = 0) then (-2, x_told σ (-2))
  else (0, x_told (jf_i σ 30 s.toNatClampNeg m) 0)
theorem ct_X10_delay (E : jf_E) (σ : jf_S) (s m : Int32) (h4 : ((σ.1 3 8)).toInt ≤ 60) : jf_I jh_X E yX10_delay cX10_delay 3 .int 2 [jf_r E 0, .int s, .int m] σ (fun r τ => (r, τ) = x_delay σ s m) := by
  refine jf_mkI (by decide) (Nat.le_of_ble_eq_true rfl) ?_
  intro G C ret
  refine jr_iload_n C dX10_delay_0 rfl ?_
  refine jr_iconst C (v := 0) dX10_delay_1 (by decide) ?_
  refine jr_sipush C (v := 300) dX10_delay_2 (by decide) ?_
  refine jr_sip C [.int _, .int _, .int _] _ (ct_X10_withinw E _ _ _ _ 0 300 rfl rfl) ky_X10_within ks_X10_within km_X10_93 (by decide) rfl (Nat.le_of_ble_eq_true rfl) dX10_delay_5 ?_
  refine jr_if_ne C 17 dX10_delay_8 (by decide) (fun b8 => ?_) (fun b8 => ?_)
  · replace b8 := jb_t b8
    refine jr_aload_n C dX10_delay_17 rfl ?_
    refine jr_getr C kf_X10_26_0 dX10_delay_18 ?_
    refine jr_iload_n C dX10_delay_21 rfl ?_
    refine jr_vip C [.int _] _ (ct_X8_has E _ _ (σ.1 3 8) (σ.1 31) rfl rfl (by omega)) ky_X8_has kv_X8_has kk_X_3 km_X10_135 (by decide) rfl (Nat.le_of_ble_eq_true rfl) dX10_delay_22 ?_
    refine jr_if_ne C 35 dX10_delay_25 (by decide) (fun b25 => ?_) (fun b25 => ?_)
    · replace b25 := jb_t b25
      refine jr_aload_n C dX10_delay_35 rfl ?_
      refine jr_getr C kf_X10_26_0 dX10_delay_36 ?_
      refine jr_getr C kf_X10_189_3 dX10_delay_39 ?_
      refine jr_iload_n C dX10_delay_42 rfl ?_
      refine jr_iload_n C dX10_delay_43 rfl ?_
      refine jr_iast C ka_X_30 dX10_delay_44 (ji_in (i := s) (by omega) (by omega)) ?_
      refine jr_aload_n C dX10_delay_45 rfl ?_
      refine jr_iconst C (v := 0) dX10_delay_46 (by decide) ?_
      refine jr_vip C [.int _] _ (ct_X10_told E _ _) ky_X10_told kv_X10_told kk_X_0 km_X10_97 (by decide) rfl (Nat.le_of_ble_eq_true rfl) dX10_delay_47 ?_
      exact ret _ _ _ _ dX10_delay_50 rfl (by unfold x_delay; (repeat' split) <;> first | contradiction | (exfalso; omega) | rfl)
    · replace b25 := jb_f b25
      refine jr_aload_n C dX10_delay_28 rfl ?_
      refine jr_bipush C (v := -2) dX10_delay_29 (by decide) ?_
      refine jr_vip C [.int _] _ (ct_X10_told E _ _) ky_X10_told kv_X10_told kk_X_0 km_X10_97 (by decide) rfl (Nat.le_of_ble_eq_true rfl) dX10_delay_31 ?_
      exact ret _ _ _ _ dX10_delay_34 rfl (by unfold x_delay; (repeat' split) <;> first | contradiction | (exfalso; omega) | rfl)
  · replace b8 := jb_f b8
    refine jr_aload_n C dX10_delay_11 rfl ?_
    refine jr_iconst C (v := -1) dX10_delay_12 (by decide) ?_
    refine jr_vip C [.int _] _ (ct_X10_told E _ _) ky_X10_told kv_X10_told kk_X_0 km_X10_97 (by decide) rfl (Nat.le_of_ble_eq_true rfl) dX10_delay_13 ?_
    exact ret _ _ _ _ dX10_delay_16 rfl (by unfold x_delay; (repeat' split) <;> first | contradiction | (exfalso; omega) | rfl)
def x_take (σ : jf_S) (s : Int32) : Int32 × jf_S :=
  if ¬ (0 ≤ s.toInt ∧ s.toInt < ((σ.1 3 8)).toInt ∧ ¬ (σ.1 31) s.toNatClampNeg = 0) then (-2, x_told σ (-2))
  else (0, x_told (jf_i σ 31 s.toNatClampNeg 0) 0)
theorem ct_X10_take (E : jf_E) (σ : jf_S) (s : Int32) (h4 : ((σ.1 3 8)).toInt ≤ 60) : jf_I jh_X E yX10_take cX10_take 2 .int 2 [jf_r E 0, .int s] σ (fun r τ => (r, τ) = x_take σ s) := by
  refine jf_mkI (by decide) (Nat.le_of_ble_eq_true rfl) ?_
  intro G C ret
  refine jr_aload_n C dX10_take_0 rfl ?_
  refine jr_getr C kf_X10_26_0 dX10_take_1 ?_
  refine jr_iload_n C dX10_take_4 rfl ?_
  refine jr_vip C [.int _] _ (ct_X8_has E _ _ (σ.1 3 8) (σ.1 31) rfl rfl (by omega)) ky_X8_has kv_X8_has kk_X_3 km_X10_135 (by decide) rfl (Nat.le_of_ble_eq_true rfl) dX10_take_5 ?_
  refine jr_if_ne C 18 dX10_take_8 (by decide) (fun b8 => ?_) (fun b8 => ?_)
  · replace b8 := jb_t b8
    refine jr_aload_n C dX10_take_18 rfl ?_
    refine jr_getr C kf_X10_26_0 dX10_take_19 ?_
    refine jr_getr C kf_X10_136_3 dX10_take_22 ?_
    refine jr_iload_n C dX10_take_25 rfl ?_
    refine jr_iconst C (v := 0) dX10_take_26 (by decide) ?_
    refine jr_zast C ka_X_31 dX10_take_27 (ji_in (i := s) (by omega) (by omega)) (Or.inl rfl) ?_
    refine jr_aload_n C dX10_take_28 rfl ?_
    refine jr_iconst C (v := 0) dX10_take_29 (by decide) ?_
    refine jr_vip C [.int _] _ (ct_X10_told E _ _) ky_X10_told kv_X10_told kk_X_0 km_X10_97 (by decide) rfl (Nat.le_of_ble_eq_true rfl) dX10_take_30 ?_
    exact ret _ _ _ _ dX10_take_33 rfl (by unfold x_take; (repeat' split) <;> first | contradiction | (exfalso; omega) | rfl)
  · replace b8 := jb_f b8
    refine jr_aload_n C dX10_take_11 rfl ?_
    refine jr_bipush C (v := -2) dX10_take_12 (by decide) ?_
    refine jr_vip C [.int _] _ (ct_X10_told E _ _) ky_X10_told kv_X10_told kk_X_0 km_X10_97 (by decide) rfl (Nat.le_of_ble_eq_true rfl) dX10_take_14 ?_
    exact ret _ _ _ _ dX10_take_17 rfl (by unfold x_take; (repeat' split) <;> first | contradiction | (exfalso; omega) | rfl)
def x_come (σ : jf_S) (s m p : Int32) : Int32 × jf_S :=
  if ¬ ((-40 ≤ m.toInt ∧ m.toInt ≤ 10) ∧ (0 ≤ p.toInt ∧ p.toInt ≤ 1000)) then (-1, x_told σ (-1))
  else if ¬ (0 ≤ s.toInt ∧ s.toInt < ((σ.1 3 8)).toInt ∧ ¬ (σ.1 31) s.toNatClampNeg = 0) then (-2, x_told σ (-2))
  else (0, x_told (jf_i σ 32 (s * 51 + m - -40).toNatClampNeg p) 0)
theorem ct_X10_come (E : jf_E) (σ : jf_S) (s m p : Int32) (h4 : ((σ.1 3 8)).toInt ≤ 60) : jf_I jh_X E yX10_come cX10_come 4 .int 2 [jf_r E 0, .int s, .int m, .int p] σ (fun r τ => (r, τ) = x_come σ s m p) := by
  refine jf_mkI (by decide) (Nat.le_of_ble_eq_true rfl) ?_
  intro G C ret
  refine jr_iload_n C dX10_come_0 rfl ?_
  refine jr_bipush C (v := -40) dX10_come_1 (by decide) ?_
  refine jr_bipush C (v := 10) dX10_come_3 (by decide) ?_
  refine jr_sip C [.int _, .int _, .int _] _ (ct_X10_withinw E _ _ _ _ (-40) 10 rfl rfl) ky_X10_within ks_X10_within km_X10_93 (by decide) rfl (Nat.le_of_ble_eq_true rfl) dX10_come_5 ?_
  refine jr_if_eq C 22 dX10_come_8 (by decide) (fun b8 => ?_) (fun b8 => ?_)
  · replace b8 := jb_f b8
    refine jr_aload_n C dX10_come_22 rfl ?_
    refine jr_iconst C (v := -1) dX10_come_23 (by decide) ?_
    refine jr_vip C [.int _] _ (ct_X10_told E _ _) ky_X10_told kv_X10_told kk_X_0 km_X10_97 (by decide) rfl (Nat.le_of_ble_eq_true rfl) dX10_come_24 ?_
    exact ret _ _ _ _ dX10_come_27 rfl (by unfold x_come; (repeat' split) <;> first | contradiction | (exfalso; omega) | rfl)
  · replace b8 := jb_t b8
    refine jr_iload_n C dX10_come_11 rfl ?_
    refine jr_iconst C (v := 0) dX10_come_12 (by decide) ?_
    refine jr_sipush C (v := 1000) dX10_come_13 (by decide) ?_
    refine jr_sip C [.int _, .int _, .int _] _ (ct_X10_withinw E _ _ _ _ 0 1000 rfl rfl) ky_X10_within ks_X10_within km_X10_93 (by decide) rfl (Nat.le_of_ble_eq_true rfl) dX10_come_16 ?_
    refine jr_if_ne C 28 dX10_come_19 (by decide) (fun b19 => ?_) (fun b19 => ?_)
    · replace b19 := jb_t b19
      refine jr_aload_n C dX10_come_28 rfl ?_
      refine jr_getr C kf_X10_26_0 dX10_come_29 ?_
      refine jr_iload_n C dX10_come_32 rfl ?_
      refine jr_vip C [.int _] _ (ct_X8_has E _ _ (σ.1 3 8) (σ.1 31) rfl rfl (by omega)) ky_X8_has kv_X8_has kk_X_3 km_X10_135 (by decide) rfl (Nat.le_of_ble_eq_true rfl) dX10_come_33 ?_
      refine jr_if_ne C 46 dX10_come_36 (by decide) (fun b36 => ?_) (fun b36 => ?_)
      · replace b36 := jb_t b36
        refine jr_aload_n C dX10_come_46 rfl ?_
        refine jr_getr C kf_X10_26_0 dX10_come_47 ?_
        refine jr_getr C kf_X10_183_3 dX10_come_50 ?_
        refine jr_iload_n C dX10_come_53 rfl ?_
        refine jr_bipush C (v := 51) dX10_come_54 (by decide) ?_
        refine jr_imul C dX10_come_56 ?_
        refine jr_iload_n C dX10_come_57 rfl ?_
        refine jr_iadd C dX10_come_58 ?_
        refine jr_bipush C (v := -40) dX10_come_59 (by decide) ?_
        refine jr_isub C dX10_come_61 ?_
        refine jr_iload_n C dX10_come_62 rfl ?_
        refine jr_iast C ka_X_32 dX10_come_63 (ji_linr3 51 (-40) rfl rfl (by omega) (by omega) (by omega)) ?_
        refine jr_aload_n C dX10_come_64 rfl ?_
        refine jr_iconst C (v := 0) dX10_come_65 (by decide) ?_
        refine jr_vip C [.int _] _ (ct_X10_told E _ _) ky_X10_told kv_X10_told kk_X_0 km_X10_97 (by decide) rfl (Nat.le_of_ble_eq_true rfl) dX10_come_66 ?_
        exact ret _ _ _ _ dX10_come_69 rfl (by unfold x_come; (repeat' split) <;> first | contradiction | (exfalso; omega) | rfl)
      · replace b36 := jb_f b36
        refine jr_aload_n C dX10_come_39 rfl ?_
        refine jr_bipush C (v := -2) dX10_come_40 (by decide) ?_
        refine jr_vip C [.int _] _ (ct_X10_told E _ _) ky_X10_told kv_X10_told kk_X_0 km_X10_97 (by decide) rfl (Nat.le_of_ble_eq_true rfl) dX10_come_42 ?_
        exact ret _ _ _ _ dX10_come_45 rfl (by unfold x_come; (repeat' split) <;> first | contradiction | (exfalso; omega) | rfl)
    · replace b19 := jb_f b19
      refine jr_aload_n C dX10_come_22 rfl ?_
      refine jr_iconst C (v := -1) dX10_come_23 (by decide) ?_
      refine jr_vip C [.int _] _ (ct_X10_told E _ _) ky_X10_told kv_X10_told kk_X_0 km_X10_97 (by decide) rfl (Nat.le_of_ble_eq_true rfl) dX10_come_24 ?_
      exact ret _ _ _ _ dX10_come_27 rfl (by unfold x_come; (repeat' split) <;> first | contradiction | (exfalso; omega) | rfl)
def x_end (σ : jf_S) (n : Int32) : Int32 × jf_S :=
  if ¬ (0 ≤ n.toInt ∧ n.toInt ≤ ((σ.1 9 2)).toInt) then (-1, σ) else (n, jf_i σ 9 2 n)
theorem ct_X10_end (E : jf_E) (σ : jf_S) (n : Int32) : jf_I jh_X E yX10_end cX10_end 2 .int 2 [jf_r E 0, .int n] σ (fun r τ => (r, τ) = x_end σ n) := by
  refine jf_mkI (by decide) (Nat.le_of_ble_eq_true rfl) ?_
  intro G C ret
  refine jr_iload_n C dX10_end_0 rfl ?_
  refine jr_iconst C (v := 0) dX10_end_1 (by decide) ?_
  refine jr_aload_n C dX10_end_2 rfl ?_
  refine jr_getr C kf_X10_72_0 dX10_end_3 ?_
  refine jr_getv C kf_X10_225_9 dX10_end_6 (v := σ.1 9 2) rfl ?_
  refine jr_sip C [.int _, .int _, .int _] _ (ct_X10_within E _ _ _ _) ky_X10_within ks_X10_within km_X10_93 (by decide) rfl (Nat.le_of_ble_eq_true rfl) dX10_end_9 ?_
  refine jr_if_ne C 17 dX10_end_12 (by decide) (fun b12 => ?_) (fun b12 => ?_)
  · replace b12 := jb_t b12
    refine jr_aload_n C dX10_end_17 rfl ?_
    refine jr_getr C kf_X10_72_0 dX10_end_18 ?_
    refine jr_iload_n C dX10_end_21 rfl ?_
    refine jr_puti C kp_X10_225_9 dX10_end_22 ?_
    refine jr_iload_n C dX10_end_25 rfl ?_
    exact ret _ _ _ _ dX10_end_26 rfl (by unfold x_end; (repeat' split) <;> first | (exfalso; omega) | rfl | (exfalso; simp_all; done) | (exfalso; simp_all; omega))
  · replace b12 := jb_f b12
    refine jr_iconst C (v := -1) dX10_end_15 (by decide) ?_
    exact ret _ _ _ _ dX10_end_16 rfl (by unfold x_end; (repeat' split) <;> first | (exfalso; omega) | rfl | (exfalso; simp_all; done) | (exfalso; simp_all; omega))
theorem ct_X10_status (E : jf_E) (σ : jf_S) : jf_I jh_X E yX10_status cX10_status 1 .int 0 [jf_r E 0] σ (fun r τ => (r, τ) = ((σ.1 0 10), σ)) := by
  refine jf_mkI (by decide) (Nat.le_of_ble_eq_true rfl) ?_
  intro G C ret
  refine jr_aload_n C dX10_status_0 rfl ?_
  refine jr_getv C kf_X10_85_0 dX10_status_1 (v := σ.1 0 10) rfl ?_
  exact ret _ _ _ _ dX10_status_4 rfl (rfl)
theorem ct_X10_fault (E : jf_E) (σ : jf_S) : jf_I jh_X E yX10_fault cX10_fault 1 .int 0 [jf_r E 0] σ (fun r τ => (r, τ) = ((σ.1 9 3), σ)) := by
  refine jf_mkI (by decide) (Nat.le_of_ble_eq_true rfl) ?_
  intro G C ret
  refine jr_aload_n C dX10_fault_0 rfl ?_
  refine jr_getr C kf_X10_72_0 dX10_fault_1 ?_
  refine jr_getv C kf_X10_239_9 dX10_fault_4 (v := σ.1 9 3) rfl ?_
  exact ret _ _ _ _ dX10_fault_7 rfl (rfl)

