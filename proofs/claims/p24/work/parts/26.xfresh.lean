/-! the class: the tape; rounds; counts; and what its methods answer while nothing is told (cf_) -/
theorem ct_X6_hasRoom (E : jf_E) (σ : jf_S) (n : Int32) : jf_I jh_X E yX6_hasRoom cX6_hasRoom 2 .boolean 0 [jf_r E 9, .int n] σ (fun r τ => r = jb (((σ.1 9 2) + n).toInt ≤ 300) ∧ τ = σ) := by
  refine jf_mkI (by decide) (Nat.le_of_ble_eq_true rfl) ?_
  intro G C ret
  refine jr_aload_n C dX6_hasRoom_0 rfl ?_
  refine jr_getv C kf_X6_22_9 dX6_hasRoom_1 (v := σ.1 9 2) rfl ?_
  refine jr_iload_n C dX6_hasRoom_4 rfl ?_
  refine jr_iadd C dX6_hasRoom_5 ?_
  refine jr_sipush C (v := 300) dX6_hasRoom_6 (by decide) ?_
  refine jr_ncmp_gt C (b := 300) 16 dX6_hasRoom_9 (by decide) rfl rfl (fun b9 => ?_) (fun b9 => ?_)
  · refine jr_iconst C (v := 0) dX6_hasRoom_16 (by decide) ?_
    exact ret _ _ _ _ dX6_hasRoom_17 (rfl) (⟨by first | exact jb_tt (by omega) | exact jb_ff (by omega), rfl⟩)
  · refine jr_iconst C (v := 1) dX6_hasRoom_12 (by decide) ?_
    refine jr_goto C 17 dX6_hasRoom_13 (by decide) ?_
    exact ret _ _ _ _ dX6_hasRoom_17 (rfl) (⟨by first | exact jb_tt (by omega) | exact jb_ff (by omega), rfl⟩)
/-- four bytes come behind the tape -/
def x_four (σ : jf_S) (v : Int32) : jf_S :=
  jf_i (jf_i (jf_i (jf_i (jf_i (jf_i (jf_i (jf_i σ 49 ((σ.1 9 2)).toNatClampNeg ((v.toUInt32 >>> (Int32.toUInt32 24 &&& Int32.toUInt32 31)).toInt32 &&& 255)) 9 2 ((σ.1 9 2) + 1)) 49 ((σ.1 9 2) + 1).toNatClampNeg ((v.toUInt32 >>> (Int32.toUInt32 16 &&& Int32.toUInt32 31)).toInt32 &&& 255)) 9 2 ((σ.1 9 2) + 1 + 1)) 49 ((σ.1 9 2) + 1 + 1).toNatClampNeg ((v.toUInt32 >>> (Int32.toUInt32 8 &&& Int32.toUInt32 31)).toInt32 &&& 255)) 9 2 ((σ.1 9 2) + 1 + 1 + 1)) 49 ((σ.1 9 2) + 1 + 1 + 1).toNatClampNeg ((v.toUInt32 >>> (Int32.toUInt32 0 &&& Int32.toUInt32 31)).toInt32 &&& 255)) 9 2 ((σ.1 9 2) + 1 + 1 + 1 + 1)
theorem ct_X6_append (E : jf_E) (σ : jf_S) (v : Int32) (h0 : 0 ≤ ((σ.1 9 2)).toInt) (h1 : ((σ.1 9 2)).toInt ≤ 296) : jf_V jh_X E yX6_append cX6_append 3 0 [jf_r E 9, .int v] σ (fun τ => τ = x_four σ v) := by
  refine jf_mkV (by decide) (Nat.le_of_ble_eq_true rfl) ?_
  intro G C ret
  have e1 := ji_inc1 (k := (σ.1 9 2)) (by omega)
  have e2 := ji_inc1 (k := (σ.1 9 2) + 1) (by omega)
  have e3 := ji_inc1 (k := (σ.1 9 2) + 1 + 1) (by omega)
  refine jr_bipush C (v := 24) dX6_append_0 (by decide) ?_
  refine jr_istore_n C dX6_append_2 (by decide) ?_
  refine jr_iload_n C dX6_append_3 rfl ?_
  refine jr_if_lt C 49 dX6_append_4 (by decide) (fun b => absurd b (by decide)) (fun _ => ?_)
  refine jr_aload_n C dX6_append_7 rfl ?_
  refine jr_geti C kf_X6_22_9 dX6_append_8 ?_
  refine jr_sipush C (v := 300) dX6_append_11 (by decide) ?_
  refine jr_ncmp_ge C (a := ((σ.1 9 2)).toInt) (b := 300) 43 dX6_append_14 (by decide) rfl rfl (fun b => absurd b (by omega)) (fun _ => ?_)
  refine jr_aload_n C dX6_append_17 rfl ?_
  refine jr_getr C kf_X6_11_9 dX6_append_18 ?_
  refine jr_aload_n C dX6_append_21 rfl ?_
  refine jr_geti C kf_X6_22_9 dX6_append_22 ?_
  refine jr_iload_n C dX6_append_25 rfl ?_
  refine jr_iload_n C dX6_append_26 rfl ?_
  refine jr_iushr C dX6_append_27 ?_
  refine jr_sipush C (v := 255) dX6_append_28 (by decide) ?_
  refine jr_iand C dX6_append_31 ?_
  refine jr_iast C ka_X_49 dX6_append_32 (ji_in (i := (σ.1 9 2)) (by omega) (by omega)) ?_
  refine jr_aload_n C dX6_append_33 rfl ?_
  refine jr_dup C dX6_append_34 rfl ?_
  refine jr_geti C kf_X6_22_9 dX6_append_35 ?_
  refine jr_iconst C (v := 1) dX6_append_38 (by decide) ?_
  refine jr_iadd C dX6_append_39 ?_
  refine jr_puti C kp_X6_22_9 dX6_append_40 ?_
  refine jr_iinc C _ dX6_append_43 rfl rfl (by decide) ?_
  refine jr_goto C 3 dX6_append_46 (by decide) ?_
  refine jr_iload_n C dX6_append_3 rfl ?_
  refine jr_if_lt C 49 dX6_append_4 (by decide) (fun b => absurd b (by decide)) (fun _ => ?_)
  refine jr_aload_n C dX6_append_7 rfl ?_
  refine jr_geti C kf_X6_22_9 dX6_append_8 ?_
  refine jr_sipush C (v := 300) dX6_append_11 (by decide) ?_
  refine jr_ncmp_ge C (a := ((σ.1 9 2) + 1).toInt) (b := 300) 43 dX6_append_14 (by decide) rfl rfl (fun b => absurd b (by omega)) (fun _ => ?_)
  refine jr_aload_n C dX6_append_17 rfl ?_
  refine jr_getr C kf_X6_11_9 dX6_append_18 ?_
  refine jr_aload_n C dX6_append_21 rfl ?_
  refine jr_geti C kf_X6_22_9 dX6_append_22 ?_
  refine jr_iload_n C dX6_append_25 rfl ?_
  refine jr_iload_n C dX6_append_26 rfl ?_
  refine jr_iushr C dX6_append_27 ?_
  refine jr_sipush C (v := 255) dX6_append_28 (by decide) ?_
  refine jr_iand C dX6_append_31 ?_
  refine jr_iast C ka_X_49 dX6_append_32 (ji_in (i := (σ.1 9 2) + 1) (by omega) (by omega)) ?_
  refine jr_aload_n C dX6_append_33 rfl ?_
  refine jr_dup C dX6_append_34 rfl ?_
  refine jr_geti C kf_X6_22_9 dX6_append_35 ?_
  refine jr_iconst C (v := 1) dX6_append_38 (by decide) ?_
  refine jr_iadd C dX6_append_39 ?_
  refine jr_puti C kp_X6_22_9 dX6_append_40 ?_
  refine jr_iinc C _ dX6_append_43 rfl rfl (by decide) ?_
  refine jr_goto C 3 dX6_append_46 (by decide) ?_
  refine jr_iload_n C dX6_append_3 rfl ?_
  refine jr_if_lt C 49 dX6_append_4 (by decide) (fun b => absurd b (by decide)) (fun _ => ?_)
  refine jr_aload_n C dX6_append_7 rfl ?_
  refine jr_geti C kf_X6_22_9 dX6_append_8 ?_
  refine jr_sipush C (v := 300) dX6_append_11 (by decide) ?_
  refine jr_ncmp_ge C (a := ((σ.1 9 2) + 1 + 1).toInt) (b := 300) 43 dX6_append_14 (by decide) rfl rfl (fun b => absurd b (by omega)) (fun _ => ?_)
  refine jr_aload_n C dX6_append_17 rfl ?_
  refine jr_getr C kf_X6_11_9 dX6_append_18 ?_
  refine jr_aload_n C dX6_append_21 rfl ?_
  refine jr_geti C kf_X6_22_9 dX6_append_22 ?_
  refine jr_iload_n C dX6_append_25 rfl ?_
  refine jr_iload_n C dX6_append_26 rfl ?_
  refine jr_iushr C dX6_append_27 ?_
  refine jr_sipush C (v := 255) dX6_append_28 (by decide) ?_
  refine jr_iand C dX6_append_31 ?_
  refine jr_iast C ka_X_49 dX6_append_32 (ji_in (i := (σ.1 9 2) + 1 + 1) (by omega) (by omega)) ?_
  refine jr_aload_n C dX6_append_33 rfl ?_
  refine jr_dup C dX6_append_34 rfl ?_
  refine jr_geti C kf_X6_22_9 dX6_append_35 ?_
  refine jr_iconst C (v := 1) dX6_append_38 (by decide) ?_
  refine jr_iadd C dX6_append_39 ?_
  refine jr_puti C kp_X6_22_9 dX6_append_40 ?_
  refine jr_iinc C _ dX6_append_43 rfl rfl (by decide) ?_
  refine jr_goto C 3 dX6_append_46 (by decide) ?_
  refine jr_iload_n C dX6_append_3 rfl ?_
  refine jr_if_lt C 49 dX6_append_4 (by decide) (fun b => absurd b (by decide)) (fun _ => ?_)
  refine jr_aload_n C dX6_append_7 rfl ?_
  refine jr_geti C kf_X6_22_9 dX6_append_8 ?_
  refine jr_sipush C (v := 300) dX6_append_11 (by decide) ?_
  refine jr_ncmp_ge C (a := ((σ.1 9 2) + 1 + 1 + 1).toInt) (b := 300) 43 dX6_append_14 (by decide) rfl rfl (fun b => absurd b (by omega)) (fun _ => ?_)
  refine jr_aload_n C dX6_append_17 rfl ?_
  refine jr_getr C kf_X6_11_9 dX6_append_18 ?_
  refine jr_aload_n C dX6_append_21 rfl ?_
  refine jr_geti C kf_X6_22_9 dX6_append_22 ?_
  refine jr_iload_n C dX6_append_25 rfl ?_
  refine jr_iload_n C dX6_append_26 rfl ?_
  refine jr_iushr C dX6_append_27 ?_
  refine jr_sipush C (v := 255) dX6_append_28 (by decide) ?_
  refine jr_iand C dX6_append_31 ?_
  refine jr_iast C ka_X_49 dX6_append_32 (ji_in (i := (σ.1 9 2) + 1 + 1 + 1) (by omega) (by omega)) ?_
  refine jr_aload_n C dX6_append_33 rfl ?_
  refine jr_dup C dX6_append_34 rfl ?_
  refine jr_geti C kf_X6_22_9 dX6_append_35 ?_
  refine jr_iconst C (v := 1) dX6_append_38 (by decide) ?_
  refine jr_iadd C dX6_append_39 ?_
  refine jr_puti C kp_X6_22_9 dX6_append_40 ?_
  refine jr_iinc C _ dX6_append_43 rfl rfl (by decide) ?_
  refine jr_goto C 3 dX6_append_46 (by decide) ?_
  refine jr_iload_n C dX6_append_3 rfl ?_
  refine jr_if_lt C 49 dX6_append_4 (by decide) (fun _ => ?_) (fun b => absurd b (by decide))
  exact ret _ _ _ dX6_append_49 (rfl)
theorem x_four_t (σ : jf_S) (v : Int32) (h1 : ((σ.1 9 2)).toInt ≤ 296) : (((x_four σ v).1 9 2)).toInt = ((σ.1 9 2)).toInt + 4 := by
  have := fb_rng ((σ.1 9 2))
  have e1 := ji_inc1 (k := (σ.1 9 2)) (by omega)
  have e2 := ji_inc1 (k := (σ.1 9 2) + 1) (by omega)
  have e3 := ji_inc1 (k := (σ.1 9 2) + 1 + 1) (by omega)
  have e4 := ji_inc1 (k := (σ.1 9 2) + 1 + 1 + 1) (by omega)
  show ((σ.1 9 2) + 1 + 1 + 1 + 1).toInt = _
  omega
def x_feed (σ : jf_S) (a b c d e : Int32) : Int32 × jf_S :=
  if ((σ.1 9 2)).toInt + 20 ≤ 300 then (((x_four (x_four (x_four (x_four (x_four σ a) b) c) d) e).1 9 2), x_four (x_four (x_four (x_four (x_four σ a) b) c) d) e)
  else (-1, σ)
theorem ct_X10_feed (E : jf_E) (σ : jf_S) (a b c d e : Int32) (h0 : 0 ≤ ((σ.1 9 2)).toInt) (h1 : ((σ.1 9 2)).toInt ≤ 300) : jf_I jh_X E yX10_feed cX10_feed 6 .int 1 [jf_r E 0, .int a, .int b, .int c, .int d, .int e] σ (fun r τ => (r, τ) = x_feed σ a b c d e) := by
  refine jf_mkI (by decide) (Nat.le_of_ble_eq_true rfl) ?_
  intro G C ret
  have e0 : ((σ.1 9 2) + 20).toInt = ((σ.1 9 2)).toInt + 20 := fb_addI (y := 20) (by show _ ≤ ((σ.1 9 2)).toInt + 20; omega) (by show ((σ.1 9 2)).toInt + 20 < _; omega)
  refine jr_aload_n C dX10_feed_0 rfl ?_
  refine jr_getr C kf_X10_72_0 dX10_feed_1 ?_
  refine jr_bipush C (v := 20) dX10_feed_4 (by decide) ?_
  refine jr_vip C [.int _] _ (ct_X6_hasRoom E _ _) ky_X6_hasRoom kv_X6_hasRoom kk_X_9 km_X10_218 (by decide) rfl (Nat.le_of_ble_eq_true rfl) dX10_feed_6 ?_
  refine jr_if_ne C 14 dX10_feed_9 (by decide) (fun b9 => ?_) (fun b9 => ?_)
  · replace b9 := jb_t b9
    have t1 := x_four_t σ a (by omega)
    have t2 := x_four_t (x_four σ a) b (by omega)
    have t3 := x_four_t (x_four (x_four σ a) b) c (by omega)
    have t4 := x_four_t (x_four (x_four (x_four σ a) b) c) d (by omega)
    refine jr_aload_n C dX10_feed_14 rfl ?_
    refine jr_getr C kf_X10_72_0 dX10_feed_15 ?_
    refine jr_iload_n C dX10_feed_18 rfl ?_
    refine jr_vvp C [.int _] _ (ct_X6_append E _ _ (by omega) (by omega)) ky_X6_append kv_X6_append kk_X_9 km_X10_221 (by decide) rfl (Nat.le_of_ble_eq_true rfl) dX10_feed_19 ?_
    refine jr_aload_n C dX10_feed_22 rfl ?_
    refine jr_getr C kf_X10_72_0 dX10_feed_23 ?_
    refine jr_iload_n C dX10_feed_26 rfl ?_
    refine jr_vvp C [.int _] _ (ct_X6_append E _ _ (by omega) (by omega)) ky_X6_append kv_X6_append kk_X_9 km_X10_221 (by decide) rfl (Nat.le_of_ble_eq_true rfl) dX10_feed_27 ?_
    refine jr_aload_n C dX10_feed_30 rfl ?_
    refine jr_getr C kf_X10_72_0 dX10_feed_31 ?_
    refine jr_iload_n C dX10_feed_34 rfl ?_
    refine jr_vvp C [.int _] _ (ct_X6_append E _ _ (by omega) (by omega)) ky_X6_append kv_X6_append kk_X_9 km_X10_221 (by decide) rfl (Nat.le_of_ble_eq_true rfl) dX10_feed_35 ?_
    refine jr_aload_n C dX10_feed_38 rfl ?_
    refine jr_getr C kf_X10_72_0 dX10_feed_39 ?_
    refine jr_iload C dX10_feed_42 rfl ?_
    refine jr_vvp C [.int _] _ (ct_X6_append E _ _ (by omega) (by omega)) ky_X6_append kv_X6_append kk_X_9 km_X10_221 (by decide) rfl (Nat.le_of_ble_eq_true rfl) dX10_feed_44 ?_
    refine jr_aload_n C dX10_feed_47 rfl ?_
    refine jr_getr C kf_X10_72_0 dX10_feed_48 ?_
    refine jr_iload C dX10_feed_51 rfl ?_
    refine jr_vvp C [.int _] _ (ct_X6_append E _ _ (by omega) (by omega)) ky_X6_append kv_X6_append kk_X_9 km_X10_221 (by decide) rfl (Nat.le_of_ble_eq_true rfl) dX10_feed_53 ?_
    refine jr_aload_n C dX10_feed_56 rfl ?_
    refine jr_getr C kf_X10_72_0 dX10_feed_57 ?_
    refine jr_geti C kf_X10_225_9 dX10_feed_60 ?_
    exact ret _ _ _ _ dX10_feed_63 rfl (by rw [x_feed, if_pos (by omega)])
  · replace b9 := jb_f b9
    refine jr_iconst C (v := -1) dX10_feed_12 (by decide) ?_
    exact ret _ _ _ _ dX10_feed_13 rfl (by rw [x_feed, if_neg (by omega)])
def x_sumIn (σ : jf_S) (k f : Int32) : Int32 :=
  if (0 ≤ k.toInt ∧ k.toInt < ((σ.1 10 8)).toInt ∧ k.toInt < 20) ∧ (0 ≤ f.toInt ∧ f.toInt < 20) then (σ.1 54) (k * 20 + f).toNatClampNeg else -1
theorem ct_X0_sumIn (E : jf_E) (σ : jf_S) (k f : Int32) : jf_I jh_X E yX0_sumIn cX0_sumIn 3 .int 0 [jf_r E 10, .int k, .int f] σ (fun r τ => r = x_sumIn σ k f ∧ τ = σ) := by
  refine jf_mkI (by decide) (Nat.le_of_ble_eq_true rfl) ?_
  intro G C ret
  refine jr_iload_n C dX0_sumIn_0 rfl ?_
  refine jr_nif_lt C 28 dX0_sumIn_1 (by decide) (fun b1 => ?_) (fun b1 => ?_)
  · refine jr_iconst C (v := -1) dX0_sumIn_28 (by decide) ?_
    exact ret _ _ _ _ dX0_sumIn_29 rfl (⟨by unfold x_sumIn; split <;> first | (exfalso; omega) | rfl, rfl⟩)
  · refine jr_iload_n C dX0_sumIn_4 rfl ?_
    refine jr_aload_n C dX0_sumIn_5 rfl ?_
    refine jr_getv C kf_X0_28_10 dX0_sumIn_6 (v := σ.1 10 8) rfl ?_
    refine jr_ncmp_ge C 28 dX0_sumIn_9 (by decide) rfl rfl (fun b9 => ?_) (fun b9 => ?_)
    · refine jr_iconst C (v := -1) dX0_sumIn_28 (by decide) ?_
      exact ret _ _ _ _ dX0_sumIn_29 rfl (⟨by unfold x_sumIn; split <;> first | (exfalso; omega) | rfl, rfl⟩)
    · refine jr_iload_n C dX0_sumIn_12 rfl ?_
      refine jr_bipush C (v := 20) dX0_sumIn_13 (by decide) ?_
      refine jr_ncmp_ge C (b := 20) 28 dX0_sumIn_15 (by decide) rfl rfl (fun b15 => ?_) (fun b15 => ?_)
      · refine jr_iconst C (v := -1) dX0_sumIn_28 (by decide) ?_
        exact ret _ _ _ _ dX0_sumIn_29 rfl (⟨by unfold x_sumIn; split <;> first | (exfalso; omega) | rfl, rfl⟩)
      · refine jr_iload_n C dX0_sumIn_18 rfl ?_
        refine jr_nif_lt C 28 dX0_sumIn_19 (by decide) (fun b19 => ?_) (fun b19 => ?_)
        · refine jr_iconst C (v := -1) dX0_sumIn_28 (by decide) ?_
          exact ret _ _ _ _ dX0_sumIn_29 rfl (⟨by unfold x_sumIn; split <;> first | (exfalso; omega) | rfl, rfl⟩)
        · refine jr_iload_n C dX0_sumIn_22 rfl ?_
          refine jr_bipush C (v := 20) dX0_sumIn_23 (by decide) ?_
          refine jr_ncmp_lt C (b := 20) 30 dX0_sumIn_25 (by decide) rfl rfl (fun b25 => ?_) (fun b25 => ?_)
          · refine jr_aload_n C dX0_sumIn_30 rfl ?_
            refine jr_getr C kf_X0_25_10 dX0_sumIn_31 ?_
            refine jr_iload_n C dX0_sumIn_34 rfl ?_
            refine jr_bipush C (v := 20) dX0_sumIn_35 (by decide) ?_
            refine jr_imul C dX0_sumIn_37 ?_
            refine jr_iload_n C dX0_sumIn_38 rfl ?_
            refine jr_iadd C dX0_sumIn_39 ?_
            refine jr_ialv C ka_X_54 dX0_sumIn_40 (ji_linr 20 rfl (by omega) (by omega) (by omega)) (v := σ.1 54 _) rfl ?_
            exact ret _ _ _ _ dX0_sumIn_41 rfl (⟨by unfold x_sumIn; split <;> first | (exfalso; omega) | rfl, rfl⟩)
          · refine jr_iconst C (v := -1) dX0_sumIn_28 (by decide) ?_
            exact ret _ _ _ _ dX0_sumIn_29 rfl (⟨by unfold x_sumIn; split <;> first | (exfalso; omega) | rfl, rfl⟩)
theorem ct_X10_round (E : jf_E) (σ : jf_S) (k f : Int32) : jf_I jh_X E yX10_round cX10_round 3 .int 1 [jf_r E 0, .int k, .int f] σ (fun r τ => (r, τ) = (if k.toInt = -1 then (σ.1 10 8) else x_sumIn σ k f, σ)) := by
  refine jf_mkI (by decide) (Nat.le_of_ble_eq_true rfl) ?_
  intro G C ret
  refine jr_iload_n C dX10_round_0 rfl ?_
  refine jr_iconst C (v := -1) dX10_round_1 (by decide) ?_
  refine jr_ncmp_ne C (b := -1) 13 dX10_round_2 (by decide) rfl rfl (fun b2 => ?_) (fun b2 => ?_)
  · refine jr_aload_n C dX10_round_13 rfl ?_
    refine jr_getr C kf_X10_81_0 dX10_round_14 ?_
    refine jr_iload_n C dX10_round_17 rfl ?_
    refine jr_iload_n C dX10_round_18 rfl ?_
    refine jr_vip C [.int _, .int _] _ (ct_X0_sumIn E _ _ _) ky_X0_sumIn kv_X0_sumIn kk_X_10 km_X10_260 (by decide) rfl (Nat.le_of_ble_eq_true rfl) dX10_round_19 ?_
    exact ret _ _ _ _ dX10_round_22 rfl (by split <;> first | (exfalso; omega) | rfl)
  · refine jr_aload_n C dX10_round_5 rfl ?_
    refine jr_getr C kf_X10_81_0 dX10_round_6 ?_
    refine jr_getv C kf_X10_257_10 dX10_round_9 (v := σ.1 10 8) rfl ?_
    exact ret _ _ _ _ dX10_round_12 rfl (by split <;> first | (exfalso; omega) | rfl)
theorem ct_X8_manyThere (E : jf_E) (σ : jf_S) (hE : 0 ≤ ((σ.1 3 8)).toInt ∧ ((σ.1 3 8)).toInt ≤ 60) : jf_I jh_X E yX8_manyThere cX8_manyThere 3 .int 0 [jf_r E 3] σ (fun r τ => r = nI (jx_ct (fun j => !((σ.1 31) j == 0)) ((σ.1 3 8)).toNatClampNeg) ∧ τ = σ) := by
  refine jf_mkI (by decide) (Nat.le_of_ble_eq_true rfl) ?_
  intro G C ret
  have loop : ∀ (m : Nat) (n o : Int32), 0 ≤ o.toInt → o.toInt ≤ ((σ.1 3 8)).toInt → ((σ.1 3 8)).toInt - o.toInt < m → n = nI (jx_ct (fun j => !((σ.1 31) j == 0)) o.toNatClampNeg) → jf_X jh_X E G 3 4 [(0, jf_r E 3), (1, .int n), (2, .int o)] [] σ := by
    intro m
    induction m with
    | zero => intro n o g1 g2 g3 g4; exfalso; omega
    | succ m ih =>
      intro n o g1 g2 g3 g4
      have e1 := ji_inc (k := o) (by omega)
      have e2 : (o + Int32.ofInt 1).toNatClampNeg = o.toNatClampNeg + 1 := ji_cl (by rw [e1, Int.natCast_add, ji_tn g1]; rfl)
      refine jr_iload_n C dX8_manyThere_4 rfl ?_
      refine jr_aload_n C dX8_manyThere_5 rfl ?_
      refine jr_geti C kf_X8_37_3 dX8_manyThere_6 ?_
      refine jr_ncmp_ge C (b := ((σ.1 3 8)).toInt) 30 dX8_manyThere_9 (by decide) rfl rfl (fun b9 => ?_) (fun b9 => ?_)
      · refine jr_iload_n C dX8_manyThere_30 rfl ?_
        exact ret _ _ _ _ dX8_manyThere_31 rfl (⟨by rw [g4, show o = (σ.1 3 8) from Int32.toInt_inj.mp (by omega)], rfl⟩)
      · refine jr_aload_n C dX8_manyThere_12 rfl ?_
        refine jr_getr C kf_X8_30_3 dX8_manyThere_13 ?_
        refine jr_iload_n C dX8_manyThere_16 rfl ?_
        refine jr_zalv C ka_X_31 dX8_manyThere_17 (ji_in (i := o) (by omega) (by omega)) (v := σ.1 31 _) rfl ?_
        refine jr_nif_eq C 24 dX8_manyThere_18 (by decide) (fun b18 => ?_) (fun b18 => ?_)
        · refine jr_iinc C _ dX8_manyThere_24 rfl rfl (by decide) ?_
          refine jr_goto C 4 dX8_manyThere_27 (by decide) ?_
          first | exact jr_sub [(0, jf_r E 3), (1, .int n), (2, .int _)] rfl (ih _ _ (by omega) (by omega) (by omega) (by rw [e2, jx_ct, if_neg (by simp [jn_eq.mpr b18])]; exact g4)) | exact jr_sub [(0, jf_r E 3), (1, .int (n + 1)), (2, .int _)] rfl (ih _ _ (by omega) (by omega) (by omega) (by rw [e2, jx_ct, if_pos (by simp [jn_ne.mpr b18]), g4, nI_1]))
        · refine jr_iinc C _ dX8_manyThere_21 rfl rfl (by decide) ?_
          refine jr_iinc C _ dX8_manyThere_24 rfl rfl (by decide) ?_
          refine jr_goto C 4 dX8_manyThere_27 (by decide) ?_
          first | exact jr_sub [(0, jf_r E 3), (1, .int n), (2, .int _)] rfl (ih _ _ (by omega) (by omega) (by omega) (by rw [e2, jx_ct, if_neg (by simp [jn_eq.mpr b18])]; exact g4)) | exact jr_sub [(0, jf_r E 3), (1, .int (n + 1)), (2, .int _)] rfl (ih _ _ (by omega) (by omega) (by omega) (by rw [e2, jx_ct, if_pos (by simp [jn_ne.mpr b18]), g4, nI_1]))
  refine jr_iconst C (v := 0) dX8_manyThere_0 (by decide) ?_
  refine jr_istore_n C dX8_manyThere_1 (by decide) ?_
  refine jr_iconst C (v := 0) dX8_manyThere_2 (by decide) ?_
  refine jr_istore_n C dX8_manyThere_3 (by decide) ?_
  exact jr_sub [(0, jf_r E 3), (1, .int 0), (2, .int 0)] rfl (loop 61 0 0 (by decide) hE.1 (by show _ - 0 < _; omega) rfl)
def x_count (σ : jf_S) (w : Int32) : Int32 :=
  if w.toInt = 0 then (σ.1 1 5) else if w.toInt = 1 then (σ.1 2 8) else if w.toInt = 2 then nI (jx_ct (fun j => !((σ.1 31) j == 0)) ((σ.1 3 8)).toNatClampNeg) else if w.toInt = 3 then (σ.1 3 8) else if w.toInt = 4 then (σ.1 7 7) else if w.toInt = 5 then (σ.1 7 8) else if w.toInt = 6 then (σ.1 5 8) else if w.toInt = 7 then (σ.1 9 2) else if w.toInt = 8 then (if ((σ.1 8 2)).toInt = 0 then -1 else (σ.1 8 4)) else -1
theorem ct_X10_count (E : jf_E) (σ : jf_S) (w : Int32) (hE : 0 ≤ ((σ.1 3 8)).toInt ∧ ((σ.1 3 8)).toInt ≤ 60) : jf_I jh_X E yX10_count cX10_count 2 .int 1 [jf_r E 0, .int w] σ (fun r τ => (r, τ) = (x_count σ w, σ)) := by
  refine jf_mkI (by decide) (Nat.le_of_ble_eq_true rfl) ?_
  intro G C ret
  refine jr_iload_n C dX10_count_0 rfl ?_
  have w1 : w.toInt < 0 ∨ w.toInt = 0 ∨ w.toInt = 1 ∨ w.toInt = 2 ∨ w.toInt = 3 ∨ w.toInt = 4 ∨ w.toInt = 5 ∨ w.toInt = 6 ∨ w.toInt = 7 ∨ w.toInt = 8 ∨ 8 < w.toInt := by omega
  rcases w1 with w1 | w1 | w1 | w1 | w1 | w1 | w1 | w1 | w1 | w1 | w1
  · refine jr_tabOut C 138 dX10_count_1 (Or.inl w1) (by decide) ?_
    refine jr_iconst C (v := -1) dX10_count_138 (by decide) ?_
    exact ret _ _ _ _ dX10_count_139 rfl (by unfold x_count; (repeat' split) <;> first | (exfalso; omega) | rfl)
  · refine jr_tabIn C 52 dX10_count_1 (by omega) (by omega) (by rw [w1]; rfl) (by decide) ?_
    refine jr_aload_n C dX10_count_52 rfl ?_
    refine jr_getr C kf_X10_10_0 dX10_count_53 ?_
    refine jr_getv C kf_X10_263_1 dX10_count_56 (v := σ.1 1 5) rfl ?_
    exact ret _ _ _ _ dX10_count_59 rfl (by unfold x_count; (repeat' split) <;> first | (exfalso; omega) | rfl)
  · refine jr_tabIn C 60 dX10_count_1 (by omega) (by omega) (by rw [w1]; rfl) (by decide) ?_
    refine jr_aload_n C dX10_count_60 rfl ?_
    refine jr_getr C kf_X10_19_0 dX10_count_61 ?_
    refine jr_getv C kf_X10_266_2 dX10_count_64 (v := σ.1 2 8) rfl ?_
    exact ret _ _ _ _ dX10_count_67 rfl (by unfold x_count; (repeat' split) <;> first | (exfalso; omega) | rfl)
  · refine jr_tabIn C 68 dX10_count_1 (by omega) (by omega) (by rw [w1]; rfl) (by decide) ?_
    refine jr_aload_n C dX10_count_68 rfl ?_
    refine jr_getr C kf_X10_26_0 dX10_count_69 ?_
    refine jr_vip C [] _ (ct_X8_manyThere E _ hE) ky_X8_manyThere kv_X8_manyThere kk_X_3 km_X10_267 (by decide) rfl (Nat.le_of_ble_eq_true rfl) dX10_count_72 ?_
    exact ret _ _ _ _ dX10_count_75 rfl (by unfold x_count; (repeat' split) <;> first | (exfalso; omega) | rfl)
  · refine jr_tabIn C 76 dX10_count_1 (by omega) (by omega) (by rw [w1]; rfl) (by decide) ?_
    refine jr_aload_n C dX10_count_76 rfl ?_
    refine jr_getr C kf_X10_26_0 dX10_count_77 ?_
    refine jr_getv C kf_X10_270_3 dX10_count_80 (v := σ.1 3 8) rfl ?_
    exact ret _ _ _ _ dX10_count_83 rfl (by unfold x_count; (repeat' split) <;> first | (exfalso; omega) | rfl)
  · refine jr_tabIn C 84 dX10_count_1 (by omega) (by omega) (by rw [w1]; rfl) (by decide) ?_
    refine jr_aload_n C dX10_count_84 rfl ?_
    refine jr_getr C kf_X10_58_0 dX10_count_85 ?_
    refine jr_getv C kf_X10_273_7 dX10_count_88 (v := σ.1 7 7) rfl ?_
    exact ret _ _ _ _ dX10_count_91 rfl (by unfold x_count; (repeat' split) <;> first | (exfalso; omega) | rfl)
  · refine jr_tabIn C 92 dX10_count_1 (by omega) (by omega) (by rw [w1]; rfl) (by decide) ?_
    refine jr_aload_n C dX10_count_92 rfl ?_
    refine jr_getr C kf_X10_58_0 dX10_count_93 ?_
    refine jr_getv C kf_X10_274_7 dX10_count_96 (v := σ.1 7 8) rfl ?_
    exact ret _ _ _ _ dX10_count_99 rfl (by unfold x_count; (repeat' split) <;> first | (exfalso; omega) | rfl)
  · refine jr_tabIn C 100 dX10_count_1 (by omega) (by omega) (by rw [w1]; rfl) (by decide) ?_
    refine jr_aload_n C dX10_count_100 rfl ?_
    refine jr_getr C kf_X10_44_0 dX10_count_101 ?_
    refine jr_getv C kf_X10_277_5 dX10_count_104 (v := σ.1 5 8) rfl ?_
    exact ret _ _ _ _ dX10_count_107 rfl (by unfold x_count; (repeat' split) <;> first | (exfalso; omega) | rfl)
  · refine jr_tabIn C 108 dX10_count_1 (by omega) (by omega) (by rw [w1]; rfl) (by decide) ?_
    refine jr_aload_n C dX10_count_108 rfl ?_
    refine jr_getr C kf_X10_72_0 dX10_count_109 ?_
    refine jr_getv C kf_X10_225_9 dX10_count_112 (v := σ.1 9 2) rfl ?_
    exact ret _ _ _ _ dX10_count_115 rfl (by unfold x_count; (repeat' split) <;> first | (exfalso; omega) | rfl)
  · refine jr_tabIn C 116 dX10_count_1 (by omega) (by omega) (by rw [w1]; rfl) (by decide) ?_
    refine jr_aload_n C dX10_count_116 rfl ?_
    refine jr_getr C kf_X10_65_0 dX10_count_117 ?_
    refine jr_getv C kf_X10_242_8 dX10_count_120 (v := σ.1 8 2) rfl ?_
    refine jr_nif_eq C 136 dX10_count_123 (by decide) (fun b123 => ?_) (fun b123 => ?_)
    · refine jr_iconst C (v := -1) dX10_count_136 (by decide) ?_
      exact ret _ _ _ _ dX10_count_137 rfl (by unfold x_count; (repeat' split) <;> first | (exfalso; omega) | rfl)
    · refine jr_aload_n C dX10_count_126 rfl ?_
      refine jr_getr C kf_X10_65_0 dX10_count_127 ?_
      refine jr_getv C kf_X10_280_8 dX10_count_130 (v := σ.1 8 4) rfl ?_
      refine jr_goto C 137 dX10_count_133 (by decide) ?_
      exact ret _ _ _ _ dX10_count_137 rfl (by unfold x_count; (repeat' split) <;> first | (exfalso; omega) | rfl)
  · refine jr_tabOut C 138 dX10_count_1 (Or.inr w1) (by decide) ?_
    refine jr_iconst C (v := -1) dX10_count_138 (by decide) ?_
    exact ret _ _ _ _ dX10_count_139 rfl (by unfold x_count; (repeat' split) <;> first | (exfalso; omega) | rfl)
/-! while nothing is told -/
def x_whyf (b s : Int32) : Int32 := if (0 ≤ b.toInt ∧ b.toInt ≤ 14399) ∧ (0 ≤ s.toInt ∧ s.toInt ≤ 2) then -2 else -1
theorem cf_X10_reasonAgainst (E : jf_E) (σ : jf_S) (f h b s : Int32) (hf : ((σ.1 2 8)).toInt = 0) : jf_I jh_X E yX10_reasonAgainst cX10_reasonAgainst 5 .int 2 [jf_r E 0, .int f, .int h, .int b, .int s] σ (fun r τ => r = x_whyf b s ∧ τ = σ) := by
  refine jf_mkI (by decide) (Nat.le_of_ble_eq_true rfl) ?_
  intro G C ret
  refine jr_iload_n C dX10_reasonAgainst_0 rfl ?_
  refine jr_sip C [.int _] _ (ct_X10_isMinute E _ _) ky_X10_isMinute ks_X10_isMinute km_X10_112 (by decide) rfl (Nat.le_of_ble_eq_true rfl) dX10_reasonAgainst_1 ?_
  refine jr_if_eq C 17 dX10_reasonAgainst_4 (by decide) (fun b4 => ?_) (fun b4 => ?_)
  · replace b4 := jb_f b4
    refine jr_iconst C (v := -1) dX10_reasonAgainst_17 (by decide) ?_
    exact ret _ _ _ _ dX10_reasonAgainst_18 rfl (⟨by unfold x_whyf; split <;> first | (exfalso; omega) | rfl, rfl⟩)
  · replace b4 := jb_t b4
    refine jr_iload C dX10_reasonAgainst_7 rfl ?_
    refine jr_iconst C (v := 0) dX10_reasonAgainst_9 (by decide) ?_
    refine jr_iconst C (v := 2) dX10_reasonAgainst_10 (by decide) ?_
    refine jr_sip C [.int _, .int _, .int _] _ (ct_X10_withinw E _ _ _ _ 0 2 rfl rfl) ky_X10_within ks_X10_within km_X10_93 (by decide) rfl (Nat.le_of_ble_eq_true rfl) dX10_reasonAgainst_11 ?_
    refine jr_if_ne C 19 dX10_reasonAgainst_14 (by decide) (fun b14 => ?_) (fun b14 => ?_)
    · replace b14 := jb_t b14
      refine jr_aload_n C dX10_reasonAgainst_19 rfl ?_
      refine jr_getr C kf_X10_19_0 dX10_reasonAgainst_20 ?_
      refine jr_iload_n C dX10_reasonAgainst_23 rfl ?_
      refine jr_vip C [.int _] _ (ct_X2_has E _ _ (σ.1 2 8) rfl) ky_X2_has kv_X2_has kk_X_2 km_X10_115 (by decide) rfl (Nat.le_of_ble_eq_true rfl) dX10_reasonAgainst_24 ?_
      refine jr_if_eq C 41 dX10_reasonAgainst_27 (by decide) (fun b27 => ?_) (fun b27 => ?_)
      · replace b27 := jb_f b27
        refine jr_bipush C (v := -2) dX10_reasonAgainst_41 (by decide) ?_
        exact ret _ _ _ _ dX10_reasonAgainst_43 rfl (⟨by unfold x_whyf; split <;> first | (exfalso; omega) | rfl, rfl⟩)
      · replace b27 := jb_t b27
        exfalso; omega
    · replace b14 := jb_f b14
      refine jr_iconst C (v := -1) dX10_reasonAgainst_17 (by decide) ?_
      exact ret _ _ _ _ dX10_reasonAgainst_18 rfl (⟨by unfold x_whyf; split <;> first | (exfalso; omega) | rfl, rfl⟩)
theorem cf_X10_why (E : jf_E) (σ : jf_S) (f h b s : Int32) (hf : ((σ.1 2 8)).toInt = 0) : jf_I jh_X E yX10_why cX10_why 5 .int 3 [jf_r E 0, .int f, .int h, .int b, .int s] σ (fun r τ => r = x_whyf b s ∧ τ = σ) := by
  refine jf_mkI (by decide) (Nat.le_of_ble_eq_true rfl) ?_
  intro G C ret
  refine jr_aload_n C dX10_why_0 rfl ?_
  refine jr_iload_n C dX10_why_1 rfl ?_
  refine jr_iload_n C dX10_why_2 rfl ?_
  refine jr_iload_n C dX10_why_3 rfl ?_
  refine jr_iload C dX10_why_4 rfl ?_
  refine jr_vip C [.int _, .int _, .int _, .int _] _ (cf_X10_reasonAgainst E _ _ _ _ _ hf) ky_X10_reasonAgainst kv_X10_reasonAgainst kk_X_0 km_X10_125 (by decide) rfl (Nat.le_of_ble_eq_true rfl) dX10_why_6 ?_
  exact ret _ _ _ _ dX10_why_9 rfl (⟨rfl, rfl⟩)
theorem cf_X10_put (E : jf_E) (σ : jf_S) (f h b s : Int32) (hf : ((σ.1 2 8)).toInt = 0) : jf_I jh_X E yX10_put cX10_put 6 .int 3 [jf_r E 0, .int f, .int h, .int b, .int s] σ (fun r τ => r = x_whyf b s ∧ τ = x_told σ (x_whyf b s)) := by
  refine jf_mkI (by decide) (Nat.le_of_ble_eq_true rfl) ?_
  intro G C ret
  have hw : (x_whyf b s).toInt < 0 := by unfold x_whyf; split <;> decide
  refine jr_aload_n C dX10_put_0 rfl ?_
  refine jr_iload_n C dX10_put_1 rfl ?_
  refine jr_iload_n C dX10_put_2 rfl ?_
  refine jr_iload_n C dX10_put_3 rfl ?_
  refine jr_iload C dX10_put_4 rfl ?_
  refine jr_vip C [.int _, .int _, .int _, .int _] _ (cf_X10_reasonAgainst E _ _ _ _ _ hf) ky_X10_reasonAgainst kv_X10_reasonAgainst kk_X_0 km_X10_125 (by decide) rfl (Nat.le_of_ble_eq_true rfl) dX10_put_6 ?_
  refine jr_istore C dX10_put_9 (by decide) ?_
  refine jr_iload C dX10_put_11 rfl ?_
  refine jr_nif_ge C 23 dX10_put_13 (by decide) (fun b13 => ?_) (fun b13 => ?_)
  · exfalso; omega
  · refine jr_aload_n C dX10_put_16 rfl ?_
    refine jr_iload C dX10_put_17 rfl ?_
    refine jr_vip C [.int _] _ (ct_X10_told E _ _) ky_X10_told kv_X10_told kk_X_0 km_X10_97 (by decide) rfl (Nat.le_of_ble_eq_true rfl) dX10_put_19 ?_
    exact ret _ _ _ _ dX10_put_22 rfl (⟨rfl, rfl⟩)
theorem cf_X10_of (E : jf_E) (σ : jf_S) (s w : Int32) (he : ((σ.1 3 8)).toInt = 0) : jf_I jh_X E yX10_of cX10_of 3 .int 1 [jf_r E 0, .int s, .int w] σ (fun r τ => r = -1 ∧ τ = σ) := by
  refine jf_mkI (by decide) (Nat.le_of_ble_eq_true rfl) ?_
  intro G C ret
  refine jr_aload_n C dX10_of_0 rfl ?_
  refine jr_getr C kf_X10_26_0 dX10_of_1 ?_
  refine jr_iload_n C dX10_of_4 rfl ?_
  refine jr_vip C [.int _] _ (ct_X8_has E _ _ (σ.1 3 8) (σ.1 31) rfl rfl (by omega)) ky_X8_has kv_X8_has kk_X_3 km_X10_135 (by decide) rfl (Nat.le_of_ble_eq_true rfl) dX10_of_5 ?_
  refine jr_if_ne C 13 dX10_of_8 (by decide) (fun b8 => ?_) (fun b8 => ?_)
  · replace b8 := jb_t b8
    exfalso; omega
  · replace b8 := jb_f b8
    refine jr_iconst C (v := -1) dX10_of_11 (by decide) ?_
    exact ret _ _ _ _ dX10_of_12 rfl (⟨rfl, rfl⟩)
theorem cf_X10_queue (E : jf_E) (σ : jf_S) (s m w : Int32) (he : ((σ.1 3 8)).toInt = 0) : jf_I jh_X E yX10_queue cX10_queue 4 .int 1 [jf_r E 0, .int s, .int m, .int w] σ (fun r τ => r = -1 ∧ τ = σ) := by
  refine jf_mkI (by decide) (Nat.le_of_ble_eq_true rfl) ?_
  intro G C ret
  refine jr_iload_n C dX10_queue_0 rfl ?_
  refine jr_bipush C (v := -40) dX10_queue_1 (by decide) ?_
  refine jr_sipush C (v := 400) dX10_queue_3 (by decide) ?_
  refine jr_sip C [.int _, .int _, .int _] _ (ct_X10_withinw E _ _ _ _ (-40) 400 rfl rfl) ky_X10_within ks_X10_within km_X10_93 (by decide) rfl (Nat.le_of_ble_eq_true rfl) dX10_queue_6 ?_
  refine jr_if_eq C 32 dX10_queue_9 (by decide) (fun b9 => ?_) (fun b9 => ?_)
  · replace b9 := jb_f b9
    refine jr_iconst C (v := -1) dX10_queue_32 (by decide) ?_
    exact ret _ _ _ _ dX10_queue_33 rfl (⟨rfl, rfl⟩)
  · replace b9 := jb_t b9
    refine jr_iload_n C dX10_queue_12 rfl ?_
    refine jr_iconst C (v := 0) dX10_queue_13 (by decide) ?_
    refine jr_iconst C (v := 2) dX10_queue_14 (by decide) ?_
    refine jr_sip C [.int _, .int _, .int _] _ (ct_X10_withinw E _ _ _ _ 0 2 rfl rfl) ky_X10_within ks_X10_within km_X10_93 (by decide) rfl (Nat.le_of_ble_eq_true rfl) dX10_queue_15 ?_
    refine jr_if_eq C 32 dX10_queue_18 (by decide) (fun b18 => ?_) (fun b18 => ?_)
    · replace b18 := jb_f b18
      refine jr_iconst C (v := -1) dX10_queue_32 (by decide) ?_
      exact ret _ _ _ _ dX10_queue_33 rfl (⟨rfl, rfl⟩)
    · replace b18 := jb_t b18
      refine jr_aload_n C dX10_queue_21 rfl ?_
      refine jr_getr C kf_X10_26_0 dX10_queue_22 ?_
      refine jr_iload_n C dX10_queue_25 rfl ?_
      refine jr_vip C [.int _] _ (ct_X8_has E _ _ (σ.1 3 8) (σ.1 31) rfl rfl (by omega)) ky_X8_has kv_X8_has kk_X_3 km_X10_135 (by decide) rfl (Nat.le_of_ble_eq_true rfl) dX10_queue_26 ?_
      refine jr_if_ne C 34 dX10_queue_29 (by decide) (fun b29 => ?_) (fun b29 => ?_)
      · replace b29 := jb_t b29
        exfalso; omega
      · replace b29 := jb_f b29
        refine jr_iconst C (v := -1) dX10_queue_32 (by decide) ?_
        exact ret _ _ _ _ dX10_queue_33 rfl (⟨rfl, rfl⟩)
theorem cf_X10_vote (E : jf_E) (σ : jf_S) (j f : Int32) (hj : ((σ.1 7 7)).toInt = 0) : jf_I jh_X E yX10_vote cX10_vote 3 .int 2 [jf_r E 0, .int j, .int f] σ (fun r τ => r = -2 ∧ τ = x_told σ (-2)) := by
  refine jf_mkI (by decide) (Nat.le_of_ble_eq_true rfl) ?_
  intro G C ret
  refine jr_aload_n C dX10_vote_0 rfl ?_
  refine jr_getr C kf_X10_58_0 dX10_vote_1 ?_
  refine jr_iload_n C dX10_vote_4 rfl ?_
  refine jr_vip C [.int _] _ (ct_X4_has E _ _ (σ.1 7 7) rfl) ky_X4_has kv_X4_has kk_X_7 km_X10_204 (by decide) rfl (Nat.le_of_ble_eq_true rfl) dX10_vote_5 ?_
  refine jr_if_eq C 22 dX10_vote_8 (by decide) (fun b8 => ?_) (fun b8 => ?_)
  · replace b8 := jb_f b8
    refine jr_aload_n C dX10_vote_22 rfl ?_
    refine jr_bipush C (v := -2) dX10_vote_23 (by decide) ?_
    refine jr_vip C [.int _] _ (ct_X10_told E _ _) ky_X10_told kv_X10_told kk_X_0 km_X10_97 (by decide) rfl (Nat.le_of_ble_eq_true rfl) dX10_vote_25 ?_
    exact ret _ _ _ _ dX10_vote_28 rfl (⟨rfl, rfl⟩)
  · replace b8 := jb_t b8
    exfalso; omega
theorem cf_X10_counts (E : jf_E) (σ : jf_S) (j f k : Int32) (hj : ((σ.1 7 7)).toInt = 0) : jf_I jh_X E yX10_counts cX10_counts 4 .int 2 [jf_r E 0, .int j, .int f, .int k] σ (fun r τ => r = (if 0 ≤ k.toInt ∧ k.toInt ≤ 100000 then -2 else -1) ∧ τ = σ) := by
  refine jf_mkI (by decide) (Nat.le_of_ble_eq_true rfl) ?_
  intro G C ret
  refine jr_iload_n C dX10_counts_0 rfl ?_
  refine jr_sip C [.int _] _ (ct_X10_isKnown E _ _) ky_X10_isKnown ks_X10_isKnown km_X10_212 (by decide) rfl (Nat.le_of_ble_eq_true rfl) dX10_counts_1 ?_
  refine jr_if_ne C 9 dX10_counts_4 (by decide) (fun b4 => ?_) (fun b4 => ?_)
  · replace b4 := jb_t b4
    refine jr_aload_n C dX10_counts_9 rfl ?_
    refine jr_getr C kf_X10_58_0 dX10_counts_10 ?_
    refine jr_iload_n C dX10_counts_13 rfl ?_
    refine jr_vip C [.int _] _ (ct_X4_has E _ _ (σ.1 7 7) rfl) ky_X4_has kv_X4_has kk_X_7 km_X10_204 (by decide) rfl (Nat.le_of_ble_eq_true rfl) dX10_counts_14 ?_
    refine jr_if_eq C 31 dX10_counts_17 (by decide) (fun b17 => ?_) (fun b17 => ?_)
    · replace b17 := jb_f b17
      refine jr_bipush C (v := -2) dX10_counts_31 (by decide) ?_
      exact ret _ _ _ _ dX10_counts_33 rfl (⟨by split <;> first | (exfalso; omega) | rfl, rfl⟩)
    · replace b17 := jb_t b17
      exfalso; omega
  · replace b4 := jb_f b4
    refine jr_iconst C (v := -1) dX10_counts_7 (by decide) ?_
    exact ret _ _ _ _ dX10_counts_8 rfl (⟨by split <;> first | (exfalso; omega) | rfl, rfl⟩)
theorem cf_X10_prize (E : jf_E) (σ : jf_S) (k : Int32) (hs : ((σ.1 8 2)).toInt = 0) : jf_I jh_X E yX10_prize cX10_prize 3 .int 2 [jf_r E 0, .int k] σ (fun r τ => r = (if 0 ≤ k.toInt ∧ k.toInt ≤ 100000 then -6 else -1) ∧ τ = x_told σ r) := by
  refine jf_mkI (by decide) (Nat.le_of_ble_eq_true rfl) ?_
  intro G C ret
  refine jr_iload_n C dX10_prize_0 rfl ?_
  refine jr_sip C [.int _] _ (ct_X10_isKnown E _ _) ky_X10_isKnown ks_X10_isKnown km_X10_212 (by decide) rfl (Nat.le_of_ble_eq_true rfl) dX10_prize_1 ?_
  refine jr_if_ne C 13 dX10_prize_4 (by decide) (fun b4 => ?_) (fun b4 => ?_)
  · replace b4 := jb_t b4
    refine jr_aload_n C dX10_prize_13 rfl ?_
    refine jr_getr C kf_X10_65_0 dX10_prize_14 ?_
    refine jr_getv C kf_X10_242_8 dX10_prize_17 (v := σ.1 8 2) rfl ?_
    refine jr_nif_ne C 30 dX10_prize_20 (by decide) (fun b20 => ?_) (fun b20 => ?_)
    · exfalso; omega
    · refine jr_aload_n C dX10_prize_23 rfl ?_
      refine jr_bipush C (v := -6) dX10_prize_24 (by decide) ?_
      refine jr_vip C [.int _] _ (ct_X10_told E _ _) ky_X10_told kv_X10_told kk_X_0 km_X10_97 (by decide) rfl (Nat.le_of_ble_eq_true rfl) dX10_prize_26 ?_
      exact ret _ _ _ _ dX10_prize_29 rfl (⟨by split <;> first | (exfalso; omega) | rfl, rfl⟩)
  · replace b4 := jb_f b4
    refine jr_aload_n C dX10_prize_7 rfl ?_
    refine jr_iconst C (v := -1) dX10_prize_8 (by decide) ?_
    refine jr_vip C [.int _] _ (ct_X10_told E _ _) ky_X10_told kv_X10_told kk_X_0 km_X10_97 (by decide) rfl (Nat.le_of_ble_eq_true rfl) dX10_prize_9 ?_
    exact ret _ _ _ _ dX10_prize_12 rfl (⟨by split <;> first | (exfalso; omega) | rfl, rfl⟩)
theorem cf_X9_sum (E : jf_E) (σ : jf_S) (he : ((σ.1 3 8)).toInt = 0) : jf_I jh_X E yX9_sum cX9_sum 3 .int 0 [jf_r E 5] σ (fun r τ => r = 0 ∧ τ = σ) := by
  refine jf_mkI (by decide) (Nat.le_of_ble_eq_true rfl) ?_
  intro G C ret
  have z0 : (0 : Int32).toInt = 0 := rfl
  refine jr_iconst C (v := 0) dX9_sum_0 (by decide) ?_
  refine jr_istore_n C dX9_sum_1 (by decide) ?_
  refine jr_iconst C (v := 0) dX9_sum_2 (by decide) ?_
  refine jr_istore_n C dX9_sum_3 (by decide) ?_
  refine jr_iload_n C dX9_sum_4 rfl ?_
  refine jr_aload_n C dX9_sum_5 rfl ?_
  refine jr_getr C kf_X9_36_5 dX9_sum_6 ?_
  refine jr_getv C kf_X9_61_3 dX9_sum_9 (v := σ.1 3 8) rfl ?_
  refine jr_ncmp_ge C 41 dX9_sum_12 (by decide) rfl rfl (fun b12 => ?_) (fun b12 => ?_)
  · refine jr_iload_n C dX9_sum_41 rfl ?_
    exact ret _ _ _ _ dX9_sum_42 rfl (⟨rfl, rfl⟩)
  · exfalso; omega
theorem cf_X10_grid (E : jf_E) (σ : jf_S) (he : ((σ.1 3 8)).toInt = 0) : jf_I jh_X E yX10_grid cX10_grid 1 .int 1 [jf_r E 0] σ (fun r τ => r = 0 ∧ τ = σ) := by
  refine jf_mkI (by decide) (Nat.le_of_ble_eq_true rfl) ?_
  intro G C ret
  refine jr_aload_n C dX10_grid_0 rfl ?_
  refine jr_getr C kf_X10_44_0 dX10_grid_1 ?_
  refine jr_vip C [] _ (cf_X9_sum E _ he) ky_X9_sum kv_X9_sum kk_X_5 km_X10_173 (by decide) rfl (Nat.le_of_ble_eq_true rfl) dX10_grid_4 ?_
  exact ret _ _ _ _ dX10_grid_7 rfl (⟨rfl, rfl⟩)
theorem cf_X9_countBeside (E : jf_E) (σ : jf_S) (he : ((σ.1 3 8)).toInt = 0) : jf_V jh_X E yX9_countBeside cX9_countBeside 2 0 [jf_r E 5] σ (fun τ => τ = jf_i σ 5 9 0) := by
  refine jf_mkV (by decide) (Nat.le_of_ble_eq_true rfl) ?_
  intro G C ret
  have z0 : (0 : Int32).toInt = 0 := rfl
  refine jr_aload_n C dX9_countBeside_0 rfl ?_
  refine jr_iconst C (v := 0) dX9_countBeside_1 (by decide) ?_
  refine jr_puti C kp_X9_108_5 dX9_countBeside_2 ?_
  refine jr_iconst C (v := 0) dX9_countBeside_5 (by decide) ?_
  refine jr_istore_n C dX9_countBeside_6 (by decide) ?_
  refine jr_iload_n C dX9_countBeside_7 rfl ?_
  refine jr_aload_n C dX9_countBeside_8 rfl ?_
  refine jr_getr C kf_X9_36_5 dX9_countBeside_9 ?_
  refine jr_getv C kf_X9_61_3 dX9_countBeside_12 (v := σ.1 3 8) rfl ?_
  refine jr_ncmp_ge C 67 dX9_countBeside_15 (by decide) rfl rfl (fun b15 => ?_) (fun b15 => ?_)
  · exact ret _ _ _ dX9_countBeside_67 (rfl)
  · exfalso; omega
theorem cf_X9_findBestChange (E : jf_E) (σ : jf_S) (he : ((σ.1 3 8)).toInt = 0) : jf_I jh_X E yX9_findBestChange cX9_findBestChange 5 .boolean 1 [jf_r E 5] σ (fun r τ => r = 0 ∧ τ = jf_i (jf_i σ 5 9 0) 5 10 (-1)) := by
  refine jf_mkI (by decide) (Nat.le_of_ble_eq_true rfl) ?_
  intro G C ret
  have z0 : (0 : Int32).toInt = 0 := rfl
  refine jr_aload_n C dX9_findBestChange_0 rfl ?_
  refine jr_vvp C [] _ (cf_X9_countBeside E _ he) ky_X9_countBeside kv_X9_countBeside kk_X_5 km_X9_90 (by decide) rfl (Nat.le_of_ble_eq_true rfl) dX9_findBestChange_1 ?_
  refine jr_aload_n C dX9_findBestChange_4 rfl ?_
  refine jr_iconst C (v := -1) dX9_findBestChange_5 (by decide) ?_
  refine jr_puti C kp_X9_77_5 dX9_findBestChange_6 ?_
  refine jr_iconst C (v := 0) dX9_findBestChange_9 (by decide) ?_
  refine jr_istore_n C dX9_findBestChange_10 (by decide) ?_
  refine jr_iload_n C dX9_findBestChange_11 rfl ?_
  refine jr_aload_n C dX9_findBestChange_12 rfl ?_
  refine jr_getr C kf_X9_36_5 dX9_findBestChange_13 ?_
  refine jr_getv C kf_X9_61_3 dX9_findBestChange_16 (v := σ.1 3 8) rfl ?_
  refine jr_ncmp_ge C 121 dX9_findBestChange_19 (by decide) rfl rfl (fun b19 => ?_) (fun b19 => ?_)
  · refine jr_aload_n C dX9_findBestChange_121 rfl ?_
    refine jr_geti C kf_X9_77_5 dX9_findBestChange_122 ?_
    refine jr_iconst C (v := -1) dX9_findBestChange_125 (by decide) ?_
    refine jr_ncmp_eq C (b := -1) 133 dX9_findBestChange_126 (by decide) rfl rfl (fun b126 => ?_) (fun b126 => ?_)
    · refine jr_iconst C (v := 0) dX9_findBestChange_133 (by decide) ?_
      exact ret _ _ _ _ dX9_findBestChange_134 (rfl) (⟨rfl, rfl⟩)
    · exact absurd rfl b126
  · exfalso; omega
theorem cf_X9_improve (E : jf_E) (σ : jf_S) (he : ((σ.1 3 8)).toInt = 0) : jf_I jh_X E yX9_improve cX9_improve 2 .int 2 [jf_r E 5] σ (fun r τ => r = 0 ∧ τ = jf_i (jf_i (jf_i σ 5 9 0) 5 10 (-1)) 5 8 0) := by
  refine jf_mkI (by decide) (Nat.le_of_ble_eq_true rfl) ?_
  intro G C ret
  have z0 : (0 : Int32).toInt = 0 := rfl
  refine jr_iconst C (v := 0) dX9_improve_0 (by decide) ?_
  refine jr_istore_n C dX9_improve_1 (by decide) ?_
  refine jr_iload_n C dX9_improve_2 rfl ?_
  refine jr_bipush C (v := 40) dX9_improve_3 (by decide) ?_
  refine jr_icmp_ge C 40 dX9_improve_5 (by decide) (fun b => absurd b (by decide)) (fun _ => ?_)
  refine jr_aload_n C dX9_improve_8 rfl ?_
  refine jr_vip C [] _ (cf_X9_findBestChange E _ he) ky_X9_findBestChange kv_X9_findBestChange kk_X_5 km_X9_73 (by decide) rfl (Nat.le_of_ble_eq_true rfl) dX9_improve_9 ?_
  refine jr_if_eq C 40 dX9_improve_12 (by decide) (fun _ => ?_) (fun b => absurd rfl b)
  refine jr_aload_n C dX9_improve_40 rfl ?_
  refine jr_iconst C (v := 0) dX9_improve_41 (by decide) ?_
  refine jr_puti C kp_X9_24_5 dX9_improve_42 ?_
  refine jr_iload_n C dX9_improve_45 rfl ?_
  exact ret _ _ _ _ dX9_improve_46 rfl (⟨rfl, rfl⟩)
theorem cf_X10_better (E : jf_E) (σ : jf_S) (he : ((σ.1 3 8)).toInt = 0) : jf_I jh_X E yX10_better cX10_better 1 .int 3 [jf_r E 0] σ (fun r τ => r = 0 ∧ τ = jf_i (jf_i (jf_i σ 5 9 0) 5 10 (-1)) 5 8 0) := by
  refine jf_mkI (by decide) (Nat.le_of_ble_eq_true rfl) ?_
  intro G C ret
  refine jr_aload_n C dX10_better_0 rfl ?_
  refine jr_getr C kf_X10_44_0 dX10_better_1 ?_
  refine jr_vip C [] _ (cf_X9_improve E _ he) ky_X9_improve kv_X9_improve kk_X_5 km_X10_180 (by decide) rfl (Nat.le_of_ble_eq_true rfl) dX10_better_4 ?_
  exact ret _ _ _ _ dX10_better_7 rfl (⟨rfl, rfl⟩)

