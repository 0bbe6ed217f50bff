/-! the class: worths, safe -/
theorem ji_div1 {x : Int32} (h : 0 < x.toInt) : ¬ (1 + x) = 0 := by
  intro e
  have h1 := fb_rng x
  have h2 : x = -1 := by
    have : (1 + x) + -1 = 0 + -1 := by rw [e]
    rw [Int32.add_comm 1 x, Int32.add_assoc] at this
    simpa using this
  rw [h2] at h
  exact absurd h (by decide)
theorem ct_X9_share (E : jf_E) (σ : jf_S) (f b n : Int32) (f0 : 0 ≤ f.toInt ∧ f.toInt < 20) (b0 : 0 ≤ b.toInt) : jf_I jh_X E yX9_share cX9_share 5 .int 0 [jf_r E 5, .int f, .int b, .int n] σ (fun r τ => r = (if 0 < n.toInt then (σ.1 19) f.toNatClampNeg * (σ.1 33) ((b - b / 1440 * 1440) / 60).toNatClampNeg / 100 / (1 + n) else (σ.1 19) f.toNatClampNeg * (σ.1 33) ((b - b / 1440 * 1440) / 60).toNatClampNeg / 100) ∧ τ = σ) := by
  refine jf_mkI (by decide) (Nat.le_of_ble_eq_true rfl) ?_
  intro G C ret
  refine jr_aload_n C dX9_share_0 rfl ?_
  refine jr_getr C kf_X9_32_5 dX9_share_1 ?_
  refine jr_getr C kf_X9_157_2 dX9_share_4 ?_
  refine jr_iload_n C dX9_share_7 rfl ?_
  refine jr_ialv C ka_X_19 dX9_share_8 (ji_in f0.1 f0.2) (v := σ.1 19 _) rfl ?_
  refine jr_aload_n C dX9_share_9 rfl ?_
  refine jr_getr C kf_X9_9_5 dX9_share_10 ?_
  refine jr_iload_n C dX9_share_13 rfl ?_
  refine jr_sipush C (v := 1440) dX9_share_14 (by decide) ?_
  refine jr_irem C dX9_share_17 (by decide) ?_
  refine jr_bipush C (v := 60) dX9_share_18 (by decide) ?_
  refine jr_idiv C dX9_share_20 (by decide) ?_
  refine jr_ialv C ka_X_33 dX9_share_21 (ji_hin b0) (v := σ.1 33 _) rfl ?_
  refine jr_imul C dX9_share_22 ?_
  refine jr_bipush C (v := 100) dX9_share_23 (by decide) ?_
  refine jr_idiv C dX9_share_25 (by decide) ?_
  refine jr_istore C dX9_share_26 (by decide) ?_
  refine jr_iload_n C dX9_share_28 rfl ?_
  refine jr_nif_le C 41 dX9_share_29 (by decide) (fun b29 => ?_) (fun b29 => ?_)
  · refine jr_iload C dX9_share_41 rfl ?_
    exact ret _ _ _ _ dX9_share_43 rfl (⟨by split <;> first | rfl | (exfalso; omega), rfl⟩)
  · refine jr_iload C dX9_share_32 rfl ?_
    refine jr_iconst C (v := 1) dX9_share_34 (by decide) ?_
    refine jr_iload_n C dX9_share_35 rfl ?_
    refine jr_iadd C dX9_share_36 ?_
    refine jr_idiv C dX9_share_37 (ji_div1 (by omega)) ?_
    refine jr_goto C 43 dX9_share_38 (by decide) ?_
    exact ret _ _ _ _ dX9_share_43 rfl (⟨by split <;> first | rfl | (exfalso; omega), rfl⟩)
def x_share (σ : jf_S) (f b n : Int32) : Int32 := if 0 < n.toInt then (σ.1 19) f.toNatClampNeg * (σ.1 33) ((b - b / 1440 * 1440) / 60).toNatClampNeg / 100 / (1 + n) else (σ.1 19) f.toNatClampNeg * (σ.1 33) ((b - b / 1440 * 1440) / 60).toNatClampNeg / 100
theorem ct_X9_crowd (E : jf_E) (σ : jf_S) (s n : Int32) (hI : xI σ) (s0 : 0 ≤ s.toInt ∧ s.toInt < 60) : jf_I jh_X E yX9_crowd cX9_crowd 3 .int 1 [jf_r E 5, .int s, .int n] σ (fun r τ => r = x_share σ ((σ.1 25) s.toNatClampNeg) ((σ.1 27) s.toNatClampNeg) n ∧ τ = σ) := by
  refine jf_mkI (by decide) (Nat.le_of_ble_eq_true rfl) ?_
  intro G C ret
  refine jr_aload_n C dX9_crowd_0 rfl ?_
  refine jr_aload_n C dX9_crowd_1 rfl ?_
  refine jr_getr C kf_X9_36_5 dX9_crowd_2 ?_
  refine jr_getr C kf_X9_115_3 dX9_crowd_5 ?_
  refine jr_iload_n C dX9_crowd_8 rfl ?_
  refine jr_ialv C ka_X_25 dX9_crowd_9 (ji_in s0.1 s0.2) (v := σ.1 25 _) rfl ?_
  refine jr_aload_n C dX9_crowd_10 rfl ?_
  refine jr_getr C kf_X9_36_5 dX9_crowd_11 ?_
  refine jr_getr C kf_X9_101_3 dX9_crowd_14 ?_
  refine jr_iload_n C dX9_crowd_17 rfl ?_
  refine jr_ialv C ka_X_27 dX9_crowd_18 (ji_in s0.1 s0.2) (v := σ.1 27 _) rfl ?_
  refine jr_iload_n C dX9_crowd_19 rfl ?_
  refine jr_vip C [.int _, .int _, .int _] _ (ct_X9_share E _ _ _ _ (xI_film hI _) (hI.2.2.2.2 _).1) ky_X9_share kv_X9_share kk_X_5 km_X9_118 (by decide) rfl (Nat.le_of_ble_eq_true rfl) dX9_crowd_20 ?_
  exact ret _ _ _ _ dX9_crowd_23 rfl (⟨rfl, rfl⟩)
def x_worth (σ : jf_S) (s n : Int32) : Int32 := if (σ.1 13) ((σ.1 26) s.toNatClampNeg).toNatClampNeg < x_share σ ((σ.1 25) s.toNatClampNeg) ((σ.1 27) s.toNatClampNeg) n then (σ.1 13) ((σ.1 26) s.toNatClampNeg).toNatClampNeg else x_share σ ((σ.1 25) s.toNatClampNeg) ((σ.1 27) s.toNatClampNeg) n
theorem ct_X9_worth (E : jf_E) (σ : jf_S) (s n : Int32) (hI : xI σ) (s0 : 0 ≤ s.toInt ∧ s.toInt < 60) : jf_I jh_X E yX9_worth cX9_worth 3 .int 2 [jf_r E 5, .int s, .int n] σ (fun r τ => r = x_worth σ s n ∧ τ = σ) := by
  refine jf_mkI (by decide) (Nat.le_of_ble_eq_true rfl) ?_
  intro G C ret
  refine jr_aload_n C dX9_worth_0 rfl ?_
  refine jr_iload_n C dX9_worth_1 rfl ?_
  refine jr_iload_n C dX9_worth_2 rfl ?_
  refine jr_vip C [.int _, .int _] _ (ct_X9_crowd E _ _ _ hI s0) ky_X9_crowd kv_X9_crowd kk_X_5 km_X9_54 (by decide) rfl (Nat.le_of_ble_eq_true rfl) dX9_worth_3 ?_
  refine jr_aload_n C dX9_worth_6 rfl ?_
  refine jr_getr C kf_X9_28_5 dX9_worth_7 ?_
  refine jr_getr C kf_X9_122_1 dX9_worth_10 ?_
  refine jr_aload_n C dX9_worth_13 rfl ?_
  refine jr_getr C kf_X9_36_5 dX9_worth_14 ?_
  refine jr_getr C kf_X9_135_3 dX9_worth_17 ?_
  refine jr_iload_n C dX9_worth_20 rfl ?_
  refine jr_ialv C ka_X_26 dX9_worth_21 (ji_in s0.1 s0.2) (v := σ.1 26 _) rfl ?_
  refine jr_ialv C ka_X_13 dX9_worth_22 (ji_in (xI_hall hI _).1 (xI_hall hI _).2) (v := σ.1 13 _) rfl ?_
  refine jr_mmin C km_X9_125 (by decide) (Nat.le_of_ble_eq_true rfl) dX9_worth_23 ?_
  exact ret _ _ _ _ dX9_worth_26 rfl (⟨rfl, rfl⟩)
theorem ct_X9_runBeside (E : jf_E) (σ : jf_S) (s o : Int32) (hI : xI σ) (s0 : 0 ≤ s.toInt ∧ s.toInt < 60) (o0 : 0 ≤ o.toInt ∧ o.toInt < 60) : jf_I jh_X E yX9_runBeside cX9_runBeside 3 .boolean 1 [jf_r E 5, .int s, .int o] σ (fun r τ => r = jb (((σ.1 12) ((σ.1 26) s.toNatClampNeg).toNatClampNeg).toInt = ((σ.1 12) ((σ.1 26) o.toNatClampNeg).toNatClampNeg).toInt ∧ ((σ.1 27) s.toNatClampNeg).toInt < ((σ.1 28) o.toNatClampNeg).toInt ∧ ((σ.1 27) o.toNatClampNeg).toInt < ((σ.1 28) s.toNatClampNeg).toInt) ∧ τ = σ) := by
  refine jf_mkI (by decide) (Nat.le_of_ble_eq_true rfl) ?_
  intro G C ret
  refine jr_aload_n C dX9_runBeside_0 rfl ?_
  refine jr_getr C kf_X9_28_5 dX9_runBeside_1 ?_
  refine jr_aload_n C dX9_runBeside_4 rfl ?_
  refine jr_getr C kf_X9_36_5 dX9_runBeside_5 ?_
  refine jr_getr C kf_X9_135_3 dX9_runBeside_8 ?_
  refine jr_iload_n C dX9_runBeside_11 rfl ?_
  refine jr_ialv C ka_X_26 dX9_runBeside_12 (ji_in s0.1 s0.2) (v := σ.1 26 _) rfl ?_
  refine jr_aload_n C dX9_runBeside_13 rfl ?_
  refine jr_getr C kf_X9_36_5 dX9_runBeside_14 ?_
  refine jr_getr C kf_X9_135_3 dX9_runBeside_17 ?_
  refine jr_iload_n C dX9_runBeside_20 rfl ?_
  refine jr_ialv C ka_X_26 dX9_runBeside_21 (ji_in o0.1 o0.2) (v := σ.1 26 _) rfl ?_
  refine jr_vip C [.int _, .int _] _ (ct_X3_inOneTown E _ _ _ (xI_hall hI _) (xI_hall hI _)) ky_X3_inOneTown kv_X3_inOneTown kk_X_1 km_X9_138 (by decide) rfl (Nat.le_of_ble_eq_true rfl) dX9_runBeside_22 ?_
  refine jr_if_eq C 61 dX9_runBeside_25 (by decide) (fun b25 => ?_) (fun b25 => ?_)
  · replace b25 := jb_f b25
    refine jr_iconst C (v := 0) dX9_runBeside_61 (by decide) ?_
    exact ret _ _ _ _ dX9_runBeside_62 (rfl) (⟨by first | exact jb_tt ⟨by omega, by omega, by omega⟩ | exact jb_ff (fun h => by omega), rfl⟩)
  · replace b25 := jb_t b25
    refine jr_aload_n C dX9_runBeside_28 rfl ?_
    refine jr_getr C kf_X9_36_5 dX9_runBeside_29 ?_
    refine jr_iload_n C dX9_runBeside_32 rfl ?_
    refine jr_aload_n C dX9_runBeside_33 rfl ?_
    refine jr_getr C kf_X9_36_5 dX9_runBeside_34 ?_
    refine jr_getr C kf_X9_101_3 dX9_runBeside_37 ?_
    refine jr_iload_n C dX9_runBeside_40 rfl ?_
    refine jr_ialv C ka_X_27 dX9_runBeside_41 (ji_in o0.1 o0.2) (v := σ.1 27 _) rfl ?_
    refine jr_aload_n C dX9_runBeside_42 rfl ?_
    refine jr_getr C kf_X9_36_5 dX9_runBeside_43 ?_
    refine jr_getr C kf_X9_154_3 dX9_runBeside_46 ?_
    refine jr_iload_n C dX9_runBeside_49 rfl ?_
    refine jr_ialv C ka_X_28 dX9_runBeside_50 (ji_in o0.1 o0.2) (v := σ.1 28 _) rfl ?_
    refine jr_vip C [.int _, .int _, .int _] _ (ct_X8_runsWithin E _ _ _ _ s0) ky_X8_runsWithin kv_X8_runsWithin kk_X_3 km_X9_141 (by decide) rfl (Nat.le_of_ble_eq_true rfl) dX9_runBeside_51 ?_
    refine jr_if_eq C 61 dX9_runBeside_54 (by decide) (fun b54 => ?_) (fun b54 => ?_)
    · replace b54 := jb_f b54
      refine jr_iconst C (v := 0) dX9_runBeside_61 (by decide) ?_
      exact ret _ _ _ _ dX9_runBeside_62 (rfl) (⟨by first | exact jb_tt ⟨by omega, by omega, by omega⟩ | exact jb_ff (fun h => by omega), rfl⟩)
    · replace b54 := jb_t b54
      refine jr_iconst C (v := 1) dX9_runBeside_57 (by decide) ?_
      refine jr_goto C 62 dX9_runBeside_58 (by decide) ?_
      exact ret _ _ _ _ dX9_runBeside_62 (rfl) (⟨by first | exact jb_tt ⟨by omega, by omega, by omega⟩ | exact jb_ff (fun h => by omega), rfl⟩)
theorem ct_X9_manyBeside (E : jf_E) (σ : jf_S) (s : Int32) (hI : xI σ) (s0 : 0 ≤ s.toInt ∧ s.toInt < 60) : jf_I jh_X E yX9_manyBeside cX9_manyBeside 4 .int 2 [jf_r E 5, .int s] σ (fun r τ => σ = τ) := by
  refine jf_mkI (by decide) (Nat.le_of_ble_eq_true rfl) ?_
  intro G C ret
  have hE := hI.1
  have lp : ∀ (m : Nat) (n o : Int32), 0 ≤ o.toInt → o.toInt ≤ ((σ.1 3 8)).toInt → ((σ.1 3 8)).toInt - o.toInt < m → jf_X jh_X E G 4 4 [(0, jf_r E 5), (1, .int s), (2, .int n), (3, .int o)] [] σ := by
    intro m
    induction m with
    | zero => intro n o g1 g2 g3; exfalso; omega
    | succ m ih =>
      intro n o g1 g2 g3
      have e1 := ji_inc (k := o) (by omega)
      refine jr_iload_n C dX9_manyBeside_4 rfl ?_
      refine jr_aload_n C dX9_manyBeside_5 rfl ?_
      refine jr_getr C kf_X9_36_5 dX9_manyBeside_6 ?_
      refine jr_getv C kf_X9_61_3 dX9_manyBeside_9 (v := σ.1 3 8) rfl ?_
      refine jr_ncmp_ge C 50 dX9_manyBeside_12 (by decide) rfl rfl (fun b12 => ?_) (fun b12 => ?_)
      · refine jr_iload_n C dX9_manyBeside_50 rfl ?_
        exact ret _ _ _ _ dX9_manyBeside_51 rfl (rfl)
      · refine jr_iload_n C dX9_manyBeside_15 rfl ?_
        refine jr_iload_n C dX9_manyBeside_16 rfl ?_
        refine jr_ncmp_eq C 44 dX9_manyBeside_17 (by decide) rfl rfl (fun b17 => ?_) (fun b17 => ?_)
        · refine jr_iinc C _ dX9_manyBeside_44 rfl rfl (by decide) ?_
          refine jr_goto C 4 dX9_manyBeside_47 (by decide) ?_
          exact jr_sub [(0, jf_r E 5), (1, .int s), (2, .int _), (3, .int _)] rfl (ih _ _ (by omega) (by omega) (by omega))
        · refine jr_aload_n C dX9_manyBeside_20 rfl ?_
          refine jr_getr C kf_X9_36_5 dX9_manyBeside_21 ?_
          refine jr_getr C kf_X9_66_3 dX9_manyBeside_24 ?_
          refine jr_iload_n C dX9_manyBeside_27 rfl ?_
          refine jr_zalv C ka_X_31 dX9_manyBeside_28 (ji_in (i := o) (by omega) (by omega)) (v := σ.1 31 _) rfl ?_
          refine jr_nif_eq C 44 dX9_manyBeside_29 (by decide) (fun b29 => ?_) (fun b29 => ?_)
          · refine jr_iinc C _ dX9_manyBeside_44 rfl rfl (by decide) ?_
            refine jr_goto C 4 dX9_manyBeside_47 (by decide) ?_
            exact jr_sub [(0, jf_r E 5), (1, .int s), (2, .int _), (3, .int _)] rfl (ih _ _ (by omega) (by omega) (by omega))
          · refine jr_aload_n C dX9_manyBeside_32 rfl ?_
            refine jr_iload_n C dX9_manyBeside_33 rfl ?_
            refine jr_iload_n C dX9_manyBeside_34 rfl ?_
            refine jr_vip C [.int _, .int _] _ (ct_X9_runBeside E _ _ _ hI ⟨by omega, by omega⟩ s0) ky_X9_runBeside kv_X9_runBeside kk_X_5 km_X9_111 (by decide) rfl (Nat.le_of_ble_eq_true rfl) dX9_manyBeside_35 ?_
            refine jr_if_eq C 44 dX9_manyBeside_38 (by decide) (fun b38 => ?_) (fun b38 => ?_)
            · replace b38 := jb_f b38
              refine jr_iinc C _ dX9_manyBeside_44 rfl rfl (by decide) ?_
              refine jr_goto C 4 dX9_manyBeside_47 (by decide) ?_
              exact jr_sub [(0, jf_r E 5), (1, .int s), (2, .int _), (3, .int _)] rfl (ih _ _ (by omega) (by omega) (by omega))
            · replace b38 := jb_t b38
              refine jr_iinc C _ dX9_manyBeside_41 rfl rfl (by decide) ?_
              refine jr_iinc C _ dX9_manyBeside_44 rfl rfl (by decide) ?_
              refine jr_goto C 4 dX9_manyBeside_47 (by decide) ?_
              exact jr_sub [(0, jf_r E 5), (1, .int s), (2, .int _), (3, .int _)] rfl (ih _ _ (by omega) (by omega) (by omega))
  refine jr_iconst C (v := 0) dX9_manyBeside_0 (by decide) ?_
  refine jr_istore_n C dX9_manyBeside_1 (by decide) ?_
  refine jr_iconst C (v := 0) dX9_manyBeside_2 (by decide) ?_
  refine jr_istore_n C dX9_manyBeside_3 (by decide) ?_
  exact jr_sub [(0, jf_r E 5), (1, .int s), (2, .int _), (3, .int _)] rfl (lp 61 _ _ (by decide) hE.1 (by show _ - 0 < _; omega))
theorem ct_X9_crowdOf (E : jf_E) (σ : jf_S) (s : Int32) (hI : xI σ) (s0 : 0 ≤ s.toInt ∧ s.toInt < 60) : jf_I jh_X E yX9_crowdOf cX9_crowdOf 2 .int 3 [jf_r E 5, .int s] σ (fun r τ => σ = τ) := by
  refine jf_mkI (by decide) (Nat.le_of_ble_eq_true rfl) ?_
  intro G C ret
  refine jr_aload_n C dX9_crowdOf_0 rfl ?_
  refine jr_iload_n C dX9_crowdOf_1 rfl ?_
  refine jr_aload_n C dX9_crowdOf_2 rfl ?_
  refine jr_iload_n C dX9_crowdOf_3 rfl ?_
  refine jr_vi C [.int _] _ (ct_X9_manyBeside E _ _ hI s0) ky_X9_manyBeside kv_X9_manyBeside kk_X_5 km_X9_50 (by decide) rfl (Nat.le_of_ble_eq_true rfl) dX9_crowdOf_4 (fun r4 τ4 h4 => ?_)
  subst h4
  refine jr_vip C [.int _, .int _] _ (ct_X9_crowd E _ _ _ hI s0) ky_X9_crowd kv_X9_crowd kk_X_5 km_X9_54 (by decide) rfl (Nat.le_of_ble_eq_true rfl) dX9_crowdOf_7 ?_
  exact ret _ _ _ _ dX9_crowdOf_10 rfl (rfl)
theorem ct_X9_worthOf (E : jf_E) (σ : jf_S) (s : Int32) (hI : xI σ) (s0 : 0 ≤ s.toInt ∧ s.toInt < 60) : jf_I jh_X E yX9_worthOf cX9_worthOf 2 .int 3 [jf_r E 5, .int s] σ (fun r τ => σ = τ) := by
  refine jf_mkI (by decide) (Nat.le_of_ble_eq_true rfl) ?_
  intro G C ret
  refine jr_aload_n C dX9_worthOf_0 rfl ?_
  refine jr_iload_n C dX9_worthOf_1 rfl ?_
  refine jr_aload_n C dX9_worthOf_2 rfl ?_
  refine jr_iload_n C dX9_worthOf_3 rfl ?_
  refine jr_vi C [.int _] _ (ct_X9_manyBeside E _ _ hI s0) ky_X9_manyBeside kv_X9_manyBeside kk_X_5 km_X9_50 (by decide) rfl (Nat.le_of_ble_eq_true rfl) dX9_worthOf_4 (fun r4 τ4 h4 => ?_)
  subst h4
  refine jr_vip C [.int _, .int _] _ (ct_X9_worth E _ _ _ hI s0) ky_X9_worth kv_X9_worth kk_X_5 km_X9_58 (by decide) rfl (Nat.le_of_ble_eq_true rfl) dX9_worthOf_7 ?_
  exact ret _ _ _ _ dX9_worthOf_10 rfl (rfl)
theorem ct_X9_sum (E : jf_E) (σ : jf_S) (hI : xI σ) : jf_I jh_X E yX9_sum cX9_sum 3 .int 4 [jf_r E 5] σ (fun r τ => σ = τ) := by
  refine jf_mkI (by decide) (Nat.le_of_ble_eq_true rfl) ?_
  intro G C ret
  have hE := hI.1
  have lp : ∀ (m : Nat) (n o : Int32), 0 ≤ o.toInt → o.toInt ≤ ((σ.1 3 8)).toInt → ((σ.1 3 8)).toInt - o.toInt < m → jf_X jh_X E G 3 4 [(0, jf_r E 5), (1, .int n), (2, .int o)] [] σ := by
    intro m
    induction m with
    | zero => intro n o g1 g2 g3; exfalso; omega
    | succ m ih =>
      intro n o g1 g2 g3
      have e1 := ji_inc (k := o) (by omega)
      refine jr_iload_n C dX9_sum_4 rfl ?_
      refine jr_aload_n C dX9_sum_5 rfl ?_
      refine jr_getr C kf_X9_36_5 dX9_sum_6 ?_
      refine jr_getv C kf_X9_61_3 dX9_sum_9 (v := σ.1 3 8) rfl ?_
      refine jr_ncmp_ge C 41 dX9_sum_12 (by decide) rfl rfl (fun b12 => ?_) (fun b12 => ?_)
      · refine jr_iload_n C dX9_sum_41 rfl ?_
        exact ret _ _ _ _ dX9_sum_42 rfl (rfl)
      · refine jr_aload_n C dX9_sum_15 rfl ?_
        refine jr_getr C kf_X9_36_5 dX9_sum_16 ?_
        refine jr_getr C kf_X9_66_3 dX9_sum_19 ?_
        refine jr_iload_n C dX9_sum_22 rfl ?_
        refine jr_zalv C ka_X_31 dX9_sum_23 (ji_in (i := o) (by omega) (by omega)) (v := σ.1 31 _) rfl ?_
        refine jr_nif_eq C 35 dX9_sum_24 (by decide) (fun b24 => ?_) (fun b24 => ?_)
        · refine jr_iinc C _ dX9_sum_35 rfl rfl (by decide) ?_
          refine jr_goto C 4 dX9_sum_38 (by decide) ?_
          exact jr_sub [(0, jf_r E 5), (1, .int _), (2, .int _)] rfl (ih _ _ (by omega) (by omega) (by omega))
        · refine jr_iload_n C dX9_sum_27 rfl ?_
          refine jr_aload_n C dX9_sum_28 rfl ?_
          refine jr_iload_n C dX9_sum_29 rfl ?_
          refine jr_vi C [.int _] _ (ct_X9_worthOf E _ _ hI ⟨by omega, by omega⟩) ky_X9_worthOf kv_X9_worthOf kk_X_5 km_X9_70 (by decide) rfl (Nat.le_of_ble_eq_true rfl) dX9_sum_30 (fun r30 τ30 h30 => ?_)
          subst h30
          refine jr_iadd C dX9_sum_33 ?_
          refine jr_istore_n C dX9_sum_34 (by decide) ?_
          refine jr_iinc C _ dX9_sum_35 rfl rfl (by decide) ?_
          refine jr_goto C 4 dX9_sum_38 (by decide) ?_
          exact jr_sub [(0, jf_r E 5), (1, .int _), (2, .int _)] rfl (ih _ _ (by omega) (by omega) (by omega))
  refine jr_iconst C (v := 0) dX9_sum_0 (by decide) ?_
  refine jr_istore_n C dX9_sum_1 (by decide) ?_
  refine jr_iconst C (v := 0) dX9_sum_2 (by decide) ?_
  refine jr_istore_n C dX9_sum_3 (by decide) ?_
  exact jr_sub [(0, jf_r E 5), (1, .int _), (2, .int _)] rfl (lp 61 _ _ (by decide) hE.1 (by show _ - 0 < _; omega))

