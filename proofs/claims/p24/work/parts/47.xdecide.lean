/-! the class: deciding, safe -/
theorem ct_X0_decideByPoints (E : jf_E) (σ : jf_S) (hC : xC σ) (hV : xV σ) (hR : xR σ) : jf_I jh_X E yX0_decideByPoints cX0_decideByPoints 3 .int 2 [jf_r E 10] σ (fun r τ => xS_a σ τ ∧ xC τ) := by
  refine jf_mkI (by decide) (Nat.le_of_ble_eq_true rfl) ?_
  intro G C ret
  have hJ := hV.1
  have l20 : ∀ (m : Nat) (τ : jf_S) (j i : Int32), xS_a σ τ ∧ xC τ → 0 ≤ i.toInt → i.toInt ≤ (5 : Int) → (5 : Int) - i.toInt < m → (0 ≤ j.toInt ∧ j.toInt < 10) → (∀ υ : jf_S, xS_a σ υ ∧ xC υ → jf_X jh_X E G 3 7 [(0, jf_r E 10), (1, .int (j + Int32.ofInt 1))] [] υ) → jf_X jh_X E G 3 20 [(0, jf_r E 10), (1, .int j), (2, .int i)] [] τ := by
    intro m
    induction m with
    | zero => intro τ j i z g1 g2 g3 x1 x2; exfalso; omega
    | succ m ih =>
      intro τ j i z g1 g2 g3 x1 x2
      have e1 := ji_inc (k := i) (by omega)
      have hU := xS_a_R z.1 hR
      have c5 := z.2.2 j.toNatClampNeg
      refine jr_iload_n C dX0_decideByPoints_20 rfl ?_
      refine jr_aload_n C dX0_decideByPoints_21 rfl ?_
      refine jr_getr C kf_X0_15_10 dX0_decideByPoints_22 ?_
      refine jr_iload_n C dX0_decideByPoints_25 rfl ?_
      refine jr_ialv C ka_X_51 dX0_decideByPoints_26 (ji_in x1.1 x1.2) (v := τ.1 51 _) rfl ?_
      refine jr_ncmp_ge C 62 dX0_decideByPoints_27 (by decide) rfl rfl (fun b27 => ?_) (fun b27 => ?_)
      · refine jr_iinc C _ dX0_decideByPoints_62 rfl rfl (by decide) ?_
        refine jr_goto C 7 dX0_decideByPoints_65 (by decide) ?_
        exact jr_sub [(0, jf_r E 10), (1, .int (j + Int32.ofInt 1))] rfl (x2 _ z)
      · refine jr_aload_n C dX0_decideByPoints_30 rfl ?_
        refine jr_getr C kf_X0_25_10 dX0_decideByPoints_31 ?_
        refine jr_aload_n C dX0_decideByPoints_34 rfl ?_
        refine jr_getr C kf_X0_9_10 dX0_decideByPoints_35 ?_
        refine jr_iload_n C dX0_decideByPoints_38 rfl ?_
        refine jr_iconst C (v := 5) dX0_decideByPoints_39 (by decide) ?_
        refine jr_imul C dX0_decideByPoints_40 ?_
        refine jr_iload_n C dX0_decideByPoints_41 rfl ?_
        refine jr_iadd C dX0_decideByPoints_42 ?_
        refine jr_ialv C ka_X_50 dX0_decideByPoints_43 (ji_linr 5 rfl (by omega) (by omega) (by omega)) (v := τ.1 50 _) rfl ?_
        refine jr_dup2 C dX0_decideByPoints_44 rfl rfl ?_
        refine jr_ialv C ka_X_54 dX0_decideByPoints_45 (ji_in (z.2.1 _).1 (by have := (z.2.1 (j * 5 + i).toNatClampNeg).2; omega)) (v := τ.1 54 _) rfl ?_
        refine jr_aload_n C dX0_decideByPoints_46 rfl ?_
        refine jr_getr C kf_X0_40_10 dX0_decideByPoints_47 ?_
        refine jr_iload_n C dX0_decideByPoints_50 rfl ?_
        refine jr_vip C [.int _] _ (ct_X7_pointsAt E _ _ hU.2) ky_X7_pointsAt kv_X7_pointsAt kk_X_8 km_X0_78 (by decide) rfl (Nat.le_of_ble_eq_true rfl) dX0_decideByPoints_51 ?_
        refine jr_iadd C dX0_decideByPoints_54 ?_
        refine jr_iast C ka_X_54 dX0_decideByPoints_55 (ji_in (z.2.1 _).1 (by have := (z.2.1 (j * 5 + i).toNatClampNeg).2; omega)) ?_
        refine jr_iinc C _ dX0_decideByPoints_56 rfl rfl (by decide) ?_
        refine jr_goto C 20 dX0_decideByPoints_59 (by decide) ?_
        exact jr_sub [(0, jf_r E 10), (1, .int _), (2, .int _)] rfl (ih _ _ _ ⟨xS_a_i z.1 (by decide), xC_o z.2 (by decide)⟩ (by omega) (by omega) (by omega) x1 x2)
  have l7 : ∀ (m : Nat) (τ : jf_S) (j : Int32), xS_a σ τ ∧ xC τ → 0 ≤ j.toInt → j.toInt ≤ ((σ.1 7 7)).toInt → ((σ.1 7 7)).toInt - j.toInt < m → jf_X jh_X E G 3 7 [(0, jf_r E 10), (1, .int j)] [] τ := by
    intro m
    induction m with
    | zero => intro τ j z g1 g2 g3; exfalso; omega
    | succ m ih =>
      intro τ j z g1 g2 g3
      have e1 := ji_inc (k := j) (by omega)
      have c1 : ((τ.1 7 7)).toInt = ((σ.1 7 7)).toInt := by rw [z.1.2.1 7 (by decide) (by decide)]
      refine jr_iload_n C dX0_decideByPoints_7 rfl ?_
      refine jr_aload_n C dX0_decideByPoints_8 rfl ?_
      refine jr_getr C kf_X0_36_10 dX0_decideByPoints_9 ?_
      refine jr_getv C kf_X0_60_7 dX0_decideByPoints_12 (v := τ.1 7 7) rfl ?_
      refine jr_ncmp_ge C 68 dX0_decideByPoints_15 (by decide) rfl rfl (fun b15 => ?_) (fun b15 => ?_)
      · refine jr_aload_n C dX0_decideByPoints_68 rfl ?_
        refine jr_iconst C (v := 0) dX0_decideByPoints_69 (by decide) ?_
        refine jr_vi C [.int _] _ (ct_X0_foremost E _ _ (by decide)) ky_X0_foremost kv_X0_foremost kk_X_10 km_X0_82 (by decide) rfl (Nat.le_of_ble_eq_true rfl) dX0_decideByPoints_70 (fun r70 τ70 h70 => ?_)
        obtain ⟨-, rfl⟩ := h70
        refine jr_istore_n C dX0_decideByPoints_73 (by decide) ?_
        refine jr_aload_n C dX0_decideByPoints_74 rfl ?_
        refine jr_iload_n C dX0_decideByPoints_75 rfl ?_
        refine jr_iconst C (v := -1) dX0_decideByPoints_76 (by decide) ?_
        refine jr_ncmp_ne C (b := -1) 84 dX0_decideByPoints_77 (by decide) rfl rfl (fun b77 => ?_) (fun b77 => ?_)
        · refine jr_iconst C (v := 1) dX0_decideByPoints_84 (by decide) ?_
          refine jr_puti C kp_X0_28_10 dX0_decideByPoints_85 ?_
          refine jr_iload_n C dX0_decideByPoints_88 rfl ?_
          exact ret _ _ _ _ dX0_decideByPoints_89 rfl (⟨xS_a_10 z.1, xC_o z.2 (by decide)⟩)
        · refine jr_iconst C (v := 0) dX0_decideByPoints_80 (by decide) ?_
          refine jr_goto C 85 dX0_decideByPoints_81 (by decide) ?_
          refine jr_puti C kp_X0_28_10 dX0_decideByPoints_85 ?_
          refine jr_iload_n C dX0_decideByPoints_88 rfl ?_
          exact ret _ _ _ _ dX0_decideByPoints_89 rfl (⟨xS_a_10 z.1, xC_o z.2 (by decide)⟩)
      · refine jr_iconst C (v := 0) dX0_decideByPoints_18 (by decide) ?_
        refine jr_istore_n C dX0_decideByPoints_19 (by decide) ?_
        exact jr_sub [(0, jf_r E 10), (1, .int j), (2, .int 0)] rfl (l20 6 _ _ _ z (by decide) (by decide) (by decide) ⟨by omega, by omega⟩ (fun υ hz => ih _ _ hz (by omega) (by omega) (by omega)))
  refine jr_aload_n C dX0_decideByPoints_0 rfl ?_
  refine jr_iconst C (v := 0) dX0_decideByPoints_1 (by decide) ?_
  refine jr_vv C [.int _] _ (ct_X0_openRound E _ _ hC (by decide)) ky_X0_openRound kv_X0_openRound kk_X_10 km_X0_75 (by decide) rfl (Nat.le_of_ble_eq_true rfl) dX0_decideByPoints_2 (fun τ2 h2 => ?_)
  refine jr_iconst C (v := 0) dX0_decideByPoints_5 (by decide) ?_
  refine jr_istore_n C dX0_decideByPoints_6 (by decide) ?_
  exact jr_sub [(0, jf_r E 10), (1, .int _)] rfl (l7 11 _ _ h2 (by decide) hJ.1 (by show _ - (0 : Int) < _; omega))
theorem ct_X0_decideByRounds (E : jf_E) (σ : jf_S) (hC : xC σ) (hV : xV σ) : jf_I jh_X E yX0_decideByRounds cX0_decideByRounds 4 .int 2 [jf_r E 10] σ (fun r τ => xS_a σ τ ∧ xC τ) := by
  refine jf_mkI (by decide) (Nat.le_of_ble_eq_true rfl) ?_
  intro G C ret
  have lp : ∀ (m : Nat) (τ : jf_S) (o : Int32), xS_a σ τ ∧ xC τ → 0 ≤ o.toInt → o.toInt ≤ (20 : Int) → (20 : Int) - o.toInt < m → jf_X jh_X E G 4 2 [(0, jf_r E 10), (1, .int o)] [] τ := by
    intro m
    induction m with
    | zero => intro τ o z g1 g2 g3; exfalso; omega
    | succ m ih =>
      intro τ o z g1 g2 g3
      have e1 := ji_inc (k := o) (by omega)
      refine jr_iload_n C dX0_decideByRounds_2 rfl ?_
      refine jr_bipush C (v := 20) dX0_decideByRounds_3 (by decide) ?_
      refine jr_ncmp_ge C (b := 20) 69 dX0_decideByRounds_5 (by decide) rfl rfl (fun b5 => ?_) (fun b5 => ?_)
      · refine jr_iconst C (v := -1) dX0_decideByRounds_69 (by decide) ?_
        exact ret _ _ _ _ dX0_decideByRounds_70 rfl (by first | exact z | exact ⟨xS_a_t (xS_a_t z.1 h10.1) h15.1, h15.2⟩ | exact ⟨xS_a_10 (xS_a_t (xS_a_t z.1 h10.1) h15.1), xC_o h15.2 (by decide)⟩)
      · refine jr_aload_n C dX0_decideByRounds_8 rfl ?_
        refine jr_iload_n C dX0_decideByRounds_9 rfl ?_
        refine jr_vv C [.int _] _ (ct_X0_openRound E _ _ z.2 ⟨by omega, by omega⟩) ky_X0_openRound kv_X0_openRound kk_X_10 km_X0_75 (by decide) rfl (Nat.le_of_ble_eq_true rfl) dX0_decideByRounds_10 (fun τ10 h10 => ?_)
        refine jr_aload_n C dX0_decideByRounds_13 rfl ?_
        refine jr_iload_n C dX0_decideByRounds_14 rfl ?_
        refine jr_vi C [.int _] _ (ct_X0_giveFirsts E _ _ h10.2 (xS_a_V (xS_a_t z.1 h10.1) hV) ⟨by omega, by omega⟩) ky_X0_giveFirsts kv_X0_giveFirsts kk_X_10 km_X0_85 (by decide) rfl (Nat.le_of_ble_eq_true rfl) dX0_decideByRounds_15 (fun r15 τ15 h15 => ?_)
        refine jr_istore_n C dX0_decideByRounds_18 (by decide) ?_
        refine jr_aload_n C dX0_decideByRounds_19 rfl ?_
        refine jr_iload_n C dX0_decideByRounds_20 rfl ?_
        refine jr_vi C [.int _] _ (ct_X0_foremost E _ _ ⟨by omega, by omega⟩) ky_X0_foremost kv_X0_foremost kk_X_10 km_X0_82 (by decide) rfl (Nat.le_of_ble_eq_true rfl) dX0_decideByRounds_21 (fun r21 τ21 h21 => ?_)
        obtain ⟨q21, p21⟩ := h21; subst p21
        refine jr_istore_n C dX0_decideByRounds_24 (by decide) ?_
        refine jr_iload_n C dX0_decideByRounds_25 rfl ?_
        refine jr_iconst C (v := -1) dX0_decideByRounds_26 (by decide) ?_
        refine jr_ncmp_ne C (b := -1) 32 dX0_decideByRounds_27 (by decide) rfl rfl (fun b27 => ?_) (fun b27 => ?_)
        · refine jr_aload_n C dX0_decideByRounds_32 rfl ?_
          refine jr_iload_n C dX0_decideByRounds_33 rfl ?_
          refine jr_iconst C (v := 1) dX0_decideByRounds_34 (by decide) ?_
          refine jr_iadd C dX0_decideByRounds_35 ?_
          refine jr_puti C kp_X0_28_10 dX0_decideByRounds_36 ?_
          refine jr_iconst C (v := 2) dX0_decideByRounds_39 (by decide) ?_
          refine jr_aload_n C dX0_decideByRounds_40 rfl ?_
          refine jr_getr C kf_X0_25_10 dX0_decideByRounds_41 ?_
          refine jr_iload_n C dX0_decideByRounds_44 rfl ?_
          refine jr_bipush C (v := 20) dX0_decideByRounds_45 (by decide) ?_
          refine jr_imul C dX0_decideByRounds_47 ?_
          refine jr_iload_n C dX0_decideByRounds_48 rfl ?_
          refine jr_iadd C dX0_decideByRounds_49 ?_
          refine jr_iald C ka_X_54 dX0_decideByRounds_50 (ji_linr 20 rfl (by omega) (by omega) (by omega)) ?_
          refine jr_imul C dX0_decideByRounds_51 ?_
          refine jr_iload_n C dX0_decideByRounds_52 rfl ?_
          refine jr_ncmp_le C 58 dX0_decideByRounds_53 (by decide) rfl rfl (fun b53 => ?_) (fun b53 => ?_)
          · refine jr_aload_n C dX0_decideByRounds_58 rfl ?_
            refine jr_iload_n C dX0_decideByRounds_59 rfl ?_
            refine jr_vv C [.int _] _ (ct_X0_putOutHindmost E _ _ (xC_o h15.2 (by decide)) ⟨by omega, by omega⟩) ky_X0_putOutHindmost kv_X0_putOutHindmost kk_X_10 km_X0_88 (by decide) rfl (Nat.le_of_ble_eq_true rfl) dX0_decideByRounds_60 (fun τ60 h60 => ?_)
            refine jr_iinc C _ dX0_decideByRounds_63 rfl rfl (by decide) ?_
            refine jr_goto C 2 dX0_decideByRounds_66 (by decide) ?_
            exact jr_sub [(0, jf_r E 10), (1, .int _)] rfl (ih _ _ ⟨xS_a_t (xS_a_10 (xS_a_t (xS_a_t z.1 h10.1) h15.1)) h60.1, h60.2⟩ (by omega) (by omega) (by omega))
          · refine jr_iload_n C dX0_decideByRounds_56 rfl ?_
            exact ret _ _ _ _ dX0_decideByRounds_57 rfl (by first | exact z | exact ⟨xS_a_t (xS_a_t z.1 h10.1) h15.1, h15.2⟩ | exact ⟨xS_a_10 (xS_a_t (xS_a_t z.1 h10.1) h15.1), xC_o h15.2 (by decide)⟩)
        · refine jr_iconst C (v := -1) dX0_decideByRounds_30 (by decide) ?_
          exact ret _ _ _ _ dX0_decideByRounds_31 rfl (by first | exact z | exact ⟨xS_a_t (xS_a_t z.1 h10.1) h15.1, h15.2⟩ | exact ⟨xS_a_10 (xS_a_t (xS_a_t z.1 h10.1) h15.1), xC_o h15.2 (by decide)⟩)
  refine jr_iconst C (v := 0) dX0_decideByRounds_0 (by decide) ?_
  refine jr_istore_n C dX0_decideByRounds_1 (by decide) ?_
  exact jr_sub [(0, jf_r E 10), (1, .int _)] rfl (lp 21 _ _ ⟨xS_a_r σ, hC⟩ (by decide) (by decide) (by decide))
theorem ct_X0_decide (E : jf_E) (σ : jf_S) (k : Int32) (hC : xC σ) (hV : xV σ) (hR : xR σ) : jf_I jh_X E yX0_decide cX0_decide 2 .int 3 [jf_r E 10, .int k] σ (fun r τ => xS_a σ τ ∧ xC τ) := by
  refine jf_mkI (by decide) (Nat.le_of_ble_eq_true rfl) ?_
  intro G C ret
  refine jr_aload_n C dX0_decide_0 rfl ?_
  refine jr_iconst C (v := 0) dX0_decide_1 (by decide) ?_
  refine jr_puti C kp_X0_28_10 dX0_decide_2 ?_
  refine jr_aload_n C dX0_decide_5 rfl ?_
  refine jr_iload_n C dX0_decide_6 rfl ?_
  refine jr_vv C [.int _] _ (ct_X0_gather E _ _ (xC_o hC (by decide)) (xS_a_V (xS_a_10 (xS_a_r σ)) hV) (xS_a_R (xS_a_10 (xS_a_r σ)) hR)) ky_X0_gather kv_X0_gather kk_X_10 km_X0_44 (by decide) rfl (Nat.le_of_ble_eq_true rfl) dX0_decide_7 (fun τ7 h7 => ?_)
  refine jr_aload_n C dX0_decide_10 rfl ?_
  refine jr_getr C kf_X0_40_10 dX0_decide_11 ?_
  refine jr_geti C kf_X0_48_8 dX0_decide_14 ?_
  refine jr_nif_le C 27 dX0_decide_17 (by decide) (fun b17 => ?_) (fun b17 => ?_)
  · refine jr_aload_n C dX0_decide_27 rfl ?_
    refine jr_vi C [] _ (ct_X0_decideByRounds E _ h7.2 (xS_a_V (xS_a_t (xS_a_10 (xS_a_r σ)) h7.1) hV)) ky_X0_decideByRounds kv_X0_decideByRounds kk_X_10 km_X0_57 (by decide) rfl (Nat.le_of_ble_eq_true rfl) dX0_decide_28 (fun r28 τ28 h28 => ?_)
    exact ret _ _ _ _ dX0_decide_31 rfl (by first | exact ⟨xS_a_t (xS_a_t (xS_a_10 (xS_a_r σ)) h7.1) h21.1, h21.2⟩ | exact ⟨xS_a_t (xS_a_t (xS_a_10 (xS_a_r σ)) h7.1) h28.1, h28.2⟩)
  · refine jr_aload_n C dX0_decide_20 rfl ?_
    refine jr_vi C [] _ (ct_X0_decideByPoints E _ h7.2 (xS_a_V (xS_a_t (xS_a_10 (xS_a_r σ)) h7.1) hV) (xS_a_R (xS_a_t (xS_a_10 (xS_a_r σ)) h7.1) hR)) ky_X0_decideByPoints kv_X0_decideByPoints kk_X_10 km_X0_53 (by decide) rfl (Nat.le_of_ble_eq_true rfl) dX0_decide_21 (fun r21 τ21 h21 => ?_)
    refine jr_goto C 31 dX0_decide_24 (by decide) ?_
    exact ret _ _ _ _ dX0_decide_31 rfl (by first | exact ⟨xS_a_t (xS_a_t (xS_a_10 (xS_a_r σ)) h7.1) h21.1, h21.2⟩ | exact ⟨xS_a_t (xS_a_t (xS_a_10 (xS_a_r σ)) h7.1) h28.1, h28.2⟩)
theorem ct_X10_prize (E : jf_E) (σ : jf_S) (k : Int32) (hC : xC σ) (hV : xV σ) (hR : xR σ) : jf_I jh_X E yX10_prize cX10_prize 3 .int 4 [jf_r E 0, .int k] σ (fun r τ => ∃ υ : jf_S, xS_a σ υ ∧ xC υ ∧ τ = x_told υ r) := by
  refine jf_mkI (by decide) (Nat.le_of_ble_eq_true rfl) ?_
  intro G C ret
  refine jr_iload_n C dX10_prize_0 rfl ?_
  refine jr_sip C [.int _] _ (ct_X10_isKnown E _ _) ky_X10_isKnown ks_X10_isKnown km_X10_212 (by decide) rfl (Nat.le_of_ble_eq_true rfl) dX10_prize_1 ?_
  refine jr_if_ne C 13 dX10_prize_4 (by decide) (fun b4 => ?_) (fun b4 => ?_)
  · replace b4 := jb_t b4
    refine jr_aload_n C dX10_prize_13 rfl ?_
    refine jr_getr C kf_X10_65_0 dX10_prize_14 ?_
    refine jr_getv C kf_X10_242_8 dX10_prize_17 (v := σ.1 8 2) rfl ?_
    refine jr_nif_ne C 30 dX10_prize_20 (by decide) (fun b20 => ?_) (fun b20 => ?_)
    · refine jr_aload_n C dX10_prize_30 rfl ?_
      refine jr_getr C kf_X10_81_0 dX10_prize_31 ?_
      refine jr_iload_n C dX10_prize_34 rfl ?_
      refine jr_vi C [.int _] _ (ct_X0_decide E _ _ hC hV hR) ky_X0_decide kv_X0_decide kk_X_10 km_X10_254 (by decide) rfl (Nat.le_of_ble_eq_true rfl) dX10_prize_35 (fun r35 τ35 h35 => ?_)
      refine jr_istore_n C dX10_prize_38 (by decide) ?_
      refine jr_aload_n C dX10_prize_39 rfl ?_
      refine jr_iload_n C dX10_prize_40 rfl ?_
      refine jr_iconst C (v := -1) dX10_prize_41 (by decide) ?_
      refine jr_ncmp_ne C (b := -1) 50 dX10_prize_42 (by decide) rfl rfl (fun b42 => ?_) (fun b42 => ?_)
      · refine jr_iload_n C dX10_prize_50 rfl ?_
        refine jr_vip C [.int _] _ (ct_X10_told E _ _) ky_X10_told kv_X10_told kk_X_0 km_X10_97 (by decide) rfl (Nat.le_of_ble_eq_true rfl) dX10_prize_51 ?_
        exact ret _ _ _ _ dX10_prize_54 rfl (by first | exact ⟨σ, xS_a_r σ, hC, rfl⟩ | exact ⟨τ35, h35.1, h35.2, rfl⟩)
      · refine jr_bipush C (v := -6) dX10_prize_45 (by decide) ?_
        refine jr_goto C 51 dX10_prize_47 (by decide) ?_
        refine jr_vip C [.int _] _ (ct_X10_told E _ _) ky_X10_told kv_X10_told kk_X_0 km_X10_97 (by decide) rfl (Nat.le_of_ble_eq_true rfl) dX10_prize_51 ?_
        exact ret _ _ _ _ dX10_prize_54 rfl (by first | exact ⟨σ, xS_a_r σ, hC, rfl⟩ | exact ⟨τ35, h35.1, h35.2, rfl⟩)
    · refine jr_aload_n C dX10_prize_23 rfl ?_
      refine jr_bipush C (v := -6) dX10_prize_24 (by decide) ?_
      refine jr_vip C [.int _] _ (ct_X10_told E _ _) ky_X10_told kv_X10_told kk_X_0 km_X10_97 (by decide) rfl (Nat.le_of_ble_eq_true rfl) dX10_prize_26 ?_
      exact ret _ _ _ _ dX10_prize_29 rfl (by first | exact ⟨σ, xS_a_r σ, hC, rfl⟩ | exact ⟨τ35, h35.1, h35.2, rfl⟩)
  · replace b4 := jb_f b4
    refine jr_aload_n C dX10_prize_7 rfl ?_
    refine jr_iconst C (v := -1) dX10_prize_8 (by decide) ?_
    refine jr_vip C [.int _] _ (ct_X10_told E _ _) ky_X10_told kv_X10_told kk_X_0 km_X10_97 (by decide) rfl (Nat.le_of_ble_eq_true rfl) dX10_prize_9 ?_
    exact ret _ _ _ _ dX10_prize_12 rfl (by first | exact ⟨σ, xS_a_r σ, hC, rfl⟩ | exact ⟨τ35, h35.1, h35.2, rfl⟩)

