/-! the class: what BETTER reckons with, safe -/
/-- what BETTER reckons with changed at will -/
def xS_w (σ τ : jf_S) : Prop := τ.2 = σ.2 ∧ (∀ k, k ≠ 5 → k ≠ 35 → k ≠ 36 → τ.1 k = σ.1 k) ∧ (∀ j, j < 9 → τ.1 5 j = σ.1 5 j)
theorem xS_w_r (σ : jf_S) : xS_w σ σ := ⟨rfl, fun _ _ _ _ => rfl, fun _ _ => rfl⟩
theorem xS_w_t {σ τ υ : jf_S} (h : xS_w σ τ) (g : xS_w τ υ) : xS_w σ υ := ⟨g.1.trans h.1, fun k a b c => (g.2.1 k a b c).trans (h.2.1 k a b c), fun j a => (g.2.2 j a).trans (h.2.2 j a)⟩
theorem xS_w_5 {σ τ : jf_S} (h : xS_w σ τ) {j : Nat} {v : Int32} (hj : 9 ≤ j) : xS_w σ (jf_i τ 5 j v) := by
  refine ⟨h.1, fun k a b c => ?_, fun i a => ?_⟩
  · rw [jf_i_o k a]; exact h.2.1 k a b c
  · rw [jf_i_at]; unfold upd; rw [if_neg (by omega)]; exact h.2.2 i a
theorem xS_w_35 {σ τ : jf_S} (h : xS_w σ τ) {j : Nat} {v : Int32} : xS_w σ (jf_i τ 35 j v) := by
  refine ⟨h.1, fun k a b c => ?_, fun i a => ?_⟩
  · rw [jf_i_o k b]; exact h.2.1 k a b c
  · rw [jf_i_o 5 (by decide)]; exact h.2.2 i a
theorem xS_w_36 {σ τ : jf_S} (h : xS_w σ τ) {j : Nat} {v : Int32} : xS_w σ (jf_i τ 36 j v) := by
  refine ⟨h.1, fun k a b c => ?_, fun i a => ?_⟩
  · rw [jf_i_o k c]; exact h.2.1 k a b c
  · rw [jf_i_o 5 (by decide)]; exact h.2.2 i a
theorem xS_w_I {σ τ : jf_S} (h : xS_w σ τ) (hI : xI σ) : xI τ := by
  unfold xI
  rw [h.2.1 3 (by decide) (by decide) (by decide), h.2.1 12 (by decide) (by decide) (by decide), h.2.1 25 (by decide) (by decide) (by decide), h.2.1 26 (by decide) (by decide) (by decide), h.2.1 27 (by decide) (by decide) (by decide)]
  exact hI
theorem xS_w_e {σ τ : jf_S} (h : xS_w σ τ) : (τ.1 3 8) = (σ.1 3 8) := by rw [h.2.1 3 (by decide) (by decide) (by decide)]
theorem ct_X9_countBeside (E : jf_E) (σ : jf_S) (hI : xI σ) : jf_V jh_X E yX9_countBeside cX9_countBeside 2 3 [jf_r E 5] σ (fun τ => xS_w σ τ) := by
  refine jf_mkV (by decide) (Nat.le_of_ble_eq_true rfl) ?_
  intro G C ret
  have hE := hI.1
  have lp : ∀ (m : Nat) (τ : jf_S) (o : Int32), xS_w σ τ → 0 ≤ o.toInt → o.toInt ≤ ((σ.1 3 8)).toInt → ((σ.1 3 8)).toInt - o.toInt < m → jf_X jh_X E G 2 7 [(0, jf_r E 5), (1, .int o)] [] τ := by
    intro m
    induction m with
    | zero => intro τ o z g1 g2 g3; exfalso; omega
    | succ m ih =>
      intro τ o z g1 g2 g3
      have e1 := ji_inc (k := o) (by omega)
      have hT := xS_w_I z hI
      have c1 := congrArg Int32.toInt (xS_w_e z)
      refine jr_iload_n C dX9_countBeside_7 rfl ?_
      refine jr_aload_n C dX9_countBeside_8 rfl ?_
      refine jr_getr C kf_X9_36_5 dX9_countBeside_9 ?_
      refine jr_getv C kf_X9_61_3 dX9_countBeside_12 (v := τ.1 3 8) rfl ?_
      refine jr_ncmp_ge C 67 dX9_countBeside_15 (by decide) rfl rfl (fun b15 => ?_) (fun b15 => ?_)
      · exact ret _ _ _ dX9_countBeside_67 (z)
      · refine jr_aload_n C dX9_countBeside_18 rfl ?_
        refine jr_getr C kf_X9_36_5 dX9_countBeside_19 ?_
        refine jr_getr C kf_X9_66_3 dX9_countBeside_22 ?_
        refine jr_iload_n C dX9_countBeside_25 rfl ?_
        refine jr_zalv C ka_X_31 dX9_countBeside_26 (ji_in (i := o) (by omega) (by omega)) (v := τ.1 31 _) rfl ?_
        refine jr_nif_eq C 61 dX9_countBeside_27 (by decide) (fun b27 => ?_) (fun b27 => ?_)
        · refine jr_iinc C _ dX9_countBeside_61 rfl rfl (by decide) ?_
          refine jr_goto C 7 dX9_countBeside_64 (by decide) ?_
          exact jr_sub [(0, jf_r E 5), (1, .int _)] rfl (ih _ _ (by repeat' (with_reducible first | exact z | apply xS_w_35 | refine xS_w_5 ?_ (by decide))) (by omega) (by omega) (by omega))
        · refine jr_aload_n C dX9_countBeside_30 rfl ?_
          refine jr_getr C kf_X9_18_5 dX9_countBeside_31 ?_
          refine jr_iload_n C dX9_countBeside_34 rfl ?_
          refine jr_aload_n C dX9_countBeside_35 rfl ?_
          refine jr_iload_n C dX9_countBeside_36 rfl ?_
          refine jr_vi C [.int _] _ (ct_X9_manyBeside E _ _ hT ⟨by omega, by omega⟩) ky_X9_manyBeside kv_X9_manyBeside kk_X_5 km_X9_50 (by decide) rfl (Nat.le_of_ble_eq_true rfl) dX9_countBeside_37 (fun r37 τ37 h37 => ?_)
          subst h37
          refine jr_iast C ka_X_35 dX9_countBeside_40 (ji_in (i := o) (by omega) (by omega)) ?_
          refine jr_aload_n C dX9_countBeside_41 rfl ?_
          refine jr_dup C dX9_countBeside_42 rfl ?_
          refine jr_getv C kf_X9_108_5 dX9_countBeside_43 (v := τ.1 5 9) rfl ?_
          refine jr_aload_n C dX9_countBeside_46 rfl ?_
          refine jr_iload_n C dX9_countBeside_47 rfl ?_
          refine jr_aload_n C dX9_countBeside_48 rfl ?_
          refine jr_getr C kf_X9_18_5 dX9_countBeside_49 ?_
          refine jr_iload_n C dX9_countBeside_52 rfl ?_
          refine jr_iald C ka_X_35 dX9_countBeside_53 (ji_in (i := o) (by omega) (by omega)) ?_
          refine jr_vip C [.int _, .int _] _ (ct_X9_worth E _ _ _ (xS_w_I (xS_w_35 z) hI) ⟨by omega, by omega⟩) ky_X9_worth kv_X9_worth kk_X_5 km_X9_58 (by decide) rfl (Nat.le_of_ble_eq_true rfl) dX9_countBeside_54 ?_
          refine jr_iadd C dX9_countBeside_57 ?_
          refine jr_puti C kp_X9_108_5 dX9_countBeside_58 ?_
          refine jr_iinc C _ dX9_countBeside_61 rfl rfl (by decide) ?_
          refine jr_goto C 7 dX9_countBeside_64 (by decide) ?_
          exact jr_sub [(0, jf_r E 5), (1, .int _)] rfl (ih _ _ (by repeat' (with_reducible first | exact z | apply xS_w_35 | refine xS_w_5 ?_ (by decide))) (by omega) (by omega) (by omega))
  refine jr_aload_n C dX9_countBeside_0 rfl ?_
  refine jr_iconst C (v := 0) dX9_countBeside_1 (by decide) ?_
  refine jr_puti C kp_X9_108_5 dX9_countBeside_2 ?_
  refine jr_iconst C (v := 0) dX9_countBeside_5 (by decide) ?_
  refine jr_istore_n C dX9_countBeside_6 (by decide) ?_
  exact jr_sub [(0, jf_r E 5), (1, .int _)] rfl (lp 61 _ _ (xS_w_5 (xS_w_r σ) (by decide)) (by decide) hE.1 (by show _ - 0 < _; omega))
def xS_36 (σ τ : jf_S) : Prop := τ.2 = σ.2 ∧ ∀ k, k ≠ 36 → τ.1 k = σ.1 k
theorem xS_36_r (σ : jf_S) : xS_36 σ σ := ⟨rfl, fun _ _ => rfl⟩
theorem xS_36_i {σ τ : jf_S} (h : xS_36 σ τ) {j : Nat} {v : Int32} : xS_36 σ (jf_i τ 36 j v) := ⟨h.1, fun k a => by rw [jf_i_o k a]; exact h.2 k a⟩
theorem xS_36_w {σ τ : jf_S} (h : xS_36 σ τ) : xS_w σ τ := ⟨h.1, fun k _ _ c => h.2 k c, fun j _ => by rw [h.2 5 (by decide)]⟩
theorem ct_X9_gridWithout (E : jf_E) (σ : jf_S) (s : Int32) (hI : xI σ) (s0 : 0 ≤ s.toInt ∧ s.toInt < 60) : jf_I jh_X E yX9_gridWithout cX9_gridWithout 4 .int 3 [jf_r E 5, .int s] σ (fun r τ => xS_36 σ τ) := by
  refine jf_mkI (by decide) (Nat.le_of_ble_eq_true rfl) ?_
  intro G C ret
  have hE := hI.1
  have lp : ∀ (m : Nat) (τ : jf_S) (n o : Int32), xS_36 σ τ → 0 ≤ o.toInt → o.toInt ≤ ((σ.1 3 8)).toInt → ((σ.1 3 8)).toInt - o.toInt < m → jf_X jh_X E G 4 4 [(0, jf_r E 5), (1, .int s), (2, .int n), (3, .int o)] [] τ := by
    intro m
    induction m with
    | zero => intro τ n o z g1 g2 g3; exfalso; omega
    | succ m ih =>
      intro τ n o z g1 g2 g3
      have e1 := ji_inc (k := o) (by omega)
      have hT := xS_w_I (xS_36_w z) hI
      have c1 := congrArg Int32.toInt (xS_w_e (xS_36_w z))
      refine jr_iload_n C dX9_gridWithout_4 rfl ?_
      refine jr_aload_n C dX9_gridWithout_5 rfl ?_
      refine jr_getr C kf_X9_36_5 dX9_gridWithout_6 ?_
      refine jr_getv C kf_X9_61_3 dX9_gridWithout_9 (v := τ.1 3 8) rfl ?_
      refine jr_ncmp_ge C 84 dX9_gridWithout_12 (by decide) rfl rfl (fun b12 => ?_) (fun b12 => ?_)
      · refine jr_iload_n C dX9_gridWithout_84 rfl ?_
        exact ret _ _ _ _ dX9_gridWithout_85 rfl (z)
      · refine jr_iload_n C dX9_gridWithout_15 rfl ?_
        refine jr_iload_n C dX9_gridWithout_16 rfl ?_
        refine jr_ncmp_eq C 78 dX9_gridWithout_17 (by decide) rfl rfl (fun b17 => ?_) (fun b17 => ?_)
        · refine jr_iinc C _ dX9_gridWithout_78 rfl rfl (by decide) ?_
          refine jr_goto C 4 dX9_gridWithout_81 (by decide) ?_
          exact jr_sub [(0, jf_r E 5), (1, .int s), (2, .int _), (3, .int _)] rfl (ih _ _ _ (by repeat' (with_reducible first | exact z | apply xS_36_i)) (by omega) (by omega) (by omega))
        · refine jr_aload_n C dX9_gridWithout_20 rfl ?_
          refine jr_getr C kf_X9_36_5 dX9_gridWithout_21 ?_
          refine jr_getr C kf_X9_66_3 dX9_gridWithout_24 ?_
          refine jr_iload_n C dX9_gridWithout_27 rfl ?_
          refine jr_zalv C ka_X_31 dX9_gridWithout_28 (ji_in (i := o) (by omega) (by omega)) (v := τ.1 31 _) rfl ?_
          refine jr_nif_eq C 78 dX9_gridWithout_29 (by decide) (fun b29 => ?_) (fun b29 => ?_)
          · refine jr_iinc C _ dX9_gridWithout_78 rfl rfl (by decide) ?_
            refine jr_goto C 4 dX9_gridWithout_81 (by decide) ?_
            exact jr_sub [(0, jf_r E 5), (1, .int s), (2, .int _), (3, .int _)] rfl (ih _ _ _ (by repeat' (with_reducible first | exact z | apply xS_36_i)) (by omega) (by omega) (by omega))
          · refine jr_aload_n C dX9_gridWithout_32 rfl ?_
            refine jr_getr C kf_X9_21_5 dX9_gridWithout_33 ?_
            refine jr_iload_n C dX9_gridWithout_36 rfl ?_
            refine jr_aload_n C dX9_gridWithout_37 rfl ?_
            refine jr_iload_n C dX9_gridWithout_38 rfl ?_
            refine jr_iload_n C dX9_gridWithout_39 rfl ?_
            refine jr_vip C [.int _, .int _] _ (ct_X9_runBeside E _ _ _ hT ⟨by omega, by omega⟩ s0) ky_X9_runBeside kv_X9_runBeside kk_X_5 km_X9_111 (by decide) rfl (Nat.le_of_ble_eq_true rfl) dX9_gridWithout_40 ?_
            refine jr_if_eq C 57 dX9_gridWithout_43 (by decide) (fun b43 => ?_) (fun b43 => ?_)
            · replace b43 := jb_f b43
              refine jr_aload_n C dX9_gridWithout_57 rfl ?_
              refine jr_getr C kf_X9_18_5 dX9_gridWithout_58 ?_
              refine jr_iload_n C dX9_gridWithout_61 rfl ?_
              refine jr_ialv C ka_X_35 dX9_gridWithout_62 (ji_in (i := o) (by omega) (by omega)) (v := τ.1 35 _) rfl ?_
              refine jr_iast C ka_X_36 dX9_gridWithout_63 (ji_in (i := o) (by omega) (by omega)) ?_
              refine jr_iload_n C dX9_gridWithout_64 rfl ?_
              refine jr_aload_n C dX9_gridWithout_65 rfl ?_
              refine jr_iload_n C dX9_gridWithout_66 rfl ?_
              refine jr_aload_n C dX9_gridWithout_67 rfl ?_
              refine jr_getr C kf_X9_21_5 dX9_gridWithout_68 ?_
              refine jr_iload_n C dX9_gridWithout_71 rfl ?_
              refine jr_iald C ka_X_36 dX9_gridWithout_72 (ji_in (i := o) (by omega) (by omega)) ?_
              refine jr_vip C [.int _, .int _] _ (ct_X9_worth E _ _ _ (xS_w_I (xS_36_w (xS_36_i z)) hI) ⟨by omega, by omega⟩) ky_X9_worth kv_X9_worth kk_X_5 km_X9_58 (by decide) rfl (Nat.le_of_ble_eq_true rfl) dX9_gridWithout_73 ?_
              refine jr_iadd C dX9_gridWithout_76 ?_
              refine jr_istore_n C dX9_gridWithout_77 (by decide) ?_
              refine jr_iinc C _ dX9_gridWithout_78 rfl rfl (by decide) ?_
              refine jr_goto C 4 dX9_gridWithout_81 (by decide) ?_
              exact jr_sub [(0, jf_r E 5), (1, .int s), (2, .int _), (3, .int _)] rfl (ih _ _ _ (by repeat' (with_reducible first | exact z | apply xS_36_i)) (by omega) (by omega) (by omega))
            · replace b43 := jb_t b43
              refine jr_aload_n C dX9_gridWithout_46 rfl ?_
              refine jr_getr C kf_X9_18_5 dX9_gridWithout_47 ?_
              refine jr_iload_n C dX9_gridWithout_50 rfl ?_
              refine jr_ialv C ka_X_35 dX9_gridWithout_51 (ji_in (i := o) (by omega) (by omega)) (v := τ.1 35 _) rfl ?_
              refine jr_iconst C (v := 1) dX9_gridWithout_52 (by decide) ?_
              refine jr_isub C dX9_gridWithout_53 ?_
              refine jr_goto C 63 dX9_gridWithout_54 (by decide) ?_
              refine jr_iast C ka_X_36 dX9_gridWithout_63 (ji_in (i := o) (by omega) (by omega)) ?_
              refine jr_iload_n C dX9_gridWithout_64 rfl ?_
              refine jr_aload_n C dX9_gridWithout_65 rfl ?_
              refine jr_iload_n C dX9_gridWithout_66 rfl ?_
              refine jr_aload_n C dX9_gridWithout_67 rfl ?_
              refine jr_getr C kf_X9_21_5 dX9_gridWithout_68 ?_
              refine jr_iload_n C dX9_gridWithout_71 rfl ?_
              refine jr_iald C ka_X_36 dX9_gridWithout_72 (ji_in (i := o) (by omega) (by omega)) ?_
              refine jr_vip C [.int _, .int _] _ (ct_X9_worth E _ _ _ (xS_w_I (xS_36_w (xS_36_i z)) hI) ⟨by omega, by omega⟩) ky_X9_worth kv_X9_worth kk_X_5 km_X9_58 (by decide) rfl (Nat.le_of_ble_eq_true rfl) dX9_gridWithout_73 ?_
              refine jr_iadd C dX9_gridWithout_76 ?_
              refine jr_istore_n C dX9_gridWithout_77 (by decide) ?_
              refine jr_iinc C _ dX9_gridWithout_78 rfl rfl (by decide) ?_
              refine jr_goto C 4 dX9_gridWithout_81 (by decide) ?_
              exact jr_sub [(0, jf_r E 5), (1, .int s), (2, .int _), (3, .int _)] rfl (ih _ _ _ (by repeat' (with_reducible first | exact z | apply xS_36_i)) (by omega) (by omega) (by omega))
  refine jr_iconst C (v := 0) dX9_gridWithout_0 (by decide) ?_
  refine jr_istore_n C dX9_gridWithout_1 (by decide) ?_
  refine jr_iconst C (v := 0) dX9_gridWithout_2 (by decide) ?_
  refine jr_istore_n C dX9_gridWithout_3 (by decide) ?_
  exact jr_sub [(0, jf_r E 5), (1, .int s), (2, .int _), (3, .int _)] rfl (lp 61 _ _ _ (xS_36_r σ) (by decide) hE.1 (by show _ - 0 < _; omega))

