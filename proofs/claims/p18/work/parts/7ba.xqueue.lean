/-! the class: the queue, stepped: exactly -/
theorem xS_6_G {σ τ : jf_S} (h : xS_6 σ τ) : x_G τ = x_G σ := xS_l_G (xS_6_l h)
def x_io (σ : jf_S) : Int32 × Int32 := ((σ.1 6 7), (σ.1 6 8))
theorem ct_X5_step2 (E : jf_E) (σ : jf_S) (s k : Int32) (hI : xI σ) (s0 : 0 ≤ s.toInt ∧ s.toInt < 60) (k0 : -40 ≤ k.toInt ∧ k.toInt ≤ 400) (hl : -1000000000 ≤ ((σ.1 38) s.toNatClampNeg - (σ.1 27) s.toNatClampNeg).toInt ∧ ((σ.1 38) s.toNatClampNeg - (σ.1 27) s.toNatClampNeg).toInt ≤ 1000000000) : jf_V jh_X E yX5_step cX5_step 7 1 [jf_r E 6, .int s, .int k] σ (fun τ => xS_6 σ τ ∧ x_io τ = g_qs (x_G σ) ((σ.1 6 6)) ((σ.1 38) s.toNatClampNeg - (σ.1 27) s.toNatClampNeg).toInt s (k.toInt + 41).toNat) := by
  refine jf_mkV (by decide) (Nat.le_of_ble_eq_true rfl) ?_
  intro G C ret
  have lp : ∀ (m : Nat) (τ : jf_S) (a i : Int32), (-1000000000 ≤ a.toInt ∧ a.toInt ≤ 1000000000) → a.toInt = ((σ.1 38) s.toNatClampNeg - (σ.1 27) s.toNatClampNeg).toInt → xS_6 σ τ → -40 ≤ i.toInt → i.toInt ≤ k.toInt + 1 → 401 - i.toInt < m → x_io τ = g_qs (x_G σ) ((σ.1 6 6)) a.toInt s (i.toInt + 40).toNat → jf_X jh_X E G 7 50 [(0, jf_r E 6), (1, .int s), (2, .int k), (3, .int a), (4, .int ((σ.1 13) ((σ.1 26) s.toNatClampNeg).toNatClampNeg)), (5, .int i)] [] τ := by
    intro m
    induction m with
    | zero => intro τ a i al ae z g1 g2 g3 hq; exfalso; omega
    | succ m ih =>
      intro τ a i al ae z g1 g2 g3 hq
      have e1 := ji_inc (k := i) (by omega)
      have a1 : (a - 30).toInt = a.toInt - 30 := by rw [fb_subI (by show _ ≤ a.toInt - 30; omega) (by show a.toInt - 30 < _; omega)]; rfl
      have a2 : (a + 10).toInt = a.toInt + 10 := by rw [fb_addI (by show _ ≤ a.toInt + 10; omega) (by show a.toInt + 10 < _; omega)]; rfl
      have eG := xS_6_G z
      have ed : (τ.1 6 6) = (σ.1 6 6) := z.2.2 6 (by decide)
      have es : (σ.1 13) ((σ.1 26) s.toNatClampNeg).toNatClampNeg = x_G τ 2 (x_G τ 16 s.toNatClampNeg).toNatClampNeg := by rw [eG]; rfl
      have ow : i.toInt ≤ 10 → (τ.1 32) (s * 51 + i - -40).toNatClampNeg = g_own (x_G σ) s i := fun h => by rw [← eG, x_ci]; exact (if_pos h).symm
      have k1 : ∀ v g : Int32, (a.toInt - 30 ≤ i.toInt ∧ i.toInt ≤ a.toInt + 10) → v = g_own (x_G σ) s i → g = g_min (g_min ((τ.1 6 8) + v) ((τ.1 6 6))) ((σ.1 13) ((σ.1 26) s.toNatClampNeg).toNatClampNeg - (τ.1 6 7)) → ((τ.1 6 7) + g, (τ.1 6 8) + v - g) = g_q1 (x_G σ) ((σ.1 6 6)) a.toInt s i (x_io τ) := fun v g h hv hg => g_q1_op h hv (by rw [hg, ed]; rfl)
      have k2 : ∀ v : Int32, ¬ (a.toInt - 30 ≤ i.toInt ∧ i.toInt ≤ a.toInt + 10) → v = g_own (x_G σ) s i → ((τ.1 6 7), (τ.1 6 8) + v) = g_q1 (x_G σ) ((σ.1 6 6)) a.toInt s i (x_io τ) := fun v h hv => g_q1_cl h hv
      have k3 : ∀ g : Int32, (a.toInt - 30 ≤ i.toInt ∧ i.toInt ≤ a.toInt + 10) → ¬ i.toInt ≤ 10 → g = g_min (g_min ((τ.1 6 8)) ((τ.1 6 6))) ((σ.1 13) ((σ.1 26) s.toNatClampNeg).toNatClampNeg - (τ.1 6 7)) → ((τ.1 6 7) + g, (τ.1 6 8) - g) = g_q1 (x_G σ) ((σ.1 6 6)) a.toInt s i (x_io τ) := fun g h hv hg => g_q1_op0 h hv (by rw [hg, ed]; rfl)
      have k4 : ¬ (a.toInt - 30 ≤ i.toInt ∧ i.toInt ≤ a.toInt + 10) → ¬ i.toInt ≤ 10 → ((τ.1 6 7), (τ.1 6 8)) = g_q1 (x_G σ) ((σ.1 6 6)) a.toInt s i (x_io τ) := fun h hv => g_q1_cl0 h hv
      have nx : ∀ (υ : jf_S), xS_6 σ υ → x_io υ = g_q1 (x_G σ) ((σ.1 6 6)) a.toInt s i (x_io τ) → i.toInt ≤ k.toInt → jf_X jh_X E G 7 50 [(0, jf_r E 6), (1, .int s), (2, .int k), (3, .int a), (4, .int ((σ.1 13) ((σ.1 26) s.toNatClampNeg).toNatClampNeg)), (5, .int (i + Int32.ofInt 1))] [] υ := fun υ w q c => ih _ _ _ al ae w (by omega) (by omega) (by omega) (g_qs_s hq g1 e1 q)
      refine jr_iload C dX5_step_50 rfl ?_
      refine jr_iload_n C dX5_step_52 rfl ?_
      refine jr_ncmp_gt C 159 dX5_step_53 (by decide) rfl rfl (fun b53 => ?_) (fun b53 => ?_)
      · exact ret _ _ _ dX5_step_159 (by (have e9 : (i.toInt + 40).toNat = (k.toInt + 41).toNat := by omega); rw [e9, ae] at hq; exact ⟨z, hq⟩)
      · refine jr_iload C dX5_step_56 rfl ?_
        refine jr_bipush C (v := 10) dX5_step_58 (by decide) ?_
        refine jr_ncmp_gt C (b := 10) 90 dX5_step_60 (by decide) rfl rfl (fun b60 => ?_) (fun b60 => ?_)
        · refine jr_iload C dX5_step_90 rfl ?_
          refine jr_iload_n C dX5_step_92 rfl ?_
          refine jr_bipush C (v := 30) dX5_step_93 (by decide) ?_
          refine jr_isub C dX5_step_95 ?_
          refine jr_ncmp_lt C 153 dX5_step_96 (by decide) rfl rfl (fun b96 => ?_) (fun b96 => ?_)
          · refine jr_iinc C _ dX5_step_153 rfl rfl (by decide) ?_
            refine jr_goto C 50 dX5_step_156 (by decide) ?_
            exact jr_sub [(0, jf_r E 6), (1, .int s), (2, .int k), (3, .int a), (4, .int ((σ.1 13) ((σ.1 26) s.toNatClampNeg).toNatClampNeg)), (5, .int (i + Int32.ofInt 1))] rfl (nx _ (by repeat' (with_reducible first | exact z | refine xS_6_i ?_ (by decide))) (by first | (have q := ow (by omega)); (have c : a.toInt - 30 ≤ i.toInt ∧ i.toInt ≤ a.toInt + 10 := by omega); exact k1 _ _ c q rfl | (have q := ow (by omega)); (have c : ¬ (a.toInt - 30 ≤ i.toInt ∧ i.toInt ≤ a.toInt + 10) := by omega); exact k2 _ c q | (have q : ¬ i.toInt ≤ 10 := by omega); (have c : a.toInt - 30 ≤ i.toInt ∧ i.toInt ≤ a.toInt + 10 := by omega); exact k3 _ c q rfl | (have q : ¬ i.toInt ≤ 10 := by omega); (have c : ¬ (a.toInt - 30 ≤ i.toInt ∧ i.toInt ≤ a.toInt + 10) := by omega); exact k4 c q) (by omega))
          · refine jr_iload C dX5_step_99 rfl ?_
            refine jr_iload_n C dX5_step_101 rfl ?_
            refine jr_bipush C (v := 10) dX5_step_102 (by decide) ?_
            refine jr_iadd C dX5_step_104 ?_
            refine jr_ncmp_gt C 153 dX5_step_105 (by decide) rfl rfl (fun b105 => ?_) (fun b105 => ?_)
            · refine jr_iinc C _ dX5_step_153 rfl rfl (by decide) ?_
              refine jr_goto C 50 dX5_step_156 (by decide) ?_
              exact jr_sub [(0, jf_r E 6), (1, .int s), (2, .int k), (3, .int a), (4, .int ((σ.1 13) ((σ.1 26) s.toNatClampNeg).toNatClampNeg)), (5, .int (i + Int32.ofInt 1))] rfl (nx _ (by repeat' (with_reducible first | exact z | refine xS_6_i ?_ (by decide))) (by first | (have q := ow (by omega)); (have c : a.toInt - 30 ≤ i.toInt ∧ i.toInt ≤ a.toInt + 10 := by omega); exact k1 _ _ c q rfl | (have q := ow (by omega)); (have c : ¬ (a.toInt - 30 ≤ i.toInt ∧ i.toInt ≤ a.toInt + 10) := by omega); exact k2 _ c q | (have q : ¬ i.toInt ≤ 10 := by omega); (have c : a.toInt - 30 ≤ i.toInt ∧ i.toInt ≤ a.toInt + 10 := by omega); exact k3 _ c q rfl | (have q : ¬ i.toInt ≤ 10 := by omega); (have c : ¬ (a.toInt - 30 ≤ i.toInt ∧ i.toInt ≤ a.toInt + 10) := by omega); exact k4 c q) (by omega))
            · refine jr_aload_n C dX5_step_108 rfl ?_
              refine jr_getv C kf_X5_21_6 dX5_step_109 (v := τ.1 6 6) rfl ?_
              refine jr_aload_n C dX5_step_112 rfl ?_
              refine jr_getv C kf_X5_94_6 dX5_step_113 (v := τ.1 6 8) rfl ?_
              refine jr_mmin C km_X5_100 (by decide) (Nat.le_of_ble_eq_true rfl) dX5_step_116 ?_
              refine jr_val ((g_min_x _ _).trans (g_min_c _ _)) ?_
              refine jr_iload C dX5_step_119 rfl ?_
              refine jr_aload_n C dX5_step_121 rfl ?_
              refine jr_getv C kf_X5_91_6 dX5_step_122 (v := τ.1 6 7) rfl ?_
              refine jr_isub C dX5_step_125 ?_
              refine jr_mmin C km_X5_100 (by decide) (Nat.le_of_ble_eq_true rfl) dX5_step_126 ?_
              refine jr_val (g_min_x _ _) ?_
              refine jr_istore C dX5_step_129 (by decide) ?_
              refine jr_aload_n C dX5_step_131 rfl ?_
              refine jr_dup C dX5_step_132 rfl ?_
              refine jr_getv C kf_X5_91_6 dX5_step_133 (v := τ.1 6 7) rfl ?_
              refine jr_iload C dX5_step_136 rfl ?_
              refine jr_iadd C dX5_step_138 ?_
              refine jr_puti C kp_X5_91_6 dX5_step_139 ?_
              refine jr_aload_n C dX5_step_142 rfl ?_
              refine jr_dup C dX5_step_143 rfl ?_
              refine jr_getv C kf_X5_94_6 dX5_step_144 (v := τ.1 6 8) rfl ?_
              refine jr_iload C dX5_step_147 rfl ?_
              refine jr_isub C dX5_step_149 ?_
              refine jr_puti C kp_X5_94_6 dX5_step_150 ?_
              refine jr_iinc C _ dX5_step_153 rfl rfl (by decide) ?_
              refine jr_goto C 50 dX5_step_156 (by decide) ?_
              exact jr_sub [(0, jf_r E 6), (1, .int s), (2, .int k), (3, .int a), (4, .int ((σ.1 13) ((σ.1 26) s.toNatClampNeg).toNatClampNeg)), (5, .int (i + Int32.ofInt 1))] rfl (nx _ (by repeat' (with_reducible first | exact z | refine xS_6_i ?_ (by decide))) (by first | (have q := ow (by omega)); (have c : a.toInt - 30 ≤ i.toInt ∧ i.toInt ≤ a.toInt + 10 := by omega); exact k1 _ _ c q rfl | (have q := ow (by omega)); (have c : ¬ (a.toInt - 30 ≤ i.toInt ∧ i.toInt ≤ a.toInt + 10) := by omega); exact k2 _ c q | (have q : ¬ i.toInt ≤ 10 := by omega); (have c : a.toInt - 30 ≤ i.toInt ∧ i.toInt ≤ a.toInt + 10 := by omega); exact k3 _ c q rfl | (have q : ¬ i.toInt ≤ 10 := by omega); (have c : ¬ (a.toInt - 30 ≤ i.toInt ∧ i.toInt ≤ a.toInt + 10) := by omega); exact k4 c q) (by omega))
        · refine jr_aload_n C dX5_step_63 rfl ?_
          refine jr_dup C dX5_step_64 rfl ?_
          refine jr_getv C kf_X5_94_6 dX5_step_65 (v := τ.1 6 8) rfl ?_
          refine jr_aload_n C dX5_step_68 rfl ?_
          refine jr_getr C kf_X5_33_6 dX5_step_69 ?_
          refine jr_getr C kf_X5_97_3 dX5_step_72 ?_
          refine jr_iload_n C dX5_step_75 rfl ?_
          refine jr_bipush C (v := 51) dX5_step_76 (by decide) ?_
          refine jr_imul C dX5_step_78 ?_
          refine jr_iload C dX5_step_79 rfl ?_
          refine jr_iadd C dX5_step_81 ?_
          refine jr_bipush C (v := -40) dX5_step_82 (by decide) ?_
          refine jr_isub C dX5_step_84 ?_
          refine jr_ialv C ka_X_32 dX5_step_85 (ji_linr3 51 (-40) rfl rfl (by omega) (by omega) (by omega)) (v := τ.1 32 _) rfl ?_
          refine jr_iadd C dX5_step_86 ?_
          refine jr_puti C kp_X5_94_6 dX5_step_87 ?_
          refine jr_iload C dX5_step_90 rfl ?_
          refine jr_iload_n C dX5_step_92 rfl ?_
          refine jr_bipush C (v := 30) dX5_step_93 (by decide) ?_
          refine jr_isub C dX5_step_95 ?_
          refine jr_ncmp_lt C 153 dX5_step_96 (by decide) rfl rfl (fun b96 => ?_) (fun b96 => ?_)
          · refine jr_iinc C _ dX5_step_153 rfl rfl (by decide) ?_
            refine jr_goto C 50 dX5_step_156 (by decide) ?_
            exact jr_sub [(0, jf_r E 6), (1, .int s), (2, .int k), (3, .int a), (4, .int ((σ.1 13) ((σ.1 26) s.toNatClampNeg).toNatClampNeg)), (5, .int (i + Int32.ofInt 1))] rfl (nx _ (by repeat' (with_reducible first | exact z | refine xS_6_i ?_ (by decide))) (by first | (have q := ow (by omega)); (have c : a.toInt - 30 ≤ i.toInt ∧ i.toInt ≤ a.toInt + 10 := by omega); exact k1 _ _ c q rfl | (have q := ow (by omega)); (have c : ¬ (a.toInt - 30 ≤ i.toInt ∧ i.toInt ≤ a.toInt + 10) := by omega); exact k2 _ c q | (have q : ¬ i.toInt ≤ 10 := by omega); (have c : a.toInt - 30 ≤ i.toInt ∧ i.toInt ≤ a.toInt + 10 := by omega); exact k3 _ c q rfl | (have q : ¬ i.toInt ≤ 10 := by omega); (have c : ¬ (a.toInt - 30 ≤ i.toInt ∧ i.toInt ≤ a.toInt + 10) := by omega); exact k4 c q) (by omega))
          · refine jr_iload C dX5_step_99 rfl ?_
            refine jr_iload_n C dX5_step_101 rfl ?_
            refine jr_bipush C (v := 10) dX5_step_102 (by decide) ?_
            refine jr_iadd C dX5_step_104 ?_
            refine jr_ncmp_gt C 153 dX5_step_105 (by decide) rfl rfl (fun b105 => ?_) (fun b105 => ?_)
            · refine jr_iinc C _ dX5_step_153 rfl rfl (by decide) ?_
              refine jr_goto C 50 dX5_step_156 (by decide) ?_
              exact jr_sub [(0, jf_r E 6), (1, .int s), (2, .int k), (3, .int a), (4, .int ((σ.1 13) ((σ.1 26) s.toNatClampNeg).toNatClampNeg)), (5, .int (i + Int32.ofInt 1))] rfl (nx _ (by repeat' (with_reducible first | exact z | refine xS_6_i ?_ (by decide))) (by first | (have q := ow (by omega)); (have c : a.toInt - 30 ≤ i.toInt ∧ i.toInt ≤ a.toInt + 10 := by omega); exact k1 _ _ c q rfl | (have q := ow (by omega)); (have c : ¬ (a.toInt - 30 ≤ i.toInt ∧ i.toInt ≤ a.toInt + 10) := by omega); exact k2 _ c q | (have q : ¬ i.toInt ≤ 10 := by omega); (have c : a.toInt - 30 ≤ i.toInt ∧ i.toInt ≤ a.toInt + 10 := by omega); exact k3 _ c q rfl | (have q : ¬ i.toInt ≤ 10 := by omega); (have c : ¬ (a.toInt - 30 ≤ i.toInt ∧ i.toInt ≤ a.toInt + 10) := by omega); exact k4 c q) (by omega))
            · refine jr_aload_n C dX5_step_108 rfl ?_
              refine jr_getv C kf_X5_21_6 dX5_step_109 (v := τ.1 6 6) rfl ?_
              refine jr_aload_n C dX5_step_112 rfl ?_
              refine jr_geti C kf_X5_94_6 dX5_step_113 ?_
              refine jr_mmin C km_X5_100 (by decide) (Nat.le_of_ble_eq_true rfl) dX5_step_116 ?_
              refine jr_val ((g_min_x _ _).trans (g_min_c _ _)) ?_
              refine jr_iload C dX5_step_119 rfl ?_
              refine jr_aload_n C dX5_step_121 rfl ?_
              refine jr_getv C kf_X5_91_6 dX5_step_122 (v := τ.1 6 7) rfl ?_
              refine jr_isub C dX5_step_125 ?_
              refine jr_mmin C km_X5_100 (by decide) (Nat.le_of_ble_eq_true rfl) dX5_step_126 ?_
              refine jr_val (g_min_x _ _) ?_
              refine jr_istore C dX5_step_129 (by decide) ?_
              refine jr_aload_n C dX5_step_131 rfl ?_
              refine jr_dup C dX5_step_132 rfl ?_
              refine jr_getv C kf_X5_91_6 dX5_step_133 (v := τ.1 6 7) rfl ?_
              refine jr_iload C dX5_step_136 rfl ?_
              refine jr_iadd C dX5_step_138 ?_
              refine jr_puti C kp_X5_91_6 dX5_step_139 ?_
              refine jr_aload_n C dX5_step_142 rfl ?_
              refine jr_dup C dX5_step_143 rfl ?_
              refine jr_geti C kf_X5_94_6 dX5_step_144 ?_
              refine jr_iload C dX5_step_147 rfl ?_
              refine jr_isub C dX5_step_149 ?_
              refine jr_puti C kp_X5_94_6 dX5_step_150 ?_
              refine jr_iinc C _ dX5_step_153 rfl rfl (by decide) ?_
              refine jr_goto C 50 dX5_step_156 (by decide) ?_
              exact jr_sub [(0, jf_r E 6), (1, .int s), (2, .int k), (3, .int a), (4, .int ((σ.1 13) ((σ.1 26) s.toNatClampNeg).toNatClampNeg)), (5, .int (i + Int32.ofInt 1))] rfl (nx _ (by repeat' (with_reducible first | exact z | refine xS_6_i ?_ (by decide))) (by first | (have q := ow (by omega)); (have c : a.toInt - 30 ≤ i.toInt ∧ i.toInt ≤ a.toInt + 10 := by omega); exact k1 _ _ c q rfl | (have q := ow (by omega)); (have c : ¬ (a.toInt - 30 ≤ i.toInt ∧ i.toInt ≤ a.toInt + 10) := by omega); exact k2 _ c q | (have q : ¬ i.toInt ≤ 10 := by omega); (have c : a.toInt - 30 ≤ i.toInt ∧ i.toInt ≤ a.toInt + 10 := by omega); exact k3 _ c q rfl | (have q : ¬ i.toInt ≤ 10 := by omega); (have c : ¬ (a.toInt - 30 ≤ i.toInt ∧ i.toInt ≤ a.toInt + 10) := by omega); exact k4 c q) (by omega))
  refine jr_aload_n C dX5_step_0 rfl ?_
  refine jr_getr C kf_X5_15_6 dX5_step_1 ?_
  refine jr_iload_n C dX5_step_4 rfl ?_
  refine jr_ialv C ka_X_38 dX5_step_5 (ji_in s0.1 s0.2) (v := σ.1 38 _) rfl ?_
  refine jr_aload_n C dX5_step_6 rfl ?_
  refine jr_getr C kf_X5_33_6 dX5_step_7 ?_
  refine jr_getr C kf_X5_54_3 dX5_step_10 ?_
  refine jr_iload_n C dX5_step_13 rfl ?_
  refine jr_ialv C ka_X_27 dX5_step_14 (ji_in s0.1 s0.2) (v := σ.1 27 _) rfl ?_
  refine jr_isub C dX5_step_15 ?_
  refine jr_istore_n C dX5_step_16 (by decide) ?_
  refine jr_aload_n C dX5_step_17 rfl ?_
  refine jr_getr C kf_X5_25_6 dX5_step_18 ?_
  refine jr_getr C kf_X5_88_1 dX5_step_21 ?_
  refine jr_aload_n C dX5_step_24 rfl ?_
  refine jr_getr C kf_X5_33_6 dX5_step_25 ?_
  refine jr_getr C kf_X5_77_3 dX5_step_28 ?_
  refine jr_iload_n C dX5_step_31 rfl ?_
  refine jr_ialv C ka_X_26 dX5_step_32 (ji_in s0.1 s0.2) (v := σ.1 26 _) rfl ?_
  refine jr_ialv C ka_X_13 dX5_step_33 (ji_in (xI_hall hI _).1 (xI_hall hI _).2) (v := σ.1 13 _) rfl ?_
  refine jr_istore C dX5_step_34 (by decide) ?_
  refine jr_aload_n C dX5_step_36 rfl ?_
  refine jr_iconst C (v := 0) dX5_step_37 (by decide) ?_
  refine jr_puti C kp_X5_91_6 dX5_step_38 ?_
  refine jr_aload_n C dX5_step_41 rfl ?_
  refine jr_iconst C (v := 0) dX5_step_42 (by decide) ?_
  refine jr_puti C kp_X5_94_6 dX5_step_43 ?_
  refine jr_bipush C (v := -40) dX5_step_46 (by decide) ?_
  refine jr_istore C dX5_step_48 (by decide) ?_
  exact jr_sub [(0, jf_r E 6), (1, .int s), (2, .int k), (3, .int _), (4, .int _), (5, .int (-40))] rfl (lp 442 _ _ (-40) hl rfl (xS_6_i (xS_6_i (xS_6_r σ) (by decide)) (by decide)) (by decide) (by show (-40 : Int) ≤ _; omega) (by decide) rfl)
def JD (σ : jf_S) : Prop := (∀ j, 0 ≤ (x_G σ 19 j).toInt ∧ (x_G σ 19 j).toInt ≤ 300) ∧ (∀ j, 0 ≤ (x_G σ 13 j).toInt ∧ (x_G σ 13 j).toInt ≤ 2000)
theorem ct_X10_queue2 (E : jf_E) (σ : jf_S) (s m w : Int32) (hI : xI σ) (hO : xO σ) (hB1 : gB (x_G σ) (x_N σ) 16) (hB2 : gB (x_G σ) (x_N σ) 15) (hP : gP (x_G σ) (x_N σ) ((σ.1 2 8)).toInt) (hD : JD σ) : jf_I jh_X E yX10_queue cX10_queue 4 .int 3 [jf_r E 0, .int s, .int m, .int w] σ (fun r τ => g_quq (x_G σ) (x_N σ) ((σ.1 6 6)) s m w r ∧ xS_l σ τ ∧ xO τ) := by
  refine jf_mkI (by decide) (Nat.le_of_ble_eq_true rfl) ?_
  intro G C ret
  have hE := hI.1
  have te := ji_tn hE.1
  have eN : (x_N σ : Int) = ((σ.1 3 8)).toInt := te
  have n60 := x_N_60 hI
  have fin : ∀ (υ τ : jf_S) (r : Int32), (0 ≤ s.toInt ∧ s.toInt < ((σ.1 3 8)).toInt ∧ ¬ (σ.1 31) s.toNatClampNeg = 0) → (-40 ≤ m.toInt ∧ m.toInt ≤ 400) → (0 ≤ w.toInt ∧ w.toInt ≤ 2) → xS_l σ υ → xO υ → g_tr (x_G σ) (x_N σ) ((υ.1 38)) → (xS_6 υ τ ∧ x_io τ = g_qs (x_G υ) ((υ.1 6 6)) ((υ.1 38) s.toNatClampNeg - (υ.1 27) s.toNatClampNeg).toInt s (m.toInt + 41).toNat) → r = g_qa (x_io τ) w → g_quq (x_G σ) (x_N σ) ((σ.1 6 6)) s m w r ∧ xS_l σ τ ∧ xO τ := by
    intro υ τ r c1 c2 c3 l o t q e
    refine ⟨Or.inr ⟨⟨⟨c1.1, by omega, fun z => c1.2.2 (Int32.toInt_inj.mp z)⟩, c2, c3⟩, (υ.1 38), t, ?_⟩, xS_l_t l (xS_6_l q.1), xS_6_O q.1 o⟩
    rw [e, q.2, xS_l_G l, show (υ.1 6 6) = (σ.1 6 6) from l.2.2 6 (by decide), show (υ.1 27) = (σ.1 27) from l.2.1 27 (by decide) (by decide) (by decide) (by decide)]
    rfl
  have bnd : ∀ υ : jf_S, (0 ≤ s.toInt ∧ s.toInt < ((σ.1 3 8)).toInt ∧ ¬ (σ.1 31) s.toNatClampNeg = 0) → xS_l σ υ → g_tr (x_G σ) (x_N σ) ((υ.1 38)) → -1000000000 ≤ ((υ.1 38) s.toNatClampNeg - (υ.1 27) s.toNatClampNeg).toInt ∧ ((υ.1 38) s.toNatClampNeg - (υ.1 27) s.toNatClampNeg).toInt ≤ 1000000000 := by
    intro υ c1 l t
    have ts := ji_tn c1.1
    have b0 := hP.2.2.2.2.1 s.toNatClampNeg
    obtain ⟨b1, b2⟩ := g_tr_b n60 t hP.2.2.1 hP.2.2.2.1 hP.2.2.2.2 hD.1 hD.2 ((x_G σ 17 s.toNatClampNeg).toInt + 1).toNat s.toNatClampNeg (by omega) (fun z => c1.2.2 (Int32.toInt_inj.mp z)) (by omega)
    have eb : (υ.1 27) s.toNatClampNeg = x_G σ 17 s.toNatClampNeg := congrFun (l.2.1 27 (by decide) (by decide) (by decide) (by decide)) s.toNatClampNeg
    rw [eb, fb_subI (by omega) (by omega)]
    omega
  refine jr_iload_n C dX10_queue_0 rfl ?_
  refine jr_bipush C (v := -40) dX10_queue_1 (by decide) ?_
  refine jr_sipush C (v := 400) dX10_queue_3 (by decide) ?_
  refine jr_sip C [.int _, .int _, .int _] _ (ct_X10_withinw E _ _ _ _ (-40) 400 rfl rfl) ky_X10_within ks_X10_within km_X10_93 (by decide) rfl (Nat.le_of_ble_eq_true rfl) dX10_queue_6 ?_
  refine jr_if_eq C 32 dX10_queue_9 (by decide) (fun b9 => ?_) (fun b9 => ?_)
  · replace b9 := jb_f b9
    refine jr_iconst C (v := -1) dX10_queue_32 (by decide) ?_
    exact ret _ _ _ _ dX10_queue_33 rfl (⟨Or.inl ⟨fun q => by have z : ¬ (σ.1 31) s.toNatClampNeg = 0 := fun z => q.1.2.2 (by show ((σ.1 31) s.toNatClampNeg).toInt = 0; rw [z]; rfl); obtain ⟨⟨q1, q2, -⟩, q3, q4⟩ := q; first | omega | exact b29 ⟨q1, by omega, z⟩, rfl⟩, xS_l_r σ, hO⟩)
  · replace b9 := jb_t b9
    refine jr_iload_n C dX10_queue_12 rfl ?_
    refine jr_iconst C (v := 0) dX10_queue_13 (by decide) ?_
    refine jr_iconst C (v := 2) dX10_queue_14 (by decide) ?_
    refine jr_sip C [.int _, .int _, .int _] _ (ct_X10_withinw E _ _ _ _ 0 2 rfl rfl) ky_X10_within ks_X10_within km_X10_93 (by decide) rfl (Nat.le_of_ble_eq_true rfl) dX10_queue_15 ?_
    refine jr_if_eq C 32 dX10_queue_18 (by decide) (fun b18 => ?_) (fun b18 => ?_)
    · replace b18 := jb_f b18
      refine jr_iconst C (v := -1) dX10_queue_32 (by decide) ?_
      exact ret _ _ _ _ dX10_queue_33 rfl (⟨Or.inl ⟨fun q => by have z : ¬ (σ.1 31) s.toNatClampNeg = 0 := fun z => q.1.2.2 (by show ((σ.1 31) s.toNatClampNeg).toInt = 0; rw [z]; rfl); obtain ⟨⟨q1, q2, -⟩, q3, q4⟩ := q; first | omega | exact b29 ⟨q1, by omega, z⟩, rfl⟩, xS_l_r σ, hO⟩)
    · replace b18 := jb_t b18
      refine jr_aload_n C dX10_queue_21 rfl ?_
      refine jr_getr C kf_X10_26_0 dX10_queue_22 ?_
      refine jr_iload_n C dX10_queue_25 rfl ?_
      refine jr_vip C [.int _] _ (ct_X8_has E _ _ (σ.1 3 8) (σ.1 31) rfl rfl (by omega)) ky_X8_has kv_X8_has kk_X_3 km_X10_135 (by decide) rfl (Nat.le_of_ble_eq_true rfl) dX10_queue_26 ?_
      refine jr_if_ne C 34 dX10_queue_29 (by decide) (fun b29 => ?_) (fun b29 => ?_)
      · replace b29 := jb_t b29
        refine jr_aload_n C dX10_queue_34 rfl ?_
        refine jr_getr C kf_X10_51_0 dX10_queue_35 ?_
        refine jr_vv C [] _ (ct_X5_reckon2 E _ hI hO hB1 hB2) ky_X5_reckon kv_X5_reckon kk_X_6 km_X10_161 (by decide) rfl (Nat.le_of_ble_eq_true rfl) dX10_queue_38 (fun τ38 h38 => ?_)
        refine jr_aload_n C dX10_queue_41 rfl ?_
        refine jr_getr C kf_X10_51_0 dX10_queue_42 ?_
        refine jr_iload_n C dX10_queue_45 rfl ?_
        refine jr_iload_n C dX10_queue_46 rfl ?_
        refine jr_vv C [.int _, .int _] _ (ct_X5_step2 E _ _ _ (xS_l_I h38.1 hI) ⟨by omega, by omega⟩ (by omega) (bnd _ b29 h38.1 h38.2.2.1)) ky_X5_step kv_X5_step kk_X_6 km_X10_192 (by decide) rfl (Nat.le_of_ble_eq_true rfl) dX10_queue_47 (fun τ47 h47 => ?_)
        refine jr_iload_n C dX10_queue_50 rfl ?_
        refine jr_nif_ne C 62 dX10_queue_51 (by decide) (fun b51 => ?_) (fun b51 => ?_)
        · refine jr_iload_n C dX10_queue_62 rfl ?_
          refine jr_iconst C (v := 1) dX10_queue_63 (by decide) ?_
          refine jr_ncmp_ne C (b := 1) 77 dX10_queue_64 (by decide) rfl rfl (fun b64 => ?_) (fun b64 => ?_)
          · refine jr_aload_n C dX10_queue_77 rfl ?_
            refine jr_getr C kf_X10_51_0 dX10_queue_78 ?_
            refine jr_geti C kf_X10_196_6 dX10_queue_81 ?_
            refine jr_aload_n C dX10_queue_84 rfl ?_
            refine jr_getr C kf_X10_51_0 dX10_queue_85 ?_
            refine jr_geti C kf_X10_199_6 dX10_queue_88 ?_
            refine jr_iadd C dX10_queue_91 ?_
            exact ret _ _ _ _ dX10_queue_92 rfl (fin _ _ _ b29 (by omega) (by omega) h38.1 h38.2.1 h38.2.2.1 h47 (by unfold g_qa; (repeat' split) <;> first | rfl | (exfalso; omega)))
          · refine jr_aload_n C dX10_queue_67 rfl ?_
            refine jr_getr C kf_X10_51_0 dX10_queue_68 ?_
            refine jr_geti C kf_X10_199_6 dX10_queue_71 ?_
            refine jr_goto C 92 dX10_queue_74 (by decide) ?_
            exact ret _ _ _ _ dX10_queue_92 rfl (fin _ _ _ b29 (by omega) (by omega) h38.1 h38.2.1 h38.2.2.1 h47 (by unfold g_qa; (repeat' split) <;> first | rfl | (exfalso; omega)))
        · refine jr_aload_n C dX10_queue_54 rfl ?_
          refine jr_getr C kf_X10_51_0 dX10_queue_55 ?_
          refine jr_geti C kf_X10_196_6 dX10_queue_58 ?_
          exact ret _ _ _ _ dX10_queue_61 rfl (fin _ _ _ b29 (by omega) (by omega) h38.1 h38.2.1 h38.2.2.1 h47 (by unfold g_qa; (repeat' split) <;> first | rfl | (exfalso; omega)))
      · replace b29 := jb_f b29
        refine jr_iconst C (v := -1) dX10_queue_32 (by decide) ?_
        exact ret _ _ _ _ dX10_queue_33 rfl (⟨Or.inl ⟨fun q => by have z : ¬ (σ.1 31) s.toNatClampNeg = 0 := fun z => q.1.2.2 (by show ((σ.1 31) s.toNatClampNeg).toInt = 0; rw [z]; rfl); obtain ⟨⟨q1, q2, -⟩, q3, q4⟩ := q; first | omega | exact b29 ⟨q1, by omega, z⟩, rfl⟩, xS_l_r σ, hO⟩)
theorem jd_of {σ σ1 : jf_S} (D : JD σ) (hx : ggX σ σ1) : JD σ1 := by
  unfold JD
  rw [ggX_G hx]
  exact D
theorem jd_told {σ : jf_S} {v : Int32} (D : JD σ) : JD (x_told σ v) := by
  unfold JD
  rw [x_G_t]
  exact D
theorem jd_up {σ σ1 : jf_S} (D : JD σ) (V1 : Nat → Nat → Int32) (hx : x_G σ1 = V1) (h19 : V1 19 = x_G σ 19) (h13 : V1 13 = x_G σ 13) : JD σ1 := by
  unfold JD
  rw [hx, h19, h13]
  exact D
theorem g_ur {V : Nat → Nat → Int32} {k j : Nat} {v : Int32} {hi : Int} (g : ∀ i, 0 ≤ (V k i).toInt ∧ (V k i).toInt ≤ hi) (h : 0 ≤ v.toInt ∧ v.toInt ≤ hi) : ∀ i, 0 ≤ ((gU V k j v) k i).toInt ∧ ((gU V k j v) k i).toInt ≤ hi := by
  intro i
  unfold gU upd
  rw [if_pos rfl]
  split
  · exact h
  · exact g i
theorem g_be_k {n m H k : Nat} (h1 : k ≠ 16) (h2 : k ≠ 17) : ∀ (j : Nat) (V : Nat → Nat → Int32), (g_be n m H j V).2 k = V k
  | 0, V => rfl
  | j + 1, V => by
    by_cases c : (g_fi V n m H).2.1.toInt = -1
    · rw [g_be_0 c]
    · rw [g_be_1 c]
      exact (g_be_k h1 h2 j _).trans (g_mv_o h1 h2)
theorem jd_hall {σ σ1 : jf_S} {r1 a b c d : Int32} (D : JD σ) (p : (r1, σ1) = x_hall σ a b c d) : JD σ1 := by
  unfold x_hall x_hadd at p
  repeat' split at p
  all_goals first
    | (obtain ⟨rfl, rfl⟩ := Prod.mk.inj p; exact jd_told D)
    | (obtain ⟨rfl, rfl⟩ := Prod.mk.inj p; exact jd_up D (gU (gU (gU (gU (x_G σ) 1 ((σ.1 1 5)).toNatClampNeg (a)) 2 ((σ.1 1 5)).toNatClampNeg (b)) 3 ((σ.1 1 5)).toNatClampNeg (c)) 4 ((σ.1 1 5)).toNatClampNeg (d)) (by rw [x_G_t, x_G_o (by decide), x_G_4, x_G_3, x_G_2, x_G_1]) rfl rfl)
theorem jd_film {σ σ1 : jf_S} {r1 a b c : Int32} (D : JD σ) (p : (r1, σ1) = x_film σ a b c) : JD σ1 := by
  unfold x_film x_fadd at p
  repeat' split at p
  all_goals first
    | (obtain ⟨rfl, rfl⟩ := Prod.mk.inj p; exact jd_told D)
    | (obtain ⟨rfl, rfl⟩ := Prod.mk.inj p; exact jd_up D (gU (gU (gU (gU (gU (gU (gU (gU (x_G σ) 5 ((σ.1 2 8)).toNatClampNeg (a)) 6 ((σ.1 2 8)).toNatClampNeg (b)) 7 ((σ.1 2 8)).toNatClampNeg (c)) 8 ((σ.1 2 8)).toNatClampNeg (-1)) 9 ((σ.1 2 8)).toNatClampNeg (-1)) 10 ((σ.1 2 8)).toNatClampNeg (0)) 11 ((σ.1 2 8)).toNatClampNeg (60)) 12 ((σ.1 2 8)).toNatClampNeg (-1)) (by rw [x_G_t, x_G_o (by decide), x_G_12, x_G_11, x_G_10, x_G_9, x_G_8, x_G_7, x_G_6, x_G_5]) rfl rfl)
theorem jd_way {σ σ1 : jf_S} {r1 a b c : Int32} (D : JD σ) (p : (r1, σ1) = x_way σ a b c) : JD σ1 := by
  unfold x_way at p
  repeat' split at p
  all_goals first
    | (obtain ⟨rfl, rfl⟩ := Prod.mk.inj p; exact jd_told D)
    | (obtain ⟨rfl, rfl⟩ := Prod.mk.inj p; unfold JD; rw [x_G_t, x_G_13, x_G_13]; exact ⟨D.1, g_ur (g_ur D.2 (by omega)) (by omega)⟩)
theorem jd_guest {σ σ1 : jf_S} {r1 a b c : Int32} (D : JD σ) (p : (r1, σ1) = x_guest σ a b c) : JD σ1 := by
  unfold x_guest at p
  repeat' split at p
  all_goals first
    | (obtain ⟨rfl, rfl⟩ := Prod.mk.inj p; exact jd_told D)
    | (obtain ⟨rfl, rfl⟩ := Prod.mk.inj p; exact jd_up D (gU (gU (x_G σ) 8 (a).toNatClampNeg (b)) 9 (a).toNatClampNeg (c)) (by rw [x_G_t, x_G_9, x_G_8]) rfl rfl)
theorem jd_bar {σ σ1 : jf_S} {r1 a b c d : Int32} (D : JD σ) (p : (r1, σ1) = x_bar σ a b c d) : JD σ1 := by
  unfold x_bar at p
  repeat' split at p
  all_goals first
    | (obtain ⟨rfl, rfl⟩ := Prod.mk.inj p; exact jd_told D)
    | (obtain ⟨rfl, rfl⟩ := Prod.mk.inj p; exact jd_up D (gU (gU (gU (x_G σ) 10 (a).toNatClampNeg (b)) 11 (a).toNatClampNeg (c)) 12 (a).toNatClampNeg (d)) (by rw [x_G_t, x_G_12, x_G_11, x_G_10]) rfl rfl)
theorem jd_part {σ σ1 : jf_S} {r1 a b : Int32} (D : JD σ) (p : (r1, σ1) = x_part σ a b) : JD σ1 := by
  unfold x_part at p
  repeat' split at p
  all_goals first
    | (obtain ⟨rfl, rfl⟩ := Prod.mk.inj p; exact jd_told D)
    | (obtain ⟨rfl, rfl⟩ := Prod.mk.inj p; exact jd_up D (gU (x_G σ) 21 (a).toNatClampNeg (b)) (by rw [x_G_t, x_G_21]) rfl rfl)
theorem jd_hour {σ σ1 : jf_S} {r1 a : Int32} (D : JD σ) (p : (r1, σ1) = x_hour σ a) : JD σ1 := by
  unfold x_hour x_hradd at p
  repeat' split at p
  all_goals first
    | (obtain ⟨rfl, rfl⟩ := Prod.mk.inj p; exact jd_told D)
    | (obtain ⟨rfl, rfl⟩ := Prod.mk.inj p; exact jd_up D (gU (x_G σ) 22 ((σ.1 5 8)).toNatClampNeg (a)) (by rw [x_G_t, x_G_o (by decide), x_G_22]) rfl rfl)
theorem jd_come {σ σ1 : jf_S} {r1 a b c : Int32} (D : JD σ) (p : (r1, σ1) = x_come σ a b c) : JD σ1 := by
  unfold x_come at p
  repeat' split at p
  all_goals first
    | (obtain ⟨rfl, rfl⟩ := Prod.mk.inj p; exact jd_told D)
    | (obtain ⟨rfl, rfl⟩ := Prod.mk.inj p; exact jd_up D (gU (x_G σ) 20 (a * 51 + b - -40).toNatClampNeg (c)) (by rw [x_G_t, x_G_20]) rfl rfl)
theorem jd_delay {σ σ1 : jf_S} {r1 a b : Int32} (D : JD σ) (p : (r1, σ1) = x_delay σ a b) : JD σ1 := by
  unfold x_delay at p
  repeat' split at p
  all_goals first
    | (obtain ⟨rfl, rfl⟩ := Prod.mk.inj p; exact jd_told D)
    | (obtain ⟨rfl, rfl⟩ := Prod.mk.inj p; unfold JD; rw [x_G_t, x_G_19]; exact ⟨g_ur D.1 (by omega), D.2⟩)
theorem jd_take {σ σ1 : jf_S} {r1 a : Int32} (D : JD σ) (p : (r1, σ1) = x_take σ a) : JD σ1 := by
  unfold x_take at p
  repeat' split at p
  all_goals first
    | (obtain ⟨rfl, rfl⟩ := Prod.mk.inj p; exact jd_told D)
    | (obtain ⟨rfl, rfl⟩ := Prod.mk.inj p; exact jd_up D (gU (x_G σ) 14 (a).toNatClampNeg (0)) (by rw [x_G_t, x_G_14]) rfl rfl)
theorem jd_put {σ σ1 : jf_S} {f h b s : Int32} (D : JD σ) (p : x_putq σ f h b s σ1) : JD σ1 := by
  rcases p with ⟨⟨v, rfl⟩, -⟩ | ⟨⟨v, rfl⟩, p1, p2, p3, p4⟩
  · exact jd_told D
  · rw [show (x_sadd σ f h b (b + (σ.1 17) f.toNatClampNeg) s).2 = x_pS σ f h b s from congrArg Prod.snd (if_neg (by omega))]
    exact jd_up D (g_pV (x_G σ) ((σ.1 3 8)).toNatClampNeg f h b s) (by rw [x_G_t, x_pS_G]) rfl rfl
theorem jd_better {σ σ1 : jf_S} {r1 : Int32} (D : JD σ) (p : (∃ υ : jf_S, xS_b σ υ ∧ xI υ ∧ σ1 = jf_i υ 5 8 0) ∧ r1 = nI (g_be (x_N σ) (x_M σ) (x_H σ) 40 (x_G σ)).1 ∧ x_G σ1 = (g_be (x_N σ) (x_M σ) (x_H σ) 40 (x_G σ)).2 ∧ xN σ1) : JD σ1 := jd_up D _ p.2.2.1 (g_be_k (by decide) (by decide) _ _) (g_be_k (by decide) (by decide) _ _)
theorem jd_s0 : JD x_s0 := by
  refine ⟨fun j => ?_, fun j => ?_⟩
  · show 0 ≤ (0 : Int32).toInt ∧ (0 : Int32).toInt ≤ 300; decide
  · show 0 ≤ (0 : Int32).toInt ∧ (0 : Int32).toInt ≤ 2000; decide
theorem jd_quq {σ τ : jf_S} {s m w r1 r2 : Int32} (H : JX σ) (R : JR σ τ) (G : JG σ τ) (p : g_quq (x_G σ) (x_N σ) ((σ.1 6 6)) s m w r1) (q : g_quq (m_G τ) (m_E τ) ((τ.1 0 28)) s m w r2) : r1 = r2 := by
  have e : x_N σ = m_E τ := by unfold x_N m_E; rw [G.2.1]
  rw [← G.1, ← e, ← R.2.2.2.1] at q
  exact g_quq_u (x_N_60 H.2.2.1) (fun j => (H.2.2.1.2.2.2.2 j).1) p q
def JJ8 (σ τ : jf_S) : Prop := JX σ ∧ JM τ ∧ JR σ τ ∧ JG σ τ ∧ JB σ ∧ JD σ

