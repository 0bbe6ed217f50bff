/-! the reference: by points, safe -/
theorem ct_X11_byPoints (E : jf_E) (σ : jf_S) (hV : mI_v σ) (k0 : 0 ≤ ((σ.1 0 69)).toInt ∧ ((σ.1 0 69)).toInt ≤ 20) (p0 : 0 ≤ ((σ.1 0 48)).toInt ∧ ((σ.1 0 48)).toInt ≤ 5) : jf_I jh_M E yX11_byPoints cX11_byPoints 4 .int 2 [jf_r E 0] σ (fun r τ => mS_a σ τ) := by
  refine jf_mkI (by decide) (Nat.le_of_ble_eq_true rfl) ?_
  intro G C ret
  have hJ := hV.1
  have l18 : ∀ (m : Nat) (τ : jf_S) (j n i : Int32), mS_a σ τ → 0 ≤ i.toInt → i.toInt ≤ (5 : Int) → (5 : Int) - i.toInt < m → (0 ≤ j.toInt ∧ j.toInt < 10) → (0 ≤ n.toInt ∧ n.toInt ≤ i.toInt) → (∀ υ : jf_S, mS_a σ υ → jf_X jh_M E G 4 6 [(0, jf_r E 0), (1, .int (j + Int32.ofInt 1))] [] υ) → jf_X jh_M E G 4 18 [(0, jf_r E 0), (1, .int j), (2, .int n), (3, .int i)] [] τ := by
    intro m
    induction m with
    | zero => intro τ j n i z g1 g2 g3 x1 x2 x3; exfalso; omega
    | succ m ih =>
      intro τ j n i z g1 g2 g3 x1 x2 x3
      have e1 := ji_inc (k := i) (by omega)
      have hT := mS_a_V z hV
      have c5 := hT.2.2.1 j.toNatClampNeg
      have v0 := hT.2.2.2 (5 * j + i).toNatClampNeg
      have c6 : ((τ.1 0 48)).toInt = ((σ.1 0 48)).toInt := congrArg Int32.toInt (z.2.2 _ (by decide) (by decide))
      have e2 := ji_inc (k := n) (by omega)
      refine jr_iload_n C dX11_byPoints_18 rfl ?_
      refine jr_aload_n C dX11_byPoints_19 rfl ?_
      refine jr_getr C kf_X11_93_0 dX11_byPoints_20 ?_
      refine jr_iload_n C dX11_byPoints_23 rfl ?_
      refine jr_ialv C ka_M_27 dX11_byPoints_24 (ji_in x1.1 x1.2) (v := τ.1 27 _) rfl ?_
      refine jr_ncmp_ge C 86 dX11_byPoints_25 (by decide) rfl rfl (fun b25 => ?_) (fun b25 => ?_)
      · refine jr_iinc C _ dX11_byPoints_86 rfl rfl (by decide) ?_
        refine jr_goto C 6 dX11_byPoints_89 (by decide) ?_
        exact jr_sub [(0, jf_r E 0), (1, .int (j + Int32.ofInt 1))] rfl (x3 _ z)
      · refine jr_aload_n C dX11_byPoints_28 rfl ?_
        refine jr_getr C kf_X11_129_0 dX11_byPoints_29 ?_
        refine jr_iconst C (v := 5) dX11_byPoints_32 (by decide) ?_
        refine jr_iload_n C dX11_byPoints_33 rfl ?_
        refine jr_imul C dX11_byPoints_34 ?_
        refine jr_iload_n C dX11_byPoints_35 rfl ?_
        refine jr_iadd C dX11_byPoints_36 ?_
        refine jr_zalv C ka_M_38 dX11_byPoints_37 (ji_lin 5 5 rfl (by omega) (by omega) (by omega) (by omega)) (v := τ.1 38 _) rfl ?_
        refine jr_nif_eq C 80 dX11_byPoints_38 (by decide) (fun b38 => ?_) (fun b38 => ?_)
        · refine jr_iinc C _ dX11_byPoints_80 rfl rfl (by decide) ?_
          refine jr_goto C 18 dX11_byPoints_83 (by decide) ?_
          exact jr_sub [(0, jf_r E 0), (1, .int _), (2, .int _), (3, .int _)] rfl (ih _ _ _ _ (by repeat' (with_reducible first | exact z | refine mS_a_i ?_ (by decide))) (by omega) (by omega) (by omega) x1 (by exact ⟨by omega, by omega⟩) x3)
        · refine jr_aload_n C dX11_byPoints_41 rfl ?_
          refine jr_getr C kf_X11_138_0 dX11_byPoints_42 ?_
          refine jr_aload_n C dX11_byPoints_45 rfl ?_
          refine jr_getr C kf_X11_90_0 dX11_byPoints_46 ?_
          refine jr_iconst C (v := 5) dX11_byPoints_49 (by decide) ?_
          refine jr_iload_n C dX11_byPoints_50 rfl ?_
          refine jr_imul C dX11_byPoints_51 ?_
          refine jr_iload_n C dX11_byPoints_52 rfl ?_
          refine jr_iadd C dX11_byPoints_53 ?_
          refine jr_ialv C ka_M_26 dX11_byPoints_54 (ji_lin 5 5 rfl (by omega) (by omega) (by omega) (by omega)) (v := τ.1 26 _) rfl ?_
          refine jr_dup2 C dX11_byPoints_55 rfl rfl ?_
          refine jr_ialv C ka_M_41 dX11_byPoints_56 (ji_in (by omega) (by omega)) (v := τ.1 41 _) rfl ?_
          refine jr_iload_n C dX11_byPoints_57 rfl ?_
          refine jr_aload_n C dX11_byPoints_58 rfl ?_
          refine jr_getv C kf_X11_365_0 dX11_byPoints_59 (v := τ.1 0 48) rfl ?_
          refine jr_ncmp_ge C 74 dX11_byPoints_62 (by decide) rfl rfl (fun b62 => ?_) (fun b62 => ?_)
          · refine jr_iconst C (v := 0) dX11_byPoints_74 (by decide) ?_
            refine jr_iadd C dX11_byPoints_75 ?_
            refine jr_iast C ka_M_41 dX11_byPoints_76 (ji_in (by omega) (by omega)) ?_
            refine jr_iinc C _ dX11_byPoints_77 rfl rfl (by decide) ?_
            refine jr_iinc C _ dX11_byPoints_80 rfl rfl (by decide) ?_
            refine jr_goto C 18 dX11_byPoints_83 (by decide) ?_
            exact jr_sub [(0, jf_r E 0), (1, .int _), (2, .int _), (3, .int _)] rfl (ih _ _ _ _ (by repeat' (with_reducible first | exact z | refine mS_a_i ?_ (by decide))) (by omega) (by omega) (by omega) x1 (by exact ⟨by omega, by omega⟩) x3)
          · refine jr_aload_n C dX11_byPoints_65 rfl ?_
            refine jr_getr C kf_X11_111_0 dX11_byPoints_66 ?_
            refine jr_iload_n C dX11_byPoints_69 rfl ?_
            refine jr_ialv C ka_M_33 dX11_byPoints_70 (ji_in (i := n) (by omega) (by omega)) (v := τ.1 33 _) rfl ?_
            refine jr_goto C 75 dX11_byPoints_71 (by decide) ?_
            refine jr_iadd C dX11_byPoints_75 ?_
            refine jr_iast C ka_M_41 dX11_byPoints_76 (ji_in (by omega) (by omega)) ?_
            refine jr_iinc C _ dX11_byPoints_77 rfl rfl (by decide) ?_
            refine jr_iinc C _ dX11_byPoints_80 rfl rfl (by decide) ?_
            refine jr_goto C 18 dX11_byPoints_83 (by decide) ?_
            exact jr_sub [(0, jf_r E 0), (1, .int _), (2, .int _), (3, .int _)] rfl (ih _ _ _ _ (by repeat' (with_reducible first | exact z | refine mS_a_i ?_ (by decide))) (by omega) (by omega) (by omega) x1 (by exact ⟨by omega, by omega⟩) x3)
  have l6 : ∀ (m : Nat) (τ : jf_S) (j : Int32), mS_a σ τ → 0 ≤ j.toInt → j.toInt ≤ ((σ.1 0 35)).toInt → ((σ.1 0 35)).toInt - j.toInt < m → jf_X jh_M E G 4 6 [(0, jf_r E 0), (1, .int j)] [] τ := by
    intro m
    induction m with
    | zero => intro τ j z g1 g2 g3; exfalso; omega
    | succ m ih =>
      intro τ j z g1 g2 g3
      have e1 := ji_inc (k := j) (by omega)
      have hT := mS_a_V z hV
      have c1 : ((τ.1 0 35)).toInt = ((σ.1 0 35)).toInt := congrArg Int32.toInt (z.2.2 _ (by decide) (by decide))
      refine jr_iload_n C dX11_byPoints_6 rfl ?_
      refine jr_aload_n C dX11_byPoints_7 rfl ?_
      refine jr_getv C kf_X11_257_0 dX11_byPoints_8 (v := τ.1 0 35) rfl ?_
      refine jr_ncmp_ge C 92 dX11_byPoints_11 (by decide) rfl rfl (fun b11 => ?_) (fun b11 => ?_)
      · refine jr_aload_n C dX11_byPoints_92 rfl ?_
        refine jr_iconst C (v := 0) dX11_byPoints_93 (by decide) ?_
        refine jr_iconst C (v := 1) dX11_byPoints_94 (by decide) ?_
        refine jr_vi C [.int _, .int _] _ (ct_X11_extreme E _ _ _ (by decide) (by decide) hT.2.1.1 hT.2.1.2) ky_X11_extreme kv_X11_extreme kk_M_0 km_X11_389 (by decide) rfl (Nat.le_of_ble_eq_true rfl) dX11_byPoints_95 (fun r95 τ95 h95 => ?_)
        obtain ⟨-, rfl⟩ := h95
        exact ret _ _ _ _ dX11_byPoints_98 rfl (z)
      · refine jr_iconst C (v := 0) dX11_byPoints_14 (by decide) ?_
        refine jr_istore_n C dX11_byPoints_15 (by decide) ?_
        refine jr_iconst C (v := 0) dX11_byPoints_16 (by decide) ?_
        refine jr_istore_n C dX11_byPoints_17 (by decide) ?_
        exact jr_sub [(0, jf_r E 0), (1, .int j), (2, .int 0), (3, .int 0)] rfl (l18 6 _ _ _ _ z (by decide) (by decide) (by decide) ⟨by omega, by omega⟩ (by decide) (fun υ hz => ih _ _ hz (by omega) (by omega) (by omega)))
  refine jr_aload_n C dX11_byPoints_0 rfl ?_
  refine jr_vv C [] _ (ct_X11_openRound E _ k0) ky_X11_openRound kv_X11_openRound kk_M_0 km_X11_386 (by decide) rfl (Nat.le_of_ble_eq_true rfl) dX11_byPoints_1 (fun τ1 h1 => ?_)
  refine jr_iconst C (v := 0) dX11_byPoints_4 (by decide) ?_
  refine jr_istore_n C dX11_byPoints_5 (by decide) ?_
  exact jr_sub [(0, jf_r E 0), (1, .int _)] rfl (l6 11 _ _ h1.1 (by decide) hJ.1 (by show _ - (0 : Int) < _; omega))

