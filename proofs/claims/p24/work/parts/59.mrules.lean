/-! the reference: conditions and rules are read, safe -/
theorem mS_gx {J : List Nat} {σ τ υ : jf_S} {v : Int32} (h : mS_g [34, 36] [51, 56, 59, 60, 61, 63, 64] σ τ) (M : m_M τ υ v) : mS_g [34, 36] [51, 56, 59, 60, 61, 63, 64] σ υ := mS_g_t h (mS_g_m M.1 (by decide) (by decide))
theorem ct_X11_readCond (E : jf_E) (σ : jf_S) (h0 : m_at σ) (hk : m_kd σ) (hb : ((σ.1 0 64)).toInt = 0) (hn : ((σ.1 0 51)).toInt = 0) (hf : 1 ≤ ((σ.1 0 59)).toInt) : jf_V jh_M E yX11_readCond cX11_readCond 6 4 [jf_r E 0] σ (fun τ => mS_g [34, 36] [51, 56, 59, 60, 61, 63, 64] σ τ ∧ m_at τ ∧ (((τ.1 0 64)).toInt = 0 → m_kd τ ∧ ∃ C : Nat, ((τ.1 0 51)).toInt = (C : Int) ∧ C ≤ 300 ∧ m_val ((τ.1 34)) C)) := by
  refine jf_mkV (by decide) (Nat.le_of_ble_eq_true rfl) ?_
  intro G C ret
  have l14 : ∀ (m : Nat) (τ : jf_S) (P K : Nat) (o dp w mo : Int32), 0 < m → mS_g [34, 36] [51, 56, 59, 60, 61, 63, 64] σ τ → m_L τ P K o w mo → (((τ.1 0 64)).toInt = 0 → ¬ mo.toInt = 0 → ((τ.1 0 58)).toInt - ((τ.1 0 59)).toInt + 1 < m) → jf_X jh_M E G 6 14 [(0, jf_r E 0), (1, .int o), (2, .int dp), (3, .int w), (4, .int mo)] [] τ := by
    intro m
    induction m with
    | zero => intro τ P K o dp w mo g; exfalso; omega
    | succ m ih =>
      intro τ P K o dp w mo g z L fu
      have L1 := L.1
      have L2 := L.2.1
      have L3 := L.2.2.1
      have L5 := L.2.2.2.2
      obtain ⟨a1, a2, a3, a4⟩ := L1
      obtain ⟨s1, s2, s3⟩ := L2
      have ft : (τ.1 0 58) = (σ.1 0 58) := z.2 58 (by decide)
      have J280 : ∀ (υ : jf_S) (P' K' : Nat) (o' dp' w' mo' : Int32), 0 < m → mS_g [34, 36] [51, 56, 59, 60, 61, 63, 64] σ υ → m_L υ P' K' o' w' mo' → (((υ.1 0 64)).toInt = 0 → ¬ mo'.toInt = 0 → ((τ.1 0 59)).toInt < ((υ.1 0 59)).toInt) → (((τ.1 0 64)).toInt = 0 ∧ ¬ mo.toInt = 0) → jf_X jh_M E G 6 280 [(0, jf_r E 0), (1, .int o'), (2, .int dp'), (3, .int w'), (4, .int mo')] [] υ := by
        intro υ P' K' o' dp' w' mo' m0 zu Lu fv fb
        have fu := fu fb.1 fb.2
        refine jr_aload_n C dX11_readCond_280 rfl ?_
        refine jr_iload_n C dX11_readCond_281 rfl ?_
        refine jr_vi C [.int _] _ (ct_X11_depthNow E _ _ P' K' Lu.2.1 Lu.2.2.1) ky_X11_depthNow kv_X11_depthNow kk_M_0 km_X11_343 (by decide) rfl (Nat.le_of_ble_eq_true rfl) dX11_readCond_282 (fun r282 τ282 h282 => ?_)
        obtain ⟨P2, K2, i1, i2, i3, i4, i5, i6, i7⟩ := h282
        refine jr_istore_n C dX11_readCond_285 (by decide) ?_
        refine jr_goto C 14 dX11_readCond_286 (by decide) ?_
        exact jr_sub [(0, jf_r E 0), (1, .int o'), (2, .int _), (3, .int w'), (4, .int mo')] rfl (ih τ282 P2 K2 o' _ w' mo' m0 (mS_g_t zu (mS_g_m i4.1 (by decide) (by decide))) (m_L_depth Lu i1 i2 i3 i4 i5 i6 i7) (fun hb1 hm1 => by have f1 : (τ282.1 0 59) = (υ.1 0 59) := i4.1.2 59 (by decide); have f2 : (τ282.1 0 58) = (υ.1 0 58) := i4.1.2 58 (by decide); have f3 : (τ282.1 0 64) = (υ.1 0 64) := i4.1.2 64 (by decide); have f4 : (υ.1 0 58) = (σ.1 0 58) := zu.2 58 (by decide); have f5 := fv (by rw [← f3]; exact hb1) hm1; rw [f1, f2, f4]; rw [ft] at fu; omega))
      have J59 : ∀ (v5 : Int32), ((τ.1 0 64)).toInt = 0 → ¬ mo.toInt = 0 → ¬ w.toInt = 0 → (((τ.1 0 61)).toInt = 1 ∨ ((τ.1 0 61)).toInt = 3) → jf_X jh_M E G 6 59 [(0, jf_r E 0), (1, .int o), (2, .int dp), (3, .int w), (4, .int mo), (5, .int v5)] [] τ := by
        intro v5 hb1 hm1 hw1 hk1
        have fu := fu hb1 hm1
        obtain ⟨k1, k2, k3, k4, k5⟩ := L5 hb1
        have k4 := k4 hm1
        unfold m_kd at k1
        have oo : o.toInt ≤ 300 := by have := L.2.2.2.1; have := jx_ct_le (fun i => decide (((τ.1 36) i).toInt = -6)) P; unfold m_opn at *; omega
        have o0 : 0 ≤ o.toInt := by have := L.2.2.2.1; omega
        have eo : (o + 1).toInt = o.toInt + 1 := ji_inc1 (by omega)
        have eo0 : (o + 0).toInt = o.toInt := ji_a0 o
        refine jr_iinc C _ dX11_readCond_59 rfl rfl (by decide) ?_
        refine jr_aload_n C dX11_readCond_62 rfl ?_
        refine jr_iload_n C dX11_readCond_63 rfl ?_
        refine jr_bipush C (v := 8) dX11_readCond_64 (by decide) ?_
        refine jr_ncmp_gt C (b := 8) 73 dX11_readCond_66 (by decide) rfl rfl (fun b66 => ?_) (fun b66 => ?_)
        · refine jr_iconst C (v := 0) dX11_readCond_73 (by decide) ?_
          refine jr_vv C [.int _] _ (ct_X11_must E _ _ L.1) ky_X11_must kv_X11_must kk_M_0 km_X11_333 (by decide) rfl (Nat.le_of_ble_eq_true rfl) dX11_readCond_74 (fun τ74 h74 => ?_)
          have f1 : (τ74.1 0 56) = (τ.1 0 56) := h74.1.2 56 (by decide)
          refine jr_iload_n C dX11_readCond_77 rfl ?_
          refine jr_iload C dX11_readCond_78 rfl ?_
          refine jr_nif_eq C 87 dX11_readCond_80 (by decide) (fun b80 => ?_) (fun b80 => ?_)
          · refine jr_iconst C (v := 1) dX11_readCond_87 (by decide) ?_
            refine jr_iadd C dX11_readCond_88 ?_
            refine jr_istore_n C dX11_readCond_89 (by decide) ?_
            refine jr_aload_n C dX11_readCond_90 rfl ?_
            refine jr_getr C kf_X11_120_0 dX11_readCond_91 ?_
            refine jr_aload_n C dX11_readCond_94 rfl ?_
            refine jr_geti C kf_X11_320_0 dX11_readCond_95 ?_
            refine jr_iload C dX11_readCond_98 rfl ?_
            refine jr_nif_eq C 108 dX11_readCond_100 (by decide) (fun b100 => ?_) (fun b100 => ?_)
            · refine jr_bipush C (v := -6) dX11_readCond_108 (by decide) ?_
              refine jr_iast C ka_M_36 dX11_readCond_110 (ji_in (i := (τ74.1 0 56)) (by rw [f1]; omega) (by rw [f1]; omega)) ?_
              refine jr_aload_n C dX11_readCond_111 rfl ?_
              refine jr_dup C dX11_readCond_112 rfl ?_
              refine jr_geti C kf_X11_320_0 dX11_readCond_113 ?_
              refine jr_iconst C (v := 1) dX11_readCond_116 (by decide) ?_
              refine jr_iadd C dX11_readCond_117 ?_
              refine jr_puti C kp_X11_320_0 dX11_readCond_118 ?_
              refine jr_goto C 14 dX11_readCond_121 (by decide) ?_
              exact jr_sub [(0, jf_r E 0), (1, .int _), (2, .int _), (3, .int w), (4, .int mo)] rfl (ih _ (P + 1) K _ _ w mo (by omega) (mS_g_i (mS_g_a (mS_gx (J := []) z h74) (by decide) (by decide)) (by decide)) (m_L_push L hw1 hm1 hb1 (by first | exact Or.inl ⟨rfl, eo0⟩ | exact Or.inr ⟨rfl, eo⟩ | (exfalso; omega)) hk1 h74) (fun hb2 hm2 => by have q := h74.2.2.resolve_left (fun h => h hb2); have f2 : (τ74.1 0 58) = (τ.1 0 58) := h74.1.2 58 (by decide); show ((τ74.1 0 58)).toInt - ((τ74.1 0 59)).toInt + 1 < _; rw [f2]; omega))
            · refine jr_bipush C (v := -3) dX11_readCond_103 (by decide) ?_
              refine jr_goto C 110 dX11_readCond_105 (by decide) ?_
              refine jr_iast C ka_M_36 dX11_readCond_110 (ji_in (i := (τ74.1 0 56)) (by rw [f1]; omega) (by rw [f1]; omega)) ?_
              refine jr_aload_n C dX11_readCond_111 rfl ?_
              refine jr_dup C dX11_readCond_112 rfl ?_
              refine jr_geti C kf_X11_320_0 dX11_readCond_113 ?_
              refine jr_iconst C (v := 1) dX11_readCond_116 (by decide) ?_
              refine jr_iadd C dX11_readCond_117 ?_
              refine jr_puti C kp_X11_320_0 dX11_readCond_118 ?_
              refine jr_goto C 14 dX11_readCond_121 (by decide) ?_
              exact jr_sub [(0, jf_r E 0), (1, .int _), (2, .int _), (3, .int w), (4, .int mo)] rfl (ih _ (P + 1) K _ _ w mo (by omega) (mS_g_i (mS_g_a (mS_gx (J := []) z h74) (by decide) (by decide)) (by decide)) (m_L_push L hw1 hm1 hb1 (by first | exact Or.inl ⟨rfl, eo0⟩ | exact Or.inr ⟨rfl, eo⟩ | (exfalso; omega)) hk1 h74) (fun hb2 hm2 => by have q := h74.2.2.resolve_left (fun h => h hb2); have f2 : (τ74.1 0 58) = (τ.1 0 58) := h74.1.2 58 (by decide); show ((τ74.1 0 58)).toInt - ((τ74.1 0 59)).toInt + 1 < _; rw [f2]; omega))
          · refine jr_iconst C (v := 0) dX11_readCond_83 (by decide) ?_
            refine jr_goto C 88 dX11_readCond_84 (by decide) ?_
            refine jr_iadd C dX11_readCond_88 ?_
            refine jr_istore_n C dX11_readCond_89 (by decide) ?_
            refine jr_aload_n C dX11_readCond_90 rfl ?_
            refine jr_getr C kf_X11_120_0 dX11_readCond_91 ?_
            refine jr_aload_n C dX11_readCond_94 rfl ?_
            refine jr_geti C kf_X11_320_0 dX11_readCond_95 ?_
            refine jr_iload C dX11_readCond_98 rfl ?_
            refine jr_nif_eq C 108 dX11_readCond_100 (by decide) (fun b100 => ?_) (fun b100 => ?_)
            · refine jr_bipush C (v := -6) dX11_readCond_108 (by decide) ?_
              refine jr_iast C ka_M_36 dX11_readCond_110 (ji_in (i := (τ74.1 0 56)) (by rw [f1]; omega) (by rw [f1]; omega)) ?_
              refine jr_aload_n C dX11_readCond_111 rfl ?_
              refine jr_dup C dX11_readCond_112 rfl ?_
              refine jr_geti C kf_X11_320_0 dX11_readCond_113 ?_
              refine jr_iconst C (v := 1) dX11_readCond_116 (by decide) ?_
              refine jr_iadd C dX11_readCond_117 ?_
              refine jr_puti C kp_X11_320_0 dX11_readCond_118 ?_
              refine jr_goto C 14 dX11_readCond_121 (by decide) ?_
              exact jr_sub [(0, jf_r E 0), (1, .int _), (2, .int _), (3, .int w), (4, .int mo)] rfl (ih _ (P + 1) K _ _ w mo (by omega) (mS_g_i (mS_g_a (mS_gx (J := []) z h74) (by decide) (by decide)) (by decide)) (m_L_push L hw1 hm1 hb1 (by first | exact Or.inl ⟨rfl, eo0⟩ | exact Or.inr ⟨rfl, eo⟩ | (exfalso; omega)) hk1 h74) (fun hb2 hm2 => by have q := h74.2.2.resolve_left (fun h => h hb2); have f2 : (τ74.1 0 58) = (τ.1 0 58) := h74.1.2 58 (by decide); show ((τ74.1 0 58)).toInt - ((τ74.1 0 59)).toInt + 1 < _; rw [f2]; omega))
            · refine jr_bipush C (v := -3) dX11_readCond_103 (by decide) ?_
              refine jr_goto C 110 dX11_readCond_105 (by decide) ?_
              refine jr_iast C ka_M_36 dX11_readCond_110 (ji_in (i := (τ74.1 0 56)) (by rw [f1]; omega) (by rw [f1]; omega)) ?_
              refine jr_aload_n C dX11_readCond_111 rfl ?_
              refine jr_dup C dX11_readCond_112 rfl ?_
              refine jr_geti C kf_X11_320_0 dX11_readCond_113 ?_
              refine jr_iconst C (v := 1) dX11_readCond_116 (by decide) ?_
              refine jr_iadd C dX11_readCond_117 ?_
              refine jr_puti C kp_X11_320_0 dX11_readCond_118 ?_
              refine jr_goto C 14 dX11_readCond_121 (by decide) ?_
              exact jr_sub [(0, jf_r E 0), (1, .int _), (2, .int _), (3, .int w), (4, .int mo)] rfl (ih _ (P + 1) K _ _ w mo (by omega) (mS_g_i (mS_g_a (mS_gx (J := []) z h74) (by decide) (by decide)) (by decide)) (m_L_push L hw1 hm1 hb1 (by first | exact Or.inl ⟨rfl, eo0⟩ | exact Or.inr ⟨rfl, eo⟩ | (exfalso; omega)) hk1 h74) (fun hb2 hm2 => by have q := h74.2.2.resolve_left (fun h => h hb2); have f2 : (τ74.1 0 58) = (τ.1 0 58) := h74.1.2 58 (by decide); show ((τ74.1 0 58)).toInt - ((τ74.1 0 59)).toInt + 1 < _; rw [f2]; omega))
        · refine jr_iconst C (v := 1) dX11_readCond_69 (by decide) ?_
          refine jr_goto C 74 dX11_readCond_70 (by decide) ?_
          refine jr_vv C [.int _] _ (ct_X11_must E _ _ L.1) ky_X11_must kv_X11_must kk_M_0 km_X11_333 (by decide) rfl (Nat.le_of_ble_eq_true rfl) dX11_readCond_74 (fun τ74 h74 => ?_)
          have f1 : (τ74.1 0 56) = (τ.1 0 56) := h74.1.2 56 (by decide)
          refine jr_iload_n C dX11_readCond_77 rfl ?_
          refine jr_iload C dX11_readCond_78 rfl ?_
          refine jr_nif_eq C 87 dX11_readCond_80 (by decide) (fun b80 => ?_) (fun b80 => ?_)
          · refine jr_iconst C (v := 1) dX11_readCond_87 (by decide) ?_
            refine jr_iadd C dX11_readCond_88 ?_
            refine jr_istore_n C dX11_readCond_89 (by decide) ?_
            refine jr_aload_n C dX11_readCond_90 rfl ?_
            refine jr_getr C kf_X11_120_0 dX11_readCond_91 ?_
            refine jr_aload_n C dX11_readCond_94 rfl ?_
            refine jr_geti C kf_X11_320_0 dX11_readCond_95 ?_
            refine jr_iload C dX11_readCond_98 rfl ?_
            refine jr_nif_eq C 108 dX11_readCond_100 (by decide) (fun b100 => ?_) (fun b100 => ?_)
            · refine jr_bipush C (v := -6) dX11_readCond_108 (by decide) ?_
              refine jr_iast C ka_M_36 dX11_readCond_110 (ji_in (i := (τ74.1 0 56)) (by rw [f1]; omega) (by rw [f1]; omega)) ?_
              refine jr_aload_n C dX11_readCond_111 rfl ?_
              refine jr_dup C dX11_readCond_112 rfl ?_
              refine jr_geti C kf_X11_320_0 dX11_readCond_113 ?_
              refine jr_iconst C (v := 1) dX11_readCond_116 (by decide) ?_
              refine jr_iadd C dX11_readCond_117 ?_
              refine jr_puti C kp_X11_320_0 dX11_readCond_118 ?_
              refine jr_goto C 14 dX11_readCond_121 (by decide) ?_
              exact jr_sub [(0, jf_r E 0), (1, .int _), (2, .int _), (3, .int w), (4, .int mo)] rfl (ih _ (P + 1) K _ _ w mo (by omega) (mS_g_i (mS_g_a (mS_gx (J := []) z h74) (by decide) (by decide)) (by decide)) (m_L_push L hw1 hm1 hb1 (by first | exact Or.inl ⟨rfl, eo0⟩ | exact Or.inr ⟨rfl, eo⟩ | (exfalso; omega)) hk1 h74) (fun hb2 hm2 => by have q := h74.2.2.resolve_left (fun h => h hb2); have f2 : (τ74.1 0 58) = (τ.1 0 58) := h74.1.2 58 (by decide); show ((τ74.1 0 58)).toInt - ((τ74.1 0 59)).toInt + 1 < _; rw [f2]; omega))
            · refine jr_bipush C (v := -3) dX11_readCond_103 (by decide) ?_
              refine jr_goto C 110 dX11_readCond_105 (by decide) ?_
              refine jr_iast C ka_M_36 dX11_readCond_110 (ji_in (i := (τ74.1 0 56)) (by rw [f1]; omega) (by rw [f1]; omega)) ?_
              refine jr_aload_n C dX11_readCond_111 rfl ?_
              refine jr_dup C dX11_readCond_112 rfl ?_
              refine jr_geti C kf_X11_320_0 dX11_readCond_113 ?_
              refine jr_iconst C (v := 1) dX11_readCond_116 (by decide) ?_
              refine jr_iadd C dX11_readCond_117 ?_
              refine jr_puti C kp_X11_320_0 dX11_readCond_118 ?_
              refine jr_goto C 14 dX11_readCond_121 (by decide) ?_
              exact jr_sub [(0, jf_r E 0), (1, .int _), (2, .int _), (3, .int w), (4, .int mo)] rfl (ih _ (P + 1) K _ _ w mo (by omega) (mS_g_i (mS_g_a (mS_gx (J := []) z h74) (by decide) (by decide)) (by decide)) (m_L_push L hw1 hm1 hb1 (by first | exact Or.inl ⟨rfl, eo0⟩ | exact Or.inr ⟨rfl, eo⟩ | (exfalso; omega)) hk1 h74) (fun hb2 hm2 => by have q := h74.2.2.resolve_left (fun h => h hb2); have f2 : (τ74.1 0 58) = (τ.1 0 58) := h74.1.2 58 (by decide); show ((τ74.1 0 58)).toInt - ((τ74.1 0 59)).toInt + 1 < _; rw [f2]; omega))
          · refine jr_iconst C (v := 0) dX11_readCond_83 (by decide) ?_
            refine jr_goto C 88 dX11_readCond_84 (by decide) ?_
            refine jr_iadd C dX11_readCond_88 ?_
            refine jr_istore_n C dX11_readCond_89 (by decide) ?_
            refine jr_aload_n C dX11_readCond_90 rfl ?_
            refine jr_getr C kf_X11_120_0 dX11_readCond_91 ?_
            refine jr_aload_n C dX11_readCond_94 rfl ?_
            refine jr_geti C kf_X11_320_0 dX11_readCond_95 ?_
            refine jr_iload C dX11_readCond_98 rfl ?_
            refine jr_nif_eq C 108 dX11_readCond_100 (by decide) (fun b100 => ?_) (fun b100 => ?_)
            · refine jr_bipush C (v := -6) dX11_readCond_108 (by decide) ?_
              refine jr_iast C ka_M_36 dX11_readCond_110 (ji_in (i := (τ74.1 0 56)) (by rw [f1]; omega) (by rw [f1]; omega)) ?_
              refine jr_aload_n C dX11_readCond_111 rfl ?_
              refine jr_dup C dX11_readCond_112 rfl ?_
              refine jr_geti C kf_X11_320_0 dX11_readCond_113 ?_
              refine jr_iconst C (v := 1) dX11_readCond_116 (by decide) ?_
              refine jr_iadd C dX11_readCond_117 ?_
              refine jr_puti C kp_X11_320_0 dX11_readCond_118 ?_
              refine jr_goto C 14 dX11_readCond_121 (by decide) ?_
              exact jr_sub [(0, jf_r E 0), (1, .int _), (2, .int _), (3, .int w), (4, .int mo)] rfl (ih _ (P + 1) K _ _ w mo (by omega) (mS_g_i (mS_g_a (mS_gx (J := []) z h74) (by decide) (by decide)) (by decide)) (m_L_push L hw1 hm1 hb1 (by first | exact Or.inl ⟨rfl, eo0⟩ | exact Or.inr ⟨rfl, eo⟩ | (exfalso; omega)) hk1 h74) (fun hb2 hm2 => by have q := h74.2.2.resolve_left (fun h => h hb2); have f2 : (τ74.1 0 58) = (τ.1 0 58) := h74.1.2 58 (by decide); show ((τ74.1 0 58)).toInt - ((τ74.1 0 59)).toInt + 1 < _; rw [f2]; omega))
            · refine jr_bipush C (v := -3) dX11_readCond_103 (by decide) ?_
              refine jr_goto C 110 dX11_readCond_105 (by decide) ?_
              refine jr_iast C ka_M_36 dX11_readCond_110 (ji_in (i := (τ74.1 0 56)) (by rw [f1]; omega) (by rw [f1]; omega)) ?_
              refine jr_aload_n C dX11_readCond_111 rfl ?_
              refine jr_dup C dX11_readCond_112 rfl ?_
              refine jr_geti C kf_X11_320_0 dX11_readCond_113 ?_
              refine jr_iconst C (v := 1) dX11_readCond_116 (by decide) ?_
              refine jr_iadd C dX11_readCond_117 ?_
              refine jr_puti C kp_X11_320_0 dX11_readCond_118 ?_
              refine jr_goto C 14 dX11_readCond_121 (by decide) ?_
              exact jr_sub [(0, jf_r E 0), (1, .int _), (2, .int _), (3, .int w), (4, .int mo)] rfl (ih _ (P + 1) K _ _ w mo (by omega) (mS_g_i (mS_g_a (mS_gx (J := []) z h74) (by decide) (by decide)) (by decide)) (m_L_push L hw1 hm1 hb1 (by first | exact Or.inl ⟨rfl, eo0⟩ | exact Or.inr ⟨rfl, eo⟩ | (exfalso; omega)) hk1 h74) (fun hb2 hm2 => by have q := h74.2.2.resolve_left (fun h => h hb2); have f2 : (τ74.1 0 58) = (τ.1 0 58) := h74.1.2 58 (by decide); show ((τ74.1 0 58)).toInt - ((τ74.1 0 59)).toInt + 1 < _; rw [f2]; omega))
      have J164 : ((τ.1 0 64)).toInt = 0 → ¬ mo.toInt = 0 → w.toInt = 0 → ((τ.1 0 61)).toInt = 1 → jf_X jh_M E G 6 164 [(0, jf_r E 0), (1, .int o), (2, .int dp), (3, .int w), (4, .int mo)] [] τ := by
        intro hb1 hm1 hw1 hk1
        have fuq := fu hb1 hm1
        obtain ⟨k1, k2, k3, k4, k5⟩ := L5 hb1
        have k4 := k4 hm1
        unfold m_kd at k1
        refine jr_aload_n C dX11_readCond_164 rfl ?_
        refine jr_bipush C (v := 97) dX11_readCond_165 (by decide) ?_
        refine jr_bipush C (v := 110) dX11_readCond_167 (by decide) ?_
        refine jr_bipush C (v := 100) dX11_readCond_169 (by decide) ?_
        refine jr_iconst C (v := 0) dX11_readCond_171 (by decide) ?_
        refine jr_iconst C (v := 0) dX11_readCond_172 (by decide) ?_
        refine jr_iconst C (v := 0) dX11_readCond_173 (by decide) ?_
        refine jr_vi C [.int _, .int _, .int _, .int _, .int _, .int _] _ (ct_X11_isWord E _ _ _ _ _ _ _) ky_X11_isWord kv_X11_isWord kk_M_0 km_X11_326 (by decide) rfl (Nat.le_of_ble_eq_true rfl) dX11_readCond_174 (fun r174 τ174 h174 => ?_)
        obtain ⟨q174, rfl⟩ := h174
        refine jr_istore C dX11_readCond_177 (by decide) ?_
        refine jr_aload_n C dX11_readCond_179 rfl ?_
        refine jr_iload C dX11_readCond_180 rfl ?_
        refine jr_nif_eq C 190 dX11_readCond_182 (by decide) (fun b182 => ?_) (fun b182 => ?_)
        · refine jr_bipush C (v := -5) dX11_readCond_190 (by decide) ?_
          refine jr_vv C [.int _] _ (ct_X11_settle E _ _ P K L.2.1 L3) ky_X11_settle kv_X11_settle kk_M_0 km_X11_340 (by decide) rfl (Nat.le_of_ble_eq_true rfl) dX11_readCond_192 (fun τ192 h192 => ?_)
          obtain ⟨P2, K2, i1, i2, i3, i4, i5, i6, i7⟩ := h192; have f1 := i1.1; have f2 : (τ192.1 0 60) = (τ.1 0 60) := i4.1.2 60 (by decide); have f3 : (τ192.1 0 58) = (τ.1 0 58) := i4.1.2 58 (by decide)
          refine jr_aload_n C dX11_readCond_195 rfl ?_
          refine jr_getr C kf_X11_120_0 dX11_readCond_196 ?_
          refine jr_aload_n C dX11_readCond_199 rfl ?_
          refine jr_geti C kf_X11_320_0 dX11_readCond_200 ?_
          refine jr_iload C dX11_readCond_203 rfl ?_
          refine jr_nif_eq C 213 dX11_readCond_205 (by decide) (fun b205 => ?_) (fun b205 => ?_)
          · refine jr_bipush C (v := -5) dX11_readCond_213 (by decide) ?_
            refine jr_iast C ka_M_36 dX11_readCond_215 (ji_in (i := (τ192.1 0 56)) (by omega) (by omega)) ?_
            refine jr_aload_n C dX11_readCond_216 rfl ?_
            refine jr_dup C dX11_readCond_217 rfl ?_
            refine jr_geti C kf_X11_320_0 dX11_readCond_218 ?_
            refine jr_iconst C (v := 1) dX11_readCond_221 (by decide) ?_
            refine jr_iadd C dX11_readCond_222 ?_
            refine jr_puti C kp_X11_320_0 dX11_readCond_223 ?_
            refine jr_iconst C (v := 1) dX11_readCond_226 (by decide) ?_
            refine jr_istore_n C dX11_readCond_227 (by decide) ?_
            refine jr_aload_n C dX11_readCond_228 rfl ?_
            refine jr_vv C [] _ (ct_X11_next E _ (show 0 ≤ ((τ192.1 0 60)).toInt ∧ ((τ192.1 0 60)).toInt ≤ ((τ192.1 0 58)).toInt ∧ ((τ192.1 0 58)).toInt ≤ 300 by rw [f2, f3]; omega)) ky_X11_next kv_X11_next kk_M_0 km_X11_314 (by decide) rfl (Nat.le_of_ble_eq_true rfl) dX11_readCond_229 (fun τ229 h229 => ?_)
            refine jr_goto C 280 dX11_readCond_232 (by decide) ?_
            exact jr_sub [(0, jf_r E 0), (1, .int o), (2, .int dp), (3, .int 1), (4, .int mo)] rfl (J280 τ229 (P2 + 1) K2 o dp 1 mo (by omega) (mS_g_t (mS_g_i (mS_g_a (mS_g_t z (mS_g_m i4.1 (by decide) (by decide))) (by decide) (by decide)) (by decide)) (mS_g_n h229.1 (by decide))) (m_L_and L hw1 hm1 hb1 hk1 i1 i2 i3 i4 i6 i7 (by decide) h229) (fun _ _ => by have q := h229.2.1; have q : ((τ192.1 0 60)).toInt ≤ ((τ229.1 0 59)).toInt := q; rw [f2] at q; omega) ⟨hb1, hm1⟩)
          · refine jr_bipush C (v := -4) dX11_readCond_208 (by decide) ?_
            refine jr_goto C 215 dX11_readCond_210 (by decide) ?_
            refine jr_iast C ka_M_36 dX11_readCond_215 (ji_in (i := (τ192.1 0 56)) (by omega) (by omega)) ?_
            refine jr_aload_n C dX11_readCond_216 rfl ?_
            refine jr_dup C dX11_readCond_217 rfl ?_
            refine jr_geti C kf_X11_320_0 dX11_readCond_218 ?_
            refine jr_iconst C (v := 1) dX11_readCond_221 (by decide) ?_
            refine jr_iadd C dX11_readCond_222 ?_
            refine jr_puti C kp_X11_320_0 dX11_readCond_223 ?_
            refine jr_iconst C (v := 1) dX11_readCond_226 (by decide) ?_
            refine jr_istore_n C dX11_readCond_227 (by decide) ?_
            refine jr_aload_n C dX11_readCond_228 rfl ?_
            refine jr_vv C [] _ (ct_X11_next E _ (show 0 ≤ ((τ192.1 0 60)).toInt ∧ ((τ192.1 0 60)).toInt ≤ ((τ192.1 0 58)).toInt ∧ ((τ192.1 0 58)).toInt ≤ 300 by rw [f2, f3]; omega)) ky_X11_next kv_X11_next kk_M_0 km_X11_314 (by decide) rfl (Nat.le_of_ble_eq_true rfl) dX11_readCond_229 (fun τ229 h229 => ?_)
            refine jr_goto C 280 dX11_readCond_232 (by decide) ?_
            exact jr_sub [(0, jf_r E 0), (1, .int o), (2, .int dp), (3, .int 1), (4, .int mo)] rfl (J280 τ229 (P2 + 1) K2 o dp 1 mo (by omega) (mS_g_t (mS_g_i (mS_g_a (mS_g_t z (mS_g_m i4.1 (by decide) (by decide))) (by decide) (by decide)) (by decide)) (mS_g_n h229.1 (by decide))) (m_L_and L hw1 hm1 hb1 hk1 i1 i2 i3 i4 i6 i7 (by decide) h229) (fun _ _ => by have q := h229.2.1; have q : ((τ192.1 0 60)).toInt ≤ ((τ229.1 0 59)).toInt := q; rw [f2] at q; omega) ⟨hb1, hm1⟩)
        · refine jr_bipush C (v := -4) dX11_readCond_185 (by decide) ?_
          refine jr_goto C 192 dX11_readCond_187 (by decide) ?_
          refine jr_vv C [.int _] _ (ct_X11_settle E _ _ P K L.2.1 L3) ky_X11_settle kv_X11_settle kk_M_0 km_X11_340 (by decide) rfl (Nat.le_of_ble_eq_true rfl) dX11_readCond_192 (fun τ192 h192 => ?_)
          obtain ⟨P2, K2, i1, i2, i3, i4, i5, i6, i7⟩ := h192; have f1 := i1.1; have f2 : (τ192.1 0 60) = (τ.1 0 60) := i4.1.2 60 (by decide); have f3 : (τ192.1 0 58) = (τ.1 0 58) := i4.1.2 58 (by decide)
          refine jr_aload_n C dX11_readCond_195 rfl ?_
          refine jr_getr C kf_X11_120_0 dX11_readCond_196 ?_
          refine jr_aload_n C dX11_readCond_199 rfl ?_
          refine jr_geti C kf_X11_320_0 dX11_readCond_200 ?_
          refine jr_iload C dX11_readCond_203 rfl ?_
          refine jr_nif_eq C 213 dX11_readCond_205 (by decide) (fun b205 => ?_) (fun b205 => ?_)
          · refine jr_bipush C (v := -5) dX11_readCond_213 (by decide) ?_
            refine jr_iast C ka_M_36 dX11_readCond_215 (ji_in (i := (τ192.1 0 56)) (by omega) (by omega)) ?_
            refine jr_aload_n C dX11_readCond_216 rfl ?_
            refine jr_dup C dX11_readCond_217 rfl ?_
            refine jr_geti C kf_X11_320_0 dX11_readCond_218 ?_
            refine jr_iconst C (v := 1) dX11_readCond_221 (by decide) ?_
            refine jr_iadd C dX11_readCond_222 ?_
            refine jr_puti C kp_X11_320_0 dX11_readCond_223 ?_
            refine jr_iconst C (v := 1) dX11_readCond_226 (by decide) ?_
            refine jr_istore_n C dX11_readCond_227 (by decide) ?_
            refine jr_aload_n C dX11_readCond_228 rfl ?_
            refine jr_vv C [] _ (ct_X11_next E _ (show 0 ≤ ((τ192.1 0 60)).toInt ∧ ((τ192.1 0 60)).toInt ≤ ((τ192.1 0 58)).toInt ∧ ((τ192.1 0 58)).toInt ≤ 300 by rw [f2, f3]; omega)) ky_X11_next kv_X11_next kk_M_0 km_X11_314 (by decide) rfl (Nat.le_of_ble_eq_true rfl) dX11_readCond_229 (fun τ229 h229 => ?_)
            refine jr_goto C 280 dX11_readCond_232 (by decide) ?_
            exact jr_sub [(0, jf_r E 0), (1, .int o), (2, .int dp), (3, .int 1), (4, .int mo)] rfl (J280 τ229 (P2 + 1) K2 o dp 1 mo (by omega) (mS_g_t (mS_g_i (mS_g_a (mS_g_t z (mS_g_m i4.1 (by decide) (by decide))) (by decide) (by decide)) (by decide)) (mS_g_n h229.1 (by decide))) (m_L_and L hw1 hm1 hb1 hk1 i1 i2 i3 i4 i6 i7 (by decide) h229) (fun _ _ => by have q := h229.2.1; have q : ((τ192.1 0 60)).toInt ≤ ((τ229.1 0 59)).toInt := q; rw [f2] at q; omega) ⟨hb1, hm1⟩)
          · refine jr_bipush C (v := -4) dX11_readCond_208 (by decide) ?_
            refine jr_goto C 215 dX11_readCond_210 (by decide) ?_
            refine jr_iast C ka_M_36 dX11_readCond_215 (ji_in (i := (τ192.1 0 56)) (by omega) (by omega)) ?_
            refine jr_aload_n C dX11_readCond_216 rfl ?_
            refine jr_dup C dX11_readCond_217 rfl ?_
            refine jr_geti C kf_X11_320_0 dX11_readCond_218 ?_
            refine jr_iconst C (v := 1) dX11_readCond_221 (by decide) ?_
            refine jr_iadd C dX11_readCond_222 ?_
            refine jr_puti C kp_X11_320_0 dX11_readCond_223 ?_
            refine jr_iconst C (v := 1) dX11_readCond_226 (by decide) ?_
            refine jr_istore_n C dX11_readCond_227 (by decide) ?_
            refine jr_aload_n C dX11_readCond_228 rfl ?_
            refine jr_vv C [] _ (ct_X11_next E _ (show 0 ≤ ((τ192.1 0 60)).toInt ∧ ((τ192.1 0 60)).toInt ≤ ((τ192.1 0 58)).toInt ∧ ((τ192.1 0 58)).toInt ≤ 300 by rw [f2, f3]; omega)) ky_X11_next kv_X11_next kk_M_0 km_X11_314 (by decide) rfl (Nat.le_of_ble_eq_true rfl) dX11_readCond_229 (fun τ229 h229 => ?_)
            refine jr_goto C 280 dX11_readCond_232 (by decide) ?_
            exact jr_sub [(0, jf_r E 0), (1, .int o), (2, .int dp), (3, .int 1), (4, .int mo)] rfl (J280 τ229 (P2 + 1) K2 o dp 1 mo (by omega) (mS_g_t (mS_g_i (mS_g_a (mS_g_t z (mS_g_m i4.1 (by decide) (by decide))) (by decide) (by decide)) (by decide)) (mS_g_n h229.1 (by decide))) (m_L_and L hw1 hm1 hb1 hk1 i1 i2 i3 i4 i6 i7 (by decide) h229) (fun _ _ => by have q := h229.2.1; have q : ((τ192.1 0 60)).toInt ≤ ((τ229.1 0 59)).toInt := q; rw [f2] at q; omega) ⟨hb1, hm1⟩)
      have J235 : ((τ.1 0 64)).toInt = 0 → ¬ mo.toInt = 0 → w.toInt = 0 → jf_X jh_M E G 6 235 [(0, jf_r E 0), (1, .int o), (2, .int dp), (3, .int w), (4, .int mo)] [] τ := by
        intro hb1 hm1 hw1
        have fuq := fu hb1 hm1
        obtain ⟨k1, k2, k3, k4, k5⟩ := L5 hb1
        have k4 := k4 hm1
        unfold m_kd at k1
        have oo : o.toInt ≤ 300 := by have := L.2.2.2.1; have := jx_ct_le (fun i => decide (((τ.1 36) i).toInt = -6)) P; unfold m_opn at *; omega
        have eo : 0 < o.toInt → (o + Int32.ofInt (-1)).toInt = o.toInt - 1 := fun h => ji_dec (by omega)
        refine jr_iload_n C dX11_readCond_235 rfl ?_
        refine jr_nif_le C 271 dX11_readCond_236 (by decide) (fun b236 => ?_) (fun b236 => ?_)
        · refine jr_aload_n C dX11_readCond_271 rfl ?_
          refine jr_bipush C (v := -5) dX11_readCond_272 (by decide) ?_
          refine jr_vv C [.int _] _ (ct_X11_settle E _ _ P K L.2.1 L3) ky_X11_settle kv_X11_settle kk_M_0 km_X11_340 (by decide) rfl (Nat.le_of_ble_eq_true rfl) dX11_readCond_274 (fun τ274 h274 => ?_)
          obtain ⟨P2, K2, i1, i2, i3, i4, i5, i6, i7⟩ := h274
          refine jr_iconst C (v := 0) dX11_readCond_277 (by decide) ?_
          refine jr_istore C dX11_readCond_278 (by decide) ?_
          first | exact jr_sub [(0, jf_r E 0), (1, .int _), (2, .int dp), (3, .int w), (4, .int mo)] rfl (J280 _ (P2 - 1) K2 _ dp w mo (by omega) (mS_g_i (mS_g_t (mS_gx (J := []) z h246) (mS_g_m i4.1 (by decide) (by decide))) (by decide)) (m_L_shut L hw1 hm1 hb1 (by omega) (eo (by omega)) (fun h => m_isw q243 h) h246 i1 i2 i3 i4 i5 i6 i7) (fun hb2 hm2 => by have e1 : (τ252.1 0 64) = (τ246.1 0 64) := i4.1.2 64 (by decide); have hb3 : ((τ252.1 0 64)).toInt = 0 := hb2; have q := h246.2.2.resolve_left (fun h => h (by rw [← e1]; exact hb3)); have e2 : (τ252.1 0 59) = (τ246.1 0 59) := i4.1.2 59 (by decide); have k9 := m_isw q243 q.2.2.1; show ((τ.1 0 59)).toInt < ((τ252.1 0 59)).toInt; rw [e2]; omega) ⟨hb1, hm1⟩) | exact jr_sub [(0, jf_r E 0), (1, .int o), (2, .int dp), (3, .int w), (4, .int 0)] rfl (J280 _ P2 K2 o dp w 0 (by omega) (mS_g_t z (mS_g_m i4.1 (by decide) (by decide))) (m_L_end L hw1 hb1 (by omega) i1 i2 i3 i4 i6 i7) (fun _ h => absurd rfl h) ⟨hb1, hm1⟩)
        · refine jr_aload_n C dX11_readCond_239 rfl ?_
          refine jr_aload_n C dX11_readCond_240 rfl ?_
          refine jr_bipush C (v := 41) dX11_readCond_241 (by decide) ?_
          refine jr_vi C [.int _] _ (ct_X11_isSign E _ _) ky_X11_isSign kv_X11_isSign kk_M_0 km_X11_330 (by decide) rfl (Nat.le_of_ble_eq_true rfl) dX11_readCond_243 (fun r243 τ243 h243 => ?_)
          obtain ⟨q243, rfl⟩ := h243
          refine jr_vv C [.int _] _ (ct_X11_must E _ _ L.1) ky_X11_must kv_X11_must kk_M_0 km_X11_333 (by decide) rfl (Nat.le_of_ble_eq_true rfl) dX11_readCond_246 (fun τ246 h246 => ?_)
          have g1 : (τ246.1 0 56) = (τ.1 0 56) := h246.1.2 56 (by decide); have g2 : (τ246.1 0 51) = (τ.1 0 51) := h246.1.2 51 (by decide); have g3 : (τ246.1 36) = (τ.1 36) := h246.1.1 36 (by decide) (by decide)
          refine jr_aload_n C dX11_readCond_249 rfl ?_
          refine jr_bipush C (v := -5) dX11_readCond_250 (by decide) ?_
          refine jr_vv C [.int _] _ (ct_X11_settle E _ _ P K ⟨by rw [g1]; exact s1, by rw [g2]; exact s2, s3⟩ (by rw [g3]; exact L3)) ky_X11_settle kv_X11_settle kk_M_0 km_X11_340 (by decide) rfl (Nat.le_of_ble_eq_true rfl) dX11_readCond_252 (fun τ252 h252 => ?_)
          obtain ⟨P2, K2, i1, i2, i3, i4, i5, i6, i7⟩ := h252
          refine jr_aload_n C dX11_readCond_255 rfl ?_
          refine jr_dup C dX11_readCond_256 rfl ?_
          refine jr_geti C kf_X11_320_0 dX11_readCond_257 ?_
          refine jr_iconst C (v := 1) dX11_readCond_260 (by decide) ?_
          refine jr_isub C dX11_readCond_261 ?_
          refine jr_puti C kp_X11_320_0 dX11_readCond_262 ?_
          refine jr_iinc C _ dX11_readCond_265 rfl rfl (by decide) ?_
          refine jr_goto C 280 dX11_readCond_268 (by decide) ?_
          first | exact jr_sub [(0, jf_r E 0), (1, .int _), (2, .int dp), (3, .int w), (4, .int mo)] rfl (J280 _ (P2 - 1) K2 _ dp w mo (by omega) (mS_g_i (mS_g_t (mS_gx (J := []) z h246) (mS_g_m i4.1 (by decide) (by decide))) (by decide)) (m_L_shut L hw1 hm1 hb1 (by omega) (eo (by omega)) (fun h => m_isw q243 h) h246 i1 i2 i3 i4 i5 i6 i7) (fun hb2 hm2 => by have e1 : (τ252.1 0 64) = (τ246.1 0 64) := i4.1.2 64 (by decide); have hb3 : ((τ252.1 0 64)).toInt = 0 := hb2; have q := h246.2.2.resolve_left (fun h => h (by rw [← e1]; exact hb3)); have e2 : (τ252.1 0 59) = (τ246.1 0 59) := i4.1.2 59 (by decide); have k9 := m_isw q243 q.2.2.1; show ((τ.1 0 59)).toInt < ((τ252.1 0 59)).toInt; rw [e2]; omega) ⟨hb1, hm1⟩) | exact jr_sub [(0, jf_r E 0), (1, .int o), (2, .int dp), (3, .int w), (4, .int 0)] rfl (J280 _ P2 K2 o dp w 0 (by omega) (mS_g_t z (mS_g_m i4.1 (by decide) (by decide))) (m_L_end L hw1 hb1 (by omega) i1 i2 i3 i4 i6 i7) (fun _ h => absurd rfl h) ⟨hb1, hm1⟩)
      refine jr_iload C dX11_readCond_14 rfl ?_
      refine jr_nif_eq C 289 dX11_readCond_16 (by decide) (fun b16 => ?_) (fun b16 => ?_)
      · exact ret _ _ _ dX11_readCond_289 (⟨z, L.1, fun hb1 => by first | exact absurd hb1 b23 | exact ⟨(L5 hb1).1, K, s2, by omega, ((L5 hb1).2.1 ((L5 hb1).2.2.2.2 b16)).1⟩⟩)
      · refine jr_aload_n C dX11_readCond_19 rfl ?_
        refine jr_getv C kf_X11_310_0 dX11_readCond_20 (v := τ.1 0 64) rfl ?_
        refine jr_nif_ne C 289 dX11_readCond_23 (by decide) (fun b23 => ?_) (fun b23 => ?_)
        · exact ret _ _ _ dX11_readCond_289 (⟨z, L.1, fun hb1 => by first | exact absurd hb1 b23 | exact ⟨(L5 hb1).1, K, s2, by omega, ((L5 hb1).2.1 ((L5 hb1).2.2.2.2 b16)).1⟩⟩)
        · refine jr_iload_n C dX11_readCond_26 rfl ?_
          refine jr_nif_eq C 133 dX11_readCond_27 (by decide) (fun b27 => ?_) (fun b27 => ?_)
          · refine jr_aload_n C dX11_readCond_133 rfl ?_
            refine jr_bipush C (v := 97) dX11_readCond_134 (by decide) ?_
            refine jr_bipush C (v := 110) dX11_readCond_136 (by decide) ?_
            refine jr_bipush C (v := 100) dX11_readCond_138 (by decide) ?_
            refine jr_iconst C (v := 0) dX11_readCond_140 (by decide) ?_
            refine jr_iconst C (v := 0) dX11_readCond_141 (by decide) ?_
            refine jr_iconst C (v := 0) dX11_readCond_142 (by decide) ?_
            refine jr_vi C [.int _, .int _, .int _, .int _, .int _, .int _] _ (ct_X11_isWord E _ _ _ _ _ _ _) ky_X11_isWord kv_X11_isWord kk_M_0 km_X11_326 (by decide) rfl (Nat.le_of_ble_eq_true rfl) dX11_readCond_143 (fun r143 τ143 h143 => ?_)
            obtain ⟨q143, rfl⟩ := h143
            refine jr_nif_ne C 164 dX11_readCond_146 (by decide) (fun b146 => ?_) (fun b146 => ?_)
            · first | exact J164 b23 b16 b27 (m_isw q143 b146) | exact J164 b23 b16 b27 (m_isw q158 b161)
            · refine jr_aload_n C dX11_readCond_149 rfl ?_
              refine jr_bipush C (v := 111) dX11_readCond_150 (by decide) ?_
              refine jr_bipush C (v := 114) dX11_readCond_152 (by decide) ?_
              refine jr_iconst C (v := 0) dX11_readCond_154 (by decide) ?_
              refine jr_iconst C (v := 0) dX11_readCond_155 (by decide) ?_
              refine jr_iconst C (v := 0) dX11_readCond_156 (by decide) ?_
              refine jr_iconst C (v := 0) dX11_readCond_157 (by decide) ?_
              refine jr_vi C [.int _, .int _, .int _, .int _, .int _, .int _] _ (ct_X11_isWord E _ _ _ _ _ _ _) ky_X11_isWord kv_X11_isWord kk_M_0 km_X11_326 (by decide) rfl (Nat.le_of_ble_eq_true rfl) dX11_readCond_158 (fun r158 τ158 h158 => ?_)
              obtain ⟨q158, rfl⟩ := h158
              refine jr_nif_eq C 235 dX11_readCond_161 (by decide) (fun b161 => ?_) (fun b161 => ?_)
              · exact J235 b23 b16 b27
              · first | exact J164 b23 b16 b27 (m_isw q143 b146) | exact J164 b23 b16 b27 (m_isw q158 b161)
          · refine jr_aload_n C dX11_readCond_30 rfl ?_
            refine jr_bipush C (v := 110) dX11_readCond_31 (by decide) ?_
            refine jr_bipush C (v := 111) dX11_readCond_33 (by decide) ?_
            refine jr_bipush C (v := 116) dX11_readCond_35 (by decide) ?_
            refine jr_iconst C (v := 0) dX11_readCond_37 (by decide) ?_
            refine jr_iconst C (v := 0) dX11_readCond_38 (by decide) ?_
            refine jr_iconst C (v := 0) dX11_readCond_39 (by decide) ?_
            refine jr_vi C [.int _, .int _, .int _, .int _, .int _, .int _] _ (ct_X11_isWord E _ _ _ _ _ _ _) ky_X11_isWord kv_X11_isWord kk_M_0 km_X11_326 (by decide) rfl (Nat.le_of_ble_eq_true rfl) dX11_readCond_40 (fun r40 τ40 h40 => ?_)
            obtain ⟨q40, rfl⟩ := h40
            refine jr_istore C dX11_readCond_43 (by decide) ?_
            refine jr_iload C dX11_readCond_45 rfl ?_
            refine jr_nif_ne C 59 dX11_readCond_47 (by decide) (fun b47 => ?_) (fun b47 => ?_)
            · first | exact jr_sub [(0, jf_r E 0), (1, .int o), (2, .int dp), (3, .int w), (4, .int mo), (5, .int _)] rfl (J59 _ b23 b16 b27 (Or.inl (m_isw q40 b47))) | exact jr_sub [(0, jf_r E 0), (1, .int o), (2, .int dp), (3, .int w), (4, .int mo), (5, .int _)] rfl (J59 _ b23 b16 b27 (Or.inr (m_isw q53 b56)))
            · refine jr_aload_n C dX11_readCond_50 rfl ?_
              refine jr_bipush C (v := 40) dX11_readCond_51 (by decide) ?_
              refine jr_vi C [.int _] _ (ct_X11_isSign E _ _) ky_X11_isSign kv_X11_isSign kk_M_0 km_X11_330 (by decide) rfl (Nat.le_of_ble_eq_true rfl) dX11_readCond_53 (fun r53 τ53 h53 => ?_)
              obtain ⟨q53, rfl⟩ := h53
              refine jr_nif_eq C 124 dX11_readCond_56 (by decide) (fun b56 => ?_) (fun b56 => ?_)
              · refine jr_aload_n C dX11_readCond_124 rfl ?_
                refine jr_vv C [] _ (ct_X11_readLeaf E _ L.1 (L5 b23).1 b23 K s2 (by have := (L5 b23).2.2.2.1 b16; omega)) ky_X11_readLeaf kv_X11_readLeaf kk_M_0 km_X11_337 (by decide) rfl (Nat.le_of_ble_eq_true rfl) dX11_readCond_125 (fun τ125 h125 => ?_)
                refine jr_iconst C (v := 0) dX11_readCond_128 (by decide) ?_
                refine jr_istore_n C dX11_readCond_129 (by decide) ?_
                refine jr_goto C 280 dX11_readCond_130 (by decide) ?_
                exact jr_sub [(0, jf_r E 0), (1, .int o), (2, .int dp), (3, .int 0), (4, .int mo)] rfl (J280 τ125 P (K + 1) o dp 0 mo (by have := fu b23 b16; omega) (mS_g_t z (mS_g_m h125.1 (by decide) (by decide))) (m_L_leaf L b27 b16 b23 h125.1 h125.2.1 h125.2.2.1 h125.2.2.2) (fun hb2 _ => (h125.2.2.2 hb2).1) ⟨b23, b16⟩)
              · first | exact jr_sub [(0, jf_r E 0), (1, .int o), (2, .int dp), (3, .int w), (4, .int mo), (5, .int _)] rfl (J59 _ b23 b16 b27 (Or.inl (m_isw q40 b47))) | exact jr_sub [(0, jf_r E 0), (1, .int o), (2, .int dp), (3, .int w), (4, .int mo), (5, .int _)] rfl (J59 _ b23 b16 b27 (Or.inr (m_isw q53 b56)))
  refine jr_aload_n C dX11_readCond_0 rfl ?_
  refine jr_iconst C (v := 0) dX11_readCond_1 (by decide) ?_
  refine jr_puti C kp_X11_320_0 dX11_readCond_2 ?_
  refine jr_iconst C (v := 0) dX11_readCond_5 (by decide) ?_
  refine jr_istore_n C dX11_readCond_6 (by decide) ?_
  refine jr_iconst C (v := 0) dX11_readCond_7 (by decide) ?_
  refine jr_istore_n C dX11_readCond_8 (by decide) ?_
  refine jr_iconst C (v := 1) dX11_readCond_9 (by decide) ?_
  refine jr_istore_n C dX11_readCond_10 (by decide) ?_
  refine jr_iconst C (v := 1) dX11_readCond_11 (by decide) ?_
  refine jr_istore C dX11_readCond_12 (by decide) ?_
  exact jr_sub [(0, jf_r E 0), (1, .int 0), (2, .int 0), (3, .int 1), (4, .int 1)] rfl (l14 303 _ 0 0 0 0 1 1 (by decide) (mS_g_i (mS_g_r σ) (by decide)) ⟨h0, ⟨rfl, hn, by decide⟩, fun i hi => by omega, rfl, fun _ => ⟨hk, fun h => absurd h (by decide), fun _ => ⟨fun i hi => by omega, rfl⟩, fun _ => by show ((0 : Nat) : Int) + (0 : Nat) + 1 ≤ ((σ.1 0 59)).toInt; omega, fun h => absurd h (by decide)⟩⟩ (fun _ _ => by obtain ⟨a1, a2, a3, a4⟩ := h0; show ((σ.1 0 58)).toInt - ((σ.1 0 59)).toInt + 1 < _; omega))

