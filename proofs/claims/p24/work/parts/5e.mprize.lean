/-! the reference: the prize, safe -/
abbrev mK_prize : List Nat := [36, 38, 39, 40, 41]
abbrev mJ_prize : List Nat := [0, 1, 56, 69]
theorem mS_g_p {K J : List Nat} {σ τ υ : jf_S} (h : mS_g K J σ τ) (g : mS_a τ υ) (hK : 36 ∈ K ∧ 38 ∈ K ∧ 39 ∈ K ∧ 40 ∈ K ∧ 41 ∈ K) (hJ : 56 ∈ J ∧ 69 ∈ J) : mS_g K J σ υ := by
  refine ⟨fun k a b => ?_, fun j a => ?_⟩
  · have q : k ≠ 36 ∧ k ≠ 38 ∧ k ≠ 39 ∧ k ≠ 40 ∧ k ≠ 41 := ⟨fun e => b (e ▸ hK.1), fun e => b (e ▸ hK.2.1), fun e => b (e ▸ hK.2.2.1), fun e => b (e ▸ hK.2.2.2.1), fun e => b (e ▸ hK.2.2.2.2)⟩
    exact (g.2.1 k a q.1 (by omega)).trans (h.1 k a b)
  · exact (g.2.2 j (fun e => a (e ▸ hJ.1)) (fun e => a (e ▸ hJ.2))).trans (h.2 j a)
theorem ct_X11_prize (E : jf_E) (σ : jf_S) (k : Int32) (hR : mI_r σ) (hV : mI_v σ) (hW : mI_w σ) (p0 : 0 ≤ ((σ.1 0 48)).toInt ∧ ((σ.1 0 48)).toInt ≤ 5) (r0 : -1 ≤ ((σ.1 0 69)).toInt ∧ ((σ.1 0 69)).toInt ≤ 21) : jf_I jh_M E yX11_prize cX11_prize 4 .int 4 [jf_r E 0, .int k] σ (fun r τ => mS_g mK_prize mJ_prize σ τ ∧ -1 ≤ ((τ.1 0 69)).toInt ∧ ((τ.1 0 69)).toInt ≤ 21) := by
  refine jf_mkI (by decide) (Nat.le_of_ble_eq_true rfl) ?_
  intro G C ret
  have z0 : mS_g mK_prize mJ_prize σ (jf_i σ 0 0 0) := mS_g_i (mS_g_r σ) (by decide)
  have l51 : ∀ (m : Nat) (τ : jf_S) (a i : Int32), mS_g mK_prize mJ_prize σ τ → (τ.1 0 69) = 0 → mI_v τ → mI_w τ → (0 ≤ ((τ.1 0 48)).toInt ∧ ((τ.1 0 48)).toInt ≤ 5) → m_in τ ((τ.1 0 35)).toNatClampNeg 0 → (¬ a.toInt = 0 → ∃ f : Nat, f < 20 ∧ ¬ ((τ.1 39) f).toInt = 0) → 0 ≤ i.toInt → i.toInt ≤ 20 → 20 - i.toInt < m → jf_X jh_M E G 4 51 [(0, jf_r E 0), (1, .int k), (2, .int a), (3, .int i)] [] τ := by
    intro m
    induction m with
    | zero => intro τ a i z r V' W' P' A B g1 g2 g3; exfalso; omega
    | succ m ih =>
      intro τ a i z r V' W' P' A B g1 g2 g3
      have e1 := ji_inc (k := i) (by omega)
      have ei := ji_tn g1
      have ro : ((τ.1 0 69)).toInt = 0 := by rw [r]; rfl
      refine jr_iload_n C dX11_prize_51 rfl ?_
      refine jr_bipush C (v := 20) dX11_prize_52 (by decide) ?_
      refine jr_ncmp_ge C (b := 20) 82 dX11_prize_54 (by decide) rfl rfl (fun b54 => ?_) (fun b54 => ?_)
      · refine jr_iload_n C dX11_prize_82 rfl ?_
        refine jr_nif_ne C 93 dX11_prize_83 (by decide) (fun b83 => ?_) (fun b83 => ?_)
        · refine jr_aload_n C dX11_prize_93 rfl ?_
          refine jr_aload_n C dX11_prize_94 rfl ?_
          refine jr_getv C kf_X11_365_0 dX11_prize_95 (v := τ.1 0 48) rfl ?_
          refine jr_nif_le C 108 dX11_prize_98 (by decide) (fun b98 => ?_) (fun b98 => ?_)
          · refine jr_aload_n C dX11_prize_108 rfl ?_
            refine jr_vi C [] _ (ct_X11_byRounds E _ V' W' (by omega) A (B b83)) ky_X11_byRounds kv_X11_byRounds kk_M_0 km_X11_399 (by decide) rfl (Nat.le_of_ble_eq_true rfl) dX11_prize_109 (fun r109 τ109 h109 => ?_)
            refine jr_vip C [.int _] _ (ct_X11_told E _ _) ky_X11_told kv_X11_told kk_M_0 km_X11_173 (by decide) rfl (Nat.le_of_ble_eq_true rfl) dX11_prize_112 ?_
            exact ret _ _ _ _ dX11_prize_115 rfl (by first | exact ⟨mS_g_i (mS_g_p z h102.1 (by decide) (by decide)) (by decide), show -1 ≤ ((τ102.1 0 69)).toInt by omega, show ((τ102.1 0 69)).toInt ≤ 21 by omega⟩ | exact ⟨mS_g_i (mS_g_p z h109.1 (by decide) (by decide)) (by decide), show -1 ≤ ((τ109.1 0 69)).toInt by have := h109.2; omega, show ((τ109.1 0 69)).toInt ≤ 21 by have := h109.2; omega⟩)
          · refine jr_aload_n C dX11_prize_101 rfl ?_
            refine jr_vi C [] _ (ct_X11_byPoints2 E _ V' (by omega) P') ky_X11_byPoints kv_X11_byPoints kk_M_0 km_X11_396 (by decide) rfl (Nat.le_of_ble_eq_true rfl) dX11_prize_102 (fun r102 τ102 h102 => ?_)
            have r2 : ((τ102.1 0 69)).toInt = 1 := by rw [h102.2, r]; rfl
            refine jr_goto C 112 dX11_prize_105 (by decide) ?_
            refine jr_vip C [.int _] _ (ct_X11_told E _ _) ky_X11_told kv_X11_told kk_M_0 km_X11_173 (by decide) rfl (Nat.le_of_ble_eq_true rfl) dX11_prize_112 ?_
            exact ret _ _ _ _ dX11_prize_115 rfl (by first | exact ⟨mS_g_i (mS_g_p z h102.1 (by decide) (by decide)) (by decide), show -1 ≤ ((τ102.1 0 69)).toInt by omega, show ((τ102.1 0 69)).toInt ≤ 21 by omega⟩ | exact ⟨mS_g_i (mS_g_p z h109.1 (by decide) (by decide)) (by decide), show -1 ≤ ((τ109.1 0 69)).toInt by have := h109.2; omega, show ((τ109.1 0 69)).toInt ≤ 21 by have := h109.2; omega⟩)
        · refine jr_aload_n C dX11_prize_86 rfl ?_
          refine jr_bipush C (v := -6) dX11_prize_87 (by decide) ?_
          refine jr_vip C [.int _] _ (ct_X11_told E _ _) ky_X11_told kv_X11_told kk_M_0 km_X11_173 (by decide) rfl (Nat.le_of_ble_eq_true rfl) dX11_prize_89 ?_
          exact ret _ _ _ _ dX11_prize_92 rfl (⟨mS_g_i z (by decide), show -1 ≤ ((τ.1 0 69)).toInt by omega, show ((τ.1 0 69)).toInt ≤ 21 by omega⟩)
      · refine jr_iload_n C dX11_prize_57 rfl ?_
        refine jr_nif_ne C 70 dX11_prize_58 (by decide) (fun b58 => ?_) (fun b58 => ?_)
        · refine jr_iconst C (v := 1) dX11_prize_70 (by decide) ?_
          refine jr_goto C 75 dX11_prize_71 (by decide) ?_
          refine jr_istore_n C dX11_prize_75 (by decide) ?_
          refine jr_iinc C _ dX11_prize_76 rfl rfl (by decide) ?_
          refine jr_goto C 51 dX11_prize_79 (by decide) ?_
          exact jr_sub [(0, jf_r E 0), (1, .int k), (2, .int _), (3, .int _)] rfl (ih τ _ _ z r V' W' P' A (fun h => by first | exact B b58 | exact absurd rfl h | exact ⟨i.toNatClampNeg, by omega, b67⟩) (by omega) (by omega) (by omega))
        · refine jr_aload_n C dX11_prize_61 rfl ?_
          refine jr_getr C kf_X11_132_0 dX11_prize_62 ?_
          refine jr_iload_n C dX11_prize_65 rfl ?_
          refine jr_zalv C ka_M_39 dX11_prize_66 (ji_in (i := i) (by omega) (by omega)) (v := τ.1 39 _) rfl ?_
          refine jr_nif_eq C 74 dX11_prize_67 (by decide) (fun b67 => ?_) (fun b67 => ?_)
          · refine jr_iconst C (v := 0) dX11_prize_74 (by decide) ?_
            refine jr_istore_n C dX11_prize_75 (by decide) ?_
            refine jr_iinc C _ dX11_prize_76 rfl rfl (by decide) ?_
            refine jr_goto C 51 dX11_prize_79 (by decide) ?_
            exact jr_sub [(0, jf_r E 0), (1, .int k), (2, .int _), (3, .int _)] rfl (ih τ _ _ z r V' W' P' A (fun h => by first | exact B b58 | exact absurd rfl h | exact ⟨i.toNatClampNeg, by omega, b67⟩) (by omega) (by omega) (by omega))
          · refine jr_iconst C (v := 1) dX11_prize_70 (by decide) ?_
            refine jr_goto C 75 dX11_prize_71 (by decide) ?_
            refine jr_istore_n C dX11_prize_75 (by decide) ?_
            refine jr_iinc C _ dX11_prize_76 rfl rfl (by decide) ?_
            refine jr_goto C 51 dX11_prize_79 (by decide) ?_
            exact jr_sub [(0, jf_r E 0), (1, .int k), (2, .int _), (3, .int _)] rfl (ih τ _ _ z r V' W' P' A (fun h => by first | exact B b58 | exact absurd rfl h | exact ⟨i.toNatClampNeg, by omega, b67⟩) (by omega) (by omega) (by omega))
  refine jr_aload_n C dX11_prize_0 rfl ?_
  refine jr_iconst C (v := 0) dX11_prize_1 (by decide) ?_
  refine jr_puti C kp_X11_144_0 dX11_prize_2 ?_
  refine jr_iload_n C dX11_prize_5 rfl ?_
  refine jr_i2l C dX11_prize_6 ?_
  refine jr_lconst C (v := 0) dX11_prize_7 (by decide) ?_
  refine jr_ldc2 C kc_X11_267 dX11_prize_8 ?_
  refine jr_sip C [.long _, .long _, .long _] _ (ct_X11_inw E _ _ _ _ 0 100000 rfl rfl) ky_X11_in ks_X11_in km_X11_153 (by decide) rfl (Nat.le_of_ble_eq_true rfl) dX11_prize_11 ?_
  refine jr_if_ne C 23 dX11_prize_14 (by decide) (fun b14 => ?_) (fun b14 => ?_)
  · replace b14 := jb_t b14
    refine jr_aload_n C dX11_prize_23 rfl ?_
    refine jr_getv C kf_X11_359_0 dX11_prize_24 (v := σ.1 0 44) rfl ?_
    refine jr_nif_ne C 37 dX11_prize_27 (by decide) (fun b27 => ?_) (fun b27 => ?_)
    · refine jr_aload_n C dX11_prize_37 rfl ?_
      refine jr_iload_n C dX11_prize_38 rfl ?_
      refine jr_vv C [.int _] _ (ct_X11_findVotes2 E _ _ hR hV) ky_X11_findVotes kv_X11_findVotes kk_M_0 km_X11_393 (by decide) rfl (Nat.le_of_ble_eq_true rfl) dX11_prize_39 (fun τ39 h39 => ?_)
      have q1 : (τ39.1 0 35) = (σ.1 0 35) := h39.1.2.2 _ (by decide) (by decide); have q2 : (τ39.1 0 7) = (σ.1 0 7) := h39.1.2.2 _ (by decide) (by decide); have q3 : (τ39.1 27) = (σ.1 27) := h39.1.2.1 _ (by decide) (by decide) (by decide); have q4 : (τ39.1 26) = (σ.1 26) := h39.1.2.1 _ (by decide) (by decide) (by decide); have q5 : (τ39.1 0 48) = (σ.1 0 48) := h39.1.2.2 _ (by decide) (by decide)
      refine jr_aload_n C dX11_prize_42 rfl ?_
      refine jr_iconst C (v := 0) dX11_prize_43 (by decide) ?_
      refine jr_puti C kp_X11_141_0 dX11_prize_44 ?_
      refine jr_iconst C (v := 0) dX11_prize_47 (by decide) ?_
      refine jr_istore_n C dX11_prize_48 (by decide) ?_
      refine jr_iconst C (v := 0) dX11_prize_49 (by decide) ?_
      refine jr_istore_n C dX11_prize_50 (by decide) ?_
      exact jr_sub [(0, jf_r E 0), (1, .int k), (2, .int 0), (3, .int 0)] rfl (l51 22 _ _ _ (mS_g_i (mS_g_p z0 h39.1 (by decide) (by decide)) (by decide)) rfl (show mI_v τ39 by unfold mI_v; rw [q1, q2, q3, q4]; exact hV) (show mI_w τ39 by unfold mI_w; rw [q1, q2, q3, q4]; exact hW) (show 0 ≤ ((τ39.1 0 48)).toInt ∧ ((τ39.1 0 48)).toInt ≤ 5 by rw [q5]; exact p0) (show m_in τ39 ((τ39.1 0 35)).toNatClampNeg 0 by rw [q1]; exact h39.2) (fun h => absurd rfl h) (by decide) (by decide) (by decide))
    · refine jr_aload_n C dX11_prize_30 rfl ?_
      refine jr_bipush C (v := -6) dX11_prize_31 (by decide) ?_
      refine jr_vip C [.int _] _ (ct_X11_told E _ _) ky_X11_told kv_X11_told kk_M_0 km_X11_173 (by decide) rfl (Nat.le_of_ble_eq_true rfl) dX11_prize_33 ?_
      exact ret _ _ _ _ dX11_prize_36 rfl (⟨mS_g_i z0 (by decide), r0⟩)
  · replace b14 := jb_f b14
    refine jr_aload_n C dX11_prize_17 rfl ?_
    refine jr_iconst C (v := -1) dX11_prize_18 (by decide) ?_
    refine jr_vip C [.int _] _ (ct_X11_told E _ _) ky_X11_told kv_X11_told kk_M_0 km_X11_173 (by decide) rfl (Nat.le_of_ble_eq_true rfl) dX11_prize_19 ?_
    exact ret _ _ _ _ dX11_prize_22 rfl (⟨mS_g_i z0 (by decide), r0⟩)

