/-! the reference: conditions are read exactly -/
theorem m_mk_n {σ τ : jf_S} {K : List Int32} (z : mS_n σ τ) (h : m_mk σ K) : m_mk τ K := by
  unfold m_mk
  rw [z.2 51 (by decide) (by decide) (by decide), z.1 34 (by decide)]; exact h
theorem m_pl_n {σ τ : jf_S} {P : List Int32} (z : mS_n σ τ) (h : m_pl σ P) : m_pl τ P := by
  unfold m_pl
  rw [z.2 56 (by decide) (by decide) (by decide), z.1 36 (by decide)]; exact h
theorem m_mk_f {σ : jf_S} {K : List Int32} {v w : Int32} (h : m_mk σ K) : m_mk (jf_i (jf_i σ 0 64 v) 0 63 w) K := ⟨h.1, h.2⟩
theorem m_pl_f {σ : jf_S} {P : List Int32} {v w : Int32} (h : m_pl σ P) : m_pl (jf_i (jf_i σ 0 64 v) 0 63 w) P := ⟨h.1, h.2⟩
theorem m_i32 {w : Int64} {v : Int} (h : w.toInt = v) (h0 : 0 ≤ v) (h1 : v ≤ 1000) : w.toInt32 = Int32.ofInt v := by
  apply Int32.toInt_inj.mp
  rw [m_l2i (by omega) (by omega), fb_ofI (by omega) (by omega), h]
theorem tk_v2 {a : Nat → Int32} {n f : Nat} (h : tk_k a n f = 2) : 0 ≤ tk_v a n f := by
  have k2 := tk_k2 h
  unfold tk_v
  rw [if_pos k2.1, if_neg k2.2.1, if_pos k2.2.2]
  have t2 : tk_t a n f = tk_end tk_D a n f := by unfold tk_t; rw [if_pos k2.1, if_neg k2.2.1, if_pos k2.2.2]
  obtain ⟨i1, i2, i3, -⟩ := tk_end_ok tk_D a n n f (by omega) (by have := k2.1; omega)
  exact (tk_n_b (fun i hi => tk_D_i.mp (i3 _ (by omega) (by omega)))).1
theorem ct_X11_readLeaf2 (E : jf_E) (σ : jf_S) (a : Nat → Int32) (n f : Nat) (K : List Int32) (hk : m_tk a n σ f) (hb : ((σ.1 0 64)).toInt = 0) (hm : m_mk σ K) (hK : K.length < 300) : jf_V jh_M E yX11_readLeaf cX11_readLeaf 2 3 [jf_r E 0] σ (fun τ => (∀ r, q_asked a n f = .inl r → m_tk a n τ r.1 ∧ ((τ.1 0 64)).toInt = 0 ∧ m_mk τ (K ++ r.2)) ∧ (∀ e, q_asked a n f = .inr e → ¬ ((τ.1 0 64)).toInt = 0 ∧ ((τ.1 0 63)).toInt = (e : Int) ∧ ∃ x, m_mk τ (K ++ [x])) ∧ mS_g [34] [51, 59, 60, 61, 63, 64] σ τ) := by
  refine jf_mkV (by decide) (Nat.le_of_ble_eq_true rfl) ?_
  intro G C ret
  have n1 := hm.1
  have J55 : ∀ (x : Int32), q_asked a n f = .inl (tk_x a n f, [x]) → jf_X jh_M E G 2 55 [(0, jf_r E 0)] [.int x, jf_r E 0] σ := by
    intro x hq
    have zz : mS_g [34] [51, 59, 60, 61, 63, 64] σ (jf_i (jf_i σ 34 ((σ.1 0 51)).toNatClampNeg x) 0 51 ((σ.1 0 51) + 1)) := mS_g_i (mS_g_a (mS_g_r σ) (by decide) (by decide)) (by decide)
    have mm := m_mk_push0 (x := x) hm (by omega)
    refine jr_vvp C [.int _] _ (ct_X11_mark E _ _ ⟨by omega, by omega⟩) ky_X11_mark kv_X11_mark kk_M_0 km_X11_323 (by decide) rfl (Nat.le_of_ble_eq_true rfl) dX11_readLeaf_55 ?_
    refine jr_aload_n C dX11_readLeaf_58 rfl ?_
    refine jr_vv C [] _ (ct_X11_next2 E _ a n (tk_t a n f) hk.1.1 hk.1.2.1 hk.1.2.2.1 hk.1.2.2.2 hk.2.2.2.1 (tk_t_ok hk.2.1).2.1) ky_X11_next kv_X11_next kk_M_0 km_X11_314 (by decide) rfl (Nat.le_of_ble_eq_true rfl) dX11_readLeaf_59 (fun τ59 h59 => ?_)
    exact ret _ _ _ dX11_readLeaf_62 (⟨fun r hr => (by rw [hq] at hr; cases hr; exact ⟨h59.2, by rw [h59.1.2 64 (by decide) (by decide) (by decide)]; exact hb, m_mk_n h59.1 mm⟩), fun e he => (by rw [hq] at he; cases he), mS_g_t zz (mS_g_n h59.1 (by decide))⟩)
  have B80 : ∀ (τ : jf_S) (e : Nat), ¬ ((τ.1 0 64)).toInt = 0 → ((τ.1 0 63)).toInt = (e : Int) → q_asked a n f = .inr e → (τ.1 0 51) = (σ.1 0 51) → m_mk τ K → mS_g [34] [51, 59, 60, 61, 63, 64] σ τ → jf_X jh_M E G 2 80 [(0, jf_r E 0)] [] τ := by
    intro τ e hb' hf hq hn hmt z
    have J111 : ∀ (x y : Int32), jf_X jh_M E G 2 111 [(0, jf_r E 0), (1, .int y)] [.int x, jf_r E 0] τ := by
      intro x y
      refine jr_vv C [.int _] _ (ct_X11_must2 E _ _ a n f (fun h => absurd h hb')) ky_X11_must kv_X11_must kk_M_0 km_X11_333 (by decide) rfl (Nat.le_of_ble_eq_true rfl) dX11_readLeaf_111 (fun τ111 h111 => ?_)
      have e111 : τ = τ111 := (by rcases h111 with ⟨-, q⟩ | ⟨q, -⟩ | ⟨q, -⟩; exact q.symm; exact absurd q hb'; exact absurd q hb'); subst e111
      refine jr_aload_n C dX11_readLeaf_114 rfl ?_
      refine jr_iload_n C dX11_readLeaf_115 rfl ?_
      refine jr_vvp C [.int _] _ (ct_X11_mark E _ _ (show 0 ≤ ((τ.1 0 51)).toInt ∧ ((τ.1 0 51)).toInt < 300 by rw [hn]; omega)) ky_X11_mark kv_X11_mark kk_M_0 km_X11_323 (by decide) rfl (Nat.le_of_ble_eq_true rfl) dX11_readLeaf_116 ?_
      exact ret _ _ _ dX11_readLeaf_119 (⟨fun r hr => (by rw [hq] at hr; cases hr), fun e' he => (by rw [hq] at he; cases he; exact ⟨hb', hf, _, m_mk_push0 hmt (by omega)⟩), mS_g_i (mS_g_a z (by decide) (by decide)) (by decide)⟩)
    refine jr_aload_n C dX11_readLeaf_80 rfl ?_
    refine jr_getl C kf_X11_285_0 dX11_readLeaf_81 ?_
    refine jr_l2i C dX11_readLeaf_84 ?_
    refine jr_istore_n C dX11_readLeaf_85 (by decide) ?_
    refine jr_aload_n C dX11_readLeaf_86 rfl ?_
    refine jr_aload_n C dX11_readLeaf_87 rfl ?_
    refine jr_getv C kf_X11_295_0 dX11_readLeaf_88 (v := τ.1 0 61) rfl ?_
    refine jr_iconst C (v := 2) dX11_readLeaf_91 (by decide) ?_
    refine jr_ncmp_ne C (b := 2) 110 dX11_readLeaf_92 (by decide) rfl rfl (fun b92 => ?_) (fun b92 => ?_)
    · refine jr_iconst C (v := 0) dX11_readLeaf_110 (by decide) ?_
      exact jr_sub [(0, jf_r E 0), (1, .int _)] rfl (J111 _ _)
    · refine jr_aload_n C dX11_readLeaf_95 rfl ?_
      refine jr_getl C kf_X11_285_0 dX11_readLeaf_96 ?_
      refine jr_ldc2 C kc_X11_181 dX11_readLeaf_99 ?_
      refine jr_lcmp C dX11_readLeaf_102 ?_
      refine jr_nif_gt C 110 dX11_readLeaf_103 (by decide) (fun b103 => ?_) (fun b103 => ?_)
      · refine jr_iconst C (v := 0) dX11_readLeaf_110 (by decide) ?_
        exact jr_sub [(0, jf_r E 0), (1, .int _)] rfl (J111 _ _)
      · refine jr_iconst C (v := 1) dX11_readLeaf_106 (by decide) ?_
        refine jr_goto C 111 dX11_readLeaf_107 (by decide) ?_
        exact jr_sub [(0, jf_r E 0), (1, .int _)] rfl (J111 _ _)
  have J80 : ∀ (τ : jf_S), ¬ tk_wb a n f [115, 97, 119] = true → ¬ tk_wb a n f [107, 105, 110] = true → tk_wb a n f [111, 108, 100] = true → mS_n σ τ → m_tk a n τ (tk_x a n f) → jf_X jh_M E G 2 80 [(0, jf_r E 0)] [] τ := by
    intro τ w1 w2 w3 z h
    have bb : ((τ.1 0 64)).toInt = 0 := by rw [z.2 64 (by decide) (by decide) (by decide)]; exact hb
    have hn : (τ.1 0 51) = (σ.1 0 51) := z.2 51 (by decide) (by decide) (by decide)
    have q0 : q_asked a n f = (if tk_k a n (tk_x a n f) = 2 ∧ tk_v a n (tk_x a n f) ≤ 1000 then .inl (tk_x a n (tk_x a n f), [Int32.ofInt (tk_v a n (tk_x a n f))]) else .inr (tk_x a n f)) := by
      unfold q_asked; rw [if_neg w1, if_neg w2, if_pos w3]
    have zg : mS_g [34] [51, 59, 60, 61, 63, 64] σ τ := mS_g_n z (by decide)
    have G0 : ¬ (tk_k a n (tk_x a n f) = 2 ∧ tk_v a n (tk_x a n f) ≤ 1000) → jf_X jh_M E G 2 111 [(0, jf_r E 0), (1, .int ((τ.2 0 62)).toInt32)] [.int 0, jf_r E 0] τ := by
      intro hc
      rw [if_neg hc] at q0
      refine jr_vv C [.int _] _ (ct_X11_must2 E _ _ a n (tk_x a n f) (fun _ => h)) ky_X11_must kv_X11_must kk_M_0 km_X11_333 (by decide) rfl (Nat.le_of_ble_eq_true rfl) dX11_readLeaf_111 (fun τ111 h111 => ?_)
      have e111 : τ111 = jf_i (jf_i τ 0 64 1) 0 63 ((τ.1 0 59)) := (by rcases h111 with ⟨q, -⟩ | ⟨-, -, q⟩ | ⟨-, q, -⟩; exact absurd bb q; exact q; exact absurd rfl q); subst e111
      refine jr_aload_n C dX11_readLeaf_114 rfl ?_
      refine jr_iload_n C dX11_readLeaf_115 rfl ?_
      refine jr_vvp C [.int _] _ (ct_X11_mark E _ _ (show 0 ≤ ((τ.1 0 51)).toInt ∧ ((τ.1 0 51)).toInt < 300 by rw [hn]; omega)) ky_X11_mark kv_X11_mark kk_M_0 km_X11_323 (by decide) rfl (Nat.le_of_ble_eq_true rfl) dX11_readLeaf_116 ?_
      exact ret _ _ _ dX11_readLeaf_119 (⟨fun r hr => (by rw [q0] at hr; cases hr), fun e' he => (by rw [q0] at he; cases he; exact ⟨show ¬ (1 : Int32).toInt = 0 by decide, h.2.2.1, _, m_mk_push0 (m_mk_f (m_mk_n z hm)) (by omega)⟩), mS_g_i (mS_g_a (mS_g_i (mS_g_i zg (by decide)) (by decide)) (by decide) (by decide)) (by decide)⟩)
    have G1 : (tk_k a n (tk_x a n f) = 2 ∧ tk_v a n (tk_x a n f) ≤ 1000) → jf_X jh_M E G 2 111 [(0, jf_r E 0), (1, .int ((τ.2 0 62)).toInt32)] [.int 1, jf_r E 0] τ := by
      intro hc
      rw [if_pos hc] at q0
      have w32 : ((τ.2 0 62)).toInt32 = Int32.ofInt (tk_v a n (tk_x a n f)) := m_i32 h.2.2.2.2.2 (tk_v2 hc.1) hc.2
      rw [w32]
      refine jr_vv C [.int _] _ (ct_X11_must2 E _ _ a n (tk_x a n f) (fun _ => h)) ky_X11_must kv_X11_must kk_M_0 km_X11_333 (by decide) rfl (Nat.le_of_ble_eq_true rfl) dX11_readLeaf_111 (fun τ111 h111 => ?_)
      have e111 : mS_n τ τ111 ∧ m_tk a n τ111 (tk_x a n (tk_x a n f)) := (by rcases h111 with ⟨q, -⟩ | ⟨-, q, -⟩ | ⟨-, -, q⟩; exact absurd bb q; exact absurd q (by decide); exact q); have hn2 : (τ111.1 0 51) = (σ.1 0 51) := (e111.1.2 51 (by decide) (by decide) (by decide)).trans hn
      refine jr_aload_n C dX11_readLeaf_114 rfl ?_
      refine jr_iload_n C dX11_readLeaf_115 rfl ?_
      refine jr_vvp C [.int _] _ (ct_X11_mark E _ _ (show 0 ≤ ((τ111.1 0 51)).toInt ∧ ((τ111.1 0 51)).toInt < 300 by rw [hn2]; omega)) ky_X11_mark kv_X11_mark kk_M_0 km_X11_323 (by decide) rfl (Nat.le_of_ble_eq_true rfl) dX11_readLeaf_116 ?_
      exact ret _ _ _ dX11_readLeaf_119 (⟨fun r hr => (by rw [q0] at hr; cases hr; exact ⟨e111.2, show ((τ111.1 0 64)).toInt = 0 by rw [e111.1.2 64 (by decide) (by decide) (by decide)]; exact bb, m_mk_push0 (m_mk_n e111.1 (m_mk_n z hm)) (by omega)⟩), fun e' he => (by rw [q0] at he; cases he), mS_g_i (mS_g_a (mS_g_t zg (mS_g_n e111.1 (by decide))) (by decide) (by decide)) (by decide)⟩)
    refine jr_aload_n C dX11_readLeaf_80 rfl ?_
    refine jr_getl C kf_X11_285_0 dX11_readLeaf_81 ?_
    refine jr_l2i C dX11_readLeaf_84 ?_
    refine jr_istore_n C dX11_readLeaf_85 (by decide) ?_
    refine jr_aload_n C dX11_readLeaf_86 rfl ?_
    refine jr_aload_n C dX11_readLeaf_87 rfl ?_
    refine jr_getv C kf_X11_295_0 dX11_readLeaf_88 (v := τ.1 0 61) rfl ?_
    refine jr_iconst C (v := 2) dX11_readLeaf_91 (by decide) ?_
    refine jr_ncmp_ne C (b := 2) 110 dX11_readLeaf_92 (by decide) rfl rfl (fun b92 => ?_) (fun b92 => ?_)
    · rw [h.2.2.2.2.1] at b92
      refine jr_iconst C (v := 0) dX11_readLeaf_110 (by decide) ?_
      first | exact jr_sub [(0, jf_r E 0), (1, .int ((τ.2 0 62)).toInt32)] rfl (G0 (fun q => b92 q.1)) | exact jr_sub [(0, jf_r E 0), (1, .int ((τ.2 0 62)).toInt32)] rfl (G0 (fun q => by omega)) | exact jr_sub [(0, jf_r E 0), (1, .int ((τ.2 0 62)).toInt32)] rfl (G1 ⟨b92, by omega⟩)
    · rw [h.2.2.2.2.1] at b92
      refine jr_aload_n C dX11_readLeaf_95 rfl ?_
      refine jr_getl C kf_X11_285_0 dX11_readLeaf_96 ?_
      refine jr_ldc2 C kc_X11_181 dX11_readLeaf_99 ?_
      refine jr_lcmp C dX11_readLeaf_102 ?_
      refine jr_nif_gt C 110 dX11_readLeaf_103 (by decide) (fun b103 => ?_) (fun b103 => ?_)
      · rw [jl_cgt, h.2.2.2.2.2] at b103; have k0 : (1000 : Int64).toInt = 1000 := rfl
        refine jr_iconst C (v := 0) dX11_readLeaf_110 (by decide) ?_
        first | exact jr_sub [(0, jf_r E 0), (1, .int ((τ.2 0 62)).toInt32)] rfl (G0 (fun q => b92 q.1)) | exact jr_sub [(0, jf_r E 0), (1, .int ((τ.2 0 62)).toInt32)] rfl (G0 (fun q => by omega)) | exact jr_sub [(0, jf_r E 0), (1, .int ((τ.2 0 62)).toInt32)] rfl (G1 ⟨b92, by omega⟩)
      · rw [jl_cgt, h.2.2.2.2.2] at b103; have k0 : (1000 : Int64).toInt = 1000 := rfl
        refine jr_iconst C (v := 1) dX11_readLeaf_106 (by decide) ?_
        refine jr_goto C 111 dX11_readLeaf_107 (by decide) ?_
        first | exact jr_sub [(0, jf_r E 0), (1, .int ((τ.2 0 62)).toInt32)] rfl (G0 (fun q => b92 q.1)) | exact jr_sub [(0, jf_r E 0), (1, .int ((τ.2 0 62)).toInt32)] rfl (G0 (fun q => by omega)) | exact jr_sub [(0, jf_r E 0), (1, .int ((τ.2 0 62)).toInt32)] rfl (G1 ⟨b92, by omega⟩)
  have qs : tk_wb a n f [115, 97, 119] = true → q_asked a n f = .inl (tk_x a n f, [-1]) := fun h => by unfold q_asked; rw [if_pos h]
  have qk : ¬ tk_wb a n f [115, 97, 119] = true → tk_wb a n f [107, 105, 110] = true → q_asked a n f = .inl (tk_x a n f, [-2]) := fun h g => by unfold q_asked; rw [if_neg h, if_pos g]
  have qe : ¬ tk_wb a n f [115, 97, 119] = true → ¬ tk_wb a n f [107, 105, 110] = true → ¬ tk_wb a n f [111, 108, 100] = true → q_asked a n f = .inr f := fun h g i => by unfold q_asked; rw [if_neg h, if_neg g, if_neg i]
  refine jr_aload_n C dX11_readLeaf_0 rfl ?_
  refine jr_bipush C (v := 115) dX11_readLeaf_1 (by decide) ?_
  refine jr_bipush C (v := 97) dX11_readLeaf_3 (by decide) ?_
  refine jr_bipush C (v := 119) dX11_readLeaf_5 (by decide) ?_
  refine jr_iconst C (v := 0) dX11_readLeaf_7 (by decide) ?_
  refine jr_iconst C (v := 0) dX11_readLeaf_8 (by decide) ?_
  refine jr_iconst C (v := 0) dX11_readLeaf_9 (by decide) ?_
  refine jr_vip C [.int _, .int _, .int _, .int _, .int _, .int _] _ (ct_X11_isWord2 E _ _ _ _ _ _ _) ky_X11_isWord kv_X11_isWord kk_M_0 km_X11_326 (by decide) rfl (Nat.le_of_ble_eq_true rfl) dX11_readLeaf_10 ?_
  refine jr_if_ne C 32 dX11_readLeaf_13 (by decide) (fun b13 => ?_) (fun b13 => ?_)
  · replace b13 := jb_t b13
    rw [mw_saw hk] at b13
    refine jr_aload_n C dX11_readLeaf_32 rfl ?_
    refine jr_aload_n C dX11_readLeaf_33 rfl ?_
    refine jr_bipush C (v := 115) dX11_readLeaf_34 (by decide) ?_
    refine jr_bipush C (v := 97) dX11_readLeaf_36 (by decide) ?_
    refine jr_bipush C (v := 119) dX11_readLeaf_38 (by decide) ?_
    refine jr_iconst C (v := 0) dX11_readLeaf_40 (by decide) ?_
    refine jr_iconst C (v := 0) dX11_readLeaf_41 (by decide) ?_
    refine jr_iconst C (v := 0) dX11_readLeaf_42 (by decide) ?_
    refine jr_vip C [.int _, .int _, .int _, .int _, .int _, .int _] _ (ct_X11_isWord2 E _ _ _ _ _ _ _) ky_X11_isWord kv_X11_isWord kk_M_0 km_X11_326 (by decide) rfl (Nat.le_of_ble_eq_true rfl) dX11_readLeaf_43 ?_
    refine jr_if_eq C 53 dX11_readLeaf_46 (by decide) (fun b46 => ?_) (fun b46 => ?_)
    · replace b46 := jb_f b46
      rw [mw_saw hk] at b46
      refine jr_bipush C (v := -2) dX11_readLeaf_53 (by decide) ?_
      first | exact J55 _ (qs b46) | exact J55 _ (qk b46 b29) | exact absurd b13 b46
    · replace b46 := jb_t b46
      rw [mw_saw hk] at b46
      refine jr_iconst C (v := -1) dX11_readLeaf_49 (by decide) ?_
      refine jr_goto C 55 dX11_readLeaf_50 (by decide) ?_
      first | exact J55 _ (qs b46) | exact J55 _ (qk b46 b29) | exact absurd b13 b46
  · replace b13 := jb_f b13
    rw [mw_saw hk] at b13
    refine jr_aload_n C dX11_readLeaf_16 rfl ?_
    refine jr_bipush C (v := 107) dX11_readLeaf_17 (by decide) ?_
    refine jr_bipush C (v := 105) dX11_readLeaf_19 (by decide) ?_
    refine jr_bipush C (v := 110) dX11_readLeaf_21 (by decide) ?_
    refine jr_iconst C (v := 0) dX11_readLeaf_23 (by decide) ?_
    refine jr_iconst C (v := 0) dX11_readLeaf_24 (by decide) ?_
    refine jr_iconst C (v := 0) dX11_readLeaf_25 (by decide) ?_
    refine jr_vip C [.int _, .int _, .int _, .int _, .int _, .int _] _ (ct_X11_isWord2 E _ _ _ _ _ _ _) ky_X11_isWord kv_X11_isWord kk_M_0 km_X11_326 (by decide) rfl (Nat.le_of_ble_eq_true rfl) dX11_readLeaf_26 ?_
    refine jr_if_eq C 63 dX11_readLeaf_29 (by decide) (fun b29 => ?_) (fun b29 => ?_)
    · replace b29 := jb_f b29
      rw [mw_kin hk] at b29
      refine jr_aload_n C dX11_readLeaf_63 rfl ?_
      refine jr_aload_n C dX11_readLeaf_64 rfl ?_
      refine jr_bipush C (v := 111) dX11_readLeaf_65 (by decide) ?_
      refine jr_bipush C (v := 108) dX11_readLeaf_67 (by decide) ?_
      refine jr_bipush C (v := 100) dX11_readLeaf_69 (by decide) ?_
      refine jr_iconst C (v := 0) dX11_readLeaf_71 (by decide) ?_
      refine jr_iconst C (v := 0) dX11_readLeaf_72 (by decide) ?_
      refine jr_iconst C (v := 0) dX11_readLeaf_73 (by decide) ?_
      refine jr_vip C [.int _, .int _, .int _, .int _, .int _, .int _] _ (ct_X11_isWord2 E _ _ _ _ _ _ _) ky_X11_isWord kv_X11_isWord kk_M_0 km_X11_326 (by decide) rfl (Nat.le_of_ble_eq_true rfl) dX11_readLeaf_74 ?_
      refine jr_vv C [.int _] _ (ct_X11_must2 E _ _ a n f (fun _ => hk)) ky_X11_must kv_X11_must kk_M_0 km_X11_333 (by decide) rfl (Nat.le_of_ble_eq_true rfl) dX11_readLeaf_77 (fun τ77 h77 => ?_)
      rcases h77 with ⟨q, -⟩ | ⟨-, q, e77⟩ | ⟨-, q, z77, k77⟩; exact absurd hb q; (rw [e77]; exact B80 _ f (show ¬ (1 : Int32).toInt = 0 by decide) hk.2.2.1 (qe b13 b29 (fun w => jb_f (Int32.toInt_inj.mp q) ((mw_old hk).mpr w))) rfl (m_mk_f hm) (mS_g_i (mS_g_i (mS_g_r σ) (by decide)) (by decide))); exact J80 _ b13 b29 ((mw_old hk).mp (jb_t (fun w => q (by rw [w]; rfl)))) z77 k77
    · replace b29 := jb_t b29
      rw [mw_kin hk] at b29
      refine jr_aload_n C dX11_readLeaf_32 rfl ?_
      refine jr_aload_n C dX11_readLeaf_33 rfl ?_
      refine jr_bipush C (v := 115) dX11_readLeaf_34 (by decide) ?_
      refine jr_bipush C (v := 97) dX11_readLeaf_36 (by decide) ?_
      refine jr_bipush C (v := 119) dX11_readLeaf_38 (by decide) ?_
      refine jr_iconst C (v := 0) dX11_readLeaf_40 (by decide) ?_
      refine jr_iconst C (v := 0) dX11_readLeaf_41 (by decide) ?_
      refine jr_iconst C (v := 0) dX11_readLeaf_42 (by decide) ?_
      refine jr_vip C [.int _, .int _, .int _, .int _, .int _, .int _] _ (ct_X11_isWord2 E _ _ _ _ _ _ _) ky_X11_isWord kv_X11_isWord kk_M_0 km_X11_326 (by decide) rfl (Nat.le_of_ble_eq_true rfl) dX11_readLeaf_43 ?_
      refine jr_if_eq C 53 dX11_readLeaf_46 (by decide) (fun b46 => ?_) (fun b46 => ?_)
      · replace b46 := jb_f b46
        rw [mw_saw hk] at b46
        refine jr_bipush C (v := -2) dX11_readLeaf_53 (by decide) ?_
        first | exact J55 _ (qs b46) | exact J55 _ (qk b46 b29) | exact absurd b13 b46
      · replace b46 := jb_t b46
        rw [mw_saw hk] at b46
        refine jr_iconst C (v := -1) dX11_readLeaf_49 (by decide) ?_
        refine jr_goto C 55 dX11_readLeaf_50 (by decide) ?_
        first | exact J55 _ (qs b46) | exact J55 _ (qk b46 b29) | exact absurd b13 b46

