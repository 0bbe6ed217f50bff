/-! the reference: rules exactly -/
/-- rules that stand in the reference -/
def m_sd (τ : jf_S) (t : List Int32 × List Int32 × Int32) : Prop := (τ.1 0 44) = 1 ∧ ((τ.1 0 46)).toInt = (t.1.length : Int) ∧ m_ls ((τ.1 32)) t.1 ∧ ((τ.1 0 48)).toInt = (t.2.1.length : Int) ∧ m_ls ((τ.1 33)) t.2.1 ∧ (τ.1 0 49) = t.2.2
theorem m_sd_I {τ : jf_S} {t : List Int32 × List Int32 × Int32} (h : m_sd τ t) (hs : q_std t) : mI_m τ := by
  have h1 := h.2.1
  have h2 := h.2.2.2.1
  have h3 := hs.1.1
  have h4 := hs.2.1.1
  refine ⟨⟨by omega, ?_⟩, by omega⟩
  rw [ji_cl h1]
  exact q_std_val h.2.2.1 hs.1.2.1
/-- standing rules kept -/
def m_kp (σ τ : jf_S) : Prop := (τ.1 0 44) = (σ.1 0 44) ∧ (τ.1 0 46) = (σ.1 0 46) ∧ (τ.1 32) = (σ.1 32) ∧ (τ.1 0 48) = (σ.1 0 48) ∧ (τ.1 33) = (σ.1 33) ∧ (τ.1 0 49) = (σ.1 0 49)
theorem m_kp_I {σ τ : jf_S} (h : m_kp σ τ) (I : mI_m σ) : mI_m τ := by
  unfold mI_m; rw [h.2.1, h.2.2.1, h.2.2.2.1]; exact I
/-- the copying under way -/
def m_cp (σ τ : jf_S) (t : List Int32 × List Int32 × Int32) (i j : Nat) : Prop := mS_g [32, 33, 34, 35, 36] mJ_rules σ τ ∧ (τ.1 0 58) = 0 ∧ m_mk τ t.1 ∧ m_np τ t.2.1 ∧ (τ.1 0 54) = t.2.2 ∧ (τ.1 0 63) = -1 ∧ (τ.1 0 44) = 1 ∧ ((τ.1 0 46)).toInt = (t.1.length : Int) ∧ (∀ q, q < i → (τ.1 32) q = t.1.getD q 0) ∧ (∀ q, q < j → (τ.1 33) q = t.2.1.getD q 0)
theorem m_up {c : Nat → Int32} {L : List Int32} {k : Nat} {v : Int32} (h : ∀ q, q < k → c q = L.getD q 0) (hv : v = L.getD k 0) : ∀ q, q < k + 1 → upd c k v q = L.getD q 0 := by
  intro q hq
  unfold upd
  by_cases e : q = k
  · rw [if_pos e, e]; exact hv
  · rw [if_neg e]; exact h q (by omega)
theorem m_cp_1 {σ τ : jf_S} {t : List Int32 × List Int32 × Int32} {i j : Nat} (h : m_cp σ τ t i j) (hi : i < t.1.length) : m_cp σ (jf_i τ 32 i ((τ.1 34) i)) t (i + 1) j := by
  obtain ⟨h1, h2, h3, h4, h5, h6, h7, h8, h9, h10⟩ := h
  refine ⟨mS_g_a h1 (by decide) (by decide), h2, h3, h4, h5, h6, h7, h8, ?_, h10⟩
  show ∀ q, q < i + 1 → (jf_i τ 32 i ((τ.1 34) i)).1 32 q = _
  rw [jf_i_at]
  exact m_up h9 (h3.2 i hi)
theorem m_cp_2 {σ τ : jf_S} {t : List Int32 × List Int32 × Int32} {i j : Nat} (h : m_cp σ τ t i j) (hj : j < t.2.1.length) : m_cp σ (jf_i τ 33 j ((τ.1 35) j)) t i (j + 1) := by
  obtain ⟨h1, h2, h3, h4, h5, h6, h7, h8, h9, h10⟩ := h
  refine ⟨mS_g_a h1 (by decide) (by decide), h2, h3, h4, h5, h6, h7, h8, h9, ?_⟩
  show ∀ q, q < j + 1 → (jf_i τ 33 j ((τ.1 35) j)).1 33 q = _
  rw [jf_i_at]
  exact m_up h10 (h4.2 j hj)
def m_rl (a : Nat → Int32) (n : Nat) (σ τ : jf_S) (r : Int32) : Prop := (∀ t, q_rules a n (tk_a a n 0) = .inl t → r = 0 ∧ (τ.1 0 63) = -1 ∧ m_sd τ t) ∧ (∀ e, q_rules a n (tk_a a n 0) = .inr e → r = -6 ∧ ((τ.1 0 63)).toInt = (e : Int) ∧ m_kp σ τ) ∧ mS_g [32, 33, 34, 35, 36] mJ_rules σ τ ∧ (τ.1 0 58) = 0 ∧ mI_m τ
theorem ct_X11_rules2 (E : jf_E) (σ : jf_S) (a : Nat → Int32) (n : Nat) (ha : (σ.1 37) = a) (hn : ((σ.1 0 58)).toInt = (n : Int)) (h3 : n ≤ 300) (hI : mI_m σ) : jf_I jh_M E yX11_rules cX11_rules 2 .int 6 [jf_r E 0] σ (fun r τ => m_rl a n σ τ r) := by
  refine jf_mkI (by decide) (Nat.le_of_ble_eq_true rfl) ?_
  intro G C ret
  have std : ∀ t, q_rules a n (tk_a a n 0) = .inl t → q_std t := fun t h => q_rules_std h3 (tk_a_ok (a := a) (n := n) (p := 0) (Nat.zero_le _)).2 h
  have fin : ∀ (τ : jf_S) (t : List Int32 × List Int32 × Int32) (v : Int32), q_rules a n (tk_a a n 0) = .inl t → m_cp σ τ t t.1.length t.2.1.length → ((τ.1 0 48)).toInt = (t.2.1.length : Int) → m_rl a n σ (jf_i (jf_i τ 0 49 ((τ.1 0 54))) 0 1 v) 0 := by
    intro τ t v q h hp
    obtain ⟨h1, h2, h3, h4, h5, h6, h7, h8, h9, h10⟩ := h
    have sd : m_sd (jf_i (jf_i τ 0 49 ((τ.1 0 54))) 0 1 v) t := ⟨h7, h8, h9, hp, h10, h5⟩
    refine ⟨fun t' ht => ?_, fun e he => ?_, mS_g_i (mS_g_i h1 (by decide)) (by decide), h2, m_sd_I sd (std t q)⟩
    · rw [q] at ht; cases ht; exact ⟨rfl, h6, sd⟩
    · rw [q] at he; cases he
  have l108 : ∀ (m : Nat) (τ : jf_S) (t : List Int32 × List Int32 × Int32) (i : Int32) (k : Nat), q_rules a n (tk_a a n 0) = .inl t → m_cp σ τ t t.1.length k → ((τ.1 0 48)).toInt = (t.2.1.length : Int) → i.toInt = (k : Int) → k ≤ t.2.1.length → t.2.1.length - k < m → jf_X jh_M E G 2 108 [(0, jf_r E 0), (1, .int i)] [] τ := by
    intro m
    induction m with
    | zero => intro τ t i k q h hp hi hk g; exfalso; omega
    | succ m ih =>
      intro τ t i k q h hp hi hk g
      have n1 := h.2.2.2.1.1
      have hl := (std t q).2.1.1
      have e1 := ji_inc (k := i) (by omega)
      have cl : i.toNatClampNeg = k := ji_cl hi
      refine jr_iload_n C dX11_rules_108 rfl ?_
      refine jr_aload_n C dX11_rules_109 rfl ?_
      refine jr_getv C kf_X11_350_0 dX11_rules_110 (v := τ.1 0 53) rfl ?_
      refine jr_ncmp_ge C 134 dX11_rules_113 (by decide) rfl rfl (fun b113 => ?_) (fun b113 => ?_)
      · refine jr_aload_n C dX11_rules_134 rfl ?_
        refine jr_aload_n C dX11_rules_135 rfl ?_
        refine jr_getv C kf_X11_353_0 dX11_rules_136 (v := τ.1 0 54) rfl ?_
        refine jr_puti C kp_X11_368_0 dX11_rules_139 ?_
        refine jr_aload_n C dX11_rules_142 rfl ?_
        refine jr_iconst C (v := 0) dX11_rules_143 (by decide) ?_
        refine jr_vip C [.int _] _ (ct_X11_told E _ _) ky_X11_told kv_X11_told kk_M_0 km_X11_173 (by decide) rfl (Nat.le_of_ble_eq_true rfl) dX11_rules_144 ?_
        exact ret _ _ _ _ dX11_rules_147 rfl ((by have kl : k = t.2.1.length := (by omega); exact fin τ t _ q (by rw [kl] at h; exact h) hp))
      · refine jr_aload_n C dX11_rules_116 rfl ?_
        refine jr_getr C kf_X11_111_0 dX11_rules_117 ?_
        refine jr_iload_n C dX11_rules_120 rfl ?_
        refine jr_aload_n C dX11_rules_121 rfl ?_
        refine jr_getr C kf_X11_117_0 dX11_rules_122 ?_
        refine jr_iload_n C dX11_rules_125 rfl ?_
        refine jr_ialv C ka_M_35 dX11_rules_126 (ji_in (i := i) (by omega) (by omega)) (v := τ.1 35 _) rfl ?_
        refine jr_iast C ka_M_33 dX11_rules_127 (ji_in (i := i) (by omega) (by omega)) ?_
        refine jr_iinc C _ dX11_rules_128 rfl rfl (by decide) ?_
        refine jr_goto C 108 dX11_rules_131 (by decide) ?_
        have kl : k < t.2.1.length := (by omega); exact jr_sub [(0, jf_r E 0), (1, .int _)] rfl (ih _ t _ (k + 1) q (by rw [cl]; exact m_cp_2 h kl) hp (by omega) kl (by omega))
  have l72 : ∀ (m : Nat) (τ : jf_S) (t : List Int32 × List Int32 × Int32) (i : Int32) (k : Nat), q_rules a n (tk_a a n 0) = .inl t → m_cp σ τ t k 0 → i.toInt = (k : Int) → k ≤ t.1.length → t.1.length - k < m → jf_X jh_M E G 2 72 [(0, jf_r E 0), (1, .int i)] [] τ := by
    intro m
    induction m with
    | zero => intro τ t i k q h hi hk g; exfalso; omega
    | succ m ih =>
      intro τ t i k q h hi hk g
      have n1 := h.2.2.1.1
      have hl := (std t q).1.1
      have e1 := ji_inc (k := i) (by omega)
      have cl : i.toNatClampNeg = k := ji_cl hi
      have J108 : k = t.1.length → jf_X jh_M E G 2 108 [(0, jf_r E 0), (1, .int 0)] [] (jf_i τ 0 48 ((τ.1 0 53))) := by
        intro kl
        rw [kl] at h
        obtain ⟨h1, h2, h3, h4, h5, h6, h7, h8, h9, h10⟩ := h
        exact l108 (t.2.1.length + 1) _ t 0 0 q ⟨mS_g_i h1 (by decide), h2, h3, h4, h5, h6, h7, h8, h9, h10⟩ h4.1 rfl (Nat.zero_le _) (by omega)
      refine jr_iload_n C dX11_rules_72 rfl ?_
      refine jr_aload_n C dX11_rules_73 rfl ?_
      refine jr_getv C kf_X11_317_0 dX11_rules_74 (v := τ.1 0 51) rfl ?_
      refine jr_ncmp_ge C 98 dX11_rules_77 (by decide) rfl rfl (fun b77 => ?_) (fun b77 => ?_)
      · refine jr_aload_n C dX11_rules_98 rfl ?_
        refine jr_aload_n C dX11_rules_99 rfl ?_
        refine jr_getv C kf_X11_350_0 dX11_rules_100 (v := τ.1 0 53) rfl ?_
        refine jr_puti C kp_X11_365_0 dX11_rules_103 ?_
        refine jr_iconst C (v := 0) dX11_rules_106 (by decide) ?_
        refine jr_istore_n C dX11_rules_107 (by decide) ?_
        exact jr_sub [(0, jf_r E 0), (1, .int 0)] rfl (J108 (by omega))
      · refine jr_aload_n C dX11_rules_80 rfl ?_
        refine jr_getr C kf_X11_108_0 dX11_rules_81 ?_
        refine jr_iload_n C dX11_rules_84 rfl ?_
        refine jr_aload_n C dX11_rules_85 rfl ?_
        refine jr_getr C kf_X11_114_0 dX11_rules_86 ?_
        refine jr_iload_n C dX11_rules_89 rfl ?_
        refine jr_ialv C ka_M_34 dX11_rules_90 (ji_in (i := i) (by omega) (by omega)) (v := τ.1 34 _) rfl ?_
        refine jr_iast C ka_M_32 dX11_rules_91 (ji_in (i := i) (by omega) (by omega)) ?_
        refine jr_iinc C _ dX11_rules_92 rfl rfl (by decide) ?_
        refine jr_goto C 72 dX11_rules_95 (by decide) ?_
        have kl : k < t.1.length := (by omega); exact jr_sub [(0, jf_r E 0), (1, .int _)] rfl (ih _ t _ (k + 1) q (by rw [cl]; exact m_cp_1 h kl) (by omega) kl (by omega))
  have zs : ∀ τ : jf_S, mS_n (jf_i (jf_i (jf_i (jf_i (jf_i (jf_i σ 0 0 0) 0 60 0) 0 64 0) 0 63 (-1)) 0 51 0) 0 53 0) τ → mS_g [32, 33, 34, 35, 36] mJ_rules σ τ ∧ ((τ.1 0 64)).toInt = 0 ∧ m_mk τ [] ∧ m_np τ [] ∧ m_kp σ τ := by
    intro τ z
    have w1 : (τ.1 0 64) = 0 := z.2 64 (by decide) (by decide) (by decide)
    have w2 : (τ.1 0 51) = 0 := z.2 51 (by decide) (by decide) (by decide)
    have w3 : (τ.1 0 53) = 0 := z.2 53 (by decide) (by decide) (by decide)
    refine ⟨mS_g_t (mS_g_i (mS_g_i (mS_g_i (mS_g_i (mS_g_i (mS_g_i (mS_g_r σ) (by decide)) (by decide)) (by decide)) (by decide)) (by decide)) (by decide)) (mS_g_n z (by decide)), by rw [w1]; rfl, ⟨by rw [w2]; rfl, fun i hi => absurd hi (Nat.not_lt_zero i)⟩, ⟨by rw [w3]; rfl, fun i hi => absurd hi (Nat.not_lt_zero i)⟩, ?_⟩
    exact ⟨z.2 44 (by decide) (by decide) (by decide), z.2 46 (by decide) (by decide) (by decide), z.1 32 (by decide), z.2 48 (by decide) (by decide) (by decide), z.1 33 (by decide), z.2 49 (by decide) (by decide) (by decide)⟩
  have J38 : ∀ τ υ : jf_S, mS_g [32, 33, 34, 35, 36] mJ_rules σ τ → m_kp σ τ → m_out a n τ υ (q_rules a n (tk_a a n 0)) → jf_X jh_M E G 2 38 [(0, jf_r E 0)] [] υ := by
    intro τ υ z kp o
    have zu : mS_g [32, 33, 34, 35, 36] mJ_rules σ υ := mS_g_t z (mS_g_m o.2.2 (by decide) (by decide))
    have ku : m_kp σ υ := ⟨(o.2.2.2 44 (by decide)).trans kp.1, (o.2.2.2 46 (by decide)).trans kp.2.1, (o.2.2.1 32 (by decide) (by decide)).trans kp.2.2.1, (o.2.2.2 48 (by decide)).trans kp.2.2.2.1, (o.2.2.1 33 (by decide) (by decide)).trans kp.2.2.2.2.1, (o.2.2.2 49 (by decide)).trans kp.2.2.2.2.2⟩
    cases e : q_rules a n (tk_a a n 0) with
    | inr q =>
      obtain ⟨c1, c2⟩ := o.2.1 q e
      refine jr_aload_n C dX11_rules_38 rfl ?_
      refine jr_iconst C (v := 0) dX11_rules_39 (by decide) ?_
      refine jr_puti C kp_X11_272_0 dX11_rules_40 ?_
      refine jr_aload_n C dX11_rules_43 rfl ?_
      refine jr_geti C kf_X11_310_0 dX11_rules_44 ?_
      refine jr_nif_eq C 57 dX11_rules_47 (by decide) (fun b => absurd b c1) (fun _ => ?_)
      refine jr_aload_n C dX11_rules_50 rfl ?_
      refine jr_bipush C (v := -6) dX11_rules_51 (by decide) ?_
      refine jr_vip C [.int _] _ (ct_X11_told E _ _) ky_X11_told kv_X11_told kk_M_0 km_X11_173 (by decide) rfl (Nat.le_of_ble_eq_true rfl) dX11_rules_53 ?_
      exact ret _ _ _ _ dX11_rules_56 rfl (⟨fun t ht => (by rw [e] at ht; cases ht), fun e' he => (by rw [e] at he; cases he; exact ⟨rfl, c2, ku⟩), mS_g_i (mS_g_i zu (by decide)) (by decide), rfl, m_kp_I ku hI⟩)
    | inl t =>
      obtain ⟨c1, c2, c3, c4, c5⟩ := o.1 t e
      refine jr_aload_n C dX11_rules_38 rfl ?_
      refine jr_iconst C (v := 0) dX11_rules_39 (by decide) ?_
      refine jr_puti C kp_X11_272_0 dX11_rules_40 ?_
      refine jr_aload_n C dX11_rules_43 rfl ?_
      refine jr_geti C kf_X11_310_0 dX11_rules_44 ?_
      refine jr_nif_eq C 57 dX11_rules_47 (by decide) (fun _ => ?_) (fun b => absurd c1 b)
      refine jr_aload_n C dX11_rules_57 rfl ?_
      refine jr_iconst C (v := 1) dX11_rules_58 (by decide) ?_
      refine jr_putz C kp_X11_359_0 (by decide) dX11_rules_59 ?_
      refine jr_aload_n C dX11_rules_62 rfl ?_
      refine jr_aload_n C dX11_rules_63 rfl ?_
      refine jr_geti C kf_X11_317_0 dX11_rules_64 ?_
      refine jr_puti C kp_X11_362_0 dX11_rules_67 ?_
      refine jr_iconst C (v := 0) dX11_rules_70 (by decide) ?_
      refine jr_istore_n C dX11_rules_71 (by decide) ?_
      exact jr_sub [(0, jf_r E 0), (1, .int 0)] rfl (l72 (t.1.length + 1) _ t 0 0 e ⟨mS_g_i (mS_g_i (mS_g_i zu (by decide)) (by decide)) (by decide), rfl, c2, c3, c4, c5, rfl, c2.1, fun q hq => absurd hq (Nat.not_lt_zero q), fun q hq => absurd hq (Nat.not_lt_zero q)⟩ rfl (Nat.zero_le _) (by omega))
  refine jr_aload_n C dX11_rules_0 rfl ?_
  refine jr_iconst C (v := 0) dX11_rules_1 (by decide) ?_
  refine jr_puti C kp_X11_144_0 dX11_rules_2 ?_
  refine jr_aload_n C dX11_rules_5 rfl ?_
  refine jr_iconst C (v := 0) dX11_rules_6 (by decide) ?_
  refine jr_puti C kp_X11_279_0 dX11_rules_7 ?_
  refine jr_aload_n C dX11_rules_10 rfl ?_
  refine jr_iconst C (v := 0) dX11_rules_11 (by decide) ?_
  refine jr_putz C kp_X11_310_0 (by decide) dX11_rules_12 ?_
  refine jr_aload_n C dX11_rules_15 rfl ?_
  refine jr_iconst C (v := -1) dX11_rules_16 (by decide) ?_
  refine jr_puti C kp_X11_126_0 dX11_rules_17 ?_
  refine jr_aload_n C dX11_rules_20 rfl ?_
  refine jr_iconst C (v := 0) dX11_rules_21 (by decide) ?_
  refine jr_puti C kp_X11_317_0 dX11_rules_22 ?_
  refine jr_aload_n C dX11_rules_25 rfl ?_
  refine jr_iconst C (v := 0) dX11_rules_26 (by decide) ?_
  refine jr_puti C kp_X11_350_0 dX11_rules_27 ?_
  refine jr_aload_n C dX11_rules_30 rfl ?_
  refine jr_vv C [] _ (ct_X11_next2 E _ a n 0 ha hn h3 rfl rfl (Nat.zero_le _)) ky_X11_next kv_X11_next kk_M_0 km_X11_314 (by decide) rfl (Nat.le_of_ble_eq_true rfl) dX11_rules_31 (fun τ31 h31 => ?_)
  have w31 := zs _ h31.1
  refine jr_aload_n C dX11_rules_34 rfl ?_
  refine jr_vv C [] _ (ct_X11_readRules2 E _ a n (tk_a a n 0) h31.2 w31.2.1 w31.2.2.1 w31.2.2.2.1) ky_X11_readRules kv_X11_readRules kk_M_0 km_X11_356 (by decide) rfl (Nat.le_of_ble_eq_true rfl) dX11_rules_35 (fun τ35 h35 => ?_)
  exact J38 _ _ w31.1 w31.2.2.2.2 h35

