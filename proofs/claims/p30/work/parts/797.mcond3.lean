/-! the reference: a condition whole -/
theorem jb_tp {p : Prop} [Decidable p] (h : ¬ (jb p).toInt = 0) : p := jb_t (fun e => h (by rw [e]; rfl))
theorem jb_fp {p : Prop} [Decidable p] (h : (jb p).toInt = 0) : ¬ p := jb_f (Int32.toInt_inj.mp h)
abbrev mJ_cond : List Nat := [51, 56, 59, 60, 61, 63, 64]
/-- the loop's state -/
def m_C (a : Nat → Int32) (n : Nat) (τ : jf_S) (P K : List Int32) (f : Nat) (o dp : Int32) : Prop := m_tk a n τ f ∧ m_pl τ P ∧ m_mk τ K ∧ ((τ.1 0 64)).toInt = 0 ∧ o.toInt = (cO P : Int) ∧ dp.toInt = (cN P : Int) ∧ P.length + K.length + 1 ≤ f
theorem m_tk_f {a : Nat → Int32} {n f : Nat} {τ υ : jf_S} (z : mS_g [34] [51, 56] τ υ ∧ υ.2 = τ.2) (h : m_tk a n τ f) : m_tk a n υ f := by
  unfold m_tk
  rw [z.1.1 37 (by decide) (by decide), z.1.2 63 (by decide), z.1.2 58 (by decide), z.1.2 59 (by decide), z.1.2 60 (by decide), z.1.2 61 (by decide), z.2]
  exact h
theorem cO_app : ∀ {S P : List Int32}, (∀ z ∈ S, ¬ z.toInt = -6) → cO (S ++ P) = cO P
  | [], P, _ => rfl
  | x :: S, P, h => by
    show cO (S ++ P) + (if x.toInt = -6 then 1 else 0) = _
    rw [if_neg (h x List.mem_cons_self), cO_app (fun z hz => h z (List.mem_cons_of_mem _ hz))]; rfl
theorem cO_rep : ∀ {j : Nat} {P : List Int32}, cO (List.replicate j (-3) ++ P) = cO P := fun {j P} => cO_app (fun z hz => by rw [List.eq_of_mem_replicate hz]; decide)
theorem rc_W30 (E : jf_E) (G : jf_G) (σ : jf_S) (a : Nat → Int32) (n : Nat) (hn : n ≤ 300) (C : jf_C jh_M E G 6 cX11_readCond yX11_readCond.cls 4) : ∀ (τ : jf_S) (o dp : Int32), ((τ.1 0 64)).toInt = 0 → jf_X jh_M E G 6 30 [(0, jf_r E 0), (1, .int o), (2, .int dp), (3, .int 1), (4, .int 1)] [] τ → jf_X jh_M E G 6 14 [(0, jf_r E 0), (1, .int o), (2, .int dp), (3, .int 1), (4, .int 1)] [] τ := by
  intro τ o dp b1 g
  refine jr_iload C dX11_readCond_14 rfl ?_
  refine jr_nif_eq C 289 dX11_readCond_16 (by decide) (fun b => absurd b (by decide)) (fun _ => ?_)
  refine jr_aload_n C dX11_readCond_19 rfl ?_
  refine jr_geti C kf_X11_310_0 dX11_readCond_20 ?_
  refine jr_nif_ne C 289 dX11_readCond_23 (by decide) (fun b => absurd b1 b) (fun _ => ?_)
  refine jr_iload_n C dX11_readCond_26 rfl ?_
  refine jr_nif_eq C 133 dX11_readCond_27 (by decide) (fun b => absurd b (by decide)) (fun _ => ?_)
  exact g
theorem rc_U133 (E : jf_E) (G : jf_G) (σ : jf_S) (a : Nat → Int32) (n : Nat) (hn : n ≤ 300) (C : jf_C jh_M E G 6 cX11_readCond yX11_readCond.cls 4) : ∀ (τ : jf_S) (o dp : Int32), ((τ.1 0 64)).toInt = 0 → jf_X jh_M E G 6 133 [(0, jf_r E 0), (1, .int o), (2, .int dp), (3, .int 0), (4, .int 1)] [] τ → jf_X jh_M E G 6 14 [(0, jf_r E 0), (1, .int o), (2, .int dp), (3, .int 0), (4, .int 1)] [] τ := by
  intro τ o dp b1 g
  refine jr_iload C dX11_readCond_14 rfl ?_
  refine jr_nif_eq C 289 dX11_readCond_16 (by decide) (fun b => absurd b (by decide)) (fun _ => ?_)
  refine jr_aload_n C dX11_readCond_19 rfl ?_
  refine jr_geti C kf_X11_310_0 dX11_readCond_20 ?_
  refine jr_nif_ne C 289 dX11_readCond_23 (by decide) (fun b => absurd b1 b) (fun _ => ?_)
  refine jr_iload_n C dX11_readCond_26 rfl ?_
  refine jr_nif_eq C 133 dX11_readCond_27 (by decide) (fun _ => ?_) (fun b => absurd rfl b)
  exact g
theorem rc_J280 (E : jf_E) (G : jf_G) (σ : jf_S) (a : Nat → Int32) (n : Nat) (hn : n ≤ 300) (C : jf_C jh_M E G 6 cX11_readCond yX11_readCond.cls 4) : ∀ (υ : jf_S) (j : Nat) (P0 K : List Int32) (o dp mo : Int32), m_pl υ (List.replicate j (-3) ++ P0) → m_mk υ K → q_h3 P0 → j + P0.length + K.length ≤ 300 → (∀ (υ' : jf_S) (dp' : Int32), m_pl υ' P0 → m_mk υ' (K ++ List.replicate j (-3)) → dp'.toInt = (cN P0 : Int) → mS_g [34] [51, 56] υ υ' ∧ υ'.2 = υ.2 → jf_X jh_M E G 6 14 [(0, jf_r E 0), (1, .int o), (2, .int dp'), (3, .int 0), (4, .int mo)] [] υ') → jf_X jh_M E G 6 280 [(0, jf_r E 0), (1, .int o), (2, .int dp), (3, .int 0), (4, .int mo)] [] υ := by
  intro υ j P0 K o dp mo p1 p2 p3 p4 g
  refine jr_aload_n C dX11_readCond_280 rfl ?_
  refine jr_iload_n C dX11_readCond_281 rfl ?_
  refine jr_vi C [.int _] _ (ct_X11_depthNow2 E _ _ j P0 K p1 p2 p3 p4) ky_X11_depthNow kv_X11_depthNow kk_M_0 km_X11_343 (by decide) rfl (Nat.le_of_ble_eq_true rfl) dX11_readCond_282 (fun r282 τ282 h282 => ?_)
  obtain ⟨i1, i2, i3, i4⟩ := h282.1 rfl
  refine jr_istore_n C dX11_readCond_285 (by decide) ?_
  refine jr_goto C 14 dX11_readCond_286 (by decide) ?_
  exact jr_sub [(0, jf_r E 0), (1, .int o), (2, .int _), (3, .int 0), (4, .int mo)] rfl (g _ _ i1 i2 i3 i4)
theorem rc_J59 (E : jf_E) (G : jf_G) (σ : jf_S) (a : Nat → Int32) (n : Nat) (hn : n ≤ 300) (C : jf_C jh_M E G 6 cX11_readCond yX11_readCond.cls 4) : ∀ (τ : jf_S) (P K : List Int32) (f : Nat) (o dp t v5 : Int32), mS_g [34, 36] mJ_cond σ τ → m_C a n τ P K f o dp → ((t = -3 ∧ ¬ v5.toInt = 0) ∨ (t = -6 ∧ v5.toInt = 0)) → f < n → (cN P < 8 → ∀ (τ' : jf_S) (o' dp' : Int32), mS_g [34, 36] mJ_cond σ τ' → m_C a n τ' (t :: P) K (tk_x a n f) o' dp' → jf_X jh_M E G 6 14 [(0, jf_r E 0), (1, .int o'), (2, .int dp'), (3, .int 1), (4, .int 1)] [] τ') → (¬ cN P < 8 → ∀ (τ' : jf_S) (o' dp' : Int32), mS_g [34, 36] mJ_cond σ τ' → ¬ ((τ'.1 0 64)).toInt = 0 → ((τ'.1 0 63)).toInt = (f : Int) → jf_X jh_M E G 6 14 [(0, jf_r E 0), (1, .int o'), (2, .int dp'), (3, .int 1), (4, .int 1)] [] τ') → jf_X jh_M E G 6 59 [(0, jf_r E 0), (1, .int o), (2, .int dp), (3, .int 1), (4, .int 1), (5, .int v5)] [] τ := by
  intro τ P K f o dp t v5 z c ht hfn gd bd
  obtain ⟨c1, c2, c3, c4, c5, c6, c7⟩ := c
  have x1 := tk_x_ok (a := a) c1.2.1
  have cl := cN_le P
  have co := cO_le P
  have ed := ji_inc (k := dp) (by omega)
  have eo := ji_inc1 (k := o) (by omega)
  have eo0 := ji_a0 o
  have pp := c2.1
  have D90 : ∀ (υ : jf_S) (o' : Int32), ((t = -3 ∧ o' = o + 0) ∨ (t = -6 ∧ o' = o + 1)) → m_N a n f τ υ (if (dp + Int32.ofInt 1).toInt ≤ 8 then 1 else 0) → jf_X jh_M E G 6 14 [(0, jf_r E 0), (1, .int o'), (2, .int (dp + Int32.ofInt 1)), (3, .int 1), (4, .int 1)] [] (jf_i (jf_i υ 36 ((υ.1 0 56)).toNatClampNeg t) 0 56 ((υ.1 0 56) + 1)) := by
    intro υ o' hto N
    by_cases c8 : cN P < 8
    · rw [if_pos (by omega)] at N
      obtain ⟨y1, y2⟩ : mS_n τ υ ∧ m_tk a n υ (tk_x a n f) := by
        rcases N with ⟨q, -⟩ | ⟨-, q, -⟩ | ⟨-, -, q⟩
        · exact absurd c4 q
        · exact absurd q (by decide)
        · exact q
      refine gd c8 _ _ _ (mS_g_i (mS_g_a (mS_g_t z (mS_g_n y1 (by decide))) (by decide) (by decide)) (by decide)) ⟨y2, m_pl_push (m_pl_n y1 c2) (by omega), ⟨(m_mk_n y1 c3).1, (m_mk_n y1 c3).2⟩, ?_, ?_, ?_, ?_⟩
      · show ((υ.1 0 64)).toInt = 0
        rw [y1.2 64 (by decide) (by decide) (by decide)]; exact c4
      · rcases hto with ⟨h1, h2⟩ | ⟨h1, h2⟩
        · rw [h1, h2]; show _ = ((cO P + 0 : Nat) : Int); omega
        · rw [h1, h2]; show _ = ((cO P + 1 : Nat) : Int); omega
      · rcases hto with ⟨h1, h2⟩ | ⟨h1, h2⟩
        · rw [h1]; show _ = ((cN P + 1 : Nat) : Int); omega
        · rw [h1]; show _ = ((cN P + 1 : Nat) : Int); omega
      · rw [List.length_cons]; omega
    · rw [if_neg (by omega)] at N
      have e : υ = jf_i (jf_i τ 0 64 1) 0 63 ((τ.1 0 59)) := by
        rcases N with ⟨q, -⟩ | ⟨-, -, q⟩ | ⟨-, q, -⟩
        · exact absurd c4 q
        · exact q
        · exact absurd rfl q
      subst e
      exact bd c8 _ _ _ (mS_g_i (mS_g_a (mS_g_i (mS_g_i z (by decide)) (by decide)) (by decide) (by decide)) (by decide)) (show ¬ (1 : Int32).toInt = 0 by decide) c1.2.2.1
  have fr : ∀ (υ : jf_S) (w : Int32), m_N a n f τ υ w → (υ.1 0 56) = (τ.1 0 56) := by
    intro υ w N
    rcases N with ⟨-, q⟩ | ⟨-, -, q⟩ | ⟨-, -, q, -⟩
    · rw [q]
    · rw [q]; rfl
    · exact q.2 56 (by decide) (by decide) (by decide)
  refine jr_iinc C _ dX11_readCond_59 rfl rfl (by decide) ?_
  refine jr_aload_n C dX11_readCond_62 rfl ?_
  refine jr_iload_n C dX11_readCond_63 rfl ?_
  refine jr_bipush C (v := 8) dX11_readCond_64 (by decide) ?_
  refine jr_ncmp_gt C (b := 8) 73 dX11_readCond_66 (by decide) rfl rfl (fun b66 => ?_) (fun b66 => ?_)
  · refine jr_iconst C (v := 0) dX11_readCond_73 (by decide) ?_
    refine jr_vv C [.int _] _ (ct_X11_must2 E _ _ a n f (fun _ => c1)) ky_X11_must kv_X11_must kk_M_0 km_X11_333 (by decide) rfl (Nat.le_of_ble_eq_true rfl) dX11_readCond_74 (fun τ74 h74 => ?_)
    have p74 := fr _ _ h74
    refine jr_iload_n C dX11_readCond_77 rfl ?_
    refine jr_iload C dX11_readCond_78 rfl ?_
    refine jr_nif_eq C 87 dX11_readCond_80 (by decide) (fun b80 => ?_) (fun b80 => ?_)
    · refine jr_iconst C (v := 1) dX11_readCond_87 (by decide) ?_
      refine jr_iadd C dX11_readCond_88 ?_
      refine jr_istore_n C dX11_readCond_89 (by decide) ?_
      refine jr_aload_n C dX11_readCond_90 rfl ?_
      refine jr_getr C kf_X11_120_0 dX11_readCond_91 ?_
      refine jr_aload_n C dX11_readCond_94 rfl ?_
      refine jr_geti C kf_X11_320_0 dX11_readCond_95 ?_
      refine jr_iload C dX11_readCond_98 rfl ?_
      refine jr_nif_eq C 108 dX11_readCond_100 (by decide) (fun b100 => ?_) (fun b100 => ?_)
      · refine jr_bipush C (v := -6) dX11_readCond_108 (by decide) ?_
        refine jr_iast C ka_M_36 dX11_readCond_110 (ji_in (i := (τ74.1 0 56)) (by rw [p74]; omega) (by rw [p74]; omega)) ?_
        refine jr_aload_n C dX11_readCond_111 rfl ?_
        refine jr_dup C dX11_readCond_112 rfl ?_
        refine jr_geti C kf_X11_320_0 dX11_readCond_113 ?_
        refine jr_iconst C (v := 1) dX11_readCond_116 (by decide) ?_
        refine jr_iadd C dX11_readCond_117 ?_
        refine jr_puti C kp_X11_320_0 dX11_readCond_118 ?_
        refine jr_goto C 14 dX11_readCond_121 (by decide) ?_
        first | (exfalso; omega) | (have h9 : v5.toInt = 0 := b80; have h8 : t = -6 := (by rcases ht with q | q; exact absurd h9 q.2; exact q.1); subst h8; exact jr_sub [(0, jf_r E 0), (1, .int _), (2, .int (dp + Int32.ofInt 1)), (3, .int 1), (4, .int 1)] rfl (D90 _ _ (Or.inr ⟨rfl, rfl⟩) (by first | (rw [if_neg (by omega)]; exact h74) | (rw [if_pos (by omega)]; exact h74)))) | (have h9 : ¬ v5.toInt = 0 := b80; have h8 : t = -3 := (by rcases ht with q | q; exact q.1; exact absurd q.2 h9); subst h8; exact jr_sub [(0, jf_r E 0), (1, .int _), (2, .int (dp + Int32.ofInt 1)), (3, .int 1), (4, .int 1)] rfl (D90 _ _ (Or.inl ⟨rfl, rfl⟩) (by first | (rw [if_neg (by omega)]; exact h74) | (rw [if_pos (by omega)]; exact h74))))
      · refine jr_bipush C (v := -3) dX11_readCond_103 (by decide) ?_
        refine jr_goto C 110 dX11_readCond_105 (by decide) ?_
        refine jr_iast C ka_M_36 dX11_readCond_110 (ji_in (i := (τ74.1 0 56)) (by rw [p74]; omega) (by rw [p74]; omega)) ?_
        refine jr_aload_n C dX11_readCond_111 rfl ?_
        refine jr_dup C dX11_readCond_112 rfl ?_
        refine jr_geti C kf_X11_320_0 dX11_readCond_113 ?_
        refine jr_iconst C (v := 1) dX11_readCond_116 (by decide) ?_
        refine jr_iadd C dX11_readCond_117 ?_
        refine jr_puti C kp_X11_320_0 dX11_readCond_118 ?_
        refine jr_goto C 14 dX11_readCond_121 (by decide) ?_
        first | (exfalso; omega) | (have h9 : v5.toInt = 0 := b80; have h8 : t = -6 := (by rcases ht with q | q; exact absurd h9 q.2; exact q.1); subst h8; exact jr_sub [(0, jf_r E 0), (1, .int _), (2, .int (dp + Int32.ofInt 1)), (3, .int 1), (4, .int 1)] rfl (D90 _ _ (Or.inr ⟨rfl, rfl⟩) (by first | (rw [if_neg (by omega)]; exact h74) | (rw [if_pos (by omega)]; exact h74)))) | (have h9 : ¬ v5.toInt = 0 := b80; have h8 : t = -3 := (by rcases ht with q | q; exact q.1; exact absurd q.2 h9); subst h8; exact jr_sub [(0, jf_r E 0), (1, .int _), (2, .int (dp + Int32.ofInt 1)), (3, .int 1), (4, .int 1)] rfl (D90 _ _ (Or.inl ⟨rfl, rfl⟩) (by first | (rw [if_neg (by omega)]; exact h74) | (rw [if_pos (by omega)]; exact h74))))
    · refine jr_iconst C (v := 0) dX11_readCond_83 (by decide) ?_
      refine jr_goto C 88 dX11_readCond_84 (by decide) ?_
      refine jr_iadd C dX11_readCond_88 ?_
      refine jr_istore_n C dX11_readCond_89 (by decide) ?_
      refine jr_aload_n C dX11_readCond_90 rfl ?_
      refine jr_getr C kf_X11_120_0 dX11_readCond_91 ?_
      refine jr_aload_n C dX11_readCond_94 rfl ?_
      refine jr_geti C kf_X11_320_0 dX11_readCond_95 ?_
      refine jr_iload C dX11_readCond_98 rfl ?_
      refine jr_nif_eq C 108 dX11_readCond_100 (by decide) (fun b100 => ?_) (fun b100 => ?_)
      · refine jr_bipush C (v := -6) dX11_readCond_108 (by decide) ?_
        refine jr_iast C ka_M_36 dX11_readCond_110 (ji_in (i := (τ74.1 0 56)) (by rw [p74]; omega) (by rw [p74]; omega)) ?_
        refine jr_aload_n C dX11_readCond_111 rfl ?_
        refine jr_dup C dX11_readCond_112 rfl ?_
        refine jr_geti C kf_X11_320_0 dX11_readCond_113 ?_
        refine jr_iconst C (v := 1) dX11_readCond_116 (by decide) ?_
        refine jr_iadd C dX11_readCond_117 ?_
        refine jr_puti C kp_X11_320_0 dX11_readCond_118 ?_
        refine jr_goto C 14 dX11_readCond_121 (by decide) ?_
        first | (exfalso; omega) | (have h9 : v5.toInt = 0 := b80; have h8 : t = -6 := (by rcases ht with q | q; exact absurd h9 q.2; exact q.1); subst h8; exact jr_sub [(0, jf_r E 0), (1, .int _), (2, .int (dp + Int32.ofInt 1)), (3, .int 1), (4, .int 1)] rfl (D90 _ _ (Or.inr ⟨rfl, rfl⟩) (by first | (rw [if_neg (by omega)]; exact h74) | (rw [if_pos (by omega)]; exact h74)))) | (have h9 : ¬ v5.toInt = 0 := b80; have h8 : t = -3 := (by rcases ht with q | q; exact q.1; exact absurd q.2 h9); subst h8; exact jr_sub [(0, jf_r E 0), (1, .int _), (2, .int (dp + Int32.ofInt 1)), (3, .int 1), (4, .int 1)] rfl (D90 _ _ (Or.inl ⟨rfl, rfl⟩) (by first | (rw [if_neg (by omega)]; exact h74) | (rw [if_pos (by omega)]; exact h74))))
      · refine jr_bipush C (v := -3) dX11_readCond_103 (by decide) ?_
        refine jr_goto C 110 dX11_readCond_105 (by decide) ?_
        refine jr_iast C ka_M_36 dX11_readCond_110 (ji_in (i := (τ74.1 0 56)) (by rw [p74]; omega) (by rw [p74]; omega)) ?_
        refine jr_aload_n C dX11_readCond_111 rfl ?_
        refine jr_dup C dX11_readCond_112 rfl ?_
        refine jr_geti C kf_X11_320_0 dX11_readCond_113 ?_
        refine jr_iconst C (v := 1) dX11_readCond_116 (by decide) ?_
        refine jr_iadd C dX11_readCond_117 ?_
        refine jr_puti C kp_X11_320_0 dX11_readCond_118 ?_
        refine jr_goto C 14 dX11_readCond_121 (by decide) ?_
        first | (exfalso; omega) | (have h9 : v5.toInt = 0 := b80; have h8 : t = -6 := (by rcases ht with q | q; exact absurd h9 q.2; exact q.1); subst h8; exact jr_sub [(0, jf_r E 0), (1, .int _), (2, .int (dp + Int32.ofInt 1)), (3, .int 1), (4, .int 1)] rfl (D90 _ _ (Or.inr ⟨rfl, rfl⟩) (by first | (rw [if_neg (by omega)]; exact h74) | (rw [if_pos (by omega)]; exact h74)))) | (have h9 : ¬ v5.toInt = 0 := b80; have h8 : t = -3 := (by rcases ht with q | q; exact q.1; exact absurd q.2 h9); subst h8; exact jr_sub [(0, jf_r E 0), (1, .int _), (2, .int (dp + Int32.ofInt 1)), (3, .int 1), (4, .int 1)] rfl (D90 _ _ (Or.inl ⟨rfl, rfl⟩) (by first | (rw [if_neg (by omega)]; exact h74) | (rw [if_pos (by omega)]; exact h74))))
  · refine jr_iconst C (v := 1) dX11_readCond_69 (by decide) ?_
    refine jr_goto C 74 dX11_readCond_70 (by decide) ?_
    refine jr_vv C [.int _] _ (ct_X11_must2 E _ _ a n f (fun _ => c1)) ky_X11_must kv_X11_must kk_M_0 km_X11_333 (by decide) rfl (Nat.le_of_ble_eq_true rfl) dX11_readCond_74 (fun τ74 h74 => ?_)
    have p74 := fr _ _ h74
    refine jr_iload_n C dX11_readCond_77 rfl ?_
    refine jr_iload C dX11_readCond_78 rfl ?_
    refine jr_nif_eq C 87 dX11_readCond_80 (by decide) (fun b80 => ?_) (fun b80 => ?_)
    · refine jr_iconst C (v := 1) dX11_readCond_87 (by decide) ?_
      refine jr_iadd C dX11_readCond_88 ?_
      refine jr_istore_n C dX11_readCond_89 (by decide) ?_
      refine jr_aload_n C dX11_readCond_90 rfl ?_
      refine jr_getr C kf_X11_120_0 dX11_readCond_91 ?_
      refine jr_aload_n C dX11_readCond_94 rfl ?_
      refine jr_geti C kf_X11_320_0 dX11_readCond_95 ?_
      refine jr_iload C dX11_readCond_98 rfl ?_
      refine jr_nif_eq C 108 dX11_readCond_100 (by decide) (fun b100 => ?_) (fun b100 => ?_)
      · refine jr_bipush C (v := -6) dX11_readCond_108 (by decide) ?_
        refine jr_iast C ka_M_36 dX11_readCond_110 (ji_in (i := (τ74.1 0 56)) (by rw [p74]; omega) (by rw [p74]; omega)) ?_
        refine jr_aload_n C dX11_readCond_111 rfl ?_
        refine jr_dup C dX11_readCond_112 rfl ?_
        refine jr_geti C kf_X11_320_0 dX11_readCond_113 ?_
        refine jr_iconst C (v := 1) dX11_readCond_116 (by decide) ?_
        refine jr_iadd C dX11_readCond_117 ?_
        refine jr_puti C kp_X11_320_0 dX11_readCond_118 ?_
        refine jr_goto C 14 dX11_readCond_121 (by decide) ?_
        first | (exfalso; omega) | (have h9 : v5.toInt = 0 := b80; have h8 : t = -6 := (by rcases ht with q | q; exact absurd h9 q.2; exact q.1); subst h8; exact jr_sub [(0, jf_r E 0), (1, .int _), (2, .int (dp + Int32.ofInt 1)), (3, .int 1), (4, .int 1)] rfl (D90 _ _ (Or.inr ⟨rfl, rfl⟩) (by first | (rw [if_neg (by omega)]; exact h74) | (rw [if_pos (by omega)]; exact h74)))) | (have h9 : ¬ v5.toInt = 0 := b80; have h8 : t = -3 := (by rcases ht with q | q; exact q.1; exact absurd q.2 h9); subst h8; exact jr_sub [(0, jf_r E 0), (1, .int _), (2, .int (dp + Int32.ofInt 1)), (3, .int 1), (4, .int 1)] rfl (D90 _ _ (Or.inl ⟨rfl, rfl⟩) (by first | (rw [if_neg (by omega)]; exact h74) | (rw [if_pos (by omega)]; exact h74))))
      · refine jr_bipush C (v := -3) dX11_readCond_103 (by decide) ?_
        refine jr_goto C 110 dX11_readCond_105 (by decide) ?_
        refine jr_iast C ka_M_36 dX11_readCond_110 (ji_in (i := (τ74.1 0 56)) (by rw [p74]; omega) (by rw [p74]; omega)) ?_
        refine jr_aload_n C dX11_readCond_111 rfl ?_
        refine jr_dup C dX11_readCond_112 rfl ?_
        refine jr_geti C kf_X11_320_0 dX11_readCond_113 ?_
        refine jr_iconst C (v := 1) dX11_readCond_116 (by decide) ?_
        refine jr_iadd C dX11_readCond_117 ?_
        refine jr_puti C kp_X11_320_0 dX11_readCond_118 ?_
        refine jr_goto C 14 dX11_readCond_121 (by decide) ?_
        first | (exfalso; omega) | (have h9 : v5.toInt = 0 := b80; have h8 : t = -6 := (by rcases ht with q | q; exact absurd h9 q.2; exact q.1); subst h8; exact jr_sub [(0, jf_r E 0), (1, .int _), (2, .int (dp + Int32.ofInt 1)), (3, .int 1), (4, .int 1)] rfl (D90 _ _ (Or.inr ⟨rfl, rfl⟩) (by first | (rw [if_neg (by omega)]; exact h74) | (rw [if_pos (by omega)]; exact h74)))) | (have h9 : ¬ v5.toInt = 0 := b80; have h8 : t = -3 := (by rcases ht with q | q; exact q.1; exact absurd q.2 h9); subst h8; exact jr_sub [(0, jf_r E 0), (1, .int _), (2, .int (dp + Int32.ofInt 1)), (3, .int 1), (4, .int 1)] rfl (D90 _ _ (Or.inl ⟨rfl, rfl⟩) (by first | (rw [if_neg (by omega)]; exact h74) | (rw [if_pos (by omega)]; exact h74))))
    · refine jr_iconst C (v := 0) dX11_readCond_83 (by decide) ?_
      refine jr_goto C 88 dX11_readCond_84 (by decide) ?_
      refine jr_iadd C dX11_readCond_88 ?_
      refine jr_istore_n C dX11_readCond_89 (by decide) ?_
      refine jr_aload_n C dX11_readCond_90 rfl ?_
      refine jr_getr C kf_X11_120_0 dX11_readCond_91 ?_
      refine jr_aload_n C dX11_readCond_94 rfl ?_
      refine jr_geti C kf_X11_320_0 dX11_readCond_95 ?_
      refine jr_iload C dX11_readCond_98 rfl ?_
      refine jr_nif_eq C 108 dX11_readCond_100 (by decide) (fun b100 => ?_) (fun b100 => ?_)
      · refine jr_bipush C (v := -6) dX11_readCond_108 (by decide) ?_
        refine jr_iast C ka_M_36 dX11_readCond_110 (ji_in (i := (τ74.1 0 56)) (by rw [p74]; omega) (by rw [p74]; omega)) ?_
        refine jr_aload_n C dX11_readCond_111 rfl ?_
        refine jr_dup C dX11_readCond_112 rfl ?_
        refine jr_geti C kf_X11_320_0 dX11_readCond_113 ?_
        refine jr_iconst C (v := 1) dX11_readCond_116 (by decide) ?_
        refine jr_iadd C dX11_readCond_117 ?_
        refine jr_puti C kp_X11_320_0 dX11_readCond_118 ?_
        refine jr_goto C 14 dX11_readCond_121 (by decide) ?_
        first | (exfalso; omega) | (have h9 : v5.toInt = 0 := b80; have h8 : t = -6 := (by rcases ht with q | q; exact absurd h9 q.2; exact q.1); subst h8; exact jr_sub [(0, jf_r E 0), (1, .int _), (2, .int (dp + Int32.ofInt 1)), (3, .int 1), (4, .int 1)] rfl (D90 _ _ (Or.inr ⟨rfl, rfl⟩) (by first | (rw [if_neg (by omega)]; exact h74) | (rw [if_pos (by omega)]; exact h74)))) | (have h9 : ¬ v5.toInt = 0 := b80; have h8 : t = -3 := (by rcases ht with q | q; exact q.1; exact absurd q.2 h9); subst h8; exact jr_sub [(0, jf_r E 0), (1, .int _), (2, .int (dp + Int32.ofInt 1)), (3, .int 1), (4, .int 1)] rfl (D90 _ _ (Or.inl ⟨rfl, rfl⟩) (by first | (rw [if_neg (by omega)]; exact h74) | (rw [if_pos (by omega)]; exact h74))))
      · refine jr_bipush C (v := -3) dX11_readCond_103 (by decide) ?_
        refine jr_goto C 110 dX11_readCond_105 (by decide) ?_
        refine jr_iast C ka_M_36 dX11_readCond_110 (ji_in (i := (τ74.1 0 56)) (by rw [p74]; omega) (by rw [p74]; omega)) ?_
        refine jr_aload_n C dX11_readCond_111 rfl ?_
        refine jr_dup C dX11_readCond_112 rfl ?_
        refine jr_geti C kf_X11_320_0 dX11_readCond_113 ?_
        refine jr_iconst C (v := 1) dX11_readCond_116 (by decide) ?_
        refine jr_iadd C dX11_readCond_117 ?_
        refine jr_puti C kp_X11_320_0 dX11_readCond_118 ?_
        refine jr_goto C 14 dX11_readCond_121 (by decide) ?_
        first | (exfalso; omega) | (have h9 : v5.toInt = 0 := b80; have h8 : t = -6 := (by rcases ht with q | q; exact absurd h9 q.2; exact q.1); subst h8; exact jr_sub [(0, jf_r E 0), (1, .int _), (2, .int (dp + Int32.ofInt 1)), (3, .int 1), (4, .int 1)] rfl (D90 _ _ (Or.inr ⟨rfl, rfl⟩) (by first | (rw [if_neg (by omega)]; exact h74) | (rw [if_pos (by omega)]; exact h74)))) | (have h9 : ¬ v5.toInt = 0 := b80; have h8 : t = -3 := (by rcases ht with q | q; exact q.1; exact absurd q.2 h9); subst h8; exact jr_sub [(0, jf_r E 0), (1, .int _), (2, .int (dp + Int32.ofInt 1)), (3, .int 1), (4, .int 1)] rfl (D90 _ _ (Or.inl ⟨rfl, rfl⟩) (by first | (rw [if_neg (by omega)]; exact h74) | (rw [if_pos (by omega)]; exact h74))))
theorem rc_P30 (E : jf_E) (G : jf_G) (σ : jf_S) (a : Nat → Int32) (n : Nat) (hn : n ≤ 300) (C : jf_C jh_M E G 6 cX11_readCond yX11_readCond.cls 4) : ∀ (τ : jf_S) (P K : List Int32) (f : Nat) (o dp t : Int32), mS_g [34, 36] mJ_cond σ τ → m_C a n τ P K f o dp → ((t = -3 ∧ tk_wb a n f qN = true) ∨ (t = -6 ∧ ¬ tk_wb a n f qN = true ∧ tk_sb a n f 40 = true)) → (cN P < 8 → ∀ (τ' : jf_S) (o' dp' : Int32), mS_g [34, 36] mJ_cond σ τ' → m_C a n τ' (t :: P) K (tk_x a n f) o' dp' → jf_X jh_M E G 6 14 [(0, jf_r E 0), (1, .int o'), (2, .int dp'), (3, .int 1), (4, .int 1)] [] τ') → (¬ cN P < 8 → ∀ (τ' : jf_S) (o' dp' : Int32), mS_g [34, 36] mJ_cond σ τ' → ¬ ((τ'.1 0 64)).toInt = 0 → ((τ'.1 0 63)).toInt = (f : Int) → jf_X jh_M E G 6 14 [(0, jf_r E 0), (1, .int o'), (2, .int dp'), (3, .int 1), (4, .int 1)] [] τ') → jf_X jh_M E G 6 14 [(0, jf_r E 0), (1, .int o), (2, .int dp), (3, .int 1), (4, .int 1)] [] τ := by
  intro τ P K f o dp t z c tok gd bd
  have hk' := c.1
  have hfn : f < n := by
    rcases tok with q | q
    · exact tk_wb_lt (by decide) q.2
    · exact (tk_sb_i.mp q.2.2).1
  refine (rc_W30 E G σ a n hn C) τ o dp c.2.2.2.1 ?_
  refine jr_aload_n C dX11_readCond_30 rfl ?_
  refine jr_bipush C (v := 110) dX11_readCond_31 (by decide) ?_
  refine jr_bipush C (v := 111) dX11_readCond_33 (by decide) ?_
  refine jr_bipush C (v := 116) dX11_readCond_35 (by decide) ?_
  refine jr_iconst C (v := 0) dX11_readCond_37 (by decide) ?_
  refine jr_iconst C (v := 0) dX11_readCond_38 (by decide) ?_
  refine jr_iconst C (v := 0) dX11_readCond_39 (by decide) ?_
  refine jr_vip C [.int _, .int _, .int _, .int _, .int _, .int _] _ (ct_X11_isWord2 E _ _ _ _ _ _ _) ky_X11_isWord kv_X11_isWord kk_M_0 km_X11_326 (by decide) rfl (Nat.le_of_ble_eq_true rfl) dX11_readCond_40 ?_
  refine jr_istore C dX11_readCond_43 (by decide) ?_
  refine jr_iload C dX11_readCond_45 rfl ?_
  refine jr_nif_ne C 59 dX11_readCond_47 (by decide) (fun b47 => ?_) (fun b47 => ?_)
  · first | replace b47 := (mw_not hk').mp (jb_tp b47) | replace b47 := fun w => jb_fp b47 ((mw_not hk').mpr w)
    exact jr_sub [(0, jf_r E 0), (1, .int o), (2, .int dp), (3, .int 1), (4, .int 1), (5, .int _)] rfl ((rc_J59 E G σ a n hn C) τ P K f o dp t _ z c (by rcases tok with q | q; exact Or.inl ⟨q.1, fun w => jb_fp w ((mw_not hk').mpr q.2)⟩; exact Or.inr ⟨q.1, by rw [← jb_ff (fun w => q.2.1 ((mw_not hk').mp w))]; rfl⟩) hfn gd bd)
  · first | replace b47 := (mw_not hk').mp (jb_tp b47) | replace b47 := fun w => jb_fp b47 ((mw_not hk').mpr w)
    refine jr_aload_n C dX11_readCond_50 rfl ?_
    refine jr_bipush C (v := 40) dX11_readCond_51 (by decide) ?_
    refine jr_vip C [.int _] _ (ct_X11_isSign2 E _ _) ky_X11_isSign kv_X11_isSign kk_M_0 km_X11_330 (by decide) rfl (Nat.le_of_ble_eq_true rfl) dX11_readCond_53 ?_
    refine jr_if_eq C 124 dX11_readCond_56 (by decide) (fun b56 => ?_) (fun b56 => ?_)
    · replace b56 := jb_f b56
      rw [ms_40 hk'] at b56
      refine jr_aload_n C dX11_readCond_124 rfl ?_
      refine jr_vv C [] _ (ct_X11_readLeaf2 E _ a n f K hk' c.2.2.2.1 c.2.2.1 (by have := c.2.2.2.2.2.2; have := hk'.2.1; omega)) ky_X11_readLeaf kv_X11_readLeaf kk_M_0 km_X11_337 (by decide) rfl (Nat.le_of_ble_eq_true rfl) dX11_readCond_125 (fun τ125 h125 => ?_)
      refine jr_iconst C (v := 0) dX11_readCond_128 (by decide) ?_
      refine jr_istore_n C dX11_readCond_129 (by decide) ?_
      refine jr_goto C 280 dX11_readCond_130 (by decide) ?_
      exfalso; rcases tok with q | q; exact b47 q.2; exact b56 q.2.2
    · replace b56 := jb_t b56
      rw [ms_40 hk'] at b56
      exact jr_sub [(0, jf_r E 0), (1, .int o), (2, .int dp), (3, .int 1), (4, .int 1), (5, .int _)] rfl ((rc_J59 E G σ a n hn C) τ P K f o dp t _ z c (by rcases tok with q | q; exact Or.inl ⟨q.1, fun w => jb_fp w ((mw_not hk').mpr q.2)⟩; exact Or.inr ⟨q.1, by rw [← jb_ff (fun w => q.2.1 ((mw_not hk').mp w))]; rfl⟩) hfn gd bd)
theorem rc_J280w (E : jf_E) (G : jf_G) (σ : jf_S) (a : Nat → Int32) (n : Nat) (hn : n ≤ 300) (C : jf_C jh_M E G 6 cX11_readCond yX11_readCond.cls 4) : ∀ (υ : jf_S) (P K : List Int32) (o dp : Int32), m_pl υ P → m_mk υ K → q_h3 P → P.length + K.length ≤ 300 → (∀ dp' : Int32, dp'.toInt = (cN P : Int) → jf_X jh_M E G 6 14 [(0, jf_r E 0), (1, .int o), (2, .int dp'), (3, .int 1), (4, .int 1)] [] υ) → jf_X jh_M E G 6 280 [(0, jf_r E 0), (1, .int o), (2, .int dp), (3, .int 1), (4, .int 1)] [] υ := by
  intro υ P K o dp p1 p2 p3 p4 g
  refine jr_aload_n C dX11_readCond_280 rfl ?_
  refine jr_iload_n C dX11_readCond_281 rfl ?_
  refine jr_vi C [.int _] _ (ct_X11_depthNow2 E _ _ 0 P K p1 p2 p3 (by omega)) ky_X11_depthNow kv_X11_depthNow kk_M_0 km_X11_343 (by decide) rfl (Nat.le_of_ble_eq_true rfl) dX11_readCond_282 (fun r282 τ282 h282 => ?_)
  obtain ⟨i1, i2⟩ := h282.2 (by decide); subst i1
  refine jr_istore_n C dX11_readCond_285 (by decide) ?_
  refine jr_goto C 14 dX11_readCond_286 (by decide) ?_
  exact jr_sub [(0, jf_r E 0), (1, .int o), (2, .int _), (3, .int 1), (4, .int 1)] rfl (g _ i2)
theorem rc_P124 (E : jf_E) (G : jf_G) (σ : jf_S) (a : Nat → Int32) (n : Nat) (hn : n ≤ 300) (C : jf_C jh_M E G 6 cX11_readCond yX11_readCond.cls 4) : ∀ (τ : jf_S) (j : Nat) (P0 K : List Int32) (f : Nat) (o dp : Int32), mS_g [34, 36] mJ_cond σ τ → m_C a n τ (List.replicate j (-3) ++ P0) K f o dp → q_h3 P0 → ¬ tk_wb a n f qN = true → ¬ tk_sb a n f 40 = true → (∀ r, q_asked a n f = .inl r → ∀ (τ' : jf_S) (o' dp' : Int32), mS_g [34, 36] mJ_cond σ τ' → m_C a n τ' P0 (K ++ r.2 ++ List.replicate j (-3)) r.1 o' dp' → jf_X jh_M E G 6 14 [(0, jf_r E 0), (1, .int o'), (2, .int dp'), (3, .int 0), (4, .int 1)] [] τ') → (∀ e, q_asked a n f = .inr e → ∀ (τ' : jf_S) (o' dp' : Int32), mS_g [34, 36] mJ_cond σ τ' → ¬ ((τ'.1 0 64)).toInt = 0 → ((τ'.1 0 63)).toInt = (e : Int) → jf_X jh_M E G 6 14 [(0, jf_r E 0), (1, .int o'), (2, .int dp'), (3, .int 0), (4, .int 1)] [] τ') → jf_X jh_M E G 6 14 [(0, jf_r E 0), (1, .int o), (2, .int dp), (3, .int 1), (4, .int 1)] [] τ := by
  intro τ j P0 K f o dp z c h3 w1 w2 gd bd
  obtain ⟨c1, c2, c3, c4, c5, c6, c7⟩ := c
  have ln : (List.replicate j (-3 : Int32) ++ P0).length = j + P0.length := by rw [List.length_append, List.length_replicate]
  have fle := c1.2.1
  have D280 : ∀ (υ : jf_S), ((∀ r, q_asked a n f = .inl r → m_tk a n υ r.1 ∧ ((υ.1 0 64)).toInt = 0 ∧ m_mk υ (K ++ r.2)) ∧ (∀ e, q_asked a n f = .inr e → ¬ ((υ.1 0 64)).toInt = 0 ∧ ((υ.1 0 63)).toInt = (e : Int) ∧ ∃ x, m_mk υ (K ++ [x])) ∧ mS_g [34] [51, 59, 60, 61, 63, 64] τ υ) → jf_X jh_M E G 6 280 [(0, jf_r E 0), (1, .int o), (2, .int dp), (3, .int 0), (4, .int 1)] [] υ := by
    intro υ hl
    obtain ⟨l1, l2, l3⟩ := hl
    have pu : m_pl υ (List.replicate j (-3) ++ P0) := by
      unfold m_pl; rw [l3.2 56 (by decide), l3.1 36 (by decide) (by decide)]; exact c2
    have zu : mS_g [34, 36] mJ_cond σ υ := mS_g_t z (mS_g_m l3 (by decide) (by decide))
    have ok := q_asked_ok (a := a) fle
    cases e : q_asked a n f with
    | inl r =>
      obtain ⟨m1, m2, m3⟩ := l1 r e
      rw [e] at ok
      obtain ⟨r1, r2, r3, -, -⟩ := ok
      refine (rc_J280 E G σ a n hn C) υ j P0 (K ++ r.2) o dp 1 pu m3 h3 (by rw [List.length_append]; omega) (fun υ' dp' i1 i2 i3 i4 => ?_)
      refine gd r e υ' o dp' (mS_g_t zu (mS_g_m i4.1 (by decide) (by decide))) ⟨m_tk_f i4 m1, i1, i2, by rw [i4.1.2 64 (by decide)]; exact m2, by rw [c5, cO_rep], i3, ?_⟩
      rw [List.length_append, List.length_append, List.length_replicate]; omega
    | inr q =>
      obtain ⟨m1, m2, x, m3⟩ := l2 q e
      refine (rc_J280 E G σ a n hn C) υ j P0 (K ++ [x]) o dp 1 pu m3 h3 (by rw [List.length_append]; show _ + _ + (_ + 1) ≤ _; omega) (fun υ' dp' i1 i2 i3 i4 => ?_)
      exact bd q e υ' o dp' (mS_g_t zu (mS_g_m i4.1 (by decide) (by decide))) (by rw [i4.1.2 64 (by decide)]; exact m1) (by rw [i4.1.2 63 (by decide)]; exact m2)
  refine (rc_W30 E G σ a n hn C) τ o dp c4 ?_
  refine jr_aload_n C dX11_readCond_30 rfl ?_
  refine jr_bipush C (v := 110) dX11_readCond_31 (by decide) ?_
  refine jr_bipush C (v := 111) dX11_readCond_33 (by decide) ?_
  refine jr_bipush C (v := 116) dX11_readCond_35 (by decide) ?_
  refine jr_iconst C (v := 0) dX11_readCond_37 (by decide) ?_
  refine jr_iconst C (v := 0) dX11_readCond_38 (by decide) ?_
  refine jr_iconst C (v := 0) dX11_readCond_39 (by decide) ?_
  refine jr_vip C [.int _, .int _, .int _, .int _, .int _, .int _] _ (ct_X11_isWord2 E _ _ _ _ _ _ _) ky_X11_isWord kv_X11_isWord kk_M_0 km_X11_326 (by decide) rfl (Nat.le_of_ble_eq_true rfl) dX11_readCond_40 ?_
  refine jr_istore C dX11_readCond_43 (by decide) ?_
  refine jr_iload C dX11_readCond_45 rfl ?_
  refine jr_nif_ne C 59 dX11_readCond_47 (by decide) (fun b47 => ?_) (fun b47 => ?_)
  · first | replace b47 := (mw_not c1).mp (jb_tp b47) | replace b47 := fun w => jb_fp b47 ((mw_not c1).mpr w)
    first | exact absurd b47 w1 | exact absurd b56 w2
  · first | replace b47 := (mw_not c1).mp (jb_tp b47) | replace b47 := fun w => jb_fp b47 ((mw_not c1).mpr w)
    refine jr_aload_n C dX11_readCond_50 rfl ?_
    refine jr_bipush C (v := 40) dX11_readCond_51 (by decide) ?_
    refine jr_vip C [.int _] _ (ct_X11_isSign2 E _ _) ky_X11_isSign kv_X11_isSign kk_M_0 km_X11_330 (by decide) rfl (Nat.le_of_ble_eq_true rfl) dX11_readCond_53 ?_
    refine jr_if_eq C 124 dX11_readCond_56 (by decide) (fun b56 => ?_) (fun b56 => ?_)
    · replace b56 := jb_f b56
      rw [ms_40 c1] at b56
      refine jr_aload_n C dX11_readCond_124 rfl ?_
      refine jr_vv C [] _ (ct_X11_readLeaf2 E _ a n f K c1 c4 c3 (by omega)) ky_X11_readLeaf kv_X11_readLeaf kk_M_0 km_X11_337 (by decide) rfl (Nat.le_of_ble_eq_true rfl) dX11_readCond_125 (fun τ125 h125 => ?_)
      refine jr_iconst C (v := 0) dX11_readCond_128 (by decide) ?_
      refine jr_istore_n C dX11_readCond_129 (by decide) ?_
      refine jr_goto C 280 dX11_readCond_130 (by decide) ?_
      exact jr_sub [(0, jf_r E 0), (1, .int o), (2, .int dp), (3, .int 0), (4, .int 1)] rfl (D280 _ h125)
    · replace b56 := jb_t b56
      rw [ms_40 c1] at b56
      first | exact absurd b47 w1 | exact absurd b56 w2
theorem rc_A164 (E : jf_E) (G : jf_G) (σ : jf_S) (a : Nat → Int32) (n : Nat) (hn : n ≤ 300) (C : jf_C jh_M E G 6 cX11_readCond yX11_readCond.cls 4) : ∀ (τ : jf_S) (S P0 K : List Int32) (f : Nat) (o dp : Int32), mS_g [34, 36] mJ_cond σ τ → m_C a n τ (S ++ P0) K f o dp → tk_wb a n f qA = true → (∀ z ∈ S, ¬ z.toInt = -6 ∧ (-4 : Int32).toInt ≤ z.toInt) → q_hd P0 (-4 : Int32).toInt → (∀ (τ' : jf_S) (o' dp' : Int32), mS_g [34, 36] mJ_cond σ τ' → m_C a n τ' (-4 :: P0) (K ++ S) (tk_x a n f) o' dp' → jf_X jh_M E G 6 14 [(0, jf_r E 0), (1, .int o'), (2, .int dp'), (3, .int 1), (4, .int 1)] [] τ') → jf_X jh_M E G 6 164 [(0, jf_r E 0), (1, .int o), (2, .int dp), (3, .int 0), (4, .int 1)] [] τ := by
  intro τ S P0 K f o dp z c hand hS hq gd
  obtain ⟨c1, c2, c3, c4, c5, c6, c7⟩ := c
  have ln : (S ++ P0).length = S.length + P0.length := List.length_append
  have fle := c1.2.1
  have hfn := tk_wb_lt (by decide) hand
  have x1 := tk_x_ok (a := a) fle
  have tr := (mw_and c1).mpr hand
  have D280 : ∀ (υ ρ : jf_S), m_pl υ P0 ∧ m_mk υ (K ++ S) ∧ mS_g [34] [51, 56] τ υ ∧ υ.2 = τ.2 → mS_n (jf_i (jf_i υ 36 ((υ.1 0 56)).toNatClampNeg (-4)) 0 56 ((υ.1 0 56) + 1)) ρ ∧ m_tk a n ρ (tk_a a n (tk_t a n f)) → jf_X jh_M E G 6 280 [(0, jf_r E 0), (1, .int o), (2, .int dp), (3, .int 1), (4, .int 1)] [] ρ := by
    intro υ ρ hs hr
    obtain ⟨i1, i2, i3⟩ := hs
    have pr : m_pl ρ (-4 :: P0) := m_pl_n hr.1 (m_pl_push i1 (by omega))
    have mr : m_mk ρ (K ++ S) := m_mk_n hr.1 ⟨i2.1, i2.2⟩
    refine (rc_J280w E G σ a n hn C) ρ (-4 :: P0) (K ++ S) o dp pr mr (Or.inr ⟨-4, P0, rfl, by decide⟩) (by rw [List.length_cons, List.length_append]; omega) (fun dp' hd => ?_)
    refine gd ρ o dp' (mS_g_t (mS_g_i (mS_g_a (mS_g_t z (mS_g_m i3.1 (by decide) (by decide))) (by decide) (by decide)) (by decide)) (mS_g_n hr.1 (by decide))) ⟨hr.2, pr, mr, ?_, ?_, hd, ?_⟩
    · rw [hr.1.2 64 (by decide) (by decide) (by decide)]
      show ((υ.1 0 64)).toInt = 0
      rw [i3.1.2 64 (by decide)]; exact c4
    · rw [c5, cO_app (fun z hz => (hS z hz).1)]; rfl
    · rw [List.length_cons, List.length_append]; omega
  have cap : S.length + P0.length + K.length ≤ 300 := by omega
  refine jr_aload_n C dX11_readCond_164 rfl ?_
  refine jr_bipush C (v := 97) dX11_readCond_165 (by decide) ?_
  refine jr_bipush C (v := 110) dX11_readCond_167 (by decide) ?_
  refine jr_bipush C (v := 100) dX11_readCond_169 (by decide) ?_
  refine jr_iconst C (v := 0) dX11_readCond_171 (by decide) ?_
  refine jr_iconst C (v := 0) dX11_readCond_172 (by decide) ?_
  refine jr_iconst C (v := 0) dX11_readCond_173 (by decide) ?_
  refine jr_vip C [.int _, .int _, .int _, .int _, .int _, .int _] _ (ct_X11_isWord2 E _ _ _ _ _ _ _) ky_X11_isWord kv_X11_isWord kk_M_0 km_X11_326 (by decide) rfl (Nat.le_of_ble_eq_true rfl) dX11_readCond_174 ?_
  refine jr_istore C dX11_readCond_177 (by decide) ?_
  refine jr_aload_n C dX11_readCond_179 rfl ?_
  refine jr_iload C dX11_readCond_180 rfl ?_
  refine jr_nif_eq C 190 dX11_readCond_182 (by decide) (fun b182 => ?_) (fun b182 => ?_)
  · refine jr_bipush C (v := -5) dX11_readCond_190 (by decide) ?_
    refine jr_vv C [.int _] _ (ct_X11_settle2 E _ _ S P0 K c2 c3 (by first | exact hS | exact absurd tr (jb_fp b182)) (by first | exact hq | exact absurd tr (jb_fp b182)) cap) ky_X11_settle kv_X11_settle kk_M_0 km_X11_340 (by decide) rfl (Nat.le_of_ble_eq_true rfl) dX11_readCond_192 (fun τ192 h192 => ?_)
    have f1 := h192.1.1; have f2 : (τ192.1 37) = a := (h192.2.2.1.1 37 (by decide) (by decide)).trans c1.1.1; have f3 : (τ192.1 0 58) = (τ.1 0 58) := h192.2.2.1.2 58 (by decide); have f4 : (τ192.1 0 60) = (τ.1 0 60) := h192.2.2.1.2 60 (by decide); have f5 : (τ192.1 0 63) = -1 := (h192.2.2.1.2 63 (by decide)).trans c1.1.2.2.2
    refine jr_aload_n C dX11_readCond_195 rfl ?_
    refine jr_getr C kf_X11_120_0 dX11_readCond_196 ?_
    refine jr_aload_n C dX11_readCond_199 rfl ?_
    refine jr_geti C kf_X11_320_0 dX11_readCond_200 ?_
    refine jr_iload C dX11_readCond_203 rfl ?_
    refine jr_nif_eq C 213 dX11_readCond_205 (by decide) (fun b205 => ?_) (fun b205 => ?_)
    · refine jr_bipush C (v := -5) dX11_readCond_213 (by decide) ?_
      refine jr_iast C ka_M_36 dX11_readCond_215 (ji_in (i := (τ192.1 0 56)) (by omega) (by omega)) ?_
      refine jr_aload_n C dX11_readCond_216 rfl ?_
      refine jr_dup C dX11_readCond_217 rfl ?_
      refine jr_geti C kf_X11_320_0 dX11_readCond_218 ?_
      refine jr_iconst C (v := 1) dX11_readCond_221 (by decide) ?_
      refine jr_iadd C dX11_readCond_222 ?_
      refine jr_puti C kp_X11_320_0 dX11_readCond_223 ?_
      refine jr_iconst C (v := 1) dX11_readCond_226 (by decide) ?_
      refine jr_istore_n C dX11_readCond_227 (by decide) ?_
      refine jr_aload_n C dX11_readCond_228 rfl ?_
      refine jr_vv C [] _ (ct_X11_next2 E _ a n (tk_t a n f) (show (τ192.1 37) = a from f2) (show ((τ192.1 0 58)).toInt = (n : Int) by rw [f3]; exact c1.1.2.1) hn (show (τ192.1 0 63) = -1 from f5) (show ((τ192.1 0 60)).toInt = _ by rw [f4]; exact c1.2.2.2.1) (tk_t_ok fle).2.1) ky_X11_next kv_X11_next kk_M_0 km_X11_314 (by decide) rfl (Nat.le_of_ble_eq_true rfl) dX11_readCond_229 (fun τ229 h229 => ?_)
      refine jr_goto C 280 dX11_readCond_232 (by decide) ?_
      first | exact absurd tr (jb_fp b182) | exact absurd tr (jb_fp b205) | exact jr_sub [(0, jf_r E 0), (1, .int o), (2, .int dp), (3, .int 1), (4, .int 1)] rfl (D280 τ192 τ229 h192 h229)
    · refine jr_bipush C (v := -4) dX11_readCond_208 (by decide) ?_
      refine jr_goto C 215 dX11_readCond_210 (by decide) ?_
      refine jr_iast C ka_M_36 dX11_readCond_215 (ji_in (i := (τ192.1 0 56)) (by omega) (by omega)) ?_
      refine jr_aload_n C dX11_readCond_216 rfl ?_
      refine jr_dup C dX11_readCond_217 rfl ?_
      refine jr_geti C kf_X11_320_0 dX11_readCond_218 ?_
      refine jr_iconst C (v := 1) dX11_readCond_221 (by decide) ?_
      refine jr_iadd C dX11_readCond_222 ?_
      refine jr_puti C kp_X11_320_0 dX11_readCond_223 ?_
      refine jr_iconst C (v := 1) dX11_readCond_226 (by decide) ?_
      refine jr_istore_n C dX11_readCond_227 (by decide) ?_
      refine jr_aload_n C dX11_readCond_228 rfl ?_
      refine jr_vv C [] _ (ct_X11_next2 E _ a n (tk_t a n f) (show (τ192.1 37) = a from f2) (show ((τ192.1 0 58)).toInt = (n : Int) by rw [f3]; exact c1.1.2.1) hn (show (τ192.1 0 63) = -1 from f5) (show ((τ192.1 0 60)).toInt = _ by rw [f4]; exact c1.2.2.2.1) (tk_t_ok fle).2.1) ky_X11_next kv_X11_next kk_M_0 km_X11_314 (by decide) rfl (Nat.le_of_ble_eq_true rfl) dX11_readCond_229 (fun τ229 h229 => ?_)
      refine jr_goto C 280 dX11_readCond_232 (by decide) ?_
      first | exact absurd tr (jb_fp b182) | exact absurd tr (jb_fp b205) | exact jr_sub [(0, jf_r E 0), (1, .int o), (2, .int dp), (3, .int 1), (4, .int 1)] rfl (D280 τ192 τ229 h192 h229)
  · refine jr_bipush C (v := -4) dX11_readCond_185 (by decide) ?_
    refine jr_goto C 192 dX11_readCond_187 (by decide) ?_
    refine jr_vv C [.int _] _ (ct_X11_settle2 E _ _ S P0 K c2 c3 (by first | exact hS | exact absurd tr (jb_fp b182)) (by first | exact hq | exact absurd tr (jb_fp b182)) cap) ky_X11_settle kv_X11_settle kk_M_0 km_X11_340 (by decide) rfl (Nat.le_of_ble_eq_true rfl) dX11_readCond_192 (fun τ192 h192 => ?_)
    have f1 := h192.1.1; have f2 : (τ192.1 37) = a := (h192.2.2.1.1 37 (by decide) (by decide)).trans c1.1.1; have f3 : (τ192.1 0 58) = (τ.1 0 58) := h192.2.2.1.2 58 (by decide); have f4 : (τ192.1 0 60) = (τ.1 0 60) := h192.2.2.1.2 60 (by decide); have f5 : (τ192.1 0 63) = -1 := (h192.2.2.1.2 63 (by decide)).trans c1.1.2.2.2
    refine jr_aload_n C dX11_readCond_195 rfl ?_
    refine jr_getr C kf_X11_120_0 dX11_readCond_196 ?_
    refine jr_aload_n C dX11_readCond_199 rfl ?_
    refine jr_geti C kf_X11_320_0 dX11_readCond_200 ?_
    refine jr_iload C dX11_readCond_203 rfl ?_
    refine jr_nif_eq C 213 dX11_readCond_205 (by decide) (fun b205 => ?_) (fun b205 => ?_)
    · refine jr_bipush C (v := -5) dX11_readCond_213 (by decide) ?_
      refine jr_iast C ka_M_36 dX11_readCond_215 (ji_in (i := (τ192.1 0 56)) (by omega) (by omega)) ?_
      refine jr_aload_n C dX11_readCond_216 rfl ?_
      refine jr_dup C dX11_readCond_217 rfl ?_
      refine jr_geti C kf_X11_320_0 dX11_readCond_218 ?_
      refine jr_iconst C (v := 1) dX11_readCond_221 (by decide) ?_
      refine jr_iadd C dX11_readCond_222 ?_
      refine jr_puti C kp_X11_320_0 dX11_readCond_223 ?_
      refine jr_iconst C (v := 1) dX11_readCond_226 (by decide) ?_
      refine jr_istore_n C dX11_readCond_227 (by decide) ?_
      refine jr_aload_n C dX11_readCond_228 rfl ?_
      refine jr_vv C [] _ (ct_X11_next2 E _ a n (tk_t a n f) (show (τ192.1 37) = a from f2) (show ((τ192.1 0 58)).toInt = (n : Int) by rw [f3]; exact c1.1.2.1) hn (show (τ192.1 0 63) = -1 from f5) (show ((τ192.1 0 60)).toInt = _ by rw [f4]; exact c1.2.2.2.1) (tk_t_ok fle).2.1) ky_X11_next kv_X11_next kk_M_0 km_X11_314 (by decide) rfl (Nat.le_of_ble_eq_true rfl) dX11_readCond_229 (fun τ229 h229 => ?_)
      refine jr_goto C 280 dX11_readCond_232 (by decide) ?_
      first | exact absurd tr (jb_fp b182) | exact absurd tr (jb_fp b205) | exact jr_sub [(0, jf_r E 0), (1, .int o), (2, .int dp), (3, .int 1), (4, .int 1)] rfl (D280 τ192 τ229 h192 h229)
    · refine jr_bipush C (v := -4) dX11_readCond_208 (by decide) ?_
      refine jr_goto C 215 dX11_readCond_210 (by decide) ?_
      refine jr_iast C ka_M_36 dX11_readCond_215 (ji_in (i := (τ192.1 0 56)) (by omega) (by omega)) ?_
      refine jr_aload_n C dX11_readCond_216 rfl ?_
      refine jr_dup C dX11_readCond_217 rfl ?_
      refine jr_geti C kf_X11_320_0 dX11_readCond_218 ?_
      refine jr_iconst C (v := 1) dX11_readCond_221 (by decide) ?_
      refine jr_iadd C dX11_readCond_222 ?_
      refine jr_puti C kp_X11_320_0 dX11_readCond_223 ?_
      refine jr_iconst C (v := 1) dX11_readCond_226 (by decide) ?_
      refine jr_istore_n C dX11_readCond_227 (by decide) ?_
      refine jr_aload_n C dX11_readCond_228 rfl ?_
      refine jr_vv C [] _ (ct_X11_next2 E _ a n (tk_t a n f) (show (τ192.1 37) = a from f2) (show ((τ192.1 0 58)).toInt = (n : Int) by rw [f3]; exact c1.1.2.1) hn (show (τ192.1 0 63) = -1 from f5) (show ((τ192.1 0 60)).toInt = _ by rw [f4]; exact c1.2.2.2.1) (tk_t_ok fle).2.1) ky_X11_next kv_X11_next kk_M_0 km_X11_314 (by decide) rfl (Nat.le_of_ble_eq_true rfl) dX11_readCond_229 (fun τ229 h229 => ?_)
      refine jr_goto C 280 dX11_readCond_232 (by decide) ?_
      first | exact absurd tr (jb_fp b182) | exact absurd tr (jb_fp b205) | exact jr_sub [(0, jf_r E 0), (1, .int o), (2, .int dp), (3, .int 1), (4, .int 1)] rfl (D280 τ192 τ229 h192 h229)
theorem rc_O164 (E : jf_E) (G : jf_G) (σ : jf_S) (a : Nat → Int32) (n : Nat) (hn : n ≤ 300) (C : jf_C jh_M E G 6 cX11_readCond yX11_readCond.cls 4) : ∀ (τ : jf_S) (S P0 K : List Int32) (f : Nat) (o dp : Int32), mS_g [34, 36] mJ_cond σ τ → m_C a n τ (S ++ P0) K f o dp → ¬ tk_wb a n f qA = true → tk_wb a n f qO = true → (∀ z ∈ S, ¬ z.toInt = -6 ∧ (-5 : Int32).toInt ≤ z.toInt) → q_hd P0 (-5 : Int32).toInt → (∀ (τ' : jf_S) (o' dp' : Int32), mS_g [34, 36] mJ_cond σ τ' → m_C a n τ' (-5 :: P0) (K ++ S) (tk_x a n f) o' dp' → jf_X jh_M E G 6 14 [(0, jf_r E 0), (1, .int o'), (2, .int dp'), (3, .int 1), (4, .int 1)] [] τ') → jf_X jh_M E G 6 164 [(0, jf_r E 0), (1, .int o), (2, .int dp), (3, .int 0), (4, .int 1)] [] τ := by
  intro τ S P0 K f o dp z c hna hor hS hq gd
  obtain ⟨c1, c2, c3, c4, c5, c6, c7⟩ := c
  have ln : (S ++ P0).length = S.length + P0.length := List.length_append
  have fle := c1.2.1
  have hfn := tk_wb_lt (by decide) hor
  have x1 := tk_x_ok (a := a) fle
  have tr : ¬ (((τ.1 0 61)).toInt = 1 ∧ ((τ.2 0 62)).toInt = (m_word 97 110 100 0 0 0).toInt) := fun w => hna ((mw_and c1).mp w)
  have D280 : ∀ (υ ρ : jf_S), m_pl υ P0 ∧ m_mk υ (K ++ S) ∧ mS_g [34] [51, 56] τ υ ∧ υ.2 = τ.2 → mS_n (jf_i (jf_i υ 36 ((υ.1 0 56)).toNatClampNeg (-5)) 0 56 ((υ.1 0 56) + 1)) ρ ∧ m_tk a n ρ (tk_a a n (tk_t a n f)) → jf_X jh_M E G 6 280 [(0, jf_r E 0), (1, .int o), (2, .int dp), (3, .int 1), (4, .int 1)] [] ρ := by
    intro υ ρ hs hr
    obtain ⟨i1, i2, i3⟩ := hs
    have pr : m_pl ρ (-5 :: P0) := m_pl_n hr.1 (m_pl_push i1 (by omega))
    have mr : m_mk ρ (K ++ S) := m_mk_n hr.1 ⟨i2.1, i2.2⟩
    refine (rc_J280w E G σ a n hn C) ρ (-5 :: P0) (K ++ S) o dp pr mr (Or.inr ⟨-5, P0, rfl, by decide⟩) (by rw [List.length_cons, List.length_append]; omega) (fun dp' hd => ?_)
    refine gd ρ o dp' (mS_g_t (mS_g_i (mS_g_a (mS_g_t z (mS_g_m i3.1 (by decide) (by decide))) (by decide) (by decide)) (by decide)) (mS_g_n hr.1 (by decide))) ⟨hr.2, pr, mr, ?_, ?_, hd, ?_⟩
    · rw [hr.1.2 64 (by decide) (by decide) (by decide)]
      show ((υ.1 0 64)).toInt = 0
      rw [i3.1.2 64 (by decide)]; exact c4
    · rw [c5, cO_app (fun z hz => (hS z hz).1)]; rfl
    · rw [List.length_cons, List.length_append]; omega
  have cap : S.length + P0.length + K.length ≤ 300 := by omega
  refine jr_aload_n C dX11_readCond_164 rfl ?_
  refine jr_bipush C (v := 97) dX11_readCond_165 (by decide) ?_
  refine jr_bipush C (v := 110) dX11_readCond_167 (by decide) ?_
  refine jr_bipush C (v := 100) dX11_readCond_169 (by decide) ?_
  refine jr_iconst C (v := 0) dX11_readCond_171 (by decide) ?_
  refine jr_iconst C (v := 0) dX11_readCond_172 (by decide) ?_
  refine jr_iconst C (v := 0) dX11_readCond_173 (by decide) ?_
  refine jr_vip C [.int _, .int _, .int _, .int _, .int _, .int _] _ (ct_X11_isWord2 E _ _ _ _ _ _ _) ky_X11_isWord kv_X11_isWord kk_M_0 km_X11_326 (by decide) rfl (Nat.le_of_ble_eq_true rfl) dX11_readCond_174 ?_
  refine jr_istore C dX11_readCond_177 (by decide) ?_
  refine jr_aload_n C dX11_readCond_179 rfl ?_
  refine jr_iload C dX11_readCond_180 rfl ?_
  refine jr_nif_eq C 190 dX11_readCond_182 (by decide) (fun b182 => ?_) (fun b182 => ?_)
  · refine jr_bipush C (v := -5) dX11_readCond_190 (by decide) ?_
    refine jr_vv C [.int _] _ (ct_X11_settle2 E _ _ S P0 K c2 c3 (by first | exact hS | exact absurd (jb_tp b182) tr) (by first | exact hq | exact absurd (jb_tp b182) tr) cap) ky_X11_settle kv_X11_settle kk_M_0 km_X11_340 (by decide) rfl (Nat.le_of_ble_eq_true rfl) dX11_readCond_192 (fun τ192 h192 => ?_)
    have f1 := h192.1.1; have f2 : (τ192.1 37) = a := (h192.2.2.1.1 37 (by decide) (by decide)).trans c1.1.1; have f3 : (τ192.1 0 58) = (τ.1 0 58) := h192.2.2.1.2 58 (by decide); have f4 : (τ192.1 0 60) = (τ.1 0 60) := h192.2.2.1.2 60 (by decide); have f5 : (τ192.1 0 63) = -1 := (h192.2.2.1.2 63 (by decide)).trans c1.1.2.2.2
    refine jr_aload_n C dX11_readCond_195 rfl ?_
    refine jr_getr C kf_X11_120_0 dX11_readCond_196 ?_
    refine jr_aload_n C dX11_readCond_199 rfl ?_
    refine jr_geti C kf_X11_320_0 dX11_readCond_200 ?_
    refine jr_iload C dX11_readCond_203 rfl ?_
    refine jr_nif_eq C 213 dX11_readCond_205 (by decide) (fun b205 => ?_) (fun b205 => ?_)
    · refine jr_bipush C (v := -5) dX11_readCond_213 (by decide) ?_
      refine jr_iast C ka_M_36 dX11_readCond_215 (ji_in (i := (τ192.1 0 56)) (by omega) (by omega)) ?_
      refine jr_aload_n C dX11_readCond_216 rfl ?_
      refine jr_dup C dX11_readCond_217 rfl ?_
      refine jr_geti C kf_X11_320_0 dX11_readCond_218 ?_
      refine jr_iconst C (v := 1) dX11_readCond_221 (by decide) ?_
      refine jr_iadd C dX11_readCond_222 ?_
      refine jr_puti C kp_X11_320_0 dX11_readCond_223 ?_
      refine jr_iconst C (v := 1) dX11_readCond_226 (by decide) ?_
      refine jr_istore_n C dX11_readCond_227 (by decide) ?_
      refine jr_aload_n C dX11_readCond_228 rfl ?_
      refine jr_vv C [] _ (ct_X11_next2 E _ a n (tk_t a n f) (show (τ192.1 37) = a from f2) (show ((τ192.1 0 58)).toInt = (n : Int) by rw [f3]; exact c1.1.2.1) hn (show (τ192.1 0 63) = -1 from f5) (show ((τ192.1 0 60)).toInt = _ by rw [f4]; exact c1.2.2.2.1) (tk_t_ok fle).2.1) ky_X11_next kv_X11_next kk_M_0 km_X11_314 (by decide) rfl (Nat.le_of_ble_eq_true rfl) dX11_readCond_229 (fun τ229 h229 => ?_)
      refine jr_goto C 280 dX11_readCond_232 (by decide) ?_
      first | exact absurd (jb_tp b182) tr | exact absurd (jb_tp b205) tr | exact jr_sub [(0, jf_r E 0), (1, .int o), (2, .int dp), (3, .int 1), (4, .int 1)] rfl (D280 τ192 τ229 h192 h229)
    · refine jr_bipush C (v := -4) dX11_readCond_208 (by decide) ?_
      refine jr_goto C 215 dX11_readCond_210 (by decide) ?_
      refine jr_iast C ka_M_36 dX11_readCond_215 (ji_in (i := (τ192.1 0 56)) (by omega) (by omega)) ?_
      refine jr_aload_n C dX11_readCond_216 rfl ?_
      refine jr_dup C dX11_readCond_217 rfl ?_
      refine jr_geti C kf_X11_320_0 dX11_readCond_218 ?_
      refine jr_iconst C (v := 1) dX11_readCond_221 (by decide) ?_
      refine jr_iadd C dX11_readCond_222 ?_
      refine jr_puti C kp_X11_320_0 dX11_readCond_223 ?_
      refine jr_iconst C (v := 1) dX11_readCond_226 (by decide) ?_
      refine jr_istore_n C dX11_readCond_227 (by decide) ?_
      refine jr_aload_n C dX11_readCond_228 rfl ?_
      refine jr_vv C [] _ (ct_X11_next2 E _ a n (tk_t a n f) (show (τ192.1 37) = a from f2) (show ((τ192.1 0 58)).toInt = (n : Int) by rw [f3]; exact c1.1.2.1) hn (show (τ192.1 0 63) = -1 from f5) (show ((τ192.1 0 60)).toInt = _ by rw [f4]; exact c1.2.2.2.1) (tk_t_ok fle).2.1) ky_X11_next kv_X11_next kk_M_0 km_X11_314 (by decide) rfl (Nat.le_of_ble_eq_true rfl) dX11_readCond_229 (fun τ229 h229 => ?_)
      refine jr_goto C 280 dX11_readCond_232 (by decide) ?_
      first | exact absurd (jb_tp b182) tr | exact absurd (jb_tp b205) tr | exact jr_sub [(0, jf_r E 0), (1, .int o), (2, .int dp), (3, .int 1), (4, .int 1)] rfl (D280 τ192 τ229 h192 h229)
  · refine jr_bipush C (v := -4) dX11_readCond_185 (by decide) ?_
    refine jr_goto C 192 dX11_readCond_187 (by decide) ?_
    refine jr_vv C [.int _] _ (ct_X11_settle2 E _ _ S P0 K c2 c3 (by first | exact hS | exact absurd (jb_tp b182) tr) (by first | exact hq | exact absurd (jb_tp b182) tr) cap) ky_X11_settle kv_X11_settle kk_M_0 km_X11_340 (by decide) rfl (Nat.le_of_ble_eq_true rfl) dX11_readCond_192 (fun τ192 h192 => ?_)
    have f1 := h192.1.1; have f2 : (τ192.1 37) = a := (h192.2.2.1.1 37 (by decide) (by decide)).trans c1.1.1; have f3 : (τ192.1 0 58) = (τ.1 0 58) := h192.2.2.1.2 58 (by decide); have f4 : (τ192.1 0 60) = (τ.1 0 60) := h192.2.2.1.2 60 (by decide); have f5 : (τ192.1 0 63) = -1 := (h192.2.2.1.2 63 (by decide)).trans c1.1.2.2.2
    refine jr_aload_n C dX11_readCond_195 rfl ?_
    refine jr_getr C kf_X11_120_0 dX11_readCond_196 ?_
    refine jr_aload_n C dX11_readCond_199 rfl ?_
    refine jr_geti C kf_X11_320_0 dX11_readCond_200 ?_
    refine jr_iload C dX11_readCond_203 rfl ?_
    refine jr_nif_eq C 213 dX11_readCond_205 (by decide) (fun b205 => ?_) (fun b205 => ?_)
    · refine jr_bipush C (v := -5) dX11_readCond_213 (by decide) ?_
      refine jr_iast C ka_M_36 dX11_readCond_215 (ji_in (i := (τ192.1 0 56)) (by omega) (by omega)) ?_
      refine jr_aload_n C dX11_readCond_216 rfl ?_
      refine jr_dup C dX11_readCond_217 rfl ?_
      refine jr_geti C kf_X11_320_0 dX11_readCond_218 ?_
      refine jr_iconst C (v := 1) dX11_readCond_221 (by decide) ?_
      refine jr_iadd C dX11_readCond_222 ?_
      refine jr_puti C kp_X11_320_0 dX11_readCond_223 ?_
      refine jr_iconst C (v := 1) dX11_readCond_226 (by decide) ?_
      refine jr_istore_n C dX11_readCond_227 (by decide) ?_
      refine jr_aload_n C dX11_readCond_228 rfl ?_
      refine jr_vv C [] _ (ct_X11_next2 E _ a n (tk_t a n f) (show (τ192.1 37) = a from f2) (show ((τ192.1 0 58)).toInt = (n : Int) by rw [f3]; exact c1.1.2.1) hn (show (τ192.1 0 63) = -1 from f5) (show ((τ192.1 0 60)).toInt = _ by rw [f4]; exact c1.2.2.2.1) (tk_t_ok fle).2.1) ky_X11_next kv_X11_next kk_M_0 km_X11_314 (by decide) rfl (Nat.le_of_ble_eq_true rfl) dX11_readCond_229 (fun τ229 h229 => ?_)
      refine jr_goto C 280 dX11_readCond_232 (by decide) ?_
      first | exact absurd (jb_tp b182) tr | exact absurd (jb_tp b205) tr | exact jr_sub [(0, jf_r E 0), (1, .int o), (2, .int dp), (3, .int 1), (4, .int 1)] rfl (D280 τ192 τ229 h192 h229)
    · refine jr_bipush C (v := -4) dX11_readCond_208 (by decide) ?_
      refine jr_goto C 215 dX11_readCond_210 (by decide) ?_
      refine jr_iast C ka_M_36 dX11_readCond_215 (ji_in (i := (τ192.1 0 56)) (by omega) (by omega)) ?_
      refine jr_aload_n C dX11_readCond_216 rfl ?_
      refine jr_dup C dX11_readCond_217 rfl ?_
      refine jr_geti C kf_X11_320_0 dX11_readCond_218 ?_
      refine jr_iconst C (v := 1) dX11_readCond_221 (by decide) ?_
      refine jr_iadd C dX11_readCond_222 ?_
      refine jr_puti C kp_X11_320_0 dX11_readCond_223 ?_
      refine jr_iconst C (v := 1) dX11_readCond_226 (by decide) ?_
      refine jr_istore_n C dX11_readCond_227 (by decide) ?_
      refine jr_aload_n C dX11_readCond_228 rfl ?_
      refine jr_vv C [] _ (ct_X11_next2 E _ a n (tk_t a n f) (show (τ192.1 37) = a from f2) (show ((τ192.1 0 58)).toInt = (n : Int) by rw [f3]; exact c1.1.2.1) hn (show (τ192.1 0 63) = -1 from f5) (show ((τ192.1 0 60)).toInt = _ by rw [f4]; exact c1.2.2.2.1) (tk_t_ok fle).2.1) ky_X11_next kv_X11_next kk_M_0 km_X11_314 (by decide) rfl (Nat.le_of_ble_eq_true rfl) dX11_readCond_229 (fun τ229 h229 => ?_)
      refine jr_goto C 280 dX11_readCond_232 (by decide) ?_
      first | exact absurd (jb_tp b182) tr | exact absurd (jb_tp b205) tr | exact jr_sub [(0, jf_r E 0), (1, .int o), (2, .int dp), (3, .int 1), (4, .int 1)] rfl (D280 τ192 τ229 h192 h229)
theorem rc_keep (E : jf_E) (G : jf_G) (σ : jf_S) (a : Nat → Int32) (n : Nat) (hn : n ≤ 300) (C : jf_C jh_M E G 6 cX11_readCond yX11_readCond.cls 4) : ∀ (τ υ : jf_S) (f : Nat) (w : Int32), m_N a n f τ υ w → (∀ P, m_pl τ P → m_pl υ P) ∧ (∀ K, m_mk τ K → m_mk υ K) ∧ mS_g [34, 36] mJ_cond τ υ := by
  intro τ υ f w N
  rcases N with ⟨-, q⟩ | ⟨-, -, q⟩ | ⟨-, -, q, -⟩
  · rw [q]; exact ⟨fun _ h => h, fun _ h => h, mS_g_r τ⟩
  · rw [q]; exact ⟨fun _ h => m_pl_f h, fun _ h => m_mk_f h, mS_g_i (mS_g_i (mS_g_r τ) (by decide)) (by decide)⟩
  · exact ⟨fun _ h => m_pl_n q h, fun _ h => m_mk_n q h, mS_g_n q (by decide)⟩
theorem rc_S235 (E : jf_E) (G : jf_G) (σ : jf_S) (a : Nat → Int32) (n : Nat) (hn : n ≤ 300) (C : jf_C jh_M E G 6 cX11_readCond yX11_readCond.cls 4) : ∀ (τ : jf_S) (j : Nat) (S P0 K : List Int32) (f : Nat) (o dp : Int32), mS_g [34, 36] mJ_cond σ τ → m_C a n τ (S ++ (-6 :: (List.replicate j (-3) ++ P0))) K f o dp → (∀ z ∈ S, ¬ z.toInt = -6 ∧ -5 ≤ z.toInt) → q_h3 P0 → (tk_sb a n f 41 = true → ∀ (τ' : jf_S) (o' dp' : Int32), mS_g [34, 36] mJ_cond σ τ' → m_C a n τ' P0 (K ++ S ++ List.replicate j (-3)) (tk_x a n f) o' dp' → jf_X jh_M E G 6 14 [(0, jf_r E 0), (1, .int o'), (2, .int dp'), (3, .int 0), (4, .int 1)] [] τ') → (¬ tk_sb a n f 41 = true → ∀ (τ' : jf_S) (o' dp' : Int32), mS_g [34, 36] mJ_cond σ τ' → ¬ ((τ'.1 0 64)).toInt = 0 → ((τ'.1 0 63)).toInt = (f : Int) → jf_X jh_M E G 6 14 [(0, jf_r E 0), (1, .int o'), (2, .int dp'), (3, .int 0), (4, .int 1)] [] τ') → jf_X jh_M E G 6 235 [(0, jf_r E 0), (1, .int o), (2, .int dp), (3, .int 0), (4, .int 1)] [] τ := by
  intro τ j S P0 K f o dp z c hS h3 gd bd
  obtain ⟨c1, c2, c3, c4, c5, c6, c7⟩ := c
  have ln : (S ++ (-6 :: (List.replicate j (-3) ++ P0))).length = S.length + (j + P0.length + 1) := by rw [List.length_append, List.length_cons, List.length_append, List.length_replicate]
  have ln2 : (-6 :: (List.replicate j (-3) ++ P0)).length = j + P0.length + 1 := by rw [List.length_cons, List.length_append, List.length_replicate]
  have fle := c1.2.1
  have cap0 : S.length + (-6 :: (List.replicate j (-3) ++ P0)).length + K.length ≤ 300 := by rw [ln2]; omega
  have x1 := tk_x_ok (a := a) fle
  have oo : cO (S ++ (-6 :: (List.replicate j (-3) ++ P0))) = cO P0 + 1 := by
    rw [cO_app (fun z hz => (hS z hz).1)]
    show cO (List.replicate j (-3) ++ P0) + 1 = _
    rw [cO_rep]
  have o1 : 0 < o.toInt := by rw [c5, oo]; exact Int.natCast_pos.mpr (Nat.succ_pos _)
  have ol := cO_le P0
  have ol2 := cN_le P0
  have eo : (o + Int32.ofInt (-1)).toInt = o.toInt - 1 := ji_dec (by omega)
  have D280 : ∀ (ρ υ : jf_S) (w : Int32), (tk_sb a n f 41 = true → ¬ w.toInt = 0) → (¬ tk_sb a n f 41 = true → w.toInt = 0) → m_N a n f τ ρ w → m_pl υ (-6 :: (List.replicate j (-3) ++ P0)) ∧ m_mk υ (K ++ S) ∧ mS_g [34] [51, 56] ρ υ ∧ υ.2 = ρ.2 → jf_X jh_M E G 6 280 [(0, jf_r E 0), (1, .int (o + Int32.ofInt (-1))), (2, .int dp), (3, .int 0), (4, .int 1)] [] (jf_i υ 0 56 ((υ.1 0 56) - 1)) := by
    intro ρ υ w w1 w2 N hs
    obtain ⟨i1, i2, i3⟩ := hs
    obtain ⟨t1, t2, t3⟩ := m_pl_top i1 (by rw [List.length_append, List.length_replicate]; omega)
    have kp := (rc_keep E G σ a n hn C) τ ρ f w N
    have zu : mS_g [34, 36] mJ_cond σ υ := mS_g_t (mS_g_t z kp.2.2) (mS_g_m i3.1 (by decide) (by decide))
    refine (rc_J280 E G σ a n hn C) (jf_i υ 0 56 ((υ.1 0 56) - 1)) j P0 (K ++ S) _ dp 1 ⟨t3, t2⟩ ⟨i2.1, i2.2⟩ h3 (by rw [List.length_append]; omega) (fun υ' dp' k1 k2 k3 k4 => ?_)
    have zz : mS_g [34, 36] mJ_cond σ υ' := mS_g_t (mS_g_i zu (by decide)) (mS_g_m k4.1 (by decide) (by decide))
    by_cases q : tk_sb a n f 41 = true
    · obtain ⟨y1, y2⟩ : mS_n τ ρ ∧ m_tk a n ρ (tk_x a n f) := by
        rcases N with ⟨r, -⟩ | ⟨-, r, -⟩ | ⟨-, -, r⟩
        · exact absurd c4 r
        · exact absurd r (w1 q)
        · exact r
      have y3 : m_tk a n (jf_i υ 0 56 ((υ.1 0 56) - 1)) (tk_x a n f) := m_tk_f (τ := υ) ⟨mS_g_i (mS_g_r υ) (by decide), rfl⟩ (m_tk_f i3 y2)
      have hfn := (tk_sb_i.mp q).1
      refine gd q υ' _ dp' zz ⟨m_tk_f k4 y3, k1, k2, ?_, ?_, k3, ?_⟩
      · rw [k4.1.2 64 (by decide)]
        show ((υ.1 0 64)).toInt = 0
        rw [i3.1.2 64 (by decide), y1.2 64 (by decide) (by decide) (by decide)]; exact c4
      · rw [eo, c5, oo]; omega
      · rw [List.length_append, List.length_append, List.length_replicate]; omega
    · have e : ρ = jf_i (jf_i τ 0 64 1) 0 63 ((τ.1 0 59)) := by
        rcases N with ⟨r, -⟩ | ⟨-, -, r⟩ | ⟨-, r, -⟩
        · exact absurd c4 r
        · exact r
        · exact absurd (w2 q) r
      refine bd q υ' _ dp' zz ?_ ?_
      · rw [k4.1.2 64 (by decide)]
        show ¬ ((υ.1 0 64)).toInt = 0
        rw [i3.1.2 64 (by decide), e]; show ¬ (1 : Int32).toInt = 0; decide
      · rw [k4.1.2 63 (by decide)]
        show ((υ.1 0 63)).toInt = _
        rw [i3.1.2 63 (by decide), e]; exact c1.2.2.1
  refine jr_iload_n C dX11_readCond_235 rfl ?_
  refine jr_nif_le C 271 dX11_readCond_236 (by decide) (fun b236 => ?_) (fun b236 => ?_)
  · refine jr_aload_n C dX11_readCond_271 rfl ?_
    refine jr_bipush C (v := -5) dX11_readCond_272 (by decide) ?_
    refine jr_vv C [.int _] _ (ct_X11_settle2 E _ _ [] [] [] (absurd b236 (Int.not_le.mpr o1)) (absurd b236 (Int.not_le.mpr o1)) (absurd b236 (Int.not_le.mpr o1)) (absurd b236 (Int.not_le.mpr o1)) (absurd b236 (Int.not_le.mpr o1))) ky_X11_settle kv_X11_settle kk_M_0 km_X11_340 (by decide) rfl (Nat.le_of_ble_eq_true rfl) dX11_readCond_274 (fun τ274 h274 => ?_)
    refine jr_iconst C (v := 0) dX11_readCond_277 (by decide) ?_
    refine jr_istore C dX11_readCond_278 (by decide) ?_
    first | exact absurd b236 (Int.not_le.mpr o1) | exact jr_sub [(0, jf_r E 0), (1, .int _), (2, .int dp), (3, .int 0), (4, .int 1)] rfl (D280 τ246 τ252 _ (fun q w => jb_fp w ((ms_41 c1).mpr q)) (fun q => by rw [← jb_ff (fun w => q ((ms_41 c1).mp w))]; rfl) h246 h252)
  · refine jr_aload_n C dX11_readCond_239 rfl ?_
    refine jr_aload_n C dX11_readCond_240 rfl ?_
    refine jr_bipush C (v := 41) dX11_readCond_241 (by decide) ?_
    refine jr_vip C [.int _] _ (ct_X11_isSign2 E _ _) ky_X11_isSign kv_X11_isSign kk_M_0 km_X11_330 (by decide) rfl (Nat.le_of_ble_eq_true rfl) dX11_readCond_243 ?_
    refine jr_vv C [.int _] _ (ct_X11_must2 E _ _ a n f (fun _ => c1)) ky_X11_must kv_X11_must kk_M_0 km_X11_333 (by decide) rfl (Nat.le_of_ble_eq_true rfl) dX11_readCond_246 (fun τ246 h246 => ?_)
    refine jr_aload_n C dX11_readCond_249 rfl ?_
    refine jr_bipush C (v := -5) dX11_readCond_250 (by decide) ?_
    refine jr_vv C [.int _] _ (ct_X11_settle2 E _ _ S (-6 :: (List.replicate j (-3) ++ P0)) K (((rc_keep E G σ a n hn C) _ _ _ _ h246).1 _ c2) (((rc_keep E G σ a n hn C) _ _ _ _ h246).2.1 _ c3) (show ∀ x ∈ S, ¬ x.toInt = -6 ∧ (-5 : Int32).toInt ≤ x.toInt from hS) (Or.inr ⟨-6, _, rfl, Or.inl rfl⟩) cap0) ky_X11_settle kv_X11_settle kk_M_0 km_X11_340 (by decide) rfl (Nat.le_of_ble_eq_true rfl) dX11_readCond_252 (fun τ252 h252 => ?_)
    refine jr_aload_n C dX11_readCond_255 rfl ?_
    refine jr_dup C dX11_readCond_256 rfl ?_
    refine jr_geti C kf_X11_320_0 dX11_readCond_257 ?_
    refine jr_iconst C (v := 1) dX11_readCond_260 (by decide) ?_
    refine jr_isub C dX11_readCond_261 ?_
    refine jr_puti C kp_X11_320_0 dX11_readCond_262 ?_
    refine jr_iinc C _ dX11_readCond_265 rfl rfl (by decide) ?_
    refine jr_goto C 280 dX11_readCond_268 (by decide) ?_
    first | exact absurd b236 (Int.not_le.mpr o1) | exact jr_sub [(0, jf_r E 0), (1, .int _), (2, .int dp), (3, .int 0), (4, .int 1)] rfl (D280 τ246 τ252 _ (fun q w => jb_fp w ((ms_41 c1).mpr q)) (fun q => by rw [← jb_ff (fun w => q ((ms_41 c1).mp w))]; rfl) h246 h252)
theorem rc_U (E : jf_E) (G : jf_G) (σ : jf_S) (a : Nat → Int32) (n : Nat) (hn : n ≤ 300) (C : jf_C jh_M E G 6 cX11_readCond yX11_readCond.cls 4) : ∀ (τ : jf_S) (g : Nat) (o dp : Int32), m_tk a n τ g → ((τ.1 0 64)).toInt = 0 → (((tk_wb a n g qA = true ∨ (¬ tk_wb a n g qA = true ∧ tk_wb a n g qO = true)) → jf_X jh_M E G 6 164 [(0, jf_r E 0), (1, .int o), (2, .int dp), (3, .int 0), (4, .int 1)] [] τ) ∧ (¬ tk_wb a n g qA = true → ¬ tk_wb a n g qO = true → jf_X jh_M E G 6 235 [(0, jf_r E 0), (1, .int o), (2, .int dp), (3, .int 0), (4, .int 1)] [] τ)) → jf_X jh_M E G 6 14 [(0, jf_r E 0), (1, .int o), (2, .int dp), (3, .int 0), (4, .int 1)] [] τ := by
  intro τ g o dp c1 c4 hh
  refine (rc_U133 E G σ a n hn C) τ o dp c4 ?_
  refine jr_aload_n C dX11_readCond_133 rfl ?_
  refine jr_bipush C (v := 97) dX11_readCond_134 (by decide) ?_
  refine jr_bipush C (v := 110) dX11_readCond_136 (by decide) ?_
  refine jr_bipush C (v := 100) dX11_readCond_138 (by decide) ?_
  refine jr_iconst C (v := 0) dX11_readCond_140 (by decide) ?_
  refine jr_iconst C (v := 0) dX11_readCond_141 (by decide) ?_
  refine jr_iconst C (v := 0) dX11_readCond_142 (by decide) ?_
  refine jr_vip C [.int _, .int _, .int _, .int _, .int _, .int _] _ (ct_X11_isWord2 E _ _ _ _ _ _ _) ky_X11_isWord kv_X11_isWord kk_M_0 km_X11_326 (by decide) rfl (Nat.le_of_ble_eq_true rfl) dX11_readCond_143 ?_
  refine jr_if_ne C 164 dX11_readCond_146 (by decide) (fun b146 => ?_) (fun b146 => ?_)
  · replace b146 := jb_t b146
    rw [mw_and c1] at b146
    first | exact hh.1 (Or.inl b146) | exact hh.1 (Or.inr ⟨b146, b161⟩)
  · replace b146 := jb_f b146
    rw [mw_and c1] at b146
    refine jr_aload_n C dX11_readCond_149 rfl ?_
    refine jr_bipush C (v := 111) dX11_readCond_150 (by decide) ?_
    refine jr_bipush C (v := 114) dX11_readCond_152 (by decide) ?_
    refine jr_iconst C (v := 0) dX11_readCond_154 (by decide) ?_
    refine jr_iconst C (v := 0) dX11_readCond_155 (by decide) ?_
    refine jr_iconst C (v := 0) dX11_readCond_156 (by decide) ?_
    refine jr_iconst C (v := 0) dX11_readCond_157 (by decide) ?_
    refine jr_vip C [.int _, .int _, .int _, .int _, .int _, .int _] _ (ct_X11_isWord2 E _ _ _ _ _ _ _) ky_X11_isWord kv_X11_isWord kk_M_0 km_X11_326 (by decide) rfl (Nat.le_of_ble_eq_true rfl) dX11_readCond_158 ?_
    refine jr_if_eq C 235 dX11_readCond_161 (by decide) (fun b161 => ?_) (fun b161 => ?_)
    · replace b161 := jb_f b161
      rw [mw_or c1] at b161
      exact hh.2 b146 b161
    · replace b161 := jb_t b161
      rw [mw_or c1] at b161
      first | exact hh.1 (Or.inl b146) | exact hh.1 (Or.inr ⟨b146, b161⟩)
theorem ct_X11_readCond2 (E : jf_E) (σ : jf_S) (a : Nat → Int32) (n f : Nat) (hk : m_tk a n σ f) (hb : ((σ.1 0 64)).toInt = 0) (hm : m_mk σ []) (hf : 1 ≤ f) : jf_V jh_M E yX11_readCond cX11_readCond 6 4 [jf_r E 0] σ (fun τ => (∀ r, q_cond a n (q_not a n 8) f = .inl r → m_tk a n τ r.1 ∧ ((τ.1 0 64)).toInt = 0 ∧ m_mk τ r.2) ∧ (∀ e, q_cond a n (q_not a n 8) f = .inr e → ¬ ((τ.1 0 64)).toInt = 0 ∧ ((τ.1 0 63)).toInt = (e : Int)) ∧ mS_g [34, 36] mJ_cond σ τ) := by
  refine jf_mkV (by decide) (Nat.le_of_ble_eq_true rfl) ?_
  intro G C ret
  have hn := hk.1.2.2.1
  have XB : ∀ (τ : jf_S) (o dp w mo : Int32) (e : Nat), mS_g [34, 36] mJ_cond σ τ → ¬ ((τ.1 0 64)).toInt = 0 → ((τ.1 0 63)).toInt = (e : Int) → q_cond a n (q_not a n 8) f = .inr e → jf_X jh_M E G 6 14 [(0, jf_r E 0), (1, .int o), (2, .int dp), (3, .int w), (4, .int mo)] [] τ := by
    intro τ o dp w mo e z b1 b2 hq
    have fin : (∀ r, q_cond a n (q_not a n 8) f = .inl r → m_tk a n τ r.1 ∧ ((τ.1 0 64)).toInt = 0 ∧ m_mk τ r.2) ∧ (∀ e, q_cond a n (q_not a n 8) f = .inr e → ¬ ((τ.1 0 64)).toInt = 0 ∧ ((τ.1 0 63)).toInt = (e : Int)) ∧ mS_g [34, 36] mJ_cond σ τ := ⟨fun r hr => (by rw [hq] at hr; cases hr), fun e' he => (by rw [hq] at he; cases he; exact ⟨b1, b2⟩), z⟩
    refine jr_iload C dX11_readCond_14 rfl ?_
    refine jr_nif_eq C 289 dX11_readCond_16 (by decide) (fun _ => ?_) (fun _ => ?_)
    · exact ret _ _ _ dX11_readCond_289 (fin)
    · refine jr_aload_n C dX11_readCond_19 rfl ?_
      refine jr_geti C kf_X11_310_0 dX11_readCond_20 ?_
      refine jr_nif_ne C 289 dX11_readCond_23 (by decide) (fun _ => ?_) (fun b => absurd b b1)
      exact ret _ _ _ dX11_readCond_289 (fin)
  have E235 : ∀ (τ : jf_S) (S K : List Int32) (g : Nat) (o dp : Int32), mS_g [34, 36] mJ_cond σ τ → m_C a n τ (S ++ []) K g o dp → (∀ z ∈ S, ¬ z.toInt = -6 ∧ -5 ≤ z.toInt) → (∀ (τ' : jf_S), mS_g [34, 36] mJ_cond σ τ' → m_tk a n τ' g → ((τ'.1 0 64)).toInt = 0 → m_mk τ' (K ++ S) → (∀ r, q_cond a n (q_not a n 8) f = .inl r → m_tk a n τ' r.1 ∧ ((τ'.1 0 64)).toInt = 0 ∧ m_mk τ' r.2) ∧ (∀ e, q_cond a n (q_not a n 8) f = .inr e → ¬ ((τ'.1 0 64)).toInt = 0 ∧ ((τ'.1 0 63)).toInt = (e : Int)) ∧ mS_g [34, 36] mJ_cond σ τ') → jf_X jh_M E G 6 235 [(0, jf_r E 0), (1, .int o), (2, .int dp), (3, .int 0), (4, .int 1)] [] τ := by
    intro τ S K g o dp z c hS fin
    obtain ⟨c1, c2, c3, c4, c5, c6, c7⟩ := c
    have ln : (S ++ ([] : List Int32)).length = S.length := by rw [List.append_nil]
    have fle := c1.2.1
    have oo : cO (S ++ []) = 0 := cO_app (fun z hz => (hS z hz).1)
    rw [oo] at c5
    have o0 : o.toInt ≤ 0 := Int.le_of_eq c5
    have D280 : ∀ (υ : jf_S), m_pl υ [] ∧ m_mk υ (K ++ S) ∧ mS_g [34] [51, 56] τ υ ∧ υ.2 = τ.2 → jf_X jh_M E G 6 280 [(0, jf_r E 0), (1, .int o), (2, .int dp), (3, .int 0), (4, .int 0)] [] υ := by
      intro υ hs
      obtain ⟨i1, i2, i3⟩ := hs
      refine (rc_J280 E G σ a n hn C) υ 0 [] (K ++ S) o dp 0 i1 i2 (Or.inl rfl) (by rw [List.length_append]; show 0 + 0 + _ ≤ _; omega) (fun υ' dp' k1 k2 k3 k4 => ?_)
      have zz : mS_g [34, 36] mJ_cond σ υ' := mS_g_t (mS_g_t z (mS_g_m i3.1 (by decide) (by decide))) (mS_g_m k4.1 (by decide) (by decide))
      rw [List.replicate_zero, List.append_nil] at k2
      have ff := fin υ' zz (m_tk_f k4 (m_tk_f i3 c1)) (by rw [k4.1.2 64 (by decide), i3.1.2 64 (by decide)]; exact c4) k2
      refine jr_iload C dX11_readCond_14 rfl ?_
      refine jr_nif_eq C 289 dX11_readCond_16 (by decide) (fun _ => ?_) (fun b => absurd rfl b)
      exact ret _ _ _ dX11_readCond_289 (ff)
    refine jr_iload_n C dX11_readCond_235 rfl ?_
    refine jr_nif_le C 271 dX11_readCond_236 (by decide) (fun b236 => ?_) (fun b236 => ?_)
    · refine jr_aload_n C dX11_readCond_271 rfl ?_
      refine jr_bipush C (v := -5) dX11_readCond_272 (by decide) ?_
      refine jr_vv C [.int _] _ (ct_X11_settle2 E _ _ S [] K c2 c3 (show ∀ x ∈ S, ¬ x.toInt = -6 ∧ (-5 : Int32).toInt ≤ x.toInt from hS) (Or.inl rfl) (by show _ + 0 + _ ≤ _; omega)) ky_X11_settle kv_X11_settle kk_M_0 km_X11_340 (by decide) rfl (Nat.le_of_ble_eq_true rfl) dX11_readCond_274 (fun τ274 h274 => ?_)
      refine jr_iconst C (v := 0) dX11_readCond_277 (by decide) ?_
      refine jr_istore C dX11_readCond_278 (by decide) ?_
      first | exact absurd o0 b236 | exact jr_sub [(0, jf_r E 0), (1, .int o), (2, .int dp), (3, .int 0), (4, .int 0)] rfl (D280 τ274 h274)
    · refine jr_aload_n C dX11_readCond_239 rfl ?_
      refine jr_aload_n C dX11_readCond_240 rfl ?_
      refine jr_bipush C (v := 41) dX11_readCond_241 (by decide) ?_
      refine jr_vip C [.int _] _ (ct_X11_isSign2 E _ _) ky_X11_isSign kv_X11_isSign kk_M_0 km_X11_330 (by decide) rfl (Nat.le_of_ble_eq_true rfl) dX11_readCond_243 ?_
      refine jr_vv C [.int _] _ (ct_X11_must2 E _ _ a n g (fun _ => c1)) ky_X11_must kv_X11_must kk_M_0 km_X11_333 (by decide) rfl (Nat.le_of_ble_eq_true rfl) dX11_readCond_246 (fun τ246 h246 => ?_)
      refine jr_aload_n C dX11_readCond_249 rfl ?_
      refine jr_bipush C (v := -5) dX11_readCond_250 (by decide) ?_
      refine jr_vv C [.int _] _ (ct_X11_settle2 E _ _ [] [] [] (absurd o0 b236) (absurd o0 b236) (absurd o0 b236) (absurd o0 b236) (absurd o0 b236)) ky_X11_settle kv_X11_settle kk_M_0 km_X11_340 (by decide) rfl (Nat.le_of_ble_eq_true rfl) dX11_readCond_252 (fun τ252 h252 => ?_)
      refine jr_aload_n C dX11_readCond_255 rfl ?_
      refine jr_dup C dX11_readCond_256 rfl ?_
      refine jr_geti C kf_X11_320_0 dX11_readCond_257 ?_
      refine jr_iconst C (v := 1) dX11_readCond_260 (by decide) ?_
      refine jr_isub C dX11_readCond_261 ?_
      refine jr_puti C kp_X11_320_0 dX11_readCond_262 ?_
      refine jr_iinc C _ dX11_readCond_265 rfl rfl (by decide) ?_
      refine jr_goto C 280 dX11_readCond_268 (by decide) ?_
      first | exact absurd o0 b236 | exact jr_sub [(0, jf_r E 0), (1, .int o), (2, .int dp), (3, .int 0), (4, .int 0)] rfl (D280 τ274 h274)
  have H : sim_H a n (fun (x : jf_S × Int32 × Int32) P K g => mS_g [34, 36] mJ_cond σ x.1 ∧ m_C a n x.1 P K g x.2.1 x.2.2) (fun x => jf_X jh_M E G 6 14 [(0, jf_r E 0), (1, .int x.2.1), (2, .int x.2.2), (3, .int 1), (4, .int 1)] [] x.1) (fun x => jf_X jh_M E G 6 14 [(0, jf_r E 0), (1, .int x.2.1), (2, .int x.2.2), (3, .int 0), (4, .int 1)] [] x.1) (fun x e => mS_g [34, 36] mJ_cond σ x.1 ∧ ¬ (((x.1).1 0 64)).toInt = 0 ∧ (((x.1).1 0 63)).toInt = (e : Int)) := by
    refine ⟨?_, ?_, ?_, ?_, ?_, ?_⟩
    · intro x P K g t c tok lt gd
      exact (rc_P30 E G σ a n hn C) x.1 P K g x.2.1 x.2.2 t c.1 c.2 tok (fun _ τ' o' dp' z m => gd (τ', o', dp') ⟨z, m⟩) (fun h => absurd lt h)
    · intro x P K g c tok ge bd
      rcases tok with q | q
      · exact (rc_P30 E G σ a n hn C) x.1 P K g x.2.1 x.2.2 (-3) c.1 c.2 (Or.inl ⟨rfl, q⟩) (fun h => absurd h ge) (fun _ τ' o' dp' z b1 b2 => bd (τ', o', dp') ⟨z, b1, b2⟩)
      · exact (rc_P30 E G σ a n hn C) x.1 P K g x.2.1 x.2.2 (-6) c.1 c.2 (Or.inr ⟨rfl, q⟩) (fun h => absurd h ge) (fun _ τ' o' dp' z b1 b2 => bd (τ', o', dp') ⟨z, b1, b2⟩)
    · intro x j P0 K g c h3 w1 w2 gd bd
      exact (rc_P124 E G σ a n hn C) x.1 j P0 K g x.2.1 x.2.2 c.1 c.2 h3 w1 w2 (fun r hr τ' o' dp' z m => gd r hr (τ', o', dp') ⟨z, m⟩) (fun e he τ' o' dp' z b1 b2 => bd e he (τ', o', dp') ⟨z, b1, b2⟩)
    · intro x S P0 K g t c tok hS hq gd
      refine (rc_U E G σ a n hn C) x.1 g x.2.1 x.2.2 c.2.1 c.2.2.2.2.1 ⟨fun _ => ?_, fun n1 n2 => ?_⟩
      · rcases tok with ⟨q1, q2⟩ | ⟨q1, q2, q3⟩
        · subst q1
          exact (rc_A164 E G σ a n hn C) x.1 S P0 K g x.2.1 x.2.2 c.1 c.2 q2 hS hq (fun τ' o' dp' z m => gd (τ', o', dp') ⟨z, m⟩)
        · subst q1
          exact (rc_O164 E G σ a n hn C) x.1 S P0 K g x.2.1 x.2.2 c.1 c.2 q2 q3 hS hq (fun τ' o' dp' z m => gd (τ', o', dp') ⟨z, m⟩)
      · exfalso
        rcases tok with ⟨-, q2⟩ | ⟨-, -, q3⟩
        · exact n1 q2
        · exact n2 q3
    · intro x j S P0 K g c na no hS h3 q gd
      refine (rc_U E G σ a n hn C) x.1 g x.2.1 x.2.2 c.2.1 c.2.2.2.2.1 ⟨fun w => ?_, fun _ _ => ?_⟩
      · exfalso
        rcases w with w | w
        · exact na w
        · exact no w.2
      · exact (rc_S235 E G σ a n hn C) x.1 j S P0 K g x.2.1 x.2.2 c.1 c.2 hS h3 (fun _ τ' o' dp' z m => gd (τ', o', dp') ⟨z, m⟩) (fun h => absurd q h)
    · intro x j S P0 K g c na no hS h3 q bd
      refine (rc_U E G σ a n hn C) x.1 g x.2.1 x.2.2 c.2.1 c.2.2.2.2.1 ⟨fun w => ?_, fun _ _ => ?_⟩
      · exfalso
        rcases w with w | w
        · exact na w
        · exact no w.2
      · exact (rc_S235 E G σ a n hn C) x.1 j S P0 K g x.2.1 x.2.2 c.1 c.2 hS h3 (fun h => absurd h q) (fun _ τ' o' dp' z b1 b2 => bd (τ', o', dp') ⟨z, b1, b2⟩)
  have go : jf_X jh_M E G 6 14 [(0, jf_r E 0), (1, .int 0), (2, .int 0), (3, .int 1), (4, .int 1)] [] (jf_i σ 0 56 0) := by
    refine sim_cond a n _ _ _ _ H hn (sim_all a n _ _ _ _ H hn 8) (x := (jf_i σ 0 56 0, 0, 0)) (Q := []) (K0 := []) (f := f) ⟨mS_g_i (mS_g_r σ) (by decide), hk, ⟨rfl, fun i hi => absurd hi (Nat.not_lt_zero i)⟩, hm, hb, rfl, rfl, by show 0 + 0 + 1 ≤ f; omega⟩ hk.2.1 (Or.inl rfl) rfl (fun r hr y S' o' hy he hs hna hno hr1 => ?_) (fun e he y hy => ⟨XB y.1 y.2.1 y.2.2 1 1 e hy.1 hy.2.1 hy.2.2 he, XB y.1 y.2.1 y.2.2 0 1 e hy.1 hy.2.1 hy.2.2 he⟩)
    refine (rc_U E G σ a n hn C) y.1 r.1 y.2.1 y.2.2 hy.2.1 hy.2.2.2.2.1 ⟨fun w => ?_, fun _ _ => ?_⟩
    · exfalso
      rcases w with w | w
      · exact hna w
      · exact hno w.2
    · have hS : ∀ z ∈ S', ¬ z.toInt = -6 ∧ -5 ≤ z.toInt := by
        intro z hz
        rcases hs with s | s | s | s
        · rw [s] at hz; cases hz
        · rw [s] at hz; rw [List.mem_singleton.mp hz]; exact ⟨by decide, by decide⟩
        · rw [s] at hz; rw [List.mem_singleton.mp hz]; exact ⟨by decide, by decide⟩
        · rw [s] at hz
          rcases List.mem_cons.mp hz with h | h
          · rw [h]; exact ⟨by decide, by decide⟩
          · rw [List.mem_singleton.mp h]; exact ⟨by decide, by decide⟩
      refine E235 y.1 S' ([] ++ o') r.1 y.2.1 y.2.2 hy.1 hy.2 hS (fun τ' z k b m => ⟨fun r' hr' => ?_, fun e he' => ?_, z⟩)
      · rw [hr] at hr'
        cases hr'
        rw [List.nil_append, he] at m
        exact ⟨k, b, m⟩
      · rw [hr] at he'; cases he'
  refine jr_aload_n C dX11_readCond_0 rfl ?_
  refine jr_iconst C (v := 0) dX11_readCond_1 (by decide) ?_
  refine jr_puti C kp_X11_320_0 dX11_readCond_2 ?_
  refine jr_iconst C (v := 0) dX11_readCond_5 (by decide) ?_
  refine jr_istore_n C dX11_readCond_6 (by decide) ?_
  refine jr_iconst C (v := 0) dX11_readCond_7 (by decide) ?_
  refine jr_istore_n C dX11_readCond_8 (by decide) ?_
  refine jr_iconst C (v := 1) dX11_readCond_9 (by decide) ?_
  refine jr_istore_n C dX11_readCond_10 (by decide) ?_
  refine jr_iconst C (v := 1) dX11_readCond_11 (by decide) ?_
  refine jr_istore C dX11_readCond_12 (by decide) ?_
  exact jr_sub [(0, jf_r E 0), (1, .int 0), (2, .int 0), (3, .int 1), (4, .int 1)] rfl go

