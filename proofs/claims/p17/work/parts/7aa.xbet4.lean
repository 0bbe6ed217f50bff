/-! the class: BETTER exactly: the search and the changes -/
def g_hx (V : Nat → Nat → Int32) (n : Nat) (s h : Int32) (M i : Nat) (c : Int32 × Int32 × Int32 × Int32) : Int32 × Int32 × Int32 × Int32 := if i ≤ M then g_ho V n s h i c else g_try V n s h (V 17 s.toNatClampNeg) (g_ho V n s h M c)
theorem g_hx_s {V V' : Nat → Nat → Int32} {n n' M i : Nat} {s h b : Int32} {c q q' : Int32 × Int32 × Int32 × Int32} (hV : V' = V) (hn : n' = n) (hq : q = g_hx V n s h M i c) (e : q' = g_try V' n' s h b q) (hb : b = V 22 i) (hi : i < M) : q' = g_hx V n s h M (i + 1) c := by
  have h1 : g_hx V n s h M i c = g_ho V n s h i c := if_pos (by omega)
  have h2 : g_hx V n s h M (i + 1) c = g_ho V n s h (i + 1) c := if_pos (by omega)
  rw [e, hV, hn, hb, hq, h1, h2]; rfl
theorem g_hx_l {V V' : Nat → Nat → Int32} {n n' M i : Nat} {s h b : Int32} {c q q' : Int32 × Int32 × Int32 × Int32} (hV : V' = V) (hn : n' = n) (hq : q = g_hx V n s h M i c) (e : q' = g_try V' n' s h b q) (hb : b = V 17 s.toNatClampNeg) (hi : i = M) : q' = g_hx V n s h M (i + 1) c := by
  have h1 : g_hx V n s h M i c = g_ho V n s h i c := if_pos (by omega)
  have h2 : g_hx V n s h M (i + 1) c = g_try V n s h (V 17 s.toNatClampNeg) (g_ho V n s h M c) := if_neg (by omega)
  rw [e, hV, hn, hb, hq, h1, h2, hi]
theorem g_hx_e {V : Nat → Nat → Int32} {n M i j : Nat} {s h : Int32} {c q : Int32 × Int32 × Int32 × Int32} (hq : q = g_hx V n s h M i (g_ha V n M s j c)) (hi : i = M + 1) (hh : h = nI j) : q = g_ha V n M s (j + 1) c := by
  rw [hq, show g_hx V n s h M i (g_ha V n M s j c) = g_try V n s h (V 17 s.toNatClampNeg) (g_ho V n s h M (g_ha V n M s j c)) from if_neg (by omega), hh]; rfl
theorem g_sh_y {V : Nat → Nat → Int32} {n M H i j : Nat} {s : Int32} {c q : Int32 × Int32 × Int32 × Int32} (hs : s = nI i) (hi : ¬ (V 14 i).toInt = 0) (hj : j = H) (hq : q = g_ha V n M s j (g_sh V n M H i c)) : q = g_sh V n M H (i + 1) c := by
  rw [hq, hj, g_sh, if_neg hi, hs]
theorem g_sh_n {V : Nat → Nat → Int32} {n M H i : Nat} {c q : Int32 × Int32 × Int32 × Int32} (hi : (V 14 i).toInt = 0) (hq : q = g_sh V n M H i c) : q = g_sh V n M H (i + 1) c := by
  rw [hq, g_sh, if_pos hi]
def x_M (σ : jf_S) : Nat := ((σ.1 5 8)).toNatClampNeg
def x_H (σ : jf_S) : Nat := ((σ.1 1 5)).toNatClampNeg
def x_c0 (σ : jf_S) (x y : Int32) : Int32 × Int32 × Int32 × Int32 := (g_grid (x_G σ) (x_N σ), -1, x, y)
def x_R0 (σ τ : jf_S) : Prop := xS_w σ τ ∧ xW τ ∧ x_bk σ τ ((σ.1 3 8)).toInt
def x_R (σ τ : jf_S) (s : Int32) : Prop := x_R0 σ τ ∧ x_wk σ τ s.toNatClampNeg ((σ.1 3 8)).toInt
theorem xS_w_n {σ τ : jf_S} (h : xS_w σ τ) : x_N τ = x_N σ := by unfold x_N; rw [xS_w_e h]
theorem x_wk_self {σ τ : jf_S} {s : Nat} (h : xS_w σ τ) (k : x_wk σ τ s ((σ.1 3 8)).toInt) : x_wk τ τ s ((τ.1 3 8)).toInt := by
  unfold x_wk
  rw [xS_w_G h, xS_w_n h, xS_w_t' h, xS_w_e h]
  exact k
theorem x_bk_self {σ τ : jf_S} (h : xS_w σ τ) (k : x_bk σ τ ((σ.1 3 8)).toInt) : x_bk τ τ ((τ.1 3 8)).toInt := by
  unfold x_bk
  rw [xS_w_G h, xS_w_n h, xS_w_t' h, xS_w_e h]
  exact k
theorem x_R_5 {σ τ υ : jf_S} {s : Int32} (z : x_R σ τ s) (h : xS_5 τ υ) (w : xW τ → xW υ) : x_R σ υ s := by
  refine ⟨⟨xS_w_t z.1.1 (xS_5_w h), w z.1.2.1, ?_⟩, ?_⟩
  · unfold x_bk; rw [h.2.1 35 (by decide)]; exact z.1.2.2
  · unfold x_wk; rw [h.2.1 36 (by decide)]; exact z.2
theorem x_R_36 {σ τ υ : jf_S} {s : Int32} (z : x_R0 σ τ) (h : xS_36 τ υ) (k : x_wk τ υ s.toNatClampNeg ((τ.1 3 8)).toInt) : x_R σ υ s := by
  refine ⟨⟨xS_w_t z.1 (xS_36_w h), ?_, ?_⟩, ?_⟩
  · unfold xW; rw [h.2 5 (by decide)]; exact z.2.1
  · unfold x_bk; rw [h.2 35 (by decide)]; exact z.2.2
  · unfold x_wk at k ⊢
    rw [xS_w_G z.1, xS_w_n z.1, xS_w_t' z.1, xS_w_e z.1] at k
    exact k
theorem x_q_36 {τ υ : jf_S} (h : xS_36 τ υ) : x_q υ = x_q τ := by unfold x_q; rw [h.2 5 (by decide)]
theorem ct_X9_findBestChange2 (E : jf_E) (σ : jf_S) (hI : xI σ) (hN : xN σ) (hg : gI (x_G σ)) (hH : xH σ) (hm : 0 ≤ ((σ.1 1 5)).toInt ∧ ((σ.1 1 5)).toInt ≤ 4) : jf_I jh_X E yX9_findBestChange cX9_findBestChange 5 .boolean 4 [jf_r E 5] σ (fun r τ => ((r = 0 ∨ r = 1) ∧ (r = 0 ↔ ((τ.1 5 10)).toInt = -1)) ∧ xS_w σ τ ∧ xW τ ∧ ∃ x y : Int32, x_q τ = g_sh (x_G σ) (x_N σ) (x_M σ) (x_H σ) (x_N σ) (x_c0 σ x y)) := by
  refine jf_mkI (by decide) (Nat.le_of_ble_eq_true rfl) ?_
  intro G C ret
  have hE := hI.1
  have hh := hH.1
  have te := ji_tn hE.1
  have tm := ji_tn hh.1
  have tH := ji_tn hm.1
  have l59 : ∀ (m : Nat) (τ : jf_S) (s q h i x y : Int32), x_R σ τ s → 0 ≤ i.toInt → i.toInt ≤ ((σ.1 5 8)).toInt + 1 → ((σ.1 5 8)).toInt + 1 - i.toInt < m → (0 ≤ s.toInt ∧ s.toInt < ((σ.1 3 8)).toInt) → (¬ ((σ.1 31) s.toNatClampNeg).toInt = 0) → (0 ≤ h.toInt ∧ h.toInt < ((σ.1 1 5)).toInt) → (q = g_rest (x_G σ) (x_N σ) s.toNatClampNeg) → (x_q τ = g_hx (x_G σ) (x_N σ) s h (x_M σ) i.toNatClampNeg (g_ha (x_G σ) (x_N σ) (x_M σ) s h.toNatClampNeg (g_sh (x_G σ) (x_N σ) (x_M σ) (x_H σ) s.toNatClampNeg (x_c0 σ x y)))) → (∀ υ : jf_S, x_R σ υ s → x_q υ = g_ha (x_G σ) (x_N σ) (x_M σ) s (h.toNatClampNeg + 1) (g_sh (x_G σ) (x_N σ) (x_M σ) (x_H σ) s.toNatClampNeg (x_c0 σ x y)) → jf_X jh_X E G 5 45 [(0, jf_r E 5), (1, .int s), (2, .int q), (3, .int (h + Int32.ofInt 1))] [] υ) → jf_X jh_X E G 5 59 [(0, jf_r E 5), (1, .int s), (2, .int q), (3, .int h), (4, .int i)] [] τ := by
    intro m
    induction m with
    | zero => intro τ s q h i x y z g1 g2 g3 x1 x2 x3 x4 x5 x6; exfalso; omega
    | succ m ih =>
      intro τ s q h i x y z g1 g2 g3 x1 x2 x3 x4 x5 x6
      have e1 := ji_inc (k := i) (by omega)
      have hT := xS_w_I z.1.1 hI
      have hM := xS_w_N z.1.1 hN
      have hU := xS_w_H z.1.1 hH
      have ti := ji_tn g1
      have c1 := congrArg Int32.toInt (xS_w_h z.1.1)
      have c2 := congrArg Int32.toInt (xS_w_e z.1.1)
      have GG := xS_w_G z.1.1
      have NN := xS_w_n z.1.1
      have v22 : ∀ k : Nat, (τ.1 34) k = x_G σ 22 k := fun k => congrFun (congrFun GG 22) k
      have v17 : (τ.1 27) s.toNatClampNeg = x_G σ 17 s.toNatClampNeg := congrFun (congrFun GG 17) s.toNatClampNeg
      refine jr_iload C dX9_findBestChange_59 rfl ?_
      refine jr_aload_n C dX9_findBestChange_61 rfl ?_
      refine jr_getv C kf_X9_24_5 dX9_findBestChange_62 (v := τ.1 5 8) rfl ?_
      refine jr_ncmp_gt C 109 dX9_findBestChange_65 (by decide) rfl rfl (fun b65 => ?_) (fun b65 => ?_)
      · refine jr_iinc C _ dX9_findBestChange_109 rfl rfl (by decide) ?_
        refine jr_goto C 45 dX9_findBestChange_112 (by decide) ?_
        exact jr_sub [(0, jf_r E 5), (1, .int s), (2, .int q), (3, .int (h + Int32.ofInt 1))] rfl (x6 _ z (g_hx_e x5 (by unfold x_M; omega) (ji_nI x3.1)))
      · refine jr_aload_n C dX9_findBestChange_68 rfl ?_
        refine jr_iload_n C dX9_findBestChange_69 rfl ?_
        refine jr_iload_n C dX9_findBestChange_70 rfl ?_
        refine jr_iload C dX9_findBestChange_71 rfl ?_
        refine jr_aload_n C dX9_findBestChange_73 rfl ?_
        refine jr_getv C kf_X9_24_5 dX9_findBestChange_74 (v := τ.1 5 8) rfl ?_
        refine jr_ncmp_ge C 90 dX9_findBestChange_77 (by decide) rfl rfl (fun b77 => ?_) (fun b77 => ?_)
        · refine jr_aload_n C dX9_findBestChange_90 rfl ?_
          refine jr_getr C kf_X9_36_5 dX9_findBestChange_91 ?_
          refine jr_getr C kf_X9_101_3 dX9_findBestChange_94 ?_
          refine jr_iload_n C dX9_findBestChange_97 rfl ?_
          refine jr_ialv C ka_X_27 dX9_findBestChange_98 (ji_in (i := s) (by omega) (by omega)) (v := τ.1 27 _) rfl ?_
          refine jr_iload_n C dX9_findBestChange_99 rfl ?_
          refine jr_vv C [.int _, .int _, .int _, .int _] _ (ct_X9_tryAt2 E _ _ _ _ _ hT hM (by rw [GG]; exact hg) (by omega) (by rw [xS_w_t' z.1.1]; exact x2) (by omega) (by first | exact hU.2 _ | exact hT.2.2.2.2 _) (by rw [GG, NN]; exact x4) (x_wk_self z.1.1 z.2)) ky_X9_tryAt kv_X9_tryAt kk_X_5 km_X9_104 (by decide) rfl (Nat.le_of_ble_eq_true rfl) dX9_findBestChange_100 (fun τ100 h100 => ?_)
          refine jr_iinc C _ dX9_findBestChange_103 rfl rfl (by decide) ?_
          refine jr_goto C 59 dX9_findBestChange_106 (by decide) ?_
          exact jr_sub [(0, jf_r E 5), (1, .int _), (2, .int _), (3, .int _), (4, .int _)] rfl (ih _ _ _ _ _ _ _ (x_R_5 z h100.1 h100.2.1) (by omega) (by omega) (by omega) x1 x2 x3 x4 (by rw [g_sc g1 e1]; first | exact g_hx_s GG NN x5 h100.2.2 (v22 _) (by unfold x_M; omega) | exact g_hx_l GG NN x5 h100.2.2 v17 (by unfold x_M; omega)) x6)
        · refine jr_aload_n C dX9_findBestChange_80 rfl ?_
          refine jr_getr C kf_X9_15_5 dX9_findBestChange_81 ?_
          refine jr_iload C dX9_findBestChange_84 rfl ?_
          refine jr_ialv C ka_X_34 dX9_findBestChange_86 (ji_in (i := i) (by omega) (by omega)) (v := τ.1 34 _) rfl ?_
          refine jr_goto C 99 dX9_findBestChange_87 (by decide) ?_
          refine jr_iload_n C dX9_findBestChange_99 rfl ?_
          refine jr_vv C [.int _, .int _, .int _, .int _] _ (ct_X9_tryAt2 E _ _ _ _ _ hT hM (by rw [GG]; exact hg) (by omega) (by rw [xS_w_t' z.1.1]; exact x2) (by omega) (by first | exact hU.2 _ | exact hT.2.2.2.2 _) (by rw [GG, NN]; exact x4) (x_wk_self z.1.1 z.2)) ky_X9_tryAt kv_X9_tryAt kk_X_5 km_X9_104 (by decide) rfl (Nat.le_of_ble_eq_true rfl) dX9_findBestChange_100 (fun τ100 h100 => ?_)
          refine jr_iinc C _ dX9_findBestChange_103 rfl rfl (by decide) ?_
          refine jr_goto C 59 dX9_findBestChange_106 (by decide) ?_
          exact jr_sub [(0, jf_r E 5), (1, .int _), (2, .int _), (3, .int _), (4, .int _)] rfl (ih _ _ _ _ _ _ _ (x_R_5 z h100.1 h100.2.1) (by omega) (by omega) (by omega) x1 x2 x3 x4 (by rw [g_sc g1 e1]; first | exact g_hx_s GG NN x5 h100.2.2 (v22 _) (by unfold x_M; omega) | exact g_hx_l GG NN x5 h100.2.2 v17 (by unfold x_M; omega)) x6)
  have l45 : ∀ (m : Nat) (τ : jf_S) (s q h x y : Int32), x_R σ τ s → 0 ≤ h.toInt → h.toInt ≤ ((σ.1 1 5)).toInt → ((σ.1 1 5)).toInt - h.toInt < m → (0 ≤ s.toInt ∧ s.toInt < ((σ.1 3 8)).toInt) → (¬ ((σ.1 31) s.toNatClampNeg).toInt = 0) → (q = g_rest (x_G σ) (x_N σ) s.toNatClampNeg) → (x_q τ = g_ha (x_G σ) (x_N σ) (x_M σ) s h.toNatClampNeg (g_sh (x_G σ) (x_N σ) (x_M σ) (x_H σ) s.toNatClampNeg (x_c0 σ x y))) → (∀ υ : jf_S, x_R0 σ υ → x_q υ = g_sh (x_G σ) (x_N σ) (x_M σ) (x_H σ) (s.toNatClampNeg + 1) (x_c0 σ x y) → jf_X jh_X E G 5 11 [(0, jf_r E 5), (1, .int (s + Int32.ofInt 1))] [] υ) → jf_X jh_X E G 5 45 [(0, jf_r E 5), (1, .int s), (2, .int q), (3, .int h)] [] τ := by
    intro m
    induction m with
    | zero => intro τ s q h x y z g1 g2 g3 x1 x2 x3 x4 x5; exfalso; omega
    | succ m ih =>
      intro τ s q h x y z g1 g2 g3 x1 x2 x3 x4 x5
      have e1 := ji_inc (k := h) (by omega)
      have c1 := congrArg Int32.toInt (xS_w_m z.1.1)
      have th := ji_tn g1
      refine jr_iload_n C dX9_findBestChange_45 rfl ?_
      refine jr_aload_n C dX9_findBestChange_46 rfl ?_
      refine jr_getr C kf_X9_28_5 dX9_findBestChange_47 ?_
      refine jr_getv C kf_X9_96_1 dX9_findBestChange_50 (v := τ.1 1 5) rfl ?_
      refine jr_ncmp_ge C 115 dX9_findBestChange_53 (by decide) rfl rfl (fun b53 => ?_) (fun b53 => ?_)
      · refine jr_iinc C _ dX9_findBestChange_115 rfl rfl (by decide) ?_
        refine jr_goto C 11 dX9_findBestChange_118 (by decide) ?_
        exact jr_sub [(0, jf_r E 5), (1, .int (s + Int32.ofInt 1))] rfl (x5 _ z.1 (g_sh_y (ji_nI x1.1) x2 (by unfold x_H; omega) x4))
      · refine jr_iconst C (v := 0) dX9_findBestChange_56 (by decide) ?_
        refine jr_istore C dX9_findBestChange_57 (by decide) ?_
        exact jr_sub [(0, jf_r E 5), (1, .int s), (2, .int q), (3, .int h), (4, .int 0)] rfl (l59 12 _ _ _ _ _ x y z (by decide) (by show (0 : Int) ≤ _; omega) (by show _ - (0 : Int) < _; omega) x1 x2 ⟨by omega, by omega⟩ x3 (by rw [x4]; rfl) (fun υ hz hq => jr_sub [(0, jf_r E 5), (1, .int s), (2, .int q), (3, .int _)] rfl (ih _ _ _ _ x y hz (by omega) (by omega) (by omega) x1 x2 x3 (by rw [g_sc g1 e1]; exact hq) x5)))
  have l11 : ∀ (m : Nat) (τ : jf_S) (s x y : Int32), x_R0 σ τ → 0 ≤ s.toInt → s.toInt ≤ ((σ.1 3 8)).toInt → ((σ.1 3 8)).toInt - s.toInt < m → (x_q τ = g_sh (x_G σ) (x_N σ) (x_M σ) (x_H σ) s.toNatClampNeg (x_c0 σ x y)) → jf_X jh_X E G 5 11 [(0, jf_r E 5), (1, .int s)] [] τ := by
    intro m
    induction m with
    | zero => intro τ s x y z g1 g2 g3 x1; exfalso; omega
    | succ m ih =>
      intro τ s x y z g1 g2 g3 x1
      have e1 := ji_inc (k := s) (by omega)
      have hT := xS_w_I z.1 hI
      have hM := xS_w_N z.1 hN
      have tz := ji_tn g1
      have c1 := congrArg Int32.toInt (xS_w_e z.1)
      have c3 : (τ.1 31) s.toNatClampNeg = x_G σ 14 s.toNatClampNeg := congrFun (congrFun (xS_w_G z.1) 14) s.toNatClampNeg
      refine jr_iload_n C dX9_findBestChange_11 rfl ?_
      refine jr_aload_n C dX9_findBestChange_12 rfl ?_
      refine jr_getr C kf_X9_36_5 dX9_findBestChange_13 ?_
      refine jr_getv C kf_X9_61_3 dX9_findBestChange_16 (v := τ.1 3 8) rfl ?_
      refine jr_ncmp_ge C 121 dX9_findBestChange_19 (by decide) rfl rfl (fun b19 => ?_) (fun b19 => ?_)
      · refine jr_aload_n C dX9_findBestChange_121 rfl ?_
        refine jr_getv C kf_X9_77_5 dX9_findBestChange_122 (v := τ.1 5 10) rfl ?_
        refine jr_iconst C (v := -1) dX9_findBestChange_125 (by decide) ?_
        refine jr_ncmp_eq C (b := -1) 133 dX9_findBestChange_126 (by decide) rfl rfl (fun b126 => ?_) (fun b126 => ?_)
        · refine jr_iconst C (v := 0) dX9_findBestChange_133 (by decide) ?_
          exact ret _ _ _ _ dX9_findBestChange_134 (rfl) (by (have es : s.toNatClampNeg = x_N σ := by unfold x_N; omega); rw [es] at x1; first | exact ⟨⟨by decide, fun _ => by omega, fun _ => rfl⟩, z.1, z.2.1, x, y, x1⟩ | exact ⟨⟨by decide, fun h => absurd h (by decide), fun h => by omega⟩, z.1, z.2.1, x, y, x1⟩)
        · refine jr_iconst C (v := 1) dX9_findBestChange_129 (by decide) ?_
          refine jr_goto C 134 dX9_findBestChange_130 (by decide) ?_
          exact ret _ _ _ _ dX9_findBestChange_134 (rfl) (by (have es : s.toNatClampNeg = x_N σ := by unfold x_N; omega); rw [es] at x1; first | exact ⟨⟨by decide, fun _ => by omega, fun _ => rfl⟩, z.1, z.2.1, x, y, x1⟩ | exact ⟨⟨by decide, fun h => absurd h (by decide), fun h => by omega⟩, z.1, z.2.1, x, y, x1⟩)
      · refine jr_aload_n C dX9_findBestChange_22 rfl ?_
        refine jr_getr C kf_X9_36_5 dX9_findBestChange_23 ?_
        refine jr_getr C kf_X9_66_3 dX9_findBestChange_26 ?_
        refine jr_iload_n C dX9_findBestChange_29 rfl ?_
        refine jr_zalv C ka_X_31 dX9_findBestChange_30 (ji_in (i := s) (by omega) (by omega)) (v := τ.1 31 _) rfl ?_
        refine jr_nif_ne C 37 dX9_findBestChange_31 (by decide) (fun b31 => ?_) (fun b31 => ?_)
        · refine jr_aload_n C dX9_findBestChange_37 rfl ?_
          refine jr_iload_n C dX9_findBestChange_38 rfl ?_
          refine jr_vi C [.int _] _ (ct_X9_gridWithout2 E _ _ hT hM ⟨by omega, by omega⟩ b31 (x_bk_self z.1 z.2.2)) ky_X9_gridWithout kv_X9_gridWithout kk_X_5 km_X9_93 (by decide) rfl (Nat.le_of_ble_eq_true rfl) dX9_findBestChange_39 (fun r39 τ39 h39 => ?_)
          refine jr_istore_n C dX9_findBestChange_42 (by decide) ?_
          refine jr_iconst C (v := 0) dX9_findBestChange_43 (by decide) ?_
          refine jr_istore_n C dX9_findBestChange_44 (by decide) ?_
          exact jr_sub [(0, jf_r E 5), (1, .int s), (2, .int _), (3, .int 0)] rfl (l45 5 _ _ _ _ x y (x_R_36 z h39.2.1 h39.2.2) (by decide) hm.1 (by show _ - (0 : Int) < _; omega) ⟨by omega, by omega⟩ (by rw [← xS_w_t' z.1]; exact b31) (by rw [h39.1, xS_w_G z.1, xS_w_n z.1]) (by rw [x_q_36 h39.2.1, x1]; rfl) (fun υ hz hq => jr_sub [(0, jf_r E 5), (1, .int _)] rfl (ih _ _ x y hz (by omega) (by omega) (by omega) (by rw [g_sc g1 e1]; exact hq))))
        · refine jr_goto C 115 dX9_findBestChange_34 (by decide) ?_
          refine jr_iinc C _ dX9_findBestChange_115 rfl rfl (by decide) ?_
          refine jr_goto C 11 dX9_findBestChange_118 (by decide) ?_
          exact jr_sub [(0, jf_r E 5), (1, .int _)] rfl (ih _ _ _ _ z (by omega) (by omega) (by omega) (by rw [g_sc g1 e1]; exact g_sh_n (V := x_G σ) (by rw [← c3]; exact b31) x1))
  refine jr_aload_n C dX9_findBestChange_0 rfl ?_
  refine jr_vv C [] _ (ct_X9_countBeside2 E _ hI hN) ky_X9_countBeside kv_X9_countBeside kk_X_5 km_X9_90 (by decide) rfl (Nat.le_of_ble_eq_true rfl) dX9_findBestChange_1 (fun τ1 h1 => ?_)
  refine jr_aload_n C dX9_findBestChange_4 rfl ?_
  refine jr_iconst C (v := -1) dX9_findBestChange_5 (by decide) ?_
  refine jr_puti C kp_X9_77_5 dX9_findBestChange_6 ?_
  refine jr_iconst C (v := 0) dX9_findBestChange_9 (by decide) ?_
  refine jr_istore_n C dX9_findBestChange_10 (by decide) ?_
  exact jr_sub [(0, jf_r E 5), (1, .int 0)] rfl (l11 61 _ 0 ((τ1.1 5 11)) ((τ1.1 5 12)) ⟨xS_w_5 h1.1 (by decide), Or.inl rfl, h1.2.2⟩ (by decide) hE.1 (by show _ - (0 : Int) < _; omega) (by show ((τ1.1 5 9), (-1 : Int32), (τ1.1 5 11), (τ1.1 5 12)) = (g_grid (x_G σ) (x_N σ), (-1 : Int32), (τ1.1 5 11), (τ1.1 5 12)); rw [h1.2.1]))

