/-! the class: what BETTER reckons, exactly -/
theorem x_cell_n : ∀ i, i < 23 → i ≠ 0 → x_cell.getD i 0 ≠ 5 ∧ x_cell.getD i 0 ≠ 35 ∧ x_cell.getD i 0 ≠ 36 ∧ x_cell.getD i 0 ≠ 28 ∧ x_cell.getD i 0 ≠ 0 := by decide
theorem xS_w_G {σ τ : jf_S} (h : xS_w σ τ) : x_G τ = x_G σ := g_V_eq (fun i h1 h2 => h.2.1 _ (x_cell_n i h1 h2).1 (x_cell_n i h1 h2).2.1 (x_cell_n i h1 h2).2.2.1)
theorem xS_w_N {σ τ : jf_S} (h : xS_w σ τ) (hN : xN σ) : xN τ := by
  unfold xN
  rw [xS_w_G h, xS_w_e h, h.2.1 28 (by decide) (by decide) (by decide)]
  exact hN
theorem xS_w_t' {σ τ : jf_S} (h : xS_w σ τ) : (τ.1 31) = (σ.1 31) := h.2.1 31 (by decide) (by decide) (by decide)
theorem x_share_g2 {σ : jf_S} {f b : Int32} {c : Nat} (hc : c ≤ 100) : x_share σ f b (nI c) = g_alone (x_G σ) f b / (1 + nI c) := by
  have e : (nI c).toInt = (c : Int) := nI_toInt (by omega)
  unfold x_share
  split
  · rfl
  · have : c = 0 := by omega
    subst this
    exact (g_div1 _).symm
theorem x_worth_g {σ : jf_S} {s : Int32} {c : Nat} (hc : c ≤ 100) : x_worth σ s (nI c) = g_W (x_G σ) c s.toNatClampNeg := by
  unfold x_worth
  rw [x_share_g2 hc, g_min_x]; rfl
def x_N (σ : jf_S) : Nat := ((σ.1 3 8)).toNatClampNeg
theorem x_N_60 {σ : jf_S} (hI : xI σ) : x_N σ ≤ 60 := by
  have te := ji_tn hI.1.1
  have := hI.1.2
  unfold x_N
  omega
/-- how many run beside each, as the class keeps it -/
def x_bk (σ τ : jf_S) (o : Int) : Prop := ∀ j : Nat, (j : Int) < o → ¬ ((σ.1 31) j).toInt = 0 → (τ.1 35) j = nI (jx_ct (g_pn (x_G σ) j) (x_N σ))
theorem x_bk_0 {σ τ : jf_S} {o o1 : Int32} (h : x_bk σ τ o.toInt) (e : o1.toInt = o.toInt + 1) (g : 0 ≤ o.toInt) (ht : ((σ.1 31) o.toNatClampNeg).toInt = 0) : x_bk σ τ o1.toInt := by
  intro j hj hn
  have to := ji_tn g
  by_cases c : j = o.toNatClampNeg
  · exact absurd (by rw [c]; exact ht) hn
  · exact h j (by omega) hn
theorem x_bk_1 {σ τ : jf_S} {o o1 r v : Int32} (h : x_bk σ τ o.toInt) (e : o1.toInt = o.toInt + 1) (g : 0 ≤ o.toInt) (hr : r = nI (jx_ct (g_pn (x_G σ) o.toNatClampNeg) (x_N σ))) : x_bk σ (jf_i (jf_i τ 35 o.toNatClampNeg r) 5 9 v) o1.toInt := by
  intro j hj hn
  have to := ji_tn g
  show (jf_i (jf_i τ 35 o.toNatClampNeg r) 5 9 v).1 35 j = _
  rw [jf_i_o 35 (by decide)]
  by_cases c : j = o.toNatClampNeg
  · rw [c, jf_i_same]; exact hr
  · rw [jf_i_ne c]; exact h j (by omega) hn
theorem g_w_0 {V : Nat → Nat → Int32} {n k : Nat} {a : Int32} (h : (V 14 k).toInt = 0) (e : a = gs (g_w V n) k) : a = gs (g_w V n) (k + 1) := by
  rw [gs, ← e, show g_w V n k = 0 from if_pos h, Int32.add_zero]
theorem x_cb_1 {σ τ : jf_S} {o r : Int32} (hI : xI σ) (hw : xS_w σ τ) (h : (τ.1 5 9) = gs (g_w (x_G σ) (x_N σ)) o.toNatClampNeg) (hr : r = nI (jx_ct (g_pn (x_G σ) o.toNatClampNeg) (x_N σ))) (ht : ¬ ((σ.1 31) o.toNatClampNeg).toInt = 0) : (τ.1 5 9) + x_worth (jf_i τ 35 o.toNatClampNeg r) o ((jf_i τ 35 o.toNatClampNeg r).1 35 o.toNatClampNeg) = gs (g_w (x_G σ) (x_N σ)) (o.toNatClampNeg + 1) := by
  have hc := jx_ct_le (g_pn (x_G σ) o.toNatClampNeg) (x_N σ)
  have h6 := x_N_60 hI
  rw [gs, ← h, jf_i_same, hr, x_worth_g (by omega), xS_w_G (xS_w_35 hw), show g_w (x_G σ) (x_N σ) o.toNatClampNeg = g_worth (x_G σ) (x_N σ) o.toNatClampNeg from if_neg ht]
  rfl
theorem ct_X9_countBeside2 (E : jf_E) (σ : jf_S) (hI : xI σ) (hN : xN σ) : jf_V jh_X E yX9_countBeside cX9_countBeside 2 3 [jf_r E 5] σ (fun τ => xS_w σ τ ∧ (τ.1 5 9) = g_grid (x_G σ) (x_N σ) ∧ x_bk σ τ ((σ.1 3 8)).toInt) := by
  refine jf_mkV (by decide) (Nat.le_of_ble_eq_true rfl) ?_
  intro G C ret
  have hE := hI.1
  have lp : ∀ (m : Nat) (τ : jf_S) (o : Int32), xS_w σ τ → 0 ≤ o.toInt → o.toInt ≤ ((σ.1 3 8)).toInt → ((σ.1 3 8)).toInt - o.toInt < m → ((τ.1 5 9) = gs (g_w (x_G σ) (x_N σ)) o.toNatClampNeg) → (x_bk σ τ o.toInt) → jf_X jh_X E G 2 7 [(0, jf_r E 5), (1, .int o)] [] τ := by
    intro m
    induction m with
    | zero => intro τ o z g1 g2 g3 x1 x2; exfalso; omega
    | succ m ih =>
      intro τ o z g1 g2 g3 x1 x2
      have e1 := ji_inc (k := o) (by omega)
      have hT := xS_w_I z hI
      have hM := xS_w_N z hN
      have c1 := congrArg Int32.toInt (xS_w_e z)
      have c2 : ((τ.1 31) o.toNatClampNeg).toInt = 0 → ((σ.1 31) o.toNatClampNeg).toInt = 0 := fun h => by rw [← xS_w_t' z]; exact h
      have c3 : ¬ ((τ.1 31) o.toNatClampNeg).toInt = 0 → ¬ ((σ.1 31) o.toNatClampNeg).toInt = 0 := fun h => by rw [← xS_w_t' z]; exact h
      refine jr_iload_n C dX9_countBeside_7 rfl ?_
      refine jr_aload_n C dX9_countBeside_8 rfl ?_
      refine jr_getr C kf_X9_36_5 dX9_countBeside_9 ?_
      refine jr_getv C kf_X9_61_3 dX9_countBeside_12 (v := τ.1 3 8) rfl ?_
      refine jr_ncmp_ge C 67 dX9_countBeside_15 (by decide) rfl rfl (fun b15 => ?_) (fun b15 => ?_)
      · exact ret _ _ _ dX9_countBeside_67 (by (have eo : o = (σ.1 3 8) := Int32.toInt_inj.mp (by omega)); rw [eo] at x1 x2; exact ⟨z, x1, x2⟩)
      · refine jr_aload_n C dX9_countBeside_18 rfl ?_
        refine jr_getr C kf_X9_36_5 dX9_countBeside_19 ?_
        refine jr_getr C kf_X9_66_3 dX9_countBeside_22 ?_
        refine jr_iload_n C dX9_countBeside_25 rfl ?_
        refine jr_zalv C ka_X_31 dX9_countBeside_26 (ji_in (i := o) (by omega) (by omega)) (v := τ.1 31 _) rfl ?_
        refine jr_nif_eq C 61 dX9_countBeside_27 (by decide) (fun b27 => ?_) (fun b27 => ?_)
        · refine jr_iinc C _ dX9_countBeside_61 rfl rfl (by decide) ?_
          refine jr_goto C 7 dX9_countBeside_64 (by decide) ?_
          exact jr_sub [(0, jf_r E 5), (1, .int _)] rfl (ih _ _ (by repeat' (with_reducible first | exact z | apply xS_w_35 | refine xS_w_5 ?_ (by decide))) (by omega) (by omega) (by omega) (by rw [g_sc g1 e1]; first | exact g_w_0 (V := x_G σ) (c2 b27) x1 | exact x_cb_1 hI z x1 c37 (c3 b27)) (by first | exact x_bk_0 x2 e1 g1 (c2 b27) | exact x_bk_1 x2 e1 g1 c37))
        · refine jr_aload_n C dX9_countBeside_30 rfl ?_
          refine jr_getr C kf_X9_18_5 dX9_countBeside_31 ?_
          refine jr_iload_n C dX9_countBeside_34 rfl ?_
          refine jr_aload_n C dX9_countBeside_35 rfl ?_
          refine jr_iload_n C dX9_countBeside_36 rfl ?_
          refine jr_vi C [.int _] _ (ct_X9_manyBeside2 E _ _ hT hM ⟨by omega, by omega⟩) ky_X9_manyBeside kv_X9_manyBeside kk_X_5 km_X9_50 (by decide) rfl (Nat.le_of_ble_eq_true rfl) dX9_countBeside_37 (fun r37 τ37 h37 => ?_)
          obtain ⟨q37, rfl⟩ := h37; have c37 : r37 = nI (jx_ct (g_pn (x_G σ) o.toNatClampNeg) (x_N σ)) := (by rw [q37, xS_w_G z, xS_w_e z]; rfl)
          refine jr_iast C ka_X_35 dX9_countBeside_40 (ji_in (i := o) (by omega) (by omega)) ?_
          refine jr_aload_n C dX9_countBeside_41 rfl ?_
          refine jr_dup C dX9_countBeside_42 rfl ?_
          refine jr_getv C kf_X9_108_5 dX9_countBeside_43 (v := τ.1 5 9) rfl ?_
          refine jr_aload_n C dX9_countBeside_46 rfl ?_
          refine jr_iload_n C dX9_countBeside_47 rfl ?_
          refine jr_aload_n C dX9_countBeside_48 rfl ?_
          refine jr_getr C kf_X9_18_5 dX9_countBeside_49 ?_
          refine jr_iload_n C dX9_countBeside_52 rfl ?_
          refine jr_iald C ka_X_35 dX9_countBeside_53 (ji_in (i := o) (by omega) (by omega)) ?_
          refine jr_vip C [.int _, .int _] _ (ct_X9_worth E _ _ _ (xS_w_I (xS_w_35 z) hI) ⟨by omega, by omega⟩) ky_X9_worth kv_X9_worth kk_X_5 km_X9_58 (by decide) rfl (Nat.le_of_ble_eq_true rfl) dX9_countBeside_54 ?_
          refine jr_iadd C dX9_countBeside_57 ?_
          refine jr_puti C kp_X9_108_5 dX9_countBeside_58 ?_
          refine jr_iinc C _ dX9_countBeside_61 rfl rfl (by decide) ?_
          refine jr_goto C 7 dX9_countBeside_64 (by decide) ?_
          exact jr_sub [(0, jf_r E 5), (1, .int _)] rfl (ih _ _ (by repeat' (with_reducible first | exact z | apply xS_w_35 | refine xS_w_5 ?_ (by decide))) (by omega) (by omega) (by omega) (by rw [g_sc g1 e1]; first | exact g_w_0 (V := x_G σ) (c2 b27) x1 | exact x_cb_1 hI z x1 c37 (c3 b27)) (by first | exact x_bk_0 x2 e1 g1 (c2 b27) | exact x_bk_1 x2 e1 g1 c37))
  refine jr_aload_n C dX9_countBeside_0 rfl ?_
  refine jr_iconst C (v := 0) dX9_countBeside_1 (by decide) ?_
  refine jr_puti C kp_X9_108_5 dX9_countBeside_2 ?_
  refine jr_iconst C (v := 0) dX9_countBeside_5 (by decide) ?_
  refine jr_istore_n C dX9_countBeside_6 (by decide) ?_
  exact jr_sub [(0, jf_r E 5), (1, .int _)] rfl (lp 61 _ _ (xS_w_5 (xS_w_r σ) (by decide)) (by decide) hE.1 (by show _ - 0 < _; omega) rfl (fun j hj => absurd hj (by show ¬ (j : Int) < 0; omega)))
/-- and without the one that is tried elsewhere -/
def x_wk (σ τ : jf_S) (s : Nat) (o : Int) : Prop := ∀ j : Nat, (j : Int) < o → ¬ ((σ.1 31) j).toInt = 0 → ¬ j = s → (τ.1 36) j = nI (g_rc (x_G σ) (x_N σ) s j)
theorem x_wk_0 {σ τ : jf_S} {o o1 : Int32} {s : Nat} (h : x_wk σ τ s o.toInt) (e : o1.toInt = o.toInt + 1) (g : 0 ≤ o.toInt) (ht : ((σ.1 31) o.toNatClampNeg).toInt = 0 ∨ o.toNatClampNeg = s) : x_wk σ τ s o1.toInt := by
  intro j hj hn hs
  have to := ji_tn g
  by_cases c : j = o.toNatClampNeg
  · rcases ht with q | q
    · exact absurd (by rw [c]; exact q) hn
    · exact absurd (c.trans q) hs
  · exact h j (by omega) hn hs
theorem x_wk_1 {σ τ : jf_S} {o o1 r : Int32} {s : Nat} (h : x_wk σ τ s o.toInt) (e : o1.toInt = o.toInt + 1) (g : 0 ≤ o.toInt) (hr : r = nI (g_rc (x_G σ) (x_N σ) s o.toNatClampNeg)) : x_wk σ (jf_i τ 36 o.toNatClampNeg r) s o1.toInt := by
  intro j hj hn hs
  have to := ji_tn g
  show (jf_i τ 36 o.toNatClampNeg r).1 36 j = _
  by_cases c : j = o.toNatClampNeg
  · rw [c, jf_i_same]; exact hr
  · rw [jf_i_ne c]; exact h j (by omega) hn hs
theorem g_rw_0 {V : Nat → Nat → Int32} {n x k : Nat} {a : Int32} (h : (V 14 k).toInt = 0 ∨ k = x) (e : a = gs (g_rw V n x) k) : a = gs (g_rw V n x) (k + 1) := by
  rw [gs, ← e, show g_rw V n x k = 0 from if_pos h, Int32.add_zero]
theorem x_gw_1 {σ τ : jf_S} {s : Nat} {o r n : Int32} (hI : xI σ) (hw : xS_w σ τ) (h : n = gs (g_rw (x_G σ) (x_N σ) s) o.toNatClampNeg) (hr : r = nI (g_rc (x_G σ) (x_N σ) s o.toNatClampNeg)) (ht : ¬ ((σ.1 31) o.toNatClampNeg).toInt = 0) (hs : ¬ o.toNatClampNeg = s) : n + x_worth (jf_i τ 36 o.toNatClampNeg r) o ((jf_i τ 36 o.toNatClampNeg r).1 36 o.toNatClampNeg) = gs (g_rw (x_G σ) (x_N σ) s) (o.toNatClampNeg + 1) := by
  have hc := g_rc_le (V := x_G σ) (n := x_N σ) (x := s) (s := o.toNatClampNeg)
  have h6 := x_N_60 hI
  rw [gs, ← h, jf_i_same, hr, x_worth_g (by omega), xS_w_G (xS_w_36 hw), show g_rw (x_G σ) (x_N σ) s o.toNatClampNeg = g_W (x_G σ) (g_rc (x_G σ) (x_N σ) s o.toNatClampNeg) o.toNatClampNeg from if_neg (by rintro (q | q) <;> contradiction)]
theorem nI_s1 (k : Nat) : nI (k + 1) - 1 = nI k := by rw [← nI_1, Int32.add_sub_cancel]
/-- one less where they run beside one another -/
theorem x_rc_y {σ : jf_S} {s o : Nat} {v : Int32} (hv : v = nI (jx_ct (g_pn (x_G σ) o) (x_N σ))) (hs : s < x_N σ) (hp : g_pn (x_G σ) o s = true) : v - 1 = nI (g_rc (x_G σ) (x_N σ) s o) := by
  rw [hv, g_rc_a hs, if_pos hp, nI_s1]
theorem x_rc_n {σ : jf_S} {s o : Nat} {v : Int32} (hv : v = nI (jx_ct (g_pn (x_G σ) o) (x_N σ))) (hs : s < x_N σ) (hp : g_pn (x_G σ) o s = false) : v = nI (g_rc (x_G σ) (x_N σ) s o) := by
  rw [hv, g_rc_a hs, if_neg (by rw [hp]; decide), Nat.add_zero]
theorem x_gw_y {σ τ : jf_S} {s o : Nat} (z : xS_36 σ τ) (hN : xN σ) (hB : x_bk σ σ ((σ.1 3 8)).toInt) (sN : s < x_N σ) (sE : (s : Int) < ((σ.1 3 8)).toInt) (ho : (o : Int) < ((σ.1 3 8)).toInt) (ht : ¬ ((σ.1 31) o).toInt = 0) (st : ¬ ((σ.1 31) s).toInt = 0) (hs : ¬ o = s) (h : (((τ.1 12) ((τ.1 26) o).toNatClampNeg).toInt = ((τ.1 12) ((τ.1 26) s).toNatClampNeg).toInt ∧ ((τ.1 27) o).toInt < ((τ.1 28) s).toInt ∧ ((τ.1 27) s).toInt < ((τ.1 28) o).toInt)) : (τ.1 35) o - 1 = nI (g_rc (x_G σ) (x_N σ) s o) := by
  have w9 : (τ.1 35) o = nI (jx_ct (g_pn (x_G σ) o) (x_N σ)) := by rw [z.2 35 (by decide)]; exact hB _ ho ht
  refine x_rc_y w9 sN ?_
  rw [xg_pn (hN _ ho) (hN _ sE)]
  rw [z.2 12 (by decide), z.2 26 (by decide), z.2 27 (by decide), z.2 28 (by decide)] at h
  exact decide_eq_true ⟨st, fun e => hs e.symm, h.1.symm, h.2.2, h.2.1⟩
theorem x_gw_n {σ τ : jf_S} {s o : Nat} (z : xS_36 σ τ) (hN : xN σ) (hB : x_bk σ σ ((σ.1 3 8)).toInt) (sN : s < x_N σ) (sE : (s : Int) < ((σ.1 3 8)).toInt) (ho : (o : Int) < ((σ.1 3 8)).toInt) (ht : ¬ ((σ.1 31) o).toInt = 0) (h : ¬ (((τ.1 12) ((τ.1 26) o).toNatClampNeg).toInt = ((τ.1 12) ((τ.1 26) s).toNatClampNeg).toInt ∧ ((τ.1 27) o).toInt < ((τ.1 28) s).toInt ∧ ((τ.1 27) s).toInt < ((τ.1 28) o).toInt)) : (τ.1 35) o = nI (g_rc (x_G σ) (x_N σ) s o) := by
  have w9 : (τ.1 35) o = nI (jx_ct (g_pn (x_G σ) o) (x_N σ)) := by rw [z.2 35 (by decide)]; exact hB _ ho ht
  refine x_rc_n w9 sN ?_
  rw [xg_pn (hN _ ho) (hN _ sE)]
  rw [z.2 12 (by decide), z.2 26 (by decide), z.2 27 (by decide), z.2 28 (by decide)] at h
  exact decide_eq_false (fun k => h ⟨k.2.2.1.symm, k.2.2.2.2, k.2.2.2.1⟩)
theorem ct_X9_gridWithout2 (E : jf_E) (σ : jf_S) (s : Int32) (hI : xI σ) (hN : xN σ) (s0 : 0 ≤ s.toInt ∧ s.toInt < ((σ.1 3 8)).toInt) (st : ¬ ((σ.1 31) s.toNatClampNeg).toInt = 0) (hB : x_bk σ σ ((σ.1 3 8)).toInt) : jf_I jh_X E yX9_gridWithout cX9_gridWithout 4 .int 3 [jf_r E 5, .int s] σ (fun r τ => r = g_rest (x_G σ) (x_N σ) s.toNatClampNeg ∧ xS_36 σ τ ∧ x_wk σ τ s.toNatClampNeg ((σ.1 3 8)).toInt) := by
  refine jf_mkI (by decide) (Nat.le_of_ble_eq_true rfl) ?_
  intro G C ret
  have hE := hI.1
  have te := ji_tn hE.1
  have ts := ji_tn s0.1
  have sN : s.toNatClampNeg < x_N σ := by unfold x_N; omega
  have lp : ∀ (m : Nat) (τ : jf_S) (n o : Int32), xS_36 σ τ → 0 ≤ o.toInt → o.toInt ≤ ((σ.1 3 8)).toInt → ((σ.1 3 8)).toInt - o.toInt < m → (n = gs (g_rw (x_G σ) (x_N σ) s.toNatClampNeg) o.toNatClampNeg) → (x_wk σ τ s.toNatClampNeg o.toInt) → jf_X jh_X E G 4 4 [(0, jf_r E 5), (1, .int s), (2, .int n), (3, .int o)] [] τ := by
    intro m
    induction m with
    | zero => intro τ n o z g1 g2 g3 x1 x2; exfalso; omega
    | succ m ih =>
      intro τ n o z g1 g2 g3 x1 x2
      have e1 := ji_inc (k := o) (by omega)
      have hT := xS_w_I (xS_36_w z) hI
      have to := ji_tn g1
      have c1 := congrArg Int32.toInt (xS_w_e (xS_36_w z))
      have c2 : ((τ.1 31) o.toNatClampNeg).toInt = 0 → ((σ.1 31) o.toNatClampNeg).toInt = 0 := fun h => by rw [← xS_w_t' (xS_36_w z)]; exact h
      have c3 : ¬ ((τ.1 31) o.toNatClampNeg).toInt = 0 → ¬ ((σ.1 31) o.toNatClampNeg).toInt = 0 := fun h => by rw [← xS_w_t' (xS_36_w z)]; exact h
      refine jr_iload_n C dX9_gridWithout_4 rfl ?_
      refine jr_aload_n C dX9_gridWithout_5 rfl ?_
      refine jr_getr C kf_X9_36_5 dX9_gridWithout_6 ?_
      refine jr_getv C kf_X9_61_3 dX9_gridWithout_9 (v := τ.1 3 8) rfl ?_
      refine jr_ncmp_ge C 84 dX9_gridWithout_12 (by decide) rfl rfl (fun b12 => ?_) (fun b12 => ?_)
      · refine jr_iload_n C dX9_gridWithout_84 rfl ?_
        exact ret _ _ _ _ dX9_gridWithout_85 rfl (by (have eo : o = (σ.1 3 8) := Int32.toInt_inj.mp (by omega)); rw [eo] at x1 x2; exact ⟨x1, z, x2⟩)
      · refine jr_iload_n C dX9_gridWithout_15 rfl ?_
        refine jr_iload_n C dX9_gridWithout_16 rfl ?_
        refine jr_ncmp_eq C 78 dX9_gridWithout_17 (by decide) rfl rfl (fun b17 => ?_) (fun b17 => ?_)
        · refine jr_iinc C _ dX9_gridWithout_78 rfl rfl (by decide) ?_
          refine jr_goto C 4 dX9_gridWithout_81 (by decide) ?_
          exact jr_sub [(0, jf_r E 5), (1, .int s), (2, .int _), (3, .int _)] rfl (ih _ _ _ (by repeat' (with_reducible first | exact z | apply xS_36_i)) (by omega) (by omega) (by omega) (by rw [g_sc g1 e1]; first | exact g_rw_0 (V := x_G σ) (Or.inr (by omega)) x1 | exact g_rw_0 (V := x_G σ) (Or.inl (c2 b29)) x1 | exact x_gw_1 hI (xS_36_w z) x1 (x_gw_y z hN hB sN (by omega) (by omega) (c3 b29) st (by omega) b43) (c3 b29) (by omega) | exact x_gw_1 hI (xS_36_w z) x1 (x_gw_n z hN hB sN (by omega) (by omega) (c3 b29) b43) (c3 b29) (by omega)) (by first | exact x_wk_0 x2 e1 g1 (Or.inr (by omega)) | exact x_wk_0 x2 e1 g1 (Or.inl (c2 b29)) | exact x_wk_1 x2 e1 g1 (x_gw_y z hN hB sN (by omega) (by omega) (c3 b29) st (by omega) b43) | exact x_wk_1 x2 e1 g1 (x_gw_n z hN hB sN (by omega) (by omega) (c3 b29) b43)))
        · refine jr_aload_n C dX9_gridWithout_20 rfl ?_
          refine jr_getr C kf_X9_36_5 dX9_gridWithout_21 ?_
          refine jr_getr C kf_X9_66_3 dX9_gridWithout_24 ?_
          refine jr_iload_n C dX9_gridWithout_27 rfl ?_
          refine jr_zalv C ka_X_31 dX9_gridWithout_28 (ji_in (i := o) (by omega) (by omega)) (v := τ.1 31 _) rfl ?_
          refine jr_nif_eq C 78 dX9_gridWithout_29 (by decide) (fun b29 => ?_) (fun b29 => ?_)
          · refine jr_iinc C _ dX9_gridWithout_78 rfl rfl (by decide) ?_
            refine jr_goto C 4 dX9_gridWithout_81 (by decide) ?_
            exact jr_sub [(0, jf_r E 5), (1, .int s), (2, .int _), (3, .int _)] rfl (ih _ _ _ (by repeat' (with_reducible first | exact z | apply xS_36_i)) (by omega) (by omega) (by omega) (by rw [g_sc g1 e1]; first | exact g_rw_0 (V := x_G σ) (Or.inr (by omega)) x1 | exact g_rw_0 (V := x_G σ) (Or.inl (c2 b29)) x1 | exact x_gw_1 hI (xS_36_w z) x1 (x_gw_y z hN hB sN (by omega) (by omega) (c3 b29) st (by omega) b43) (c3 b29) (by omega) | exact x_gw_1 hI (xS_36_w z) x1 (x_gw_n z hN hB sN (by omega) (by omega) (c3 b29) b43) (c3 b29) (by omega)) (by first | exact x_wk_0 x2 e1 g1 (Or.inr (by omega)) | exact x_wk_0 x2 e1 g1 (Or.inl (c2 b29)) | exact x_wk_1 x2 e1 g1 (x_gw_y z hN hB sN (by omega) (by omega) (c3 b29) st (by omega) b43) | exact x_wk_1 x2 e1 g1 (x_gw_n z hN hB sN (by omega) (by omega) (c3 b29) b43)))
          · refine jr_aload_n C dX9_gridWithout_32 rfl ?_
            refine jr_getr C kf_X9_21_5 dX9_gridWithout_33 ?_
            refine jr_iload_n C dX9_gridWithout_36 rfl ?_
            refine jr_aload_n C dX9_gridWithout_37 rfl ?_
            refine jr_iload_n C dX9_gridWithout_38 rfl ?_
            refine jr_iload_n C dX9_gridWithout_39 rfl ?_
            refine jr_vip C [.int _, .int _] _ (ct_X9_runBeside E _ _ _ hT ⟨by omega, by omega⟩ ⟨by omega, by omega⟩) ky_X9_runBeside kv_X9_runBeside kk_X_5 km_X9_111 (by decide) rfl (Nat.le_of_ble_eq_true rfl) dX9_gridWithout_40 ?_
            refine jr_if_eq C 57 dX9_gridWithout_43 (by decide) (fun b43 => ?_) (fun b43 => ?_)
            · replace b43 := jb_f b43
              refine jr_aload_n C dX9_gridWithout_57 rfl ?_
              refine jr_getr C kf_X9_18_5 dX9_gridWithout_58 ?_
              refine jr_iload_n C dX9_gridWithout_61 rfl ?_
              refine jr_ialv C ka_X_35 dX9_gridWithout_62 (ji_in (i := o) (by omega) (by omega)) (v := τ.1 35 _) rfl ?_
              refine jr_iast C ka_X_36 dX9_gridWithout_63 (ji_in (i := o) (by omega) (by omega)) ?_
              refine jr_iload_n C dX9_gridWithout_64 rfl ?_
              refine jr_aload_n C dX9_gridWithout_65 rfl ?_
              refine jr_iload_n C dX9_gridWithout_66 rfl ?_
              refine jr_aload_n C dX9_gridWithout_67 rfl ?_
              refine jr_getr C kf_X9_21_5 dX9_gridWithout_68 ?_
              refine jr_iload_n C dX9_gridWithout_71 rfl ?_
              refine jr_iald C ka_X_36 dX9_gridWithout_72 (ji_in (i := o) (by omega) (by omega)) ?_
              refine jr_vip C [.int _, .int _] _ (ct_X9_worth E _ _ _ (xS_w_I (xS_36_w (xS_36_i z)) hI) ⟨by omega, by omega⟩) ky_X9_worth kv_X9_worth kk_X_5 km_X9_58 (by decide) rfl (Nat.le_of_ble_eq_true rfl) dX9_gridWithout_73 ?_
              refine jr_iadd C dX9_gridWithout_76 ?_
              refine jr_istore_n C dX9_gridWithout_77 (by decide) ?_
              refine jr_iinc C _ dX9_gridWithout_78 rfl rfl (by decide) ?_
              refine jr_goto C 4 dX9_gridWithout_81 (by decide) ?_
              exact jr_sub [(0, jf_r E 5), (1, .int s), (2, .int _), (3, .int _)] rfl (ih _ _ _ (by repeat' (with_reducible first | exact z | apply xS_36_i)) (by omega) (by omega) (by omega) (by rw [g_sc g1 e1]; first | exact g_rw_0 (V := x_G σ) (Or.inr (by omega)) x1 | exact g_rw_0 (V := x_G σ) (Or.inl (c2 b29)) x1 | exact x_gw_1 hI (xS_36_w z) x1 (x_gw_y z hN hB sN (by omega) (by omega) (c3 b29) st (by omega) b43) (c3 b29) (by omega) | exact x_gw_1 hI (xS_36_w z) x1 (x_gw_n z hN hB sN (by omega) (by omega) (c3 b29) b43) (c3 b29) (by omega)) (by first | exact x_wk_0 x2 e1 g1 (Or.inr (by omega)) | exact x_wk_0 x2 e1 g1 (Or.inl (c2 b29)) | exact x_wk_1 x2 e1 g1 (x_gw_y z hN hB sN (by omega) (by omega) (c3 b29) st (by omega) b43) | exact x_wk_1 x2 e1 g1 (x_gw_n z hN hB sN (by omega) (by omega) (c3 b29) b43)))
            · replace b43 := jb_t b43
              refine jr_aload_n C dX9_gridWithout_46 rfl ?_
              refine jr_getr C kf_X9_18_5 dX9_gridWithout_47 ?_
              refine jr_iload_n C dX9_gridWithout_50 rfl ?_
              refine jr_ialv C ka_X_35 dX9_gridWithout_51 (ji_in (i := o) (by omega) (by omega)) (v := τ.1 35 _) rfl ?_
              refine jr_iconst C (v := 1) dX9_gridWithout_52 (by decide) ?_
              refine jr_isub C dX9_gridWithout_53 ?_
              refine jr_goto C 63 dX9_gridWithout_54 (by decide) ?_
              refine jr_iast C ka_X_36 dX9_gridWithout_63 (ji_in (i := o) (by omega) (by omega)) ?_
              refine jr_iload_n C dX9_gridWithout_64 rfl ?_
              refine jr_aload_n C dX9_gridWithout_65 rfl ?_
              refine jr_iload_n C dX9_gridWithout_66 rfl ?_
              refine jr_aload_n C dX9_gridWithout_67 rfl ?_
              refine jr_getr C kf_X9_21_5 dX9_gridWithout_68 ?_
              refine jr_iload_n C dX9_gridWithout_71 rfl ?_
              refine jr_iald C ka_X_36 dX9_gridWithout_72 (ji_in (i := o) (by omega) (by omega)) ?_
              refine jr_vip C [.int _, .int _] _ (ct_X9_worth E _ _ _ (xS_w_I (xS_36_w (xS_36_i z)) hI) ⟨by omega, by omega⟩) ky_X9_worth kv_X9_worth kk_X_5 km_X9_58 (by decide) rfl (Nat.le_of_ble_eq_true rfl) dX9_gridWithout_73 ?_
              refine jr_iadd C dX9_gridWithout_76 ?_
              refine jr_istore_n C dX9_gridWithout_77 (by decide) ?_
              refine jr_iinc C _ dX9_gridWithout_78 rfl rfl (by decide) ?_
              refine jr_goto C 4 dX9_gridWithout_81 (by decide) ?_
              exact jr_sub [(0, jf_r E 5), (1, .int s), (2, .int _), (3, .int _)] rfl (ih _ _ _ (by repeat' (with_reducible first | exact z | apply xS_36_i)) (by omega) (by omega) (by omega) (by rw [g_sc g1 e1]; first | exact g_rw_0 (V := x_G σ) (Or.inr (by omega)) x1 | exact g_rw_0 (V := x_G σ) (Or.inl (c2 b29)) x1 | exact x_gw_1 hI (xS_36_w z) x1 (x_gw_y z hN hB sN (by omega) (by omega) (c3 b29) st (by omega) b43) (c3 b29) (by omega) | exact x_gw_1 hI (xS_36_w z) x1 (x_gw_n z hN hB sN (by omega) (by omega) (c3 b29) b43) (c3 b29) (by omega)) (by first | exact x_wk_0 x2 e1 g1 (Or.inr (by omega)) | exact x_wk_0 x2 e1 g1 (Or.inl (c2 b29)) | exact x_wk_1 x2 e1 g1 (x_gw_y z hN hB sN (by omega) (by omega) (c3 b29) st (by omega) b43) | exact x_wk_1 x2 e1 g1 (x_gw_n z hN hB sN (by omega) (by omega) (c3 b29) b43)))
  refine jr_iconst C (v := 0) dX9_gridWithout_0 (by decide) ?_
  refine jr_istore_n C dX9_gridWithout_1 (by decide) ?_
  refine jr_iconst C (v := 0) dX9_gridWithout_2 (by decide) ?_
  refine jr_istore_n C dX9_gridWithout_3 (by decide) ?_
  exact jr_sub [(0, jf_r E 5), (1, .int s), (2, .int _), (3, .int _)] rfl (lp 61 _ _ _ (xS_36_r σ) (by decide) hE.1 (by show _ - 0 < _; omega) rfl (fun j hj => absurd hj (by show ¬ (j : Int) < 0; omega)))

