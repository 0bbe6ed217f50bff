/-! the class: TRUE beginnings exactly: reckon; of -/
theorem x_hq_cl {σ : jf_S} {m p : Nat} {r : Int32} (hn : x_N σ ≤ 60) (h : g_or (x_G σ) ((σ.1 37)) m (x_N σ)) (hB : gB (x_G σ) (x_N σ) 16) (k : g_rk (x_G σ) (x_N σ) ((σ.1 37)) ((σ.1 38)) ((σ.1 39)) p) (hp : p < m) (q : x_hq σ p r) : r = g_cl (x_G σ) (x_N σ) ((σ.1 38)) ((σ.1 37) p).toNatClampNeg := by
  rcases q with ⟨q1, q2⟩ | ⟨j, j1, j2, j3, j4⟩
  · have c := g_fo_0 (k := 16) hn h hp q1
    unfold g_cl
    rw [if_pos c]; exact q2
  · obtain ⟨c1, c2⟩ := g_fo_1 (k := 16) hn h hB hp j1 j2 j3
    unfold g_cl
    rw [if_neg c1, c2, ← (k j j1).2]; exact j4
theorem x_pq_th {σ : jf_S} {m p : Nat} {r : Int32} (hn : x_N σ ≤ 60) (h : g_or (x_G σ) ((σ.1 37)) m (x_N σ)) (hB : gB (x_G σ) (x_N σ) 15) (k : g_rk (x_G σ) (x_N σ) ((σ.1 37)) ((σ.1 38)) ((σ.1 39)) p) (hp : p < m) (q : x_pq σ p r) : r = g_th (x_G σ) (x_N σ) ((σ.1 38)) ((σ.1 37) p).toNatClampNeg := by
  rcases q with ⟨q1, q2⟩ | ⟨j, j1, j2, j3, j4⟩
  · have c := g_fo_0 (k := 15) hn h hp q1
    unfold g_th
    rw [if_pos c]; exact q2
  · obtain ⟨c1, c2⟩ := g_fo_1 (k := 15) hn h hB hp j1 j2 j3
    unfold g_th
    rw [if_neg c1, c2, ← (k j j1).2]
    rw [Int32.mul_comm] at j4; exact j4
theorem x_rk_v {σ τ : jf_S} (z : xS_l σ τ) (hn : x_N σ ≤ 60) {m p : Nat} {r1 r2 : Int32} (h : g_or (x_G σ) ((τ.1 37)) m (x_N σ)) (hB1 : gB (x_G σ) (x_N σ) 16) (hB2 : gB (x_G σ) (x_N σ) 15) (k : g_rk (x_G σ) (x_N σ) ((τ.1 37)) ((τ.1 38)) ((τ.1 39)) p) (hp : p < m) (q1 : x_hq τ p r1) (q2 : x_pq τ p r2) : g_mx ((τ.1 27) ((τ.1 37) p).toNatClampNeg) (g_mx r1 r2) = g_tb (x_G σ) (x_N σ) ((τ.1 38)) ((τ.1 37) p).toNatClampNeg := by
  rw [← xS_l_G z, ← xS_l_n z] at h k hB1 hB2 ⊢
  rw [← xS_l_n z] at hn
  have e1 := x_hq_cl hn h hB1 k hp q1
  have e2 := x_pq_th hn h hB2 k hp q2
  unfold g_tb
  rw [g_mx3, ← e1, ← e2]; rfl
theorem ct_X5_reckon2 (E : jf_E) (σ : jf_S) (hI : xI σ) (hO : xO σ) (hB1 : gB (x_G σ) (x_N σ) 16) (hB2 : gB (x_G σ) (x_N σ) 15) : jf_V jh_X E yX5_reckon cX5_reckon 6 2 [jf_r E 6] σ (fun τ => xS_l σ τ ∧ xO τ ∧ g_tr (x_G σ) (x_N σ) ((τ.1 38)) ∧ ∀ s, s < x_N σ → ¬ ((σ.1 31) s).toInt = 0 → (τ.1 39) s = g_te (x_G σ) ((τ.1 38)) s) := by
  refine jf_mkV (by decide) (Nat.le_of_ble_eq_true rfl) ?_
  intro G C ret
  have n60 := x_N_60 hI
  have lp : ∀ (m : Nat) (τ : jf_S) (n o : Int32), xS_l σ τ ∧ xO τ → 0 ≤ o.toInt → o.toInt ≤ n.toInt → n.toInt - o.toInt < m → (n.toInt ≤ 60) → (g_or (x_G σ) ((τ.1 37)) n.toNatClampNeg (x_N σ)) → (g_rk (x_G σ) (x_N σ) ((τ.1 37)) ((τ.1 38)) ((τ.1 39)) o.toNatClampNeg) → jf_X jh_X E G 6 7 [(0, jf_r E 6), (1, .int n), (2, .int o)] [] τ := by
    intro m
    induction m with
    | zero => intro τ n o z g1 g2 g3 x1 x2 x3; exfalso; omega
    | succ m ih =>
      intro τ n o z g1 g2 g3 x1 x2 x3
      have e1 := ji_inc (k := o) (by omega)
      have hT := xS_l_I z.1 hI
      have tn := ji_tn (x := n) (by omega)
      have to := ji_tn g1
      have wv : ∀ {v : Int32}, v + (τ.1 17) ((τ.1 25) ((τ.1 37) o.toNatClampNeg).toNatClampNeg).toNatClampNeg + (τ.1 30) ((τ.1 37) o.toNatClampNeg).toNatClampNeg = v + x_G σ 5 (x_G σ 15 ((τ.1 37) o.toNatClampNeg).toNatClampNeg).toNatClampNeg + x_G σ 19 ((τ.1 37) o.toNatClampNeg).toNatClampNeg := by rw [← xS_l_G z.1]; exact rfl
      refine jr_iload_n C dX5_reckon_7 rfl ?_
      refine jr_iload_n C dX5_reckon_8 rfl ?_
      refine jr_ncmp_ge C 100 dX5_reckon_9 (by decide) rfl rfl (fun b9 => ?_) (fun b9 => ?_)
      · exact ret _ _ _ dX5_reckon_100 (by (have eo : o.toNatClampNeg = n.toNatClampNeg := by omega); rw [eo] at x3; (have q := g_rk_e x2 x3); exact ⟨z.1, z.2, q.1, q.2⟩)
      · refine jr_aload_n C dX5_reckon_12 rfl ?_
        refine jr_getr C kf_X5_9_6 dX5_reckon_13 ?_
        refine jr_iload_n C dX5_reckon_16 rfl ?_
        refine jr_ialv C ka_X_37 dX5_reckon_17 (ji_in (i := o) (by omega) (by omega)) (v := τ.1 37 _) rfl ?_
        refine jr_istore_n C dX5_reckon_18 (by decide) ?_
        refine jr_aload_n C dX5_reckon_19 rfl ?_
        refine jr_iload_n C dX5_reckon_20 rfl ?_
        refine jr_vi C [.int _] _ (ct_X5_hallFree2 E _ _ hT z.2 ⟨by omega, by omega⟩) ky_X5_hallFree kv_X5_hallFree kk_X_6 km_X5_41 (by decide) rfl (Nat.le_of_ble_eq_true rfl) dX5_reckon_21 (fun r21 τ21 h21 => ?_)
        obtain ⟨q21, rfl⟩ := h21
        refine jr_aload_n C dX5_reckon_24 rfl ?_
        refine jr_iload_n C dX5_reckon_25 rfl ?_
        refine jr_vi C [.int _] _ (ct_X5_printFree2 E _ _ hT z.2 ⟨by omega, by omega⟩) ky_X5_printFree kv_X5_printFree kk_X_6 km_X5_45 (by decide) rfl (Nat.le_of_ble_eq_true rfl) dX5_reckon_26 (fun r26 τ26 h26 => ?_)
        obtain ⟨q26, rfl⟩ := h26; have hp : o.toNatClampNeg < n.toNatClampNeg := (by omega)
        refine jr_mmax C km_X5_48 (by decide) (Nat.le_of_ble_eq_true rfl) dX5_reckon_29 ?_
        refine jr_val (g_mx_x _ _) ?_
        refine jr_istore C dX5_reckon_32 (by decide) ?_
        refine jr_aload_n C dX5_reckon_34 rfl ?_
        refine jr_getr C kf_X5_33_6 dX5_reckon_35 ?_
        refine jr_getr C kf_X5_54_3 dX5_reckon_38 ?_
        refine jr_iload_n C dX5_reckon_41 rfl ?_
        refine jr_ialv C ka_X_27 dX5_reckon_42 (ji_in (z.2 _).1 (z.2 _).2) (v := τ.1 27 _) rfl ?_
        refine jr_iload C dX5_reckon_43 rfl ?_
        refine jr_mmax C km_X5_48 (by decide) (Nat.le_of_ble_eq_true rfl) dX5_reckon_45 ?_
        refine jr_val ((g_mx_x _ _).trans (x_rk_v z.1 n60 x2 hB1 hB2 x3 hp q21 q26)) ?_
        refine jr_istore C dX5_reckon_48 (by decide) ?_
        refine jr_aload_n C dX5_reckon_50 rfl ?_
        refine jr_getr C kf_X5_15_6 dX5_reckon_51 ?_
        refine jr_iload_n C dX5_reckon_54 rfl ?_
        refine jr_iload C dX5_reckon_55 rfl ?_
        refine jr_iast C ka_X_38 dX5_reckon_57 (ji_in (z.2 _).1 (z.2 _).2) ?_
        refine jr_aload_n C dX5_reckon_58 rfl ?_
        refine jr_getr C kf_X5_18_6 dX5_reckon_59 ?_
        refine jr_iload_n C dX5_reckon_62 rfl ?_
        refine jr_iload C dX5_reckon_63 rfl ?_
        refine jr_aload_n C dX5_reckon_65 rfl ?_
        refine jr_getr C kf_X5_29_6 dX5_reckon_66 ?_
        refine jr_getr C kf_X5_59_2 dX5_reckon_69 ?_
        refine jr_aload_n C dX5_reckon_72 rfl ?_
        refine jr_getr C kf_X5_33_6 dX5_reckon_73 ?_
        refine jr_getr C kf_X5_64_3 dX5_reckon_76 ?_
        refine jr_iload_n C dX5_reckon_79 rfl ?_
        refine jr_ialv C ka_X_25 dX5_reckon_80 (ji_in (z.2 _).1 (z.2 _).2) (v := τ.1 25 _) rfl ?_
        refine jr_ialv C ka_X_17 dX5_reckon_81 (ji_in (xI_film hT _).1 (xI_film hT _).2) (v := τ.1 17 _) rfl ?_
        refine jr_iadd C dX5_reckon_82 ?_
        refine jr_aload_n C dX5_reckon_83 rfl ?_
        refine jr_getr C kf_X5_33_6 dX5_reckon_84 ?_
        refine jr_getr C kf_X5_67_3 dX5_reckon_87 ?_
        refine jr_iload_n C dX5_reckon_90 rfl ?_
        refine jr_ialv C ka_X_30 dX5_reckon_91 (ji_in (z.2 _).1 (z.2 _).2) (v := τ.1 30 _) rfl ?_
        refine jr_iadd C dX5_reckon_92 ?_
        refine jr_iast C ka_X_39 dX5_reckon_93 (ji_in (z.2 _).1 (z.2 _).2) ?_
        refine jr_iinc C _ dX5_reckon_94 rfl rfl (by decide) ?_
        refine jr_goto C 7 dX5_reckon_97 (by decide) ?_
        exact jr_sub [(0, jf_r E 6), (1, .int _), (2, .int _)] rfl (ih _ _ _ ⟨xS_l_a (xS_l_a z.1 (by decide)) (by decide), xO_o (xO_o z.2 (by decide)) (by decide)⟩ (by omega) (by omega) (by omega) x1 (by show g_or _ ((jf_i (jf_i τ 38 _ _) 39 _ _).1 37) _ _; rw [jf_i_o 37 (by decide), jf_i_o 37 (by decide)]; exact x2) (by rw [g_sc g1 e1]; show g_rk _ _ ((jf_i (jf_i τ 38 _ _) 39 _ _).1 37) ((jf_i (jf_i τ 38 _ _) 39 _ _).1 38) ((jf_i (jf_i τ 38 _ _) 39 _ _).1 39) _; rw [jf_i_o 37 (by decide), jf_i_o 37 (by decide), jf_i_o 38 (by decide), jf_i_at, jf_i_at, jf_i_o 39 (by decide)]; exact g_rk_s n60 x2 x3 hp rfl wv))
  refine jr_aload_n C dX5_reckon_0 rfl ?_
  refine jr_vi C [] _ (ct_X5_sortByBegin2 E _ hI hO) ky_X5_sortByBegin kv_X5_sortByBegin kk_X_6 km_X5_37 (by decide) rfl (Nat.le_of_ble_eq_true rfl) dX5_reckon_1 (fun r1 τ1 h1 => ?_)
  refine jr_istore_n C dX5_reckon_4 (by decide) ?_
  refine jr_iconst C (v := 0) dX5_reckon_5 (by decide) ?_
  refine jr_istore_n C dX5_reckon_6 (by decide) ?_
  exact jr_sub [(0, jf_r E 6), (1, .int _), (2, .int 0)] rfl (lp 61 _ _ 0 ⟨h1.2.1, h1.2.2.1⟩ (by decide) h1.1.1 (by show _ - (0 : Int) < _; have := h1.1; omega) h1.1.2 h1.2.2.2 (fun j hj => absurd hj (Nat.not_lt_zero j)))
/-- what of answers, T the TRUE beginnings -/
def g_of (V : Nat → Nat → Int32) (n : Nat) (T : Nat → Int32) (s : Nat) (w : Int32) : Int32 := if w.toInt = 0 then V 15 s else if w.toInt = 1 then V 16 s else if w.toInt = 2 then V 17 s else if w.toInt = 3 then V 18 s else if w.toInt = 4 then g_end V s else if w.toInt = 5 then g_crowd V n s else if w.toInt = 6 then g_worth V n s else if w.toInt = 7 then T s else if w.toInt = 8 then g_te V T s else -1
def g_ofq (V : Nat → Nat → Int32) (n : Nat) (s w r : Int32) : Prop := (¬ (0 ≤ s.toInt ∧ s.toInt < (n : Int) ∧ ¬ (V 14 s.toNatClampNeg).toInt = 0) ∧ r = -1) ∨ ((0 ≤ s.toInt ∧ s.toInt < (n : Int) ∧ ¬ (V 14 s.toNatClampNeg).toInt = 0) ∧ ∃ T : Nat → Int32, (w.toInt = 7 ∨ w.toInt = 8 → g_tr V n T) ∧ r = g_of V n T s.toNatClampNeg w)
theorem g_ofq_u {V : Nat → Nat → Int32} {n : Nat} {s w r r' : Int32} (hn : n ≤ 60) (hb : ∀ j, 0 ≤ (V 17 j).toInt) (h : g_ofq V n s w r) (h' : g_ofq V n s w r') : r = r' := by
  rcases h with ⟨c, e⟩ | ⟨c, T, t, e⟩
  · rcases h' with ⟨c', e'⟩ | ⟨c', -⟩
    · rw [e, e']
    · exact absurd c' c
  · rcases h' with ⟨c', e'⟩ | ⟨c', T', t', e'⟩
    · exact absurd c c'
    · have ts := ji_tn c.1
      rw [e, e']
      by_cases q : w.toInt = 7 ∨ w.toInt = 8
      · have u := g_tr_u hn hb (t q) (t' q) ((V 17 s.toNatClampNeg).toInt + 1).toNat s.toNatClampNeg (by omega) c.2.2 (by have := hb s.toNatClampNeg; omega)
        unfold g_of g_te
        rw [u]
      · unfold g_of
        rw [if_neg (show ¬ w.toInt = 7 by omega), if_neg (show ¬ w.toInt = 8 by omega), if_neg (show ¬ w.toInt = 7 by omega), if_neg (show ¬ w.toInt = 8 by omega)]

