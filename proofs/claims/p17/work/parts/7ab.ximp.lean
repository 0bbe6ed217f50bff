/-! the class: better exactly -/
theorem gI_mv {V : Nat → Nat → Int32} {s : Nat} {h b : Int32} (g : gI V) : gI (g_mv V s h b) := by
  unfold gI
  rw [g_mv_o (k := 7) (by decide) (by decide), g_mv_o (k := 21) (by decide) (by decide), g_mv_o (k := 2) (by decide) (by decide)]
  exact g
theorem x_G_mv {τ : jf_S} {j : Nat} {h b w : Int32} : x_G (jf_i (jf_i (jf_i τ 26 j h) 27 j b) 28 j w) = g_mv (x_G τ) j h b := by
  rw [x_G_o (k := 28) (by decide), x_G_17, x_G_16]; rfl
theorem xN_mv {τ : jf_S} {j : Nat} {h b : Int32} (hN : xN τ) : xN (jf_i (jf_i (jf_i τ 26 j h) 27 j b) 28 j (b + ((τ.1 28) j - (τ.1 27) j))) := by
  intro k hk
  have hk' : (k : Int) < ((τ.1 3 8)).toInt := hk
  rw [x_G_mv]
  show (jf_i (jf_i (jf_i τ 26 j h) 27 j b) 28 j (b + ((τ.1 28) j - (τ.1 27) j))).1 28 k = _
  by_cases e : k = j
  · subst e
    rw [jf_i_same, g_mv_e, hN _ hk', show g_end (x_G τ) k - (τ.1 27) k = x_G τ 5 (x_G τ 15 k).toNatClampNeg from (by
      show (τ.1 27) k + x_G τ 5 (x_G τ 15 k).toNatClampNeg - (τ.1 27) k = _
      rw [Int32.add_comm, Int32.add_sub_cancel])]
  · rw [jf_i_ne e, jf_i_o 28 (by decide), jf_i_o 28 (by decide), g_mv_en e]
    exact hN _ hk'
theorem xS_b_n {σ τ : jf_S} (h : xS_b σ τ) : x_N τ = x_N σ := by unfold x_N; rw [h.2.1 3 (by decide) (by decide) (by decide) (by decide) (by decide) (by decide)]
theorem xS_b_M {σ τ : jf_S} (h : xS_b σ τ) : x_M τ = x_M σ := by unfold x_M; rw [h.2.2 8 (by decide)]
theorem xS_b_h {σ τ : jf_S} (h : xS_b σ τ) : x_H τ = x_H σ := by unfold x_H; rw [xS_b_m h]
theorem x_im_e {σ υ : jf_S} {n : Int32} (hF : g_be (x_N σ) (x_M σ) (x_H σ) 40 (x_G σ) = (n.toNatClampNeg, x_G υ)) (hn : 0 ≤ n.toInt) (hN : xN υ) : n = nI (g_be (x_N σ) (x_M σ) (x_H σ) 40 (x_G σ)).1 ∧ x_G (jf_i υ 5 8 0) = (g_be (x_N σ) (x_M σ) (x_H σ) 40 (x_G σ)).2 ∧ xN (jf_i υ 5 8 0) := by
  rw [hF]
  refine ⟨ji_nI hn, x_G_o (by decide), ?_⟩
  unfold xN
  rw [x_G_o (k := 5) (by decide)]
  exact hN
def x_I (σ τ : jf_S) : Prop := xS_b σ τ ∧ xI τ ∧ xN τ ∧ gI (x_G τ)
def x_B (σ τ : jf_S) (n : Nat) : Prop := g_be (x_N σ) (x_M σ) (x_H σ) 40 (x_G σ) = ((g_be (x_N σ) (x_M σ) (x_H σ) (40 - n) (x_G τ)).1 + n, (g_be (x_N σ) (x_M σ) (x_H σ) (40 - n) (x_G τ)).2)
theorem x_B_40 {σ τ : jf_S} {n : Nat} (h : x_B σ τ n) (e : n = 40) : g_be (x_N σ) (x_M σ) (x_H σ) 40 (x_G σ) = (n, x_G τ) := by
  unfold x_B at h
  rw [h, e]
  show (0 + 40, x_G τ) = _
  rw [Nat.zero_add]
theorem x_B_q {σ τ υ : jf_S} (z : xS_b σ τ) (h : ∃ x y : Int32, x_q υ = g_sh (x_G τ) (x_N τ) (x_M τ) (x_H τ) (x_N τ) (x_c0 τ x y)) : g_eq (x_q υ) (g_fi (x_G τ) (x_N σ) (x_M σ) (x_H σ)) := by
  obtain ⟨x, y, e⟩ := h
  rw [← xS_b_n z, ← xS_b_M z, ← xS_b_h z]
  exact g_fi_of e
theorem x_B_f {σ τ υ : jf_S} {n : Nat} (h : x_B σ τ n) (hn : n < 40) (z : xS_b σ τ) (w : xS_w τ υ) (k : ∃ x y : Int32, x_q υ = g_sh (x_G τ) (x_N τ) (x_M τ) (x_H τ) (x_N τ) (x_c0 τ x y)) (f : ((υ.1 5 10)).toInt = -1) : g_be (x_N σ) (x_M σ) (x_H σ) 40 (x_G σ) = (n, x_G υ) := by
  rw [xS_w_G w]
  exact g_be_f hn h (x_B_q z k) f
theorem x_B_n {σ τ υ : jf_S} {n n1 : Nat} {w1 : Int32} (h : x_B σ τ n) (hn : n < 40) (e1 : n1 = n + 1) (z : xS_b σ τ) (w : xS_w τ υ) (k : ∃ x y : Int32, x_q υ = g_sh (x_G τ) (x_N τ) (x_M τ) (x_H τ) (x_N τ) (x_c0 τ x y)) (f : ¬ ((υ.1 5 10)).toInt = -1) : x_B σ (jf_i (jf_i (jf_i υ 26 ((υ.1 5 10)).toNatClampNeg ((υ.1 5 11))) 27 ((υ.1 5 10)).toNatClampNeg ((υ.1 5 12))) 28 ((υ.1 5 10)).toNatClampNeg w1) n1 := by
  unfold x_B
  have q := g_be_n hn h (x_B_q z k) (show ¬ (x_q υ).2.1.toInt = -1 from f)
  rw [x_G_mv, xS_w_G w, e1]
  rw [show (υ.1 5 10) = (x_q υ).2.1 from rfl, show (υ.1 5 11) = (x_q υ).2.2.1 from rfl, show (υ.1 5 12) = (x_q υ).2.2.2 from rfl]
  exact q
theorem ct_X9_improve2 (E : jf_E) (σ : jf_S) (hI : xI σ) (hN : xN σ) (hg : gI (x_G σ)) (hH : xH σ) (hm : 0 ≤ ((σ.1 1 5)).toInt ∧ ((σ.1 1 5)).toInt ≤ 4) : jf_I jh_X E yX9_improve cX9_improve 2 .int 5 [jf_r E 5] σ (fun r τ => (∃ υ : jf_S, xS_b σ υ ∧ xI υ ∧ τ = jf_i υ 5 8 0) ∧ r = nI (g_be (x_N σ) (x_M σ) (x_H σ) 40 (x_G σ)).1 ∧ x_G τ = (g_be (x_N σ) (x_M σ) (x_H σ) 40 (x_G σ)).2 ∧ xN τ) := by
  refine jf_mkI (by decide) (Nat.le_of_ble_eq_true rfl) ?_
  intro G C ret
  have lp : ∀ (m : Nat) (τ : jf_S) (n : Int32), x_I σ τ → 0 ≤ n.toInt → n.toInt ≤ (40 : Int) → (40 : Int) - n.toInt < m → (x_B σ τ n.toNatClampNeg) → jf_X jh_X E G 2 2 [(0, jf_r E 5), (1, .int n)] [] τ := by
    intro m
    induction m with
    | zero => intro τ n z g1 g2 g3 x1; exfalso; omega
    | succ m ih =>
      intro τ n z g1 g2 g3 x1
      have e1 := ji_inc (k := n) (by omega)
      have hT := xS_b_H z.1 hH
      have tn := ji_tn g1
      have c1 : 0 ≤ ((τ.1 1 5)).toInt ∧ ((τ.1 1 5)).toInt ≤ 4 := by rw [xS_b_m z.1]; exact hm
      refine jr_iload_n C dX9_improve_2 rfl ?_
      refine jr_bipush C (v := 40) dX9_improve_3 (by decide) ?_
      refine jr_ncmp_ge C (b := 40) 40 dX9_improve_5 (by decide) rfl rfl (fun b5 => ?_) (fun b5 => ?_)
      · refine jr_aload_n C dX9_improve_40 rfl ?_
        refine jr_iconst C (v := 0) dX9_improve_41 (by decide) ?_
        refine jr_puti C kp_X9_24_5 dX9_improve_42 ?_
        refine jr_iload_n C dX9_improve_45 rfl ?_
        exact ret _ _ _ _ dX9_improve_46 rfl (by first | (have q := x_B_40 x1 (by omega)); exact ⟨⟨_, z.1, z.2.1, rfl⟩, x_im_e q g1 z.2.2.1⟩ | (have f9 : ((τ9.1 5 10)).toInt = -1 := h9.1.2.mp (jn_eq.mpr b12)); exact ⟨⟨_, xS_b_w z.1 h9.2.1, xS_w_I h9.2.1 z.2.1, rfl⟩, x_im_e (x_B_f x1 (by omega) z.1 h9.2.1 h9.2.2.2 f9) g1 (xS_w_N h9.2.1 z.2.2.1)⟩)
      · refine jr_aload_n C dX9_improve_8 rfl ?_
        refine jr_vi C [] _ (ct_X9_findBestChange2 E _ z.2.1 z.2.2.1 z.2.2.2 hT c1) ky_X9_findBestChange kv_X9_findBestChange kk_X_5 km_X9_73 (by decide) rfl (Nat.le_of_ble_eq_true rfl) dX9_improve_9 (fun r9 τ9 h9 => ?_)
        refine jr_nif_eq C 40 dX9_improve_12 (by decide) (fun b12 => ?_) (fun b12 => ?_)
        · first | (have f9 : ¬ ((τ9.1 5 10)).toInt = -1 := fun q => (jn_ne.mpr b12) (h9.1.2.mpr q)); have w9 := h9.2.2.1.resolve_left f9 | skip
          refine jr_aload_n C dX9_improve_40 rfl ?_
          refine jr_iconst C (v := 0) dX9_improve_41 (by decide) ?_
          refine jr_puti C kp_X9_24_5 dX9_improve_42 ?_
          refine jr_iload_n C dX9_improve_45 rfl ?_
          exact ret _ _ _ _ dX9_improve_46 rfl (by first | (have q := x_B_40 x1 (by omega)); exact ⟨⟨_, z.1, z.2.1, rfl⟩, x_im_e q g1 z.2.2.1⟩ | (have f9 : ((τ9.1 5 10)).toInt = -1 := h9.1.2.mp (jn_eq.mpr b12)); exact ⟨⟨_, xS_b_w z.1 h9.2.1, xS_w_I h9.2.1 z.2.1, rfl⟩, x_im_e (x_B_f x1 (by omega) z.1 h9.2.1 h9.2.2.2 f9) g1 (xS_w_N h9.2.1 z.2.2.1)⟩)
        · first | (have f9 : ¬ ((τ9.1 5 10)).toInt = -1 := fun q => (jn_ne.mpr b12) (h9.1.2.mpr q)); have w9 := h9.2.2.1.resolve_left f9 | skip
          refine jr_aload_n C dX9_improve_15 rfl ?_
          refine jr_getr C kf_X9_36_5 dX9_improve_16 ?_
          refine jr_aload_n C dX9_improve_19 rfl ?_
          refine jr_geti C kf_X9_77_5 dX9_improve_20 ?_
          refine jr_aload_n C dX9_improve_23 rfl ?_
          refine jr_geti C kf_X9_80_5 dX9_improve_24 ?_
          refine jr_aload_n C dX9_improve_27 rfl ?_
          refine jr_geti C kf_X9_83_5 dX9_improve_28 ?_
          refine jr_vvp C [.int _, .int _, .int _] _ (ct_X8_move E _ _ _ _ w9.1) ky_X8_move kv_X8_move kk_X_3 km_X9_86 (by decide) rfl (Nat.le_of_ble_eq_true rfl) dX9_improve_31 ?_
          refine jr_iinc C _ dX9_improve_34 rfl rfl (by decide) ?_
          refine jr_goto C 2 dX9_improve_37 (by decide) ?_
          exact jr_sub [(0, jf_r E 5), (1, .int _)] rfl (ih _ _ ⟨xS_b_i (xS_b_i (xS_b_i (xS_b_w z.1 h9.2.1) (by decide)) (by decide)) (by decide), xI_move (xS_w_I h9.2.1 z.2.1) w9.2.1 w9.2.2, xN_mv (xS_w_N h9.2.1 z.2.2.1), (by rw [x_G_mv, xS_w_G h9.2.1]; exact gI_mv z.2.2.2)⟩ (by omega) (by omega) (by omega) (x_B_n x1 (by omega) (g_sc g1 e1) z.1 h9.2.1 h9.2.2.2 f9))
  refine jr_iconst C (v := 0) dX9_improve_0 (by decide) ?_
  refine jr_istore_n C dX9_improve_1 (by decide) ?_
  exact jr_sub [(0, jf_r E 5), (1, .int _)] rfl (lp 41 _ _ ⟨xS_b_r σ, hI, hN, hg⟩ (by decide) (by decide) (by decide) rfl)

