/-! the class: BETTER exactly -/
def xS_5 (σ τ : jf_S) : Prop := τ.2 = σ.2 ∧ (∀ k, k ≠ 5 → τ.1 k = σ.1 k) ∧ (∀ j, j < 9 → τ.1 5 j = σ.1 5 j)
theorem xS_5_r (σ : jf_S) : xS_5 σ σ := ⟨rfl, fun _ _ => rfl, fun _ _ => rfl⟩
theorem xS_5_i {σ τ : jf_S} (h : xS_5 σ τ) {j : Nat} {v : Int32} (hj : 9 ≤ j) : xS_5 σ (jf_i τ 5 j v) := by
  refine ⟨h.1, fun k a => ?_, fun i a => ?_⟩
  · rw [jf_i_o k a]; exact h.2.1 k a
  · rw [jf_i_at]; unfold upd; rw [if_neg (by omega)]; exact h.2.2 i a
theorem xS_5_w {σ τ : jf_S} (h : xS_5 σ τ) : xS_w σ τ := ⟨h.1, fun k a _ _ => h.2.1 k a, h.2.2⟩
def x_q (σ : jf_S) : Int32 × Int32 × Int32 × Int32 := ((σ.1 5 9), (σ.1 5 10), (σ.1 5 11), (σ.1 5 12))
theorem xg_nr {σ : jf_S} {s o : Nat} {h b e : Int32} (he : (σ.1 28) o = g_end (x_G σ) o) : g_nr (x_G σ) s h b e o = decide (¬ ((σ.1 31) o).toInt = 0 ∧ ¬ o = s ∧ ((σ.1 12) h.toNatClampNeg).toInt = ((σ.1 12) ((σ.1 26) o).toNatClampNeg).toInt ∧ ((σ.1 27) o).toInt < e.toInt ∧ b.toInt < ((σ.1 28) o).toInt) := by
  rw [he]; rfl
theorem x_tv_0 {V : Nat → Nat → Int32} {n x k : Nat} {h b e q v : Int32} (hp : g_nr V x h b e k = false) (hv : v = q + gs (g_D V n x h b e) k) : v = q + gs (g_D V n x h b e) (k + 1) := by
  rw [gs, show g_D V n x h b e k = 0 from if_neg (by rw [hp]; decide), Int32.add_zero]; exact hv
theorem x_tv_1 {σ : jf_S} {s : Nat} {o h b e q v : Int32} (hI : xI σ) (hk : x_wk σ σ s ((σ.1 3 8)).toInt) (ho : (o.toNatClampNeg : Int) < ((σ.1 3 8)).toInt) (hp : g_nr (x_G σ) s h b e o.toNatClampNeg = true) (hv : v = q + gs (g_D (x_G σ) (x_N σ) s h b e) o.toNatClampNeg) : v + (x_worth σ o ((σ.1 36) o.toNatClampNeg + 1) - x_worth σ o ((σ.1 36) o.toNatClampNeg)) = q + gs (g_D (x_G σ) (x_N σ) s h b e) (o.toNatClampNeg + 1) := by
  have h1 := of_decide_eq_true (show decide _ = true from hp)
  have hc := g_rc_le (V := x_G σ) (n := x_N σ) (x := s) (s := o.toNatClampNeg)
  have h6 := x_N_60 hI
  rw [gs, show g_D (x_G σ) (x_N σ) s h b e o.toNatClampNeg = _ from if_pos hp, hk _ ho h1.1 h1.2.1, nI_1, x_worth_g (by omega), x_worth_g (by omega), hv, Int32.add_assoc]
theorem g_pc_x {V : Nat → Nat → Int32} {f s : Int32} (h : 0 ≤ s.toInt) : g_pc V f s s.toNatClampNeg = false := by
  unfold g_pc
  exact decide_eq_false (fun q => q.2.1 (ji_tn h))
theorem ct_X9_tryAt2 (E : jf_E) (σ : jf_S) (s h b q : Int32) (hI : xI σ) (hN : xN σ) (hg : gI (x_G σ)) (s0 : 0 ≤ s.toInt ∧ s.toInt < ((σ.1 3 8)).toInt) (st : ¬ ((σ.1 31) s.toNatClampNeg).toInt = 0) (h0 : 0 ≤ h.toInt ∧ h.toInt < 4) (b0 : 0 ≤ b.toInt ∧ b.toInt ≤ 14399) (hq : q = g_rest (x_G σ) (x_N σ) s.toNatClampNeg) (hk : x_wk σ σ s.toNatClampNeg ((σ.1 3 8)).toInt) : jf_V jh_X E yX9_tryAt cX9_tryAt 11 3 [jf_r E 5, .int s, .int h, .int b, .int q] σ (fun τ => xS_5 σ τ ∧ (xW σ → xW τ) ∧ x_q τ = g_try (x_G σ) (x_N σ) s h b (x_q σ)) := by
  refine jf_mkV (by decide) (Nat.le_of_ble_eq_true rfl) ?_
  intro G C ret
  have hE := hI.1
  have te := ji_tn hE.1
  have ts := ji_tn s0.1
  have sN : s.toNatClampNeg < x_N σ := by unfold x_N; omega
  have n60 := x_N_60 hI
  have pr := g_prune hg (h := h) (b := b) n60 sN st
  have vl := g_value (V := x_G σ) (h := h) (b := b) sN st
  rw [← hq] at pr vl
  have hct : jx_ct (g_pc (x_G σ) ((σ.1 25) s.toNatClampNeg) s) ((σ.1 3 8)).toNatClampNeg < 60 := by
    have := jx_ct_lt (p := g_pc (x_G σ) ((σ.1 25) s.toNatClampNeg) s) sN (g_pc_x s0.1)
    exact Nat.lt_of_lt_of_le this n60
  have T0 : ¬ ((g_why (x_G σ) ((σ.1 3 8)).toNatClampNeg ((σ.1 25) s.toNatClampNeg) h b ((σ.1 29) s.toNatClampNeg) s).toInt = 0 ∧ ((σ.1 5 9)).toInt < (g_grid (g_mv (x_G σ) s.toNatClampNeg h b) (x_N σ)).toInt) → x_q σ = g_try (x_G σ) (x_N σ) s h b (x_q σ) := fun q => (if_neg q).symm
  have T1 : ((g_why (x_G σ) ((σ.1 3 8)).toNatClampNeg ((σ.1 25) s.toNatClampNeg) h b ((σ.1 29) s.toNatClampNeg) s).toInt = 0 ∧ ((σ.1 5 9)).toInt < (g_grid (g_mv (x_G σ) s.toNatClampNeg h b) (x_N σ)).toInt) → (g_grid (g_mv (x_G σ) s.toNatClampNeg h b) (x_N σ), s, h, b) = g_try (x_G σ) (x_N σ) s h b (x_q σ) := fun q => (if_pos q).symm
  have lp : ∀ (m : Nat) (a n v o : Int32), 0 ≤ o.toInt → o.toInt ≤ ((σ.1 3 8)).toInt → ((σ.1 3 8)).toInt - o.toInt < m → (n = 0 + nI (jx_ct (g_nr (x_G σ) s.toNatClampNeg h b (b + (σ.1 17) ((σ.1 25) s.toNatClampNeg).toNatClampNeg)) o.toNatClampNeg)) → (v = q + gs (g_D (x_G σ) (x_N σ) s.toNatClampNeg h b (b + (σ.1 17) ((σ.1 25) s.toNatClampNeg).toNatClampNeg)) o.toNatClampNeg) → jf_X jh_X E G 11 70 [(0, jf_r E 5), (1, .int s), (2, .int h), (3, .int b), (4, .int q), (5, .int ((σ.1 25) s.toNatClampNeg)), (6, .int a), (7, .int n), (8, .int v), (9, .int (b + (σ.1 17) ((σ.1 25) s.toNatClampNeg).toNatClampNeg)), (10, .int o)] [] σ := by
    intro m
    induction m with
    | zero => intro a n v o g1 g2 g3 x1 x2; exfalso; omega
    | succ m ih =>
      intro a n v o g1 g2 g3 x1 x2
      have e1 := ji_inc (k := o) (by omega)
      have to := ji_tn g1
      refine jr_iload C dX9_tryAt_70 rfl ?_
      refine jr_aload_n C dX9_tryAt_72 rfl ?_
      refine jr_getr C kf_X9_36_5 dX9_tryAt_73 ?_
      refine jr_getv C kf_X9_61_3 dX9_tryAt_76 (v := σ.1 3 8) rfl ?_
      refine jr_ncmp_ge C 180 dX9_tryAt_79 (by decide) rfl rfl (fun b79 => ?_) (fun b79 => ?_)
      · refine jr_iload C dX9_tryAt_180 rfl ?_
        refine jr_aload_n C dX9_tryAt_182 rfl ?_
        refine jr_iload C dX9_tryAt_183 rfl ?_
        refine jr_iload_n C dX9_tryAt_185 rfl ?_
        refine jr_iload C dX9_tryAt_186 rfl ?_
        refine jr_vip C [.int _, .int _, .int _] _ (ct_X9_share E _ _ _ _ (xI_film hI _) b0.1) ky_X9_share kv_X9_share kk_X_5 km_X9_118 (by decide) rfl (Nat.le_of_ble_eq_true rfl) dX9_tryAt_188 ?_
        have eo : o.toNatClampNeg = x_N σ := (by unfold x_N; omega); rw [eo] at x1 x2; refine jr_val (show _ = g_alone (x_G σ) ((σ.1 25) s.toNatClampNeg) b / (1 + nI (jx_ct (g_nr (x_G σ) s.toNatClampNeg h b (b + (σ.1 17) ((σ.1 25) s.toNatClampNeg).toNatClampNeg)) (x_N σ))) from (show _ = x_share σ ((σ.1 25) s.toNatClampNeg) b n from rfl).trans (by rw [x1, Int32.zero_add]; exact x_share_g2 (Nat.le_trans (jx_ct_le _ _) (by omega)))) ?_
        refine jr_aload_n C dX9_tryAt_191 rfl ?_
        refine jr_getr C kf_X9_28_5 dX9_tryAt_192 ?_
        refine jr_getr C kf_X9_122_1 dX9_tryAt_195 ?_
        refine jr_iload_n C dX9_tryAt_198 rfl ?_
        refine jr_ialv C ka_X_13 dX9_tryAt_199 (ji_in h0.1 h0.2) (v := σ.1 13 _) rfl ?_
        refine jr_mmin C km_X9_125 (by decide) (Nat.le_of_ble_eq_true rfl) dX9_tryAt_200 ?_
        refine jr_val (show _ = g_T (x_G σ) (x_N σ) s.toNatClampNeg h b (b + (σ.1 17) ((σ.1 25) s.toNatClampNeg).toNatClampNeg) from g_min_x _ _) ?_
        refine jr_iadd C dX9_tryAt_203 ?_
        refine jr_val (show _ = g_grid (g_mv (x_G σ) s.toNatClampNeg h b) (x_N σ) from (by rw [x2]; exact vl)) ?_
        refine jr_istore C dX9_tryAt_204 (by decide) ?_
        refine jr_iload C dX9_tryAt_206 rfl ?_
        refine jr_aload_n C dX9_tryAt_208 rfl ?_
        refine jr_getv C kf_X9_108_5 dX9_tryAt_209 (v := σ.1 5 9) rfl ?_
        refine jr_ncmp_le C 260 dX9_tryAt_212 (by decide) rfl rfl (fun b212 => ?_) (fun b212 => ?_)
        · refine ret _ _ _ dX9_tryAt_260 ?_
          first | (have t := T0 (by omega)); exact ⟨xS_5_r σ, fun q => q, t⟩ | (have t := T1 (by omega)); exact ⟨by repeat' (with_reducible first | exact xS_5_r σ | refine xS_5_i ?_ (by decide)), fun _ => Or.inr ⟨⟨s0.1, show s.toInt < 60 by omega⟩, h0, b0⟩, t⟩
        · refine jr_aload_n C dX9_tryAt_215 rfl ?_
          refine jr_getr C kf_X9_40_5 dX9_tryAt_216 ?_
          refine jr_iload C dX9_tryAt_219 rfl ?_
          refine jr_iload_n C dX9_tryAt_221 rfl ?_
          refine jr_iload_n C dX9_tryAt_222 rfl ?_
          refine jr_aload_n C dX9_tryAt_223 rfl ?_
          refine jr_getr C kf_X9_36_5 dX9_tryAt_224 ?_
          refine jr_getr C kf_X9_145_3 dX9_tryAt_227 ?_
          refine jr_iload_n C dX9_tryAt_230 rfl ?_
          refine jr_ialv C ka_X_29 dX9_tryAt_231 (ji_in (i := s) (by omega) (by omega)) (v := σ.1 29 _) rfl ?_
          refine jr_iload_n C dX9_tryAt_232 rfl ?_
          refine jr_vi C [.int _, .int _, .int _, .int _, .int _] _ (ct_X1_reason2 E _ _ _ _ _ _ hI hN (xI_film hI _) h0) ky_X1_reason kv_X1_reason kk_X_4 km_X9_148 (by decide) rfl (Nat.le_of_ble_eq_true rfl) dX9_tryAt_233 (fun r233 τ233 h233 => ?_)
          obtain ⟨⟨q233, k233⟩, rfl⟩ := h233; have w233 := congrArg Int32.toInt (q233 hct)
          refine jr_nif_ne C 260 dX9_tryAt_236 (by decide) (fun b236 => ?_) (fun b236 => ?_)
          · refine ret _ _ _ dX9_tryAt_260 ?_
            first | (have t := T0 (by omega)); exact ⟨xS_5_r σ, fun q => q, t⟩ | (have t := T1 (by omega)); exact ⟨by repeat' (with_reducible first | exact xS_5_r σ | refine xS_5_i ?_ (by decide)), fun _ => Or.inr ⟨⟨s0.1, show s.toInt < 60 by omega⟩, h0, b0⟩, t⟩
          · refine jr_aload_n C dX9_tryAt_239 rfl ?_
            refine jr_iload C dX9_tryAt_240 rfl ?_
            refine jr_puti C kp_X9_108_5 dX9_tryAt_242 ?_
            refine jr_aload_n C dX9_tryAt_245 rfl ?_
            refine jr_iload_n C dX9_tryAt_246 rfl ?_
            refine jr_puti C kp_X9_77_5 dX9_tryAt_247 ?_
            refine jr_aload_n C dX9_tryAt_250 rfl ?_
            refine jr_iload_n C dX9_tryAt_251 rfl ?_
            refine jr_puti C kp_X9_80_5 dX9_tryAt_252 ?_
            refine jr_aload_n C dX9_tryAt_255 rfl ?_
            refine jr_iload_n C dX9_tryAt_256 rfl ?_
            refine jr_puti C kp_X9_83_5 dX9_tryAt_257 ?_
            refine ret _ _ _ dX9_tryAt_260 ?_
            first | (have t := T0 (by omega)); exact ⟨xS_5_r σ, fun q => q, t⟩ | (have t := T1 (by omega)); exact ⟨by repeat' (with_reducible first | exact xS_5_r σ | refine xS_5_i ?_ (by decide)), fun _ => Or.inr ⟨⟨s0.1, show s.toInt < 60 by omega⟩, h0, b0⟩, t⟩
      · refine jr_iload C dX9_tryAt_82 rfl ?_
        refine jr_iload_n C dX9_tryAt_84 rfl ?_
        refine jr_ncmp_eq C 174 dX9_tryAt_85 (by decide) rfl rfl (fun b85 => ?_) (fun b85 => ?_)
        · refine jr_iinc C _ dX9_tryAt_174 rfl rfl (by decide) ?_
          refine jr_goto C 70 dX9_tryAt_177 (by decide) ?_
          exact jr_sub [(0, jf_r E 5), (1, .int s), (2, .int h), (3, .int b), (4, .int q), (5, .int ((σ.1 25) s.toNatClampNeg)), (6, .int _), (7, .int _), (8, .int _), (9, .int (b + (σ.1 17) ((σ.1 25) s.toNatClampNeg).toNatClampNeg)), (10, .int _)] rfl (ih _ _ _ _ (by omega) (by omega) (by omega) (by rw [g_sc g1 e1]; first | (have q1 : g_nr (x_G σ) s.toNatClampNeg h b (b + (σ.1 17) ((σ.1 25) s.toNatClampNeg).toNatClampNeg) o.toNatClampNeg = true := by rw [xg_nr (hN _ (by omega))]; exact decide_eq_true (by omega)); exact gc_y x1 q1 | (have q1 : g_nr (x_G σ) s.toNatClampNeg h b (b + (σ.1 17) ((σ.1 25) s.toNatClampNeg).toNatClampNeg) o.toNatClampNeg = false := by rw [xg_nr (hN _ (by omega))]; exact decide_eq_false (by omega)); exact gc_s x1 q1) (by rw [g_sc g1 e1]; first | (have q1 : g_nr (x_G σ) s.toNatClampNeg h b (b + (σ.1 17) ((σ.1 25) s.toNatClampNeg).toNatClampNeg) o.toNatClampNeg = true := by rw [xg_nr (hN _ (by omega))]; exact decide_eq_true (by omega)); exact x_tv_1 hI hk (by omega) q1 x2 | (have q1 : g_nr (x_G σ) s.toNatClampNeg h b (b + (σ.1 17) ((σ.1 25) s.toNatClampNeg).toNatClampNeg) o.toNatClampNeg = false := by rw [xg_nr (hN _ (by omega))]; exact decide_eq_false (by omega)); exact x_tv_0 q1 x2))
        · refine jr_aload_n C dX9_tryAt_88 rfl ?_
          refine jr_getr C kf_X9_36_5 dX9_tryAt_89 ?_
          refine jr_getr C kf_X9_66_3 dX9_tryAt_92 ?_
          refine jr_iload C dX9_tryAt_95 rfl ?_
          refine jr_zalv C ka_X_31 dX9_tryAt_97 (ji_in (i := o) (by omega) (by omega)) (v := σ.1 31 _) rfl ?_
          refine jr_nif_eq C 174 dX9_tryAt_98 (by decide) (fun b98 => ?_) (fun b98 => ?_)
          · refine jr_iinc C _ dX9_tryAt_174 rfl rfl (by decide) ?_
            refine jr_goto C 70 dX9_tryAt_177 (by decide) ?_
            exact jr_sub [(0, jf_r E 5), (1, .int s), (2, .int h), (3, .int b), (4, .int q), (5, .int ((σ.1 25) s.toNatClampNeg)), (6, .int _), (7, .int _), (8, .int _), (9, .int (b + (σ.1 17) ((σ.1 25) s.toNatClampNeg).toNatClampNeg)), (10, .int _)] rfl (ih _ _ _ _ (by omega) (by omega) (by omega) (by rw [g_sc g1 e1]; first | (have q1 : g_nr (x_G σ) s.toNatClampNeg h b (b + (σ.1 17) ((σ.1 25) s.toNatClampNeg).toNatClampNeg) o.toNatClampNeg = true := by rw [xg_nr (hN _ (by omega))]; exact decide_eq_true (by omega)); exact gc_y x1 q1 | (have q1 : g_nr (x_G σ) s.toNatClampNeg h b (b + (σ.1 17) ((σ.1 25) s.toNatClampNeg).toNatClampNeg) o.toNatClampNeg = false := by rw [xg_nr (hN _ (by omega))]; exact decide_eq_false (by omega)); exact gc_s x1 q1) (by rw [g_sc g1 e1]; first | (have q1 : g_nr (x_G σ) s.toNatClampNeg h b (b + (σ.1 17) ((σ.1 25) s.toNatClampNeg).toNatClampNeg) o.toNatClampNeg = true := by rw [xg_nr (hN _ (by omega))]; exact decide_eq_true (by omega)); exact x_tv_1 hI hk (by omega) q1 x2 | (have q1 : g_nr (x_G σ) s.toNatClampNeg h b (b + (σ.1 17) ((σ.1 25) s.toNatClampNeg).toNatClampNeg) o.toNatClampNeg = false := by rw [xg_nr (hN _ (by omega))]; exact decide_eq_false (by omega)); exact x_tv_0 q1 x2))
          · refine jr_aload_n C dX9_tryAt_101 rfl ?_
            refine jr_getr C kf_X9_28_5 dX9_tryAt_102 ?_
            refine jr_iload_n C dX9_tryAt_105 rfl ?_
            refine jr_aload_n C dX9_tryAt_106 rfl ?_
            refine jr_getr C kf_X9_36_5 dX9_tryAt_107 ?_
            refine jr_getr C kf_X9_135_3 dX9_tryAt_110 ?_
            refine jr_iload C dX9_tryAt_113 rfl ?_
            refine jr_ialv C ka_X_26 dX9_tryAt_115 (ji_in (i := o) (by omega) (by omega)) (v := σ.1 26 _) rfl ?_
            refine jr_vip C [.int _, .int _] _ (ct_X3_inOneTown E _ _ _ h0 (xI_hall hI _)) ky_X3_inOneTown kv_X3_inOneTown kk_X_1 km_X9_138 (by decide) rfl (Nat.le_of_ble_eq_true rfl) dX9_tryAt_116 ?_
            refine jr_if_eq C 174 dX9_tryAt_119 (by decide) (fun b119 => ?_) (fun b119 => ?_)
            · replace b119 := jb_f b119
              refine jr_iinc C _ dX9_tryAt_174 rfl rfl (by decide) ?_
              refine jr_goto C 70 dX9_tryAt_177 (by decide) ?_
              exact jr_sub [(0, jf_r E 5), (1, .int s), (2, .int h), (3, .int b), (4, .int q), (5, .int ((σ.1 25) s.toNatClampNeg)), (6, .int _), (7, .int _), (8, .int _), (9, .int (b + (σ.1 17) ((σ.1 25) s.toNatClampNeg).toNatClampNeg)), (10, .int _)] rfl (ih _ _ _ _ (by omega) (by omega) (by omega) (by rw [g_sc g1 e1]; first | (have q1 : g_nr (x_G σ) s.toNatClampNeg h b (b + (σ.1 17) ((σ.1 25) s.toNatClampNeg).toNatClampNeg) o.toNatClampNeg = true := by rw [xg_nr (hN _ (by omega))]; exact decide_eq_true (by omega)); exact gc_y x1 q1 | (have q1 : g_nr (x_G σ) s.toNatClampNeg h b (b + (σ.1 17) ((σ.1 25) s.toNatClampNeg).toNatClampNeg) o.toNatClampNeg = false := by rw [xg_nr (hN _ (by omega))]; exact decide_eq_false (by omega)); exact gc_s x1 q1) (by rw [g_sc g1 e1]; first | (have q1 : g_nr (x_G σ) s.toNatClampNeg h b (b + (σ.1 17) ((σ.1 25) s.toNatClampNeg).toNatClampNeg) o.toNatClampNeg = true := by rw [xg_nr (hN _ (by omega))]; exact decide_eq_true (by omega)); exact x_tv_1 hI hk (by omega) q1 x2 | (have q1 : g_nr (x_G σ) s.toNatClampNeg h b (b + (σ.1 17) ((σ.1 25) s.toNatClampNeg).toNatClampNeg) o.toNatClampNeg = false := by rw [xg_nr (hN _ (by omega))]; exact decide_eq_false (by omega)); exact x_tv_0 q1 x2))
            · replace b119 := jb_t b119
              refine jr_aload_n C dX9_tryAt_122 rfl ?_
              refine jr_getr C kf_X9_36_5 dX9_tryAt_123 ?_
              refine jr_iload C dX9_tryAt_126 rfl ?_
              refine jr_iload_n C dX9_tryAt_128 rfl ?_
              refine jr_iload C dX9_tryAt_129 rfl ?_
              refine jr_vip C [.int _, .int _, .int _] _ (ct_X8_runsWithin E _ _ _ _ ⟨by omega, by omega⟩) ky_X8_runsWithin kv_X8_runsWithin kk_X_3 km_X9_141 (by decide) rfl (Nat.le_of_ble_eq_true rfl) dX9_tryAt_131 ?_
              refine jr_if_eq C 174 dX9_tryAt_134 (by decide) (fun b134 => ?_) (fun b134 => ?_)
              · replace b134 := jb_f b134
                refine jr_iinc C _ dX9_tryAt_174 rfl rfl (by decide) ?_
                refine jr_goto C 70 dX9_tryAt_177 (by decide) ?_
                exact jr_sub [(0, jf_r E 5), (1, .int s), (2, .int h), (3, .int b), (4, .int q), (5, .int ((σ.1 25) s.toNatClampNeg)), (6, .int _), (7, .int _), (8, .int _), (9, .int (b + (σ.1 17) ((σ.1 25) s.toNatClampNeg).toNatClampNeg)), (10, .int _)] rfl (ih _ _ _ _ (by omega) (by omega) (by omega) (by rw [g_sc g1 e1]; first | (have q1 : g_nr (x_G σ) s.toNatClampNeg h b (b + (σ.1 17) ((σ.1 25) s.toNatClampNeg).toNatClampNeg) o.toNatClampNeg = true := by rw [xg_nr (hN _ (by omega))]; exact decide_eq_true (by omega)); exact gc_y x1 q1 | (have q1 : g_nr (x_G σ) s.toNatClampNeg h b (b + (σ.1 17) ((σ.1 25) s.toNatClampNeg).toNatClampNeg) o.toNatClampNeg = false := by rw [xg_nr (hN _ (by omega))]; exact decide_eq_false (by omega)); exact gc_s x1 q1) (by rw [g_sc g1 e1]; first | (have q1 : g_nr (x_G σ) s.toNatClampNeg h b (b + (σ.1 17) ((σ.1 25) s.toNatClampNeg).toNatClampNeg) o.toNatClampNeg = true := by rw [xg_nr (hN _ (by omega))]; exact decide_eq_true (by omega)); exact x_tv_1 hI hk (by omega) q1 x2 | (have q1 : g_nr (x_G σ) s.toNatClampNeg h b (b + (σ.1 17) ((σ.1 25) s.toNatClampNeg).toNatClampNeg) o.toNatClampNeg = false := by rw [xg_nr (hN _ (by omega))]; exact decide_eq_false (by omega)); exact x_tv_0 q1 x2))
              · replace b134 := jb_t b134
                refine jr_iinc C _ dX9_tryAt_137 rfl rfl (by decide) ?_
                refine jr_iload C dX9_tryAt_140 rfl ?_
                refine jr_aload_n C dX9_tryAt_142 rfl ?_
                refine jr_iload C dX9_tryAt_143 rfl ?_
                refine jr_aload_n C dX9_tryAt_145 rfl ?_
                refine jr_getr C kf_X9_21_5 dX9_tryAt_146 ?_
                refine jr_iload C dX9_tryAt_149 rfl ?_
                refine jr_ialv C ka_X_36 dX9_tryAt_151 (ji_in (i := o) (by omega) (by omega)) (v := σ.1 36 _) rfl ?_
                refine jr_iconst C (v := 1) dX9_tryAt_152 (by decide) ?_
                refine jr_iadd C dX9_tryAt_153 ?_
                refine jr_vip C [.int _, .int _] _ (ct_X9_worth E _ _ _ hI ⟨by omega, by omega⟩) ky_X9_worth kv_X9_worth kk_X_5 km_X9_58 (by decide) rfl (Nat.le_of_ble_eq_true rfl) dX9_tryAt_154 ?_
                refine jr_aload_n C dX9_tryAt_157 rfl ?_
                refine jr_iload C dX9_tryAt_158 rfl ?_
                refine jr_aload_n C dX9_tryAt_160 rfl ?_
                refine jr_getr C kf_X9_21_5 dX9_tryAt_161 ?_
                refine jr_iload C dX9_tryAt_164 rfl ?_
                refine jr_ialv C ka_X_36 dX9_tryAt_166 (ji_in (i := o) (by omega) (by omega)) (v := σ.1 36 _) rfl ?_
                refine jr_vip C [.int _, .int _] _ (ct_X9_worth E _ _ _ hI ⟨by omega, by omega⟩) ky_X9_worth kv_X9_worth kk_X_5 km_X9_58 (by decide) rfl (Nat.le_of_ble_eq_true rfl) dX9_tryAt_167 ?_
                refine jr_isub C dX9_tryAt_170 ?_
                refine jr_iadd C dX9_tryAt_171 ?_
                refine jr_istore C dX9_tryAt_172 (by decide) ?_
                refine jr_iinc C _ dX9_tryAt_174 rfl rfl (by decide) ?_
                refine jr_goto C 70 dX9_tryAt_177 (by decide) ?_
                exact jr_sub [(0, jf_r E 5), (1, .int s), (2, .int h), (3, .int b), (4, .int q), (5, .int ((σ.1 25) s.toNatClampNeg)), (6, .int _), (7, .int _), (8, .int _), (9, .int (b + (σ.1 17) ((σ.1 25) s.toNatClampNeg).toNatClampNeg)), (10, .int _)] rfl (ih _ _ _ _ (by omega) (by omega) (by omega) (by rw [g_sc g1 e1]; first | (have q1 : g_nr (x_G σ) s.toNatClampNeg h b (b + (σ.1 17) ((σ.1 25) s.toNatClampNeg).toNatClampNeg) o.toNatClampNeg = true := by rw [xg_nr (hN _ (by omega))]; exact decide_eq_true (by omega)); exact gc_y x1 q1 | (have q1 : g_nr (x_G σ) s.toNatClampNeg h b (b + (σ.1 17) ((σ.1 25) s.toNatClampNeg).toNatClampNeg) o.toNatClampNeg = false := by rw [xg_nr (hN _ (by omega))]; exact decide_eq_false (by omega)); exact gc_s x1 q1) (by rw [g_sc g1 e1]; first | (have q1 : g_nr (x_G σ) s.toNatClampNeg h b (b + (σ.1 17) ((σ.1 25) s.toNatClampNeg).toNatClampNeg) o.toNatClampNeg = true := by rw [xg_nr (hN _ (by omega))]; exact decide_eq_true (by omega)); exact x_tv_1 hI hk (by omega) q1 x2 | (have q1 : g_nr (x_G σ) s.toNatClampNeg h b (b + (σ.1 17) ((σ.1 25) s.toNatClampNeg).toNatClampNeg) o.toNatClampNeg = false := by rw [xg_nr (hN _ (by omega))]; exact decide_eq_false (by omega)); exact x_tv_0 q1 x2))
  refine jr_aload_n C dX9_tryAt_0 rfl ?_
  refine jr_getr C kf_X9_36_5 dX9_tryAt_1 ?_
  refine jr_getr C kf_X9_115_3 dX9_tryAt_4 ?_
  refine jr_iload_n C dX9_tryAt_7 rfl ?_
  refine jr_ialv C ka_X_25 dX9_tryAt_8 (ji_in (i := s) (by omega) (by omega)) (v := σ.1 25 _) rfl ?_
  refine jr_istore C dX9_tryAt_9 (by decide) ?_
  refine jr_aload_n C dX9_tryAt_11 rfl ?_
  refine jr_iload C dX9_tryAt_12 rfl ?_
  refine jr_iload_n C dX9_tryAt_14 rfl ?_
  refine jr_iconst C (v := 0) dX9_tryAt_15 (by decide) ?_
  refine jr_vip C [.int _, .int _, .int _] _ (ct_X9_share E _ _ _ _ (xI_film hI _) b0.1) ky_X9_share kv_X9_share kk_X_5 km_X9_118 (by decide) rfl (Nat.le_of_ble_eq_true rfl) dX9_tryAt_16 ?_
  refine jr_val (show _ = g_alone (x_G σ) ((σ.1 25) s.toNatClampNeg) b from if_neg (by decide)) ?_
  refine jr_istore C dX9_tryAt_19 (by decide) ?_
  refine jr_iload C dX9_tryAt_21 rfl ?_
  refine jr_iload C dX9_tryAt_23 rfl ?_
  refine jr_aload_n C dX9_tryAt_25 rfl ?_
  refine jr_getr C kf_X9_28_5 dX9_tryAt_26 ?_
  refine jr_getr C kf_X9_122_1 dX9_tryAt_29 ?_
  refine jr_iload_n C dX9_tryAt_32 rfl ?_
  refine jr_ialv C ka_X_13 dX9_tryAt_33 (ji_in h0.1 h0.2) (v := σ.1 13 _) rfl ?_
  refine jr_mmin C km_X9_125 (by decide) (Nat.le_of_ble_eq_true rfl) dX9_tryAt_34 ?_
  refine jr_val (show _ = g_min (g_alone (x_G σ) ((σ.1 25) s.toNatClampNeg) b) (x_G σ 2 h.toNatClampNeg) from g_min_x _ _) ?_
  refine jr_iadd C dX9_tryAt_37 ?_
  refine jr_aload_n C dX9_tryAt_38 rfl ?_
  refine jr_getv C kf_X9_108_5 dX9_tryAt_39 (v := σ.1 5 9) rfl ?_
  refine jr_ncmp_gt C 46 dX9_tryAt_42 (by decide) rfl rfl (fun b42 => ?_) (fun b42 => ?_)
  · refine jr_iconst C (v := 0) dX9_tryAt_46 (by decide) ?_
    refine jr_istore C dX9_tryAt_47 (by decide) ?_
    refine jr_iload C dX9_tryAt_49 rfl ?_
    refine jr_istore C dX9_tryAt_51 (by decide) ?_
    refine jr_iload_n C dX9_tryAt_53 rfl ?_
    refine jr_aload_n C dX9_tryAt_54 rfl ?_
    refine jr_getr C kf_X9_32_5 dX9_tryAt_55 ?_
    refine jr_getr C kf_X9_130_2 dX9_tryAt_58 ?_
    refine jr_iload C dX9_tryAt_61 rfl ?_
    refine jr_ialv C ka_X_17 dX9_tryAt_63 (ji_in (xI_film hI _).1 (xI_film hI _).2) (v := σ.1 17 _) rfl ?_
    refine jr_iadd C dX9_tryAt_64 ?_
    refine jr_istore C dX9_tryAt_65 (by decide) ?_
    refine jr_iconst C (v := 0) dX9_tryAt_67 (by decide) ?_
    refine jr_istore C dX9_tryAt_68 (by decide) ?_
    exact jr_sub [(0, jf_r E 5), (1, .int s), (2, .int h), (3, .int b), (4, .int q), (5, .int ((σ.1 25) s.toNatClampNeg)), (6, .int _), (7, .int _), (8, .int _), (9, .int (b + (σ.1 17) ((σ.1 25) s.toNatClampNeg).toNatClampNeg)), (10, .int _)] rfl (lp 61 _ _ _ _ (by decide) hE.1 (by show _ - 0 < _; omega) rfl (Int32.add_zero q).symm)
  · exact ret _ _ _ dX9_tryAt_45 (⟨xS_5_r σ, fun q => q, T0 (fun k => absurd k.2 (by have pr' : (g_grid (g_mv (x_G σ) s.toNatClampNeg h b) (x_N σ)).toInt ≤ (q + g_min (g_alone (x_G σ) ((σ.1 25) s.toNatClampNeg) b) (x_G σ 2 h.toNatClampNeg)).toInt := pr; omega))⟩)

