/-! the class: better, safe -/
/-- the change at hand is one that can be made -/
def xW (σ : jf_S) : Prop := ((σ.1 5 10)).toInt = -1 ∨ ((0 ≤ ((σ.1 5 10)).toInt ∧ ((σ.1 5 10)).toInt < 60) ∧ (0 ≤ ((σ.1 5 11)).toInt ∧ ((σ.1 5 11)).toInt < 4) ∧ (0 ≤ ((σ.1 5 12)).toInt ∧ ((σ.1 5 12)).toInt ≤ 14399))
def xH (σ : jf_S) : Prop := (0 ≤ ((σ.1 5 8)).toInt ∧ ((σ.1 5 8)).toInt ≤ 10) ∧ (∀ j, 0 ≤ ((σ.1 34) j).toInt ∧ ((σ.1 34) j).toInt ≤ 14399)
theorem ct_X9_tryAt (E : jf_E) (σ : jf_S) (s h b q : Int32) (hI : xI σ) (s0 : 0 ≤ s.toInt ∧ s.toInt < 60) (h0 : 0 ≤ h.toInt ∧ h.toInt < 4) (b0 : 0 ≤ b.toInt ∧ b.toInt ≤ 14399) : jf_V jh_X E yX9_tryAt cX9_tryAt 11 3 [jf_r E 5, .int s, .int h, .int b, .int q] σ (fun τ => xS_w σ τ ∧ (xW σ → xW τ)) := by
  refine jf_mkV (by decide) (Nat.le_of_ble_eq_true rfl) ?_
  intro G C ret
  have hE := hI.1
  have lp : ∀ (m : Nat) (a n v e o : Int32), 0 ≤ o.toInt → o.toInt ≤ ((σ.1 3 8)).toInt → ((σ.1 3 8)).toInt - o.toInt < m → jf_X jh_X E G 11 70 [(0, jf_r E 5), (1, .int s), (2, .int h), (3, .int b), (4, .int q), (5, .int ((σ.1 25) s.toNatClampNeg)), (6, .int a), (7, .int n), (8, .int v), (9, .int e), (10, .int o)] [] σ := by
    intro m
    induction m with
    | zero => intro a n v e o g1 g2 g3; exfalso; omega
    | succ m ih =>
      intro a n v e o g1 g2 g3
      have e1 := ji_inc (k := o) (by omega)
      refine jr_iload C dX9_tryAt_70 rfl ?_
      refine jr_aload_n C dX9_tryAt_72 rfl ?_
      refine jr_getr C kf_X9_36_5 dX9_tryAt_73 ?_
      refine jr_getv C kf_X9_61_3 dX9_tryAt_76 (v := σ.1 3 8) rfl ?_
      refine jr_ncmp_ge C 180 dX9_tryAt_79 (by decide) rfl rfl (fun b79 => ?_) (fun b79 => ?_)
      · refine jr_iload C dX9_tryAt_180 rfl ?_
        refine jr_aload_n C dX9_tryAt_182 rfl ?_
        refine jr_iload C dX9_tryAt_183 rfl ?_
        refine jr_iload_n C dX9_tryAt_185 rfl ?_
        refine jr_iload C dX9_tryAt_186 rfl ?_
        refine jr_vip C [.int _, .int _, .int _] _ (ct_X9_share E _ _ _ _ (xI_film hI _) b0.1) ky_X9_share kv_X9_share kk_X_5 km_X9_118 (by decide) rfl (Nat.le_of_ble_eq_true rfl) dX9_tryAt_188 ?_
        refine jr_aload_n C dX9_tryAt_191 rfl ?_
        refine jr_getr C kf_X9_28_5 dX9_tryAt_192 ?_
        refine jr_getr C kf_X9_122_1 dX9_tryAt_195 ?_
        refine jr_iload_n C dX9_tryAt_198 rfl ?_
        refine jr_ialv C ka_X_13 dX9_tryAt_199 (ji_in h0.1 h0.2) (v := σ.1 13 _) rfl ?_
        refine jr_mmin C km_X9_125 (by decide) (Nat.le_of_ble_eq_true rfl) dX9_tryAt_200 ?_
        refine jr_iadd C dX9_tryAt_203 ?_
        refine jr_istore C dX9_tryAt_204 (by decide) ?_
        refine jr_iload C dX9_tryAt_206 rfl ?_
        refine jr_aload_n C dX9_tryAt_208 rfl ?_
        refine jr_getv C kf_X9_108_5 dX9_tryAt_209 (v := σ.1 5 9) rfl ?_
        refine jr_ncmp_le C 260 dX9_tryAt_212 (by decide) rfl rfl (fun b212 => ?_) (fun b212 => ?_)
        · refine ret _ _ _ dX9_tryAt_260 ?_
          first | exact ⟨xS_w_r σ, fun q => q⟩ | exact ⟨by repeat' (with_reducible first | exact xS_w_r σ | refine xS_w_5 ?_ (by decide)), fun _ => Or.inr ⟨s0, h0, b0⟩⟩
        · refine jr_aload_n C dX9_tryAt_215 rfl ?_
          refine jr_getr C kf_X9_40_5 dX9_tryAt_216 ?_
          refine jr_iload C dX9_tryAt_219 rfl ?_
          refine jr_iload_n C dX9_tryAt_221 rfl ?_
          refine jr_iload_n C dX9_tryAt_222 rfl ?_
          refine jr_aload_n C dX9_tryAt_223 rfl ?_
          refine jr_getr C kf_X9_36_5 dX9_tryAt_224 ?_
          refine jr_getr C kf_X9_145_3 dX9_tryAt_227 ?_
          refine jr_iload_n C dX9_tryAt_230 rfl ?_
          refine jr_ialv C ka_X_29 dX9_tryAt_231 (ji_in s0.1 s0.2) (v := σ.1 29 _) rfl ?_
          refine jr_iload_n C dX9_tryAt_232 rfl ?_
          refine jr_vi C [.int _, .int _, .int _, .int _, .int _] _ (ct_X1_reason E _ _ _ _ _ _ hI (xI_film hI _) h0) ky_X1_reason kv_X1_reason kk_X_4 km_X9_148 (by decide) rfl (Nat.le_of_ble_eq_true rfl) dX9_tryAt_233 (fun r233 τ233 h233 => ?_)
          obtain ⟨-, rfl⟩ := h233
          refine jr_nif_ne C 260 dX9_tryAt_236 (by decide) (fun b236 => ?_) (fun b236 => ?_)
          · refine ret _ _ _ dX9_tryAt_260 ?_
            first | exact ⟨xS_w_r σ, fun q => q⟩ | exact ⟨by repeat' (with_reducible first | exact xS_w_r σ | refine xS_w_5 ?_ (by decide)), fun _ => Or.inr ⟨s0, h0, b0⟩⟩
          · refine jr_aload_n C dX9_tryAt_239 rfl ?_
            refine jr_iload C dX9_tryAt_240 rfl ?_
            refine jr_puti C kp_X9_108_5 dX9_tryAt_242 ?_
            refine jr_aload_n C dX9_tryAt_245 rfl ?_
            refine jr_iload_n C dX9_tryAt_246 rfl ?_
            refine jr_puti C kp_X9_77_5 dX9_tryAt_247 ?_
            refine jr_aload_n C dX9_tryAt_250 rfl ?_
            refine jr_iload_n C dX9_tryAt_251 rfl ?_
            refine jr_puti C kp_X9_80_5 dX9_tryAt_252 ?_
            refine jr_aload_n C dX9_tryAt_255 rfl ?_
            refine jr_iload_n C dX9_tryAt_256 rfl ?_
            refine jr_puti C kp_X9_83_5 dX9_tryAt_257 ?_
            refine ret _ _ _ dX9_tryAt_260 ?_
            first | exact ⟨xS_w_r σ, fun q => q⟩ | exact ⟨by repeat' (with_reducible first | exact xS_w_r σ | refine xS_w_5 ?_ (by decide)), fun _ => Or.inr ⟨s0, h0, b0⟩⟩
      · refine jr_iload C dX9_tryAt_82 rfl ?_
        refine jr_iload_n C dX9_tryAt_84 rfl ?_
        refine jr_ncmp_eq C 174 dX9_tryAt_85 (by decide) rfl rfl (fun b85 => ?_) (fun b85 => ?_)
        · refine jr_iinc C _ dX9_tryAt_174 rfl rfl (by decide) ?_
          refine jr_goto C 70 dX9_tryAt_177 (by decide) ?_
          exact jr_sub [(0, jf_r E 5), (1, .int s), (2, .int h), (3, .int b), (4, .int q), (5, .int ((σ.1 25) s.toNatClampNeg)), (6, .int _), (7, .int _), (8, .int _), (9, .int _), (10, .int _)] rfl (ih _ _ _ _ _ (by omega) (by omega) (by omega))
        · refine jr_aload_n C dX9_tryAt_88 rfl ?_
          refine jr_getr C kf_X9_36_5 dX9_tryAt_89 ?_
          refine jr_getr C kf_X9_66_3 dX9_tryAt_92 ?_
          refine jr_iload C dX9_tryAt_95 rfl ?_
          refine jr_zalv C ka_X_31 dX9_tryAt_97 (ji_in (i := o) (by omega) (by omega)) (v := σ.1 31 _) rfl ?_
          refine jr_nif_eq C 174 dX9_tryAt_98 (by decide) (fun b98 => ?_) (fun b98 => ?_)
          · refine jr_iinc C _ dX9_tryAt_174 rfl rfl (by decide) ?_
            refine jr_goto C 70 dX9_tryAt_177 (by decide) ?_
            exact jr_sub [(0, jf_r E 5), (1, .int s), (2, .int h), (3, .int b), (4, .int q), (5, .int ((σ.1 25) s.toNatClampNeg)), (6, .int _), (7, .int _), (8, .int _), (9, .int _), (10, .int _)] rfl (ih _ _ _ _ _ (by omega) (by omega) (by omega))
          · refine jr_aload_n C dX9_tryAt_101 rfl ?_
            refine jr_getr C kf_X9_28_5 dX9_tryAt_102 ?_
            refine jr_iload_n C dX9_tryAt_105 rfl ?_
            refine jr_aload_n C dX9_tryAt_106 rfl ?_
            refine jr_getr C kf_X9_36_5 dX9_tryAt_107 ?_
            refine jr_getr C kf_X9_135_3 dX9_tryAt_110 ?_
            refine jr_iload C dX9_tryAt_113 rfl ?_
            refine jr_ialv C ka_X_26 dX9_tryAt_115 (ji_in (i := o) (by omega) (by omega)) (v := σ.1 26 _) rfl ?_
            refine jr_vip C [.int _, .int _] _ (ct_X3_inOneTown E _ _ _ h0 (xI_hall hI _)) ky_X3_inOneTown kv_X3_inOneTown kk_X_1 km_X9_138 (by decide) rfl (Nat.le_of_ble_eq_true rfl) dX9_tryAt_116 ?_
            refine jr_if_eq C 174 dX9_tryAt_119 (by decide) (fun b119 => ?_) (fun b119 => ?_)
            · replace b119 := jb_f b119
              refine jr_iinc C _ dX9_tryAt_174 rfl rfl (by decide) ?_
              refine jr_goto C 70 dX9_tryAt_177 (by decide) ?_
              exact jr_sub [(0, jf_r E 5), (1, .int s), (2, .int h), (3, .int b), (4, .int q), (5, .int ((σ.1 25) s.toNatClampNeg)), (6, .int _), (7, .int _), (8, .int _), (9, .int _), (10, .int _)] rfl (ih _ _ _ _ _ (by omega) (by omega) (by omega))
            · replace b119 := jb_t b119
              refine jr_aload_n C dX9_tryAt_122 rfl ?_
              refine jr_getr C kf_X9_36_5 dX9_tryAt_123 ?_
              refine jr_iload C dX9_tryAt_126 rfl ?_
              refine jr_iload_n C dX9_tryAt_128 rfl ?_
              refine jr_iload C dX9_tryAt_129 rfl ?_
              refine jr_vip C [.int _, .int _, .int _] _ (ct_X8_runsWithin E _ _ _ _ ⟨by omega, by omega⟩) ky_X8_runsWithin kv_X8_runsWithin kk_X_3 km_X9_141 (by decide) rfl (Nat.le_of_ble_eq_true rfl) dX9_tryAt_131 ?_
              refine jr_if_eq C 174 dX9_tryAt_134 (by decide) (fun b134 => ?_) (fun b134 => ?_)
              · replace b134 := jb_f b134
                refine jr_iinc C _ dX9_tryAt_174 rfl rfl (by decide) ?_
                refine jr_goto C 70 dX9_tryAt_177 (by decide) ?_
                exact jr_sub [(0, jf_r E 5), (1, .int s), (2, .int h), (3, .int b), (4, .int q), (5, .int ((σ.1 25) s.toNatClampNeg)), (6, .int _), (7, .int _), (8, .int _), (9, .int _), (10, .int _)] rfl (ih _ _ _ _ _ (by omega) (by omega) (by omega))
              · replace b134 := jb_t b134
                refine jr_iinc C _ dX9_tryAt_137 rfl rfl (by decide) ?_
                refine jr_iload C dX9_tryAt_140 rfl ?_
                refine jr_aload_n C dX9_tryAt_142 rfl ?_
                refine jr_iload C dX9_tryAt_143 rfl ?_
                refine jr_aload_n C dX9_tryAt_145 rfl ?_
                refine jr_getr C kf_X9_21_5 dX9_tryAt_146 ?_
                refine jr_iload C dX9_tryAt_149 rfl ?_
                refine jr_ialv C ka_X_36 dX9_tryAt_151 (ji_in (i := o) (by omega) (by omega)) (v := σ.1 36 _) rfl ?_
                refine jr_iconst C (v := 1) dX9_tryAt_152 (by decide) ?_
                refine jr_iadd C dX9_tryAt_153 ?_
                refine jr_vip C [.int _, .int _] _ (ct_X9_worth E _ _ _ hI ⟨by omega, by omega⟩) ky_X9_worth kv_X9_worth kk_X_5 km_X9_58 (by decide) rfl (Nat.le_of_ble_eq_true rfl) dX9_tryAt_154 ?_
                refine jr_aload_n C dX9_tryAt_157 rfl ?_
                refine jr_iload C dX9_tryAt_158 rfl ?_
                refine jr_aload_n C dX9_tryAt_160 rfl ?_
                refine jr_getr C kf_X9_21_5 dX9_tryAt_161 ?_
                refine jr_iload C dX9_tryAt_164 rfl ?_
                refine jr_ialv C ka_X_36 dX9_tryAt_166 (ji_in (i := o) (by omega) (by omega)) (v := σ.1 36 _) rfl ?_
                refine jr_vip C [.int _, .int _] _ (ct_X9_worth E _ _ _ hI ⟨by omega, by omega⟩) ky_X9_worth kv_X9_worth kk_X_5 km_X9_58 (by decide) rfl (Nat.le_of_ble_eq_true rfl) dX9_tryAt_167 ?_
                refine jr_isub C dX9_tryAt_170 ?_
                refine jr_iadd C dX9_tryAt_171 ?_
                refine jr_istore C dX9_tryAt_172 (by decide) ?_
                refine jr_iinc C _ dX9_tryAt_174 rfl rfl (by decide) ?_
                refine jr_goto C 70 dX9_tryAt_177 (by decide) ?_
                exact jr_sub [(0, jf_r E 5), (1, .int s), (2, .int h), (3, .int b), (4, .int q), (5, .int ((σ.1 25) s.toNatClampNeg)), (6, .int _), (7, .int _), (8, .int _), (9, .int _), (10, .int _)] rfl (ih _ _ _ _ _ (by omega) (by omega) (by omega))
  refine jr_aload_n C dX9_tryAt_0 rfl ?_
  refine jr_getr C kf_X9_36_5 dX9_tryAt_1 ?_
  refine jr_getr C kf_X9_115_3 dX9_tryAt_4 ?_
  refine jr_iload_n C dX9_tryAt_7 rfl ?_
  refine jr_ialv C ka_X_25 dX9_tryAt_8 (ji_in s0.1 s0.2) (v := σ.1 25 _) rfl ?_
  refine jr_istore C dX9_tryAt_9 (by decide) ?_
  refine jr_aload_n C dX9_tryAt_11 rfl ?_
  refine jr_iload C dX9_tryAt_12 rfl ?_
  refine jr_iload_n C dX9_tryAt_14 rfl ?_
  refine jr_iconst C (v := 0) dX9_tryAt_15 (by decide) ?_
  refine jr_vip C [.int _, .int _, .int _] _ (ct_X9_share E _ _ _ _ (xI_film hI _) b0.1) ky_X9_share kv_X9_share kk_X_5 km_X9_118 (by decide) rfl (Nat.le_of_ble_eq_true rfl) dX9_tryAt_16 ?_
  refine jr_istore C dX9_tryAt_19 (by decide) ?_
  refine jr_iload C dX9_tryAt_21 rfl ?_
  refine jr_iload C dX9_tryAt_23 rfl ?_
  refine jr_aload_n C dX9_tryAt_25 rfl ?_
  refine jr_getr C kf_X9_28_5 dX9_tryAt_26 ?_
  refine jr_getr C kf_X9_122_1 dX9_tryAt_29 ?_
  refine jr_iload_n C dX9_tryAt_32 rfl ?_
  refine jr_ialv C ka_X_13 dX9_tryAt_33 (ji_in h0.1 h0.2) (v := σ.1 13 _) rfl ?_
  refine jr_mmin C km_X9_125 (by decide) (Nat.le_of_ble_eq_true rfl) dX9_tryAt_34 ?_
  refine jr_iadd C dX9_tryAt_37 ?_
  refine jr_aload_n C dX9_tryAt_38 rfl ?_
  refine jr_getv C kf_X9_108_5 dX9_tryAt_39 (v := σ.1 5 9) rfl ?_
  refine jr_ncmp_gt C 46 dX9_tryAt_42 (by decide) rfl rfl (fun b42 => ?_) (fun b42 => ?_)
  · refine jr_iconst C (v := 0) dX9_tryAt_46 (by decide) ?_
    refine jr_istore C dX9_tryAt_47 (by decide) ?_
    refine jr_iload C dX9_tryAt_49 rfl ?_
    refine jr_istore C dX9_tryAt_51 (by decide) ?_
    refine jr_iload_n C dX9_tryAt_53 rfl ?_
    refine jr_aload_n C dX9_tryAt_54 rfl ?_
    refine jr_getr C kf_X9_32_5 dX9_tryAt_55 ?_
    refine jr_getr C kf_X9_130_2 dX9_tryAt_58 ?_
    refine jr_iload C dX9_tryAt_61 rfl ?_
    refine jr_ialv C ka_X_17 dX9_tryAt_63 (ji_in (xI_film hI _).1 (xI_film hI _).2) (v := σ.1 17 _) rfl ?_
    refine jr_iadd C dX9_tryAt_64 ?_
    refine jr_istore C dX9_tryAt_65 (by decide) ?_
    refine jr_iconst C (v := 0) dX9_tryAt_67 (by decide) ?_
    refine jr_istore C dX9_tryAt_68 (by decide) ?_
    exact jr_sub [(0, jf_r E 5), (1, .int s), (2, .int h), (3, .int b), (4, .int q), (5, .int ((σ.1 25) s.toNatClampNeg)), (6, .int _), (7, .int _), (8, .int _), (9, .int _), (10, .int _)] rfl (lp 61 _ _ _ _ _ (by decide) hE.1 (by show _ - 0 < _; omega))
  · exact ret _ _ _ dX9_tryAt_45 (⟨xS_w_r σ, fun q => q⟩)
theorem xS_w_h {σ τ : jf_S} (h : xS_w σ τ) : (τ.1 5 8) = (σ.1 5 8) := h.2.2 8 (by decide)
theorem xS_w_m {σ τ : jf_S} (h : xS_w σ τ) : (τ.1 1 5) = (σ.1 1 5) := by rw [h.2.1 1 (by decide) (by decide) (by decide)]
theorem xS_w_H {σ τ : jf_S} (h : xS_w σ τ) (hH : xH σ) : xH τ := by
  unfold xH
  rw [h.2.2 8 (by decide), h.2.1 34 (by decide) (by decide) (by decide)]
  exact hH
theorem ct_X9_findBestChange (E : jf_E) (σ : jf_S) (hI : xI σ) (hH : xH σ) (hm : 0 ≤ ((σ.1 1 5)).toInt ∧ ((σ.1 1 5)).toInt ≤ 4) : jf_I jh_X E yX9_findBestChange cX9_findBestChange 5 .boolean 4 [jf_r E 5] σ (fun r τ => ((r = 0 ∨ r = 1) ∧ (¬ r = 0 → ¬ ((τ.1 5 10)).toInt = -1)) ∧ xS_w σ τ ∧ xW τ) := by
  refine jf_mkI (by decide) (Nat.le_of_ble_eq_true rfl) ?_
  intro G C ret
  have hE := hI.1
  have hh := hH.1
  have l59 : ∀ (m : Nat) (τ : jf_S) (s q h i : Int32), xS_w σ τ ∧ xW τ → 0 ≤ i.toInt → i.toInt ≤ ((σ.1 5 8)).toInt + 1 → ((σ.1 5 8)).toInt + 1 - i.toInt < m → (0 ≤ s.toInt ∧ s.toInt < 60) → (0 ≤ h.toInt ∧ h.toInt < 4) → (∀ υ : jf_S, xS_w σ υ ∧ xW υ → jf_X jh_X E G 5 45 [(0, jf_r E 5), (1, .int s), (2, .int q), (3, .int (h + Int32.ofInt 1))] [] υ) → jf_X jh_X E G 5 59 [(0, jf_r E 5), (1, .int s), (2, .int q), (3, .int h), (4, .int i)] [] τ := by
    intro m
    induction m with
    | zero => intro τ s q h i z g1 g2 g3 x1 x2 x3; exfalso; omega
    | succ m ih =>
      intro τ s q h i z g1 g2 g3 x1 x2 x3
      have e1 := ji_inc (k := i) (by omega)
      have hT := xS_w_I z.1 hI
      have hU := xS_w_H z.1 hH
      have c1 := congrArg Int32.toInt (xS_w_h z.1)
      refine jr_iload C dX9_findBestChange_59 rfl ?_
      refine jr_aload_n C dX9_findBestChange_61 rfl ?_
      refine jr_getv C kf_X9_24_5 dX9_findBestChange_62 (v := τ.1 5 8) rfl ?_
      refine jr_ncmp_gt C 109 dX9_findBestChange_65 (by decide) rfl rfl (fun b65 => ?_) (fun b65 => ?_)
      · refine jr_iinc C _ dX9_findBestChange_109 rfl rfl (by decide) ?_
        refine jr_goto C 45 dX9_findBestChange_112 (by decide) ?_
        exact jr_sub [(0, jf_r E 5), (1, .int s), (2, .int q), (3, .int (h + Int32.ofInt 1))] rfl (x3 _ z)
      · refine jr_aload_n C dX9_findBestChange_68 rfl ?_
        refine jr_iload_n C dX9_findBestChange_69 rfl ?_
        refine jr_iload_n C dX9_findBestChange_70 rfl ?_
        refine jr_iload C dX9_findBestChange_71 rfl ?_
        refine jr_aload_n C dX9_findBestChange_73 rfl ?_
        refine jr_getv C kf_X9_24_5 dX9_findBestChange_74 (v := τ.1 5 8) rfl ?_
        refine jr_ncmp_ge C 90 dX9_findBestChange_77 (by decide) rfl rfl (fun b77 => ?_) (fun b77 => ?_)
        · refine jr_aload_n C dX9_findBestChange_90 rfl ?_
          refine jr_getr C kf_X9_36_5 dX9_findBestChange_91 ?_
          refine jr_getr C kf_X9_101_3 dX9_findBestChange_94 ?_
          refine jr_iload_n C dX9_findBestChange_97 rfl ?_
          refine jr_ialv C ka_X_27 dX9_findBestChange_98 (ji_in x1.1 x1.2) (v := τ.1 27 _) rfl ?_
          refine jr_iload_n C dX9_findBestChange_99 rfl ?_
          refine jr_vv C [.int _, .int _, .int _, .int _] _ (ct_X9_tryAt E _ _ _ _ _ hT x1 x2 (by first | exact hU.2 _ | exact hT.2.2.2.2 _)) ky_X9_tryAt kv_X9_tryAt kk_X_5 km_X9_104 (by decide) rfl (Nat.le_of_ble_eq_true rfl) dX9_findBestChange_100 (fun τ100 h100 => ?_)
          refine jr_iinc C _ dX9_findBestChange_103 rfl rfl (by decide) ?_
          refine jr_goto C 59 dX9_findBestChange_106 (by decide) ?_
          exact jr_sub [(0, jf_r E 5), (1, .int _), (2, .int _), (3, .int _), (4, .int _)] rfl (ih _ _ _ _ _ (by first | exact ⟨xS_w_t z.1 h100.1, h100.2 z.2⟩) (by omega) (by omega) (by omega) x1 x2 x3)
        · refine jr_aload_n C dX9_findBestChange_80 rfl ?_
          refine jr_getr C kf_X9_15_5 dX9_findBestChange_81 ?_
          refine jr_iload C dX9_findBestChange_84 rfl ?_
          refine jr_ialv C ka_X_34 dX9_findBestChange_86 (ji_in (i := i) (by omega) (by omega)) (v := τ.1 34 _) rfl ?_
          refine jr_goto C 99 dX9_findBestChange_87 (by decide) ?_
          refine jr_iload_n C dX9_findBestChange_99 rfl ?_
          refine jr_vv C [.int _, .int _, .int _, .int _] _ (ct_X9_tryAt E _ _ _ _ _ hT x1 x2 (by first | exact hU.2 _ | exact hT.2.2.2.2 _)) ky_X9_tryAt kv_X9_tryAt kk_X_5 km_X9_104 (by decide) rfl (Nat.le_of_ble_eq_true rfl) dX9_findBestChange_100 (fun τ100 h100 => ?_)
          refine jr_iinc C _ dX9_findBestChange_103 rfl rfl (by decide) ?_
          refine jr_goto C 59 dX9_findBestChange_106 (by decide) ?_
          exact jr_sub [(0, jf_r E 5), (1, .int _), (2, .int _), (3, .int _), (4, .int _)] rfl (ih _ _ _ _ _ (by first | exact ⟨xS_w_t z.1 h100.1, h100.2 z.2⟩) (by omega) (by omega) (by omega) x1 x2 x3)
  have l45 : ∀ (m : Nat) (τ : jf_S) (s q h : Int32), xS_w σ τ ∧ xW τ → 0 ≤ h.toInt → h.toInt ≤ ((σ.1 1 5)).toInt → ((σ.1 1 5)).toInt - h.toInt < m → (0 ≤ s.toInt ∧ s.toInt < 60) → (∀ υ : jf_S, xS_w σ υ ∧ xW υ → jf_X jh_X E G 5 11 [(0, jf_r E 5), (1, .int (s + Int32.ofInt 1))] [] υ) → jf_X jh_X E G 5 45 [(0, jf_r E 5), (1, .int s), (2, .int q), (3, .int h)] [] τ := by
    intro m
    induction m with
    | zero => intro τ s q h z g1 g2 g3 x1 x2; exfalso; omega
    | succ m ih =>
      intro τ s q h z g1 g2 g3 x1 x2
      have e1 := ji_inc (k := h) (by omega)
      have c1 := congrArg Int32.toInt (xS_w_m z.1)
      refine jr_iload_n C dX9_findBestChange_45 rfl ?_
      refine jr_aload_n C dX9_findBestChange_46 rfl ?_
      refine jr_getr C kf_X9_28_5 dX9_findBestChange_47 ?_
      refine jr_getv C kf_X9_96_1 dX9_findBestChange_50 (v := τ.1 1 5) rfl ?_
      refine jr_ncmp_ge C 115 dX9_findBestChange_53 (by decide) rfl rfl (fun b53 => ?_) (fun b53 => ?_)
      · refine jr_iinc C _ dX9_findBestChange_115 rfl rfl (by decide) ?_
        refine jr_goto C 11 dX9_findBestChange_118 (by decide) ?_
        exact jr_sub [(0, jf_r E 5), (1, .int (s + Int32.ofInt 1))] rfl (x2 _ z)
      · refine jr_iconst C (v := 0) dX9_findBestChange_56 (by decide) ?_
        refine jr_istore C dX9_findBestChange_57 (by decide) ?_
        exact jr_sub [(0, jf_r E 5), (1, .int s), (2, .int q), (3, .int h), (4, .int 0)] rfl (l59 12 _ _ _ _ _ z (by decide) (by show (0 : Int) ≤ _; omega) (by show _ - (0 : Int) < _; omega) x1 ⟨by omega, by omega⟩ (fun υ hz => jr_sub [(0, jf_r E 5), (1, .int s), (2, .int q), (3, .int _)] rfl (ih _ _ _ _ hz (by omega) (by omega) (by omega) x1 x2)))
  have l11 : ∀ (m : Nat) (τ : jf_S) (s : Int32), xS_w σ τ ∧ xW τ → 0 ≤ s.toInt → s.toInt ≤ ((σ.1 3 8)).toInt → ((σ.1 3 8)).toInt - s.toInt < m → jf_X jh_X E G 5 11 [(0, jf_r E 5), (1, .int s)] [] τ := by
    intro m
    induction m with
    | zero => intro τ s z g1 g2 g3; exfalso; omega
    | succ m ih =>
      intro τ s z g1 g2 g3
      have e1 := ji_inc (k := s) (by omega)
      have hT := xS_w_I z.1 hI
      have c1 := congrArg Int32.toInt (xS_w_e z.1)
      refine jr_iload_n C dX9_findBestChange_11 rfl ?_
      refine jr_aload_n C dX9_findBestChange_12 rfl ?_
      refine jr_getr C kf_X9_36_5 dX9_findBestChange_13 ?_
      refine jr_getv C kf_X9_61_3 dX9_findBestChange_16 (v := τ.1 3 8) rfl ?_
      refine jr_ncmp_ge C 121 dX9_findBestChange_19 (by decide) rfl rfl (fun b19 => ?_) (fun b19 => ?_)
      · refine jr_aload_n C dX9_findBestChange_121 rfl ?_
        refine jr_getv C kf_X9_77_5 dX9_findBestChange_122 (v := τ.1 5 10) rfl ?_
        refine jr_iconst C (v := -1) dX9_findBestChange_125 (by decide) ?_
        refine jr_ncmp_eq C (b := -1) 133 dX9_findBestChange_126 (by decide) rfl rfl (fun b126 => ?_) (fun b126 => ?_)
        · refine jr_iconst C (v := 0) dX9_findBestChange_133 (by decide) ?_
          exact ret _ _ _ _ dX9_findBestChange_134 (rfl) (⟨⟨by decide, fun q => by first | exact absurd rfl q | assumption⟩, z.1, z.2⟩)
        · refine jr_iconst C (v := 1) dX9_findBestChange_129 (by decide) ?_
          refine jr_goto C 134 dX9_findBestChange_130 (by decide) ?_
          exact ret _ _ _ _ dX9_findBestChange_134 (rfl) (⟨⟨by decide, fun q => by first | exact absurd rfl q | assumption⟩, z.1, z.2⟩)
      · refine jr_aload_n C dX9_findBestChange_22 rfl ?_
        refine jr_getr C kf_X9_36_5 dX9_findBestChange_23 ?_
        refine jr_getr C kf_X9_66_3 dX9_findBestChange_26 ?_
        refine jr_iload_n C dX9_findBestChange_29 rfl ?_
        refine jr_zalv C ka_X_31 dX9_findBestChange_30 (ji_in (i := s) (by omega) (by omega)) (v := τ.1 31 _) rfl ?_
        refine jr_nif_ne C 37 dX9_findBestChange_31 (by decide) (fun b31 => ?_) (fun b31 => ?_)
        · refine jr_aload_n C dX9_findBestChange_37 rfl ?_
          refine jr_iload_n C dX9_findBestChange_38 rfl ?_
          refine jr_vi C [.int _] _ (ct_X9_gridWithout E _ _ hT ⟨by omega, by omega⟩) ky_X9_gridWithout kv_X9_gridWithout kk_X_5 km_X9_93 (by decide) rfl (Nat.le_of_ble_eq_true rfl) dX9_findBestChange_39 (fun r39 τ39 h39 => ?_)
          refine jr_istore_n C dX9_findBestChange_42 (by decide) ?_
          refine jr_iconst C (v := 0) dX9_findBestChange_43 (by decide) ?_
          refine jr_istore_n C dX9_findBestChange_44 (by decide) ?_
          exact jr_sub [(0, jf_r E 5), (1, .int s), (2, .int _), (3, .int 0)] rfl (l45 5 _ _ _ _ ⟨xS_w_t z.1 (xS_36_w h39), by unfold xW; rw [h39.2 5 (by decide)]; exact z.2⟩ (by decide) hm.1 (by show _ - (0 : Int) < _; omega) ⟨by omega, by omega⟩ (fun υ hz => jr_sub [(0, jf_r E 5), (1, .int _)] rfl (ih _ _ hz (by omega) (by omega) (by omega))))
        · refine jr_goto C 115 dX9_findBestChange_34 (by decide) ?_
          refine jr_iinc C _ dX9_findBestChange_115 rfl rfl (by decide) ?_
          refine jr_goto C 11 dX9_findBestChange_118 (by decide) ?_
          exact jr_sub [(0, jf_r E 5), (1, .int _)] rfl (ih _ _ z (by omega) (by omega) (by omega))
  refine jr_aload_n C dX9_findBestChange_0 rfl ?_
  refine jr_vv C [] _ (ct_X9_countBeside E _ hI) ky_X9_countBeside kv_X9_countBeside kk_X_5 km_X9_90 (by decide) rfl (Nat.le_of_ble_eq_true rfl) dX9_findBestChange_1 (fun τ1 h1 => ?_)
  refine jr_aload_n C dX9_findBestChange_4 rfl ?_
  refine jr_iconst C (v := -1) dX9_findBestChange_5 (by decide) ?_
  refine jr_puti C kp_X9_77_5 dX9_findBestChange_6 ?_
  refine jr_iconst C (v := 0) dX9_findBestChange_9 (by decide) ?_
  refine jr_istore_n C dX9_findBestChange_10 (by decide) ?_
  exact jr_sub [(0, jf_r E 5), (1, .int _)] rfl (l11 61 _ _ ⟨xS_w_5 h1 (by decide), Or.inl rfl⟩ (by decide) hE.1 (by show _ - (0 : Int) < _; omega))
theorem ct_X8_move (E : jf_E) (σ : jf_S) (s h b : Int32) (s0 : 0 ≤ s.toInt ∧ s.toInt < 60) : jf_V jh_X E yX8_move cX8_move 5 0 [jf_r E 3, .int s, .int h, .int b] σ (fun τ => τ = jf_i (jf_i (jf_i σ 26 s.toNatClampNeg h) 27 s.toNatClampNeg b) 28 s.toNatClampNeg (b + ((σ.1 28) s.toNatClampNeg - (σ.1 27) s.toNatClampNeg))) := by
  refine jf_mkV (by decide) (Nat.le_of_ble_eq_true rfl) ?_
  intro G C ret
  refine jr_aload_n C dX8_move_0 rfl ?_
  refine jr_getr C kf_X8_21_3 dX8_move_1 ?_
  refine jr_iload_n C dX8_move_4 rfl ?_
  refine jr_ialv C ka_X_28 dX8_move_5 (ji_in s0.1 s0.2) (v := σ.1 28 _) rfl ?_
  refine jr_aload_n C dX8_move_6 rfl ?_
  refine jr_getr C kf_X8_18_3 dX8_move_7 ?_
  refine jr_iload_n C dX8_move_10 rfl ?_
  refine jr_ialv C ka_X_27 dX8_move_11 (ji_in s0.1 s0.2) (v := σ.1 27 _) rfl ?_
  refine jr_isub C dX8_move_12 ?_
  refine jr_istore C dX8_move_13 (by decide) ?_
  refine jr_aload_n C dX8_move_15 rfl ?_
  refine jr_getr C kf_X8_15_3 dX8_move_16 ?_
  refine jr_iload_n C dX8_move_19 rfl ?_
  refine jr_iload_n C dX8_move_20 rfl ?_
  refine jr_iast C ka_X_26 dX8_move_21 (ji_in s0.1 s0.2) ?_
  refine jr_aload_n C dX8_move_22 rfl ?_
  refine jr_getr C kf_X8_18_3 dX8_move_23 ?_
  refine jr_iload_n C dX8_move_26 rfl ?_
  refine jr_iload_n C dX8_move_27 rfl ?_
  refine jr_iast C ka_X_27 dX8_move_28 (ji_in s0.1 s0.2) ?_
  refine jr_aload_n C dX8_move_29 rfl ?_
  refine jr_getr C kf_X8_21_3 dX8_move_30 ?_
  refine jr_iload_n C dX8_move_33 rfl ?_
  refine jr_iload_n C dX8_move_34 rfl ?_
  refine jr_iload C dX8_move_35 rfl ?_
  refine jr_iadd C dX8_move_37 ?_
  refine jr_iast C ka_X_28 dX8_move_38 (ji_in s0.1 s0.2) ?_
  exact ret _ _ _ dX8_move_39 (rfl)
/-- showings moved, what BETTER reckons with changed at will -/
def xS_b (σ τ : jf_S) : Prop := τ.2 = σ.2 ∧ (∀ k, k ≠ 5 → k ≠ 26 → k ≠ 27 → k ≠ 28 → k ≠ 35 → k ≠ 36 → τ.1 k = σ.1 k) ∧ (∀ j, j < 9 → τ.1 5 j = σ.1 5 j)
theorem xS_b_r (σ : jf_S) : xS_b σ σ := ⟨rfl, fun _ _ _ _ _ _ _ => rfl, fun _ _ => rfl⟩
theorem xS_b_w {σ τ υ : jf_S} (h : xS_b σ τ) (g : xS_w τ υ) : xS_b σ υ := ⟨g.1.trans h.1, fun k a b c d e f => (g.2.1 k a e f).trans (h.2.1 k a b c d e f), fun j a => (g.2.2 j a).trans (h.2.2 j a)⟩
theorem xS_b_i {σ τ : jf_S} (h : xS_b σ τ) {k j : Nat} {v : Int32} (hk : k = 26 ∨ k = 27 ∨ k = 28) : xS_b σ (jf_i τ k j v) := by
  refine ⟨h.1, fun i a b c d e f => ?_, fun i a => ?_⟩
  · rw [jf_i_o i (by omega)]; exact h.2.1 i a b c d e f
  · rw [jf_i_o 5 (by omega)]; exact h.2.2 i a
theorem xS_b_H {σ τ : jf_S} (h : xS_b σ τ) (hH : xH σ) : xH τ := by
  unfold xH
  rw [h.2.2 8 (by decide), h.2.1 34 (by decide) (by decide) (by decide) (by decide) (by decide) (by decide)]
  exact hH
theorem xS_b_m {σ τ : jf_S} (h : xS_b σ τ) : (τ.1 1 5) = (σ.1 1 5) := by rw [h.2.1 1 (by decide) (by decide) (by decide) (by decide) (by decide) (by decide)]
theorem xI_move {τ : jf_S} (h : xI τ) {a : Nat} {x y w : Int32} (hx : 0 ≤ x.toInt ∧ x.toInt < 4) (hy : 0 ≤ y.toInt ∧ y.toInt ≤ 14399) : xI (jf_i (jf_i (jf_i τ 26 a x) 27 a y) 28 a w) := by
  refine ⟨h.1, h.2.1, h.2.2.1, fun j => ?_, fun j => ?_⟩
  · show 0 ≤ ((jf_i (jf_i (jf_i τ 26 a x) 27 a y) 28 a w).1 26 j).toInt ∧ ((jf_i (jf_i (jf_i τ 26 a x) 27 a y) 28 a w).1 26 j).toInt ≤ 3
    rw [jf_i_o 26 (by decide), jf_i_o 26 (by decide), jf_i_at]
    unfold upd
    split
    · exact ⟨hx.1, by omega⟩
    · exact h.2.2.2.1 j
  · show 0 ≤ ((jf_i (jf_i (jf_i τ 26 a x) 27 a y) 28 a w).1 27 j).toInt ∧ ((jf_i (jf_i (jf_i τ 26 a x) 27 a y) 28 a w).1 27 j).toInt ≤ 14399
    rw [jf_i_o 27 (by decide), jf_i_at]
    unfold upd
    split
    · exact hy
    · rw [jf_i_o 27 (by decide)]; exact h.2.2.2.2 j
theorem ct_X9_improve (E : jf_E) (σ : jf_S) (hI : xI σ) (hH : xH σ) (hm : 0 ≤ ((σ.1 1 5)).toInt ∧ ((σ.1 1 5)).toInt ≤ 4) : jf_I jh_X E yX9_improve cX9_improve 2 .int 5 [jf_r E 5] σ (fun r τ => ∃ υ : jf_S, xS_b σ υ ∧ xI υ ∧ τ = jf_i υ 5 8 0) := by
  refine jf_mkI (by decide) (Nat.le_of_ble_eq_true rfl) ?_
  intro G C ret
  have lp : ∀ (m : Nat) (τ : jf_S) (n : Int32), xS_b σ τ ∧ xI τ → 0 ≤ n.toInt → n.toInt ≤ (40 : Int) → (40 : Int) - n.toInt < m → jf_X jh_X E G 2 2 [(0, jf_r E 5), (1, .int n)] [] τ := by
    intro m
    induction m with
    | zero => intro τ n z g1 g2 g3; exfalso; omega
    | succ m ih =>
      intro τ n z g1 g2 g3
      have e1 := ji_inc (k := n) (by omega)
      have hT := xS_b_H z.1 hH
      have c1 : 0 ≤ ((τ.1 1 5)).toInt ∧ ((τ.1 1 5)).toInt ≤ 4 := by rw [xS_b_m z.1]; exact hm
      refine jr_iload_n C dX9_improve_2 rfl ?_
      refine jr_bipush C (v := 40) dX9_improve_3 (by decide) ?_
      refine jr_ncmp_ge C (b := 40) 40 dX9_improve_5 (by decide) rfl rfl (fun b5 => ?_) (fun b5 => ?_)
      · refine jr_aload_n C dX9_improve_40 rfl ?_
        refine jr_iconst C (v := 0) dX9_improve_41 (by decide) ?_
        refine jr_puti C kp_X9_24_5 dX9_improve_42 ?_
        refine jr_iload_n C dX9_improve_45 rfl ?_
        exact ret _ _ _ _ dX9_improve_46 rfl (by first | exact ⟨_, z.1, z.2, rfl⟩ | exact ⟨_, xS_b_w z.1 h9.2.1, xS_w_I h9.2.1 z.2, rfl⟩)
      · refine jr_aload_n C dX9_improve_8 rfl ?_
        refine jr_vi C [] _ (ct_X9_findBestChange E _ z.2 hT c1) ky_X9_findBestChange kv_X9_findBestChange kk_X_5 km_X9_73 (by decide) rfl (Nat.le_of_ble_eq_true rfl) dX9_improve_9 (fun r9 τ9 h9 => ?_)
        refine jr_nif_eq C 40 dX9_improve_12 (by decide) (fun b12 => ?_) (fun b12 => ?_)
        · first | have w9 := h9.2.2.resolve_left (h9.1.2 (jn_ne.mpr b12)) | skip
          refine jr_aload_n C dX9_improve_40 rfl ?_
          refine jr_iconst C (v := 0) dX9_improve_41 (by decide) ?_
          refine jr_puti C kp_X9_24_5 dX9_improve_42 ?_
          refine jr_iload_n C dX9_improve_45 rfl ?_
          exact ret _ _ _ _ dX9_improve_46 rfl (by first | exact ⟨_, z.1, z.2, rfl⟩ | exact ⟨_, xS_b_w z.1 h9.2.1, xS_w_I h9.2.1 z.2, rfl⟩)
        · first | have w9 := h9.2.2.resolve_left (h9.1.2 (jn_ne.mpr b12)) | skip
          refine jr_aload_n C dX9_improve_15 rfl ?_
          refine jr_getr C kf_X9_36_5 dX9_improve_16 ?_
          refine jr_aload_n C dX9_improve_19 rfl ?_
          refine jr_geti C kf_X9_77_5 dX9_improve_20 ?_
          refine jr_aload_n C dX9_improve_23 rfl ?_
          refine jr_geti C kf_X9_80_5 dX9_improve_24 ?_
          refine jr_aload_n C dX9_improve_27 rfl ?_
          refine jr_geti C kf_X9_83_5 dX9_improve_28 ?_
          refine jr_vvp C [.int _, .int _, .int _] _ (ct_X8_move E _ _ _ _ w9.1) ky_X8_move kv_X8_move kk_X_3 km_X9_86 (by decide) rfl (Nat.le_of_ble_eq_true rfl) dX9_improve_31 ?_
          refine jr_iinc C _ dX9_improve_34 rfl rfl (by decide) ?_
          refine jr_goto C 2 dX9_improve_37 (by decide) ?_
          exact jr_sub [(0, jf_r E 5), (1, .int _)] rfl (ih _ _ ⟨xS_b_i (xS_b_i (xS_b_i (xS_b_w z.1 h9.2.1) (by decide)) (by decide)) (by decide), xI_move (xS_w_I h9.2.1 z.2) w9.2.1 w9.2.2⟩ (by omega) (by omega) (by omega))
  refine jr_iconst C (v := 0) dX9_improve_0 (by decide) ?_
  refine jr_istore_n C dX9_improve_1 (by decide) ?_
  exact jr_sub [(0, jf_r E 5), (1, .int _)] rfl (lp 41 _ _ ⟨xS_b_r σ, hI⟩ (by decide) (by decide) (by decide))

