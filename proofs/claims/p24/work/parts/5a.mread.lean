/-! the reference: rules are read, safe -/
/-- between the tokens of rules -/
def m_R (τ : jf_S) : Prop := m_at τ ∧ (0 ≤ ((τ.1 0 53)).toInt ∧ ((τ.1 0 53)).toInt ≤ 5) ∧ (((τ.1 0 64)).toInt = 0 → ∃ K : Nat, ((τ.1 0 51)).toInt = (K : Int) ∧ K ≤ 300 ∧ m_val ((τ.1 34)) K)
theorem m_R_must {τ υ : jf_S} {v : Int32} (R : m_R τ) (M : m_M τ υ v) : m_R υ := by
  obtain ⟨M1, M2, M3⟩ := M
  have f1 : (υ.1 0 53) = (τ.1 0 53) := M1.2 53 (by decide)
  have f2 : (υ.1 0 51) = (τ.1 0 51) := M1.2 51 (by decide)
  have f3 : (υ.1 34) = (τ.1 34) := M1.1 34 (by decide) (by decide)
  refine ⟨M2, by rw [f1]; exact R.2.1, fun h => ?_⟩
  have n := M3.resolve_left (fun g => g h)
  rw [f2, f3]
  exact R.2.2 n.2.1
theorem m_R_tie {τ : jf_S} {v : Int32} (R : m_R τ) : m_R (jf_i τ 0 54 v) := ⟨R.1, R.2.1, R.2.2⟩
theorem mS_gm {K J : List Nat} {σ τ υ : jf_S} {v : Int32} (h : mS_g K J σ τ) (M : m_M τ υ v) (hJ : ∀ j ∈ [59, 60, 61, 63, 64], j ∈ J) : mS_g K J σ υ := mS_g_t h (mS_g_m M.1 (fun k hk => by cases hk) hJ)
theorem ct_X11_readRules (E : jf_E) (σ : jf_S) (h0 : m_at σ) (hk : m_kd σ) (hb : ((σ.1 0 64)).toInt = 0) (hn : ((σ.1 0 51)).toInt = 0) (hp : ((σ.1 0 53)).toInt = 0) : jf_V jh_M E yX11_readRules cX11_readRules 3 5 [jf_r E 0] σ (fun τ => mS_g [34, 35, 36] [51, 53, 54, 56, 59, 60, 61, 63, 64] σ τ ∧ m_R τ) := by
  refine jf_mkV (by decide) (Nat.le_of_ble_eq_true rfl) ?_
  intro G C ret
  have J259 : ∀ (τ : jf_S), mS_g [34, 35, 36] [51, 53, 54, 56, 59, 60, 61, 63, 64] σ τ → m_R τ → jf_X jh_M E G 3 259 [(0, jf_r E 0)] [] τ := by
    intro τ z R
    refine jr_aload_n C dX11_readRules_259 rfl ?_
    refine jr_aload_n C dX11_readRules_260 rfl ?_
    refine jr_getv C kf_X11_353_0 dX11_readRules_261 (v := τ.1 0 54) rfl ?_
    refine jr_iconst C (v := 2) dX11_readRules_264 (by decide) ?_
    refine jr_ncmp_lt C (b := 2) 286 dX11_readRules_265 (by decide) rfl rfl (fun b265 => ?_) (fun b265 => ?_)
    · refine jr_iconst C (v := 1) dX11_readRules_286 (by decide) ?_
      refine jr_goto C 291 dX11_readRules_287 (by decide) ?_
      refine jr_vv C [.int _] _ (ct_X11_must E _ _ R.1) ky_X11_must kv_X11_must kk_M_0 km_X11_333 (by decide) rfl (Nat.le_of_ble_eq_true rfl) dX11_readRules_291 (fun τ291 h291 => ?_)
      refine jr_aload_n C dX11_readRules_294 rfl ?_
      refine jr_aload_n C dX11_readRules_295 rfl ?_
      refine jr_geti C kf_X11_295_0 dX11_readRules_296 ?_
      refine jr_nif_ne C 306 dX11_readRules_299 (by decide) (fun b299 => ?_) (fun b299 => ?_)
      · refine jr_iconst C (v := 0) dX11_readRules_306 (by decide) ?_
        refine jr_vv C [.int _] _ (ct_X11_must E _ _ h291.2.1) ky_X11_must kv_X11_must kk_M_0 km_X11_333 (by decide) rfl (Nat.le_of_ble_eq_true rfl) dX11_readRules_307 (fun τ307 h307 => ?_)
        exact ret _ _ _ dX11_readRules_310 (⟨mS_gm (mS_gm z h291 (by decide)) h307 (by decide), m_R_must (m_R_must R h291) h307⟩)
      · refine jr_iconst C (v := 1) dX11_readRules_302 (by decide) ?_
        refine jr_goto C 307 dX11_readRules_303 (by decide) ?_
        refine jr_vv C [.int _] _ (ct_X11_must E _ _ h291.2.1) ky_X11_must kv_X11_must kk_M_0 km_X11_333 (by decide) rfl (Nat.le_of_ble_eq_true rfl) dX11_readRules_307 (fun τ307 h307 => ?_)
        exact ret _ _ _ dX11_readRules_310 (⟨mS_gm (mS_gm z h291 (by decide)) h307 (by decide), m_R_must (m_R_must R h291) h307⟩)
    · refine jr_aload_n C dX11_readRules_268 rfl ?_
      refine jr_bipush C (v := 102) dX11_readRules_269 (by decide) ?_
      refine jr_bipush C (v := 105) dX11_readRules_271 (by decide) ?_
      refine jr_bipush C (v := 114) dX11_readRules_273 (by decide) ?_
      refine jr_bipush C (v := 115) dX11_readRules_275 (by decide) ?_
      refine jr_bipush C (v := 116) dX11_readRules_277 (by decide) ?_
      refine jr_iconst C (v := 0) dX11_readRules_279 (by decide) ?_
      refine jr_vi C [.int _, .int _, .int _, .int _, .int _, .int _] _ (ct_X11_isWord E _ _ _ _ _ _ _) ky_X11_isWord kv_X11_isWord kk_M_0 km_X11_326 (by decide) rfl (Nat.le_of_ble_eq_true rfl) dX11_readRules_280 (fun r280 τ280 h280 => ?_)
      obtain ⟨q280, rfl⟩ := h280
      refine jr_nif_eq C 290 dX11_readRules_283 (by decide) (fun b283 => ?_) (fun b283 => ?_)
      · refine jr_iconst C (v := 0) dX11_readRules_290 (by decide) ?_
        refine jr_vv C [.int _] _ (ct_X11_must E _ _ R.1) ky_X11_must kv_X11_must kk_M_0 km_X11_333 (by decide) rfl (Nat.le_of_ble_eq_true rfl) dX11_readRules_291 (fun τ291 h291 => ?_)
        refine jr_aload_n C dX11_readRules_294 rfl ?_
        refine jr_aload_n C dX11_readRules_295 rfl ?_
        refine jr_geti C kf_X11_295_0 dX11_readRules_296 ?_
        refine jr_nif_ne C 306 dX11_readRules_299 (by decide) (fun b299 => ?_) (fun b299 => ?_)
        · refine jr_iconst C (v := 0) dX11_readRules_306 (by decide) ?_
          refine jr_vv C [.int _] _ (ct_X11_must E _ _ h291.2.1) ky_X11_must kv_X11_must kk_M_0 km_X11_333 (by decide) rfl (Nat.le_of_ble_eq_true rfl) dX11_readRules_307 (fun τ307 h307 => ?_)
          exact ret _ _ _ dX11_readRules_310 (⟨mS_gm (mS_gm z h291 (by decide)) h307 (by decide), m_R_must (m_R_must R h291) h307⟩)
        · refine jr_iconst C (v := 1) dX11_readRules_302 (by decide) ?_
          refine jr_goto C 307 dX11_readRules_303 (by decide) ?_
          refine jr_vv C [.int _] _ (ct_X11_must E _ _ h291.2.1) ky_X11_must kv_X11_must kk_M_0 km_X11_333 (by decide) rfl (Nat.le_of_ble_eq_true rfl) dX11_readRules_307 (fun τ307 h307 => ?_)
          exact ret _ _ _ dX11_readRules_310 (⟨mS_gm (mS_gm z h291 (by decide)) h307 (by decide), m_R_must (m_R_must R h291) h307⟩)
      · refine jr_iconst C (v := 1) dX11_readRules_286 (by decide) ?_
        refine jr_goto C 291 dX11_readRules_287 (by decide) ?_
        refine jr_vv C [.int _] _ (ct_X11_must E _ _ R.1) ky_X11_must kv_X11_must kk_M_0 km_X11_333 (by decide) rfl (Nat.le_of_ble_eq_true rfl) dX11_readRules_291 (fun τ291 h291 => ?_)
        refine jr_aload_n C dX11_readRules_294 rfl ?_
        refine jr_aload_n C dX11_readRules_295 rfl ?_
        refine jr_geti C kf_X11_295_0 dX11_readRules_296 ?_
        refine jr_nif_ne C 306 dX11_readRules_299 (by decide) (fun b299 => ?_) (fun b299 => ?_)
        · refine jr_iconst C (v := 0) dX11_readRules_306 (by decide) ?_
          refine jr_vv C [.int _] _ (ct_X11_must E _ _ h291.2.1) ky_X11_must kv_X11_must kk_M_0 km_X11_333 (by decide) rfl (Nat.le_of_ble_eq_true rfl) dX11_readRules_307 (fun τ307 h307 => ?_)
          exact ret _ _ _ dX11_readRules_310 (⟨mS_gm (mS_gm z h291 (by decide)) h307 (by decide), m_R_must (m_R_must R h291) h307⟩)
        · refine jr_iconst C (v := 1) dX11_readRules_302 (by decide) ?_
          refine jr_goto C 307 dX11_readRules_303 (by decide) ?_
          refine jr_vv C [.int _] _ (ct_X11_must E _ _ h291.2.1) ky_X11_must kv_X11_must kk_M_0 km_X11_333 (by decide) rfl (Nat.le_of_ble_eq_true rfl) dX11_readRules_307 (fun τ307 h307 => ?_)
          exact ret _ _ _ dX11_readRules_310 (⟨mS_gm (mS_gm z h291 (by decide)) h307 (by decide), m_R_must (m_R_must R h291) h307⟩)
  have J185 : ∀ (τ : jf_S), mS_g [34, 35, 36] [51, 53, 54, 56, 59, 60, 61, 63, 64] σ τ → m_R τ → jf_X jh_M E G 3 185 [(0, jf_r E 0)] [] τ := by
    intro τ z R
    refine jr_aload_n C dX11_readRules_185 rfl ?_
    refine jr_aload_n C dX11_readRules_186 rfl ?_
    refine jr_bipush C (v := 59) dX11_readRules_187 (by decide) ?_
    refine jr_vi C [.int _] _ (ct_X11_isSign E _ _) ky_X11_isSign kv_X11_isSign kk_M_0 km_X11_330 (by decide) rfl (Nat.le_of_ble_eq_true rfl) dX11_readRules_189 (fun r189 τ189 h189 => ?_)
    obtain ⟨q189, rfl⟩ := h189
    refine jr_vv C [.int _] _ (ct_X11_must E _ _ R.1) ky_X11_must kv_X11_must kk_M_0 km_X11_333 (by decide) rfl (Nat.le_of_ble_eq_true rfl) dX11_readRules_192 (fun τ192 h192 => ?_)
    refine jr_aload_n C dX11_readRules_195 rfl ?_
    refine jr_aload_n C dX11_readRules_196 rfl ?_
    refine jr_bipush C (v := 116) dX11_readRules_197 (by decide) ?_
    refine jr_bipush C (v := 105) dX11_readRules_199 (by decide) ?_
    refine jr_bipush C (v := 101) dX11_readRules_201 (by decide) ?_
    refine jr_iconst C (v := 0) dX11_readRules_203 (by decide) ?_
    refine jr_iconst C (v := 0) dX11_readRules_204 (by decide) ?_
    refine jr_iconst C (v := 0) dX11_readRules_205 (by decide) ?_
    refine jr_vi C [.int _, .int _, .int _, .int _, .int _, .int _] _ (ct_X11_isWord E _ _ _ _ _ _ _) ky_X11_isWord kv_X11_isWord kk_M_0 km_X11_326 (by decide) rfl (Nat.le_of_ble_eq_true rfl) dX11_readRules_206 (fun r206 τ206 h206 => ?_)
    obtain ⟨q206, rfl⟩ := h206
    refine jr_vv C [.int _] _ (ct_X11_must E _ _ h192.2.1) ky_X11_must kv_X11_must kk_M_0 km_X11_333 (by decide) rfl (Nat.le_of_ble_eq_true rfl) dX11_readRules_209 (fun τ209 h209 => ?_)
    refine jr_aload_n C dX11_readRules_212 rfl ?_
    refine jr_aload_n C dX11_readRules_213 rfl ?_
    refine jr_bipush C (v := 102) dX11_readRules_214 (by decide) ?_
    refine jr_bipush C (v := 97) dX11_readRules_216 (by decide) ?_
    refine jr_bipush C (v := 109) dX11_readRules_218 (by decide) ?_
    refine jr_bipush C (v := 101) dX11_readRules_220 (by decide) ?_
    refine jr_iconst C (v := 0) dX11_readRules_222 (by decide) ?_
    refine jr_iconst C (v := 0) dX11_readRules_223 (by decide) ?_
    refine jr_vi C [.int _, .int _, .int _, .int _, .int _, .int _] _ (ct_X11_isWord E _ _ _ _ _ _ _) ky_X11_isWord kv_X11_isWord kk_M_0 km_X11_326 (by decide) rfl (Nat.le_of_ble_eq_true rfl) dX11_readRules_224 (fun r224 τ224 h224 => ?_)
    obtain ⟨q224, rfl⟩ := h224
    refine jr_nif_eq C 234 dX11_readRules_227 (by decide) (fun b227 => ?_) (fun b227 => ?_)
    · refine jr_aload_n C dX11_readRules_234 rfl ?_
      refine jr_bipush C (v := 102) dX11_readRules_235 (by decide) ?_
      refine jr_bipush C (v := 105) dX11_readRules_237 (by decide) ?_
      refine jr_bipush C (v := 108) dX11_readRules_239 (by decide) ?_
      refine jr_bipush C (v := 109) dX11_readRules_241 (by decide) ?_
      refine jr_iconst C (v := 0) dX11_readRules_243 (by decide) ?_
      refine jr_iconst C (v := 0) dX11_readRules_244 (by decide) ?_
      refine jr_vi C [.int _, .int _, .int _, .int _, .int _, .int _] _ (ct_X11_isWord E _ _ _ _ _ _ _) ky_X11_isWord kv_X11_isWord kk_M_0 km_X11_326 (by decide) rfl (Nat.le_of_ble_eq_true rfl) dX11_readRules_245 (fun r245 τ245 h245 => ?_)
      obtain ⟨q245, rfl⟩ := h245
      refine jr_nif_eq C 255 dX11_readRules_248 (by decide) (fun b248 => ?_) (fun b248 => ?_)
      · refine jr_iconst C (v := 2) dX11_readRules_255 (by decide) ?_
        refine jr_puti C kp_X11_353_0 dX11_readRules_256 ?_
        exact J259 _ (mS_g_i (mS_gm (mS_gm z h192 (by decide)) h209 (by decide)) (by decide)) (m_R_tie (m_R_must (m_R_must R h192) h209))
      · refine jr_iconst C (v := 1) dX11_readRules_251 (by decide) ?_
        refine jr_goto C 256 dX11_readRules_252 (by decide) ?_
        refine jr_puti C kp_X11_353_0 dX11_readRules_256 ?_
        exact J259 _ (mS_g_i (mS_gm (mS_gm z h192 (by decide)) h209 (by decide)) (by decide)) (m_R_tie (m_R_must (m_R_must R h192) h209))
    · refine jr_iconst C (v := 0) dX11_readRules_230 (by decide) ?_
      refine jr_goto C 256 dX11_readRules_231 (by decide) ?_
      refine jr_puti C kp_X11_353_0 dX11_readRules_256 ?_
      exact J259 _ (mS_g_i (mS_gm (mS_gm z h192 (by decide)) h209 (by decide)) (by decide)) (m_R_tie (m_R_must (m_R_must R h192) h209))
  have J165 : ∀ (τ : jf_S), mS_g [34, 35, 36] [51, 53, 54, 56, 59, 60, 61, 63, 64] σ τ → m_R τ → jf_X jh_M E G 3 165 [(0, jf_r E 0)] [] τ := by
    intro τ z R
    refine jr_aload_n C dX11_readRules_165 rfl ?_
    refine jr_aload_n C dX11_readRules_166 rfl ?_
    refine jr_bipush C (v := 114) dX11_readRules_167 (by decide) ?_
    refine jr_bipush C (v := 111) dX11_readRules_169 (by decide) ?_
    refine jr_bipush C (v := 117) dX11_readRules_171 (by decide) ?_
    refine jr_bipush C (v := 110) dX11_readRules_173 (by decide) ?_
    refine jr_bipush C (v := 100) dX11_readRules_175 (by decide) ?_
    refine jr_bipush C (v := 115) dX11_readRules_177 (by decide) ?_
    refine jr_vi C [.int _, .int _, .int _, .int _, .int _, .int _] _ (ct_X11_isWord E _ _ _ _ _ _ _) ky_X11_isWord kv_X11_isWord kk_M_0 km_X11_326 (by decide) rfl (Nat.le_of_ble_eq_true rfl) dX11_readRules_179 (fun r179 τ179 h179 => ?_)
    obtain ⟨q179, rfl⟩ := h179
    refine jr_vv C [.int _] _ (ct_X11_must E _ _ R.1) ky_X11_must kv_X11_must kk_M_0 km_X11_333 (by decide) rfl (Nat.le_of_ble_eq_true rfl) dX11_readRules_182 (fun τ182 h182 => ?_)
    exact J185 _ (mS_gm z h182 (by decide)) (m_R_must R h182)
  have l72 : ∀ (m : Nat) (τ : jf_S) (mo : Int32), mS_g [34, 35, 36] [51, 53, 54, 56, 59, 60, 61, 63, 64] σ τ → m_R τ → (¬ mo.toInt = 0 → ((τ.1 0 53)).toInt ≤ 4) → 5 - ((τ.1 0 53)).toInt < m → jf_X jh_M E G 3 72 [(0, jf_r E 0), (1, .int mo)] [] τ := by
    intro m
    induction m with
    | zero => intro τ mo z R g1 g2; exfalso; have := R.2.1; omega
    | succ m ih =>
      intro τ mo z R g1 g2
      have n0 := R.2.1
      refine jr_iload_n C dX11_readRules_72 rfl ?_
      refine jr_nif_eq C 162 dX11_readRules_73 (by decide) (fun b73 => ?_) (fun b73 => ?_)
      · refine jr_goto C 185 dX11_readRules_162 (by decide) ?_
        exact jr_sub [(0, jf_r E 0)] rfl (J185 _ z R)
      · refine jr_aload_n C dX11_readRules_76 rfl ?_
        refine jr_getv C kf_X11_310_0 dX11_readRules_77 (v := τ.1 0 64) rfl ?_
        refine jr_nif_ne C 162 dX11_readRules_80 (by decide) (fun b80 => ?_) (fun b80 => ?_)
        · refine jr_goto C 185 dX11_readRules_162 (by decide) ?_
          exact jr_sub [(0, jf_r E 0)] rfl (J185 _ z R)
        · refine jr_aload_n C dX11_readRules_83 rfl ?_
          refine jr_getl C kf_X11_285_0 dX11_readRules_84 ?_
          refine jr_l2i C dX11_readRules_87 ?_
          refine jr_istore_n C dX11_readRules_88 (by decide) ?_
          refine jr_aload_n C dX11_readRules_89 rfl ?_
          refine jr_aload_n C dX11_readRules_90 rfl ?_
          refine jr_getv C kf_X11_295_0 dX11_readRules_91 (v := τ.1 0 61) rfl ?_
          refine jr_iconst C (v := 2) dX11_readRules_94 (by decide) ?_
          refine jr_ncmp_ne C (b := 2) 113 dX11_readRules_95 (by decide) rfl rfl (fun b95 => ?_) (fun b95 => ?_)
          · refine jr_iconst C (v := 0) dX11_readRules_113 (by decide) ?_
            refine jr_vv C [.int _] _ (ct_X11_must E _ _ R.1) ky_X11_must kv_X11_must kk_M_0 km_X11_333 (by decide) rfl (Nat.le_of_ble_eq_true rfl) dX11_readRules_114 (fun τ114 h114 => ?_)
            have f1 : (τ114.1 0 53) = (τ.1 0 53) := h114.1.2 53 (by decide); have g3 := g1 b73; have e1 := ji_inc1 (k := (τ.1 0 53)) (by omega)
            refine jr_aload_n C dX11_readRules_117 rfl ?_
            refine jr_getr C kf_X11_117_0 dX11_readRules_118 ?_
            refine jr_aload_n C dX11_readRules_121 rfl ?_
            refine jr_geti C kf_X11_350_0 dX11_readRules_122 ?_
            refine jr_iload_n C dX11_readRules_125 rfl ?_
            refine jr_iast C ka_M_35 dX11_readRules_126 (ji_in (i := (τ114.1 0 53)) (by rw [f1]; omega) (by rw [f1]; omega)) ?_
            refine jr_aload_n C dX11_readRules_127 rfl ?_
            refine jr_dup C dX11_readRules_128 rfl ?_
            refine jr_geti C kf_X11_350_0 dX11_readRules_129 ?_
            refine jr_iconst C (v := 1) dX11_readRules_132 (by decide) ?_
            refine jr_iadd C dX11_readRules_133 ?_
            refine jr_puti C kp_X11_350_0 dX11_readRules_134 ?_
            refine jr_aload_n C dX11_readRules_137 rfl ?_
            refine jr_geti C kf_X11_295_0 dX11_readRules_138 ?_
            refine jr_iconst C (v := 2) dX11_readRules_141 (by decide) ?_
            refine jr_ncmp_ne C (b := 2) 157 dX11_readRules_142 (by decide) rfl rfl (fun b142 => ?_) (fun b142 => ?_)
            · refine jr_iconst C (v := 0) dX11_readRules_157 (by decide) ?_
              refine jr_istore_n C dX11_readRules_158 (by decide) ?_
              refine jr_goto C 72 dX11_readRules_159 (by decide) ?_
              exact jr_sub [(0, jf_r E 0), (1, .int _)] rfl (ih _ _ (mS_g_i (mS_g_a (mS_gm z h114 (by decide)) (by decide) (by decide)) (by decide)) ⟨h114.2.1, show 0 ≤ ((τ114.1 0 53) + 1).toInt ∧ ((τ114.1 0 53) + 1).toInt ≤ 5 by rw [f1]; omega, (m_R_must R h114).2.2⟩ (fun h => by first | exact absurd rfl h | (have b : ¬ 5 ≤ ((τ114.1 0 53) + 1).toInt := b150; show ((τ114.1 0 53) + 1).toInt ≤ 4; omega)) (show 5 - ((τ114.1 0 53) + 1).toInt < _ by rw [f1]; omega))
            · refine jr_aload_n C dX11_readRules_145 rfl ?_
              refine jr_geti C kf_X11_350_0 dX11_readRules_146 ?_
              refine jr_iconst C (v := 5) dX11_readRules_149 (by decide) ?_
              refine jr_ncmp_ge C (b := 5) 157 dX11_readRules_150 (by decide) rfl rfl (fun b150 => ?_) (fun b150 => ?_)
              · refine jr_iconst C (v := 0) dX11_readRules_157 (by decide) ?_
                refine jr_istore_n C dX11_readRules_158 (by decide) ?_
                refine jr_goto C 72 dX11_readRules_159 (by decide) ?_
                exact jr_sub [(0, jf_r E 0), (1, .int _)] rfl (ih _ _ (mS_g_i (mS_g_a (mS_gm z h114 (by decide)) (by decide) (by decide)) (by decide)) ⟨h114.2.1, show 0 ≤ ((τ114.1 0 53) + 1).toInt ∧ ((τ114.1 0 53) + 1).toInt ≤ 5 by rw [f1]; omega, (m_R_must R h114).2.2⟩ (fun h => by first | exact absurd rfl h | (have b : ¬ 5 ≤ ((τ114.1 0 53) + 1).toInt := b150; show ((τ114.1 0 53) + 1).toInt ≤ 4; omega)) (show 5 - ((τ114.1 0 53) + 1).toInt < _ by rw [f1]; omega))
              · refine jr_iconst C (v := 1) dX11_readRules_153 (by decide) ?_
                refine jr_goto C 158 dX11_readRules_154 (by decide) ?_
                refine jr_istore_n C dX11_readRules_158 (by decide) ?_
                refine jr_goto C 72 dX11_readRules_159 (by decide) ?_
                exact jr_sub [(0, jf_r E 0), (1, .int _)] rfl (ih _ _ (mS_g_i (mS_g_a (mS_gm z h114 (by decide)) (by decide) (by decide)) (by decide)) ⟨h114.2.1, show 0 ≤ ((τ114.1 0 53) + 1).toInt ∧ ((τ114.1 0 53) + 1).toInt ≤ 5 by rw [f1]; omega, (m_R_must R h114).2.2⟩ (fun h => by first | exact absurd rfl h | (have b : ¬ 5 ≤ ((τ114.1 0 53) + 1).toInt := b150; show ((τ114.1 0 53) + 1).toInt ≤ 4; omega)) (show 5 - ((τ114.1 0 53) + 1).toInt < _ by rw [f1]; omega))
          · refine jr_aload_n C dX11_readRules_98 rfl ?_
            refine jr_getl C kf_X11_285_0 dX11_readRules_99 ?_
            refine jr_ldc2 C kc_X11_181 dX11_readRules_102 ?_
            refine jr_lcmp C dX11_readRules_105 ?_
            refine jr_nif_gt C 113 dX11_readRules_106 (by decide) (fun b106 => ?_) (fun b106 => ?_)
            · refine jr_iconst C (v := 0) dX11_readRules_113 (by decide) ?_
              refine jr_vv C [.int _] _ (ct_X11_must E _ _ R.1) ky_X11_must kv_X11_must kk_M_0 km_X11_333 (by decide) rfl (Nat.le_of_ble_eq_true rfl) dX11_readRules_114 (fun τ114 h114 => ?_)
              have f1 : (τ114.1 0 53) = (τ.1 0 53) := h114.1.2 53 (by decide); have g3 := g1 b73; have e1 := ji_inc1 (k := (τ.1 0 53)) (by omega)
              refine jr_aload_n C dX11_readRules_117 rfl ?_
              refine jr_getr C kf_X11_117_0 dX11_readRules_118 ?_
              refine jr_aload_n C dX11_readRules_121 rfl ?_
              refine jr_geti C kf_X11_350_0 dX11_readRules_122 ?_
              refine jr_iload_n C dX11_readRules_125 rfl ?_
              refine jr_iast C ka_M_35 dX11_readRules_126 (ji_in (i := (τ114.1 0 53)) (by rw [f1]; omega) (by rw [f1]; omega)) ?_
              refine jr_aload_n C dX11_readRules_127 rfl ?_
              refine jr_dup C dX11_readRules_128 rfl ?_
              refine jr_geti C kf_X11_350_0 dX11_readRules_129 ?_
              refine jr_iconst C (v := 1) dX11_readRules_132 (by decide) ?_
              refine jr_iadd C dX11_readRules_133 ?_
              refine jr_puti C kp_X11_350_0 dX11_readRules_134 ?_
              refine jr_aload_n C dX11_readRules_137 rfl ?_
              refine jr_geti C kf_X11_295_0 dX11_readRules_138 ?_
              refine jr_iconst C (v := 2) dX11_readRules_141 (by decide) ?_
              refine jr_ncmp_ne C (b := 2) 157 dX11_readRules_142 (by decide) rfl rfl (fun b142 => ?_) (fun b142 => ?_)
              · refine jr_iconst C (v := 0) dX11_readRules_157 (by decide) ?_
                refine jr_istore_n C dX11_readRules_158 (by decide) ?_
                refine jr_goto C 72 dX11_readRules_159 (by decide) ?_
                exact jr_sub [(0, jf_r E 0), (1, .int _)] rfl (ih _ _ (mS_g_i (mS_g_a (mS_gm z h114 (by decide)) (by decide) (by decide)) (by decide)) ⟨h114.2.1, show 0 ≤ ((τ114.1 0 53) + 1).toInt ∧ ((τ114.1 0 53) + 1).toInt ≤ 5 by rw [f1]; omega, (m_R_must R h114).2.2⟩ (fun h => by first | exact absurd rfl h | (have b : ¬ 5 ≤ ((τ114.1 0 53) + 1).toInt := b150; show ((τ114.1 0 53) + 1).toInt ≤ 4; omega)) (show 5 - ((τ114.1 0 53) + 1).toInt < _ by rw [f1]; omega))
              · refine jr_aload_n C dX11_readRules_145 rfl ?_
                refine jr_geti C kf_X11_350_0 dX11_readRules_146 ?_
                refine jr_iconst C (v := 5) dX11_readRules_149 (by decide) ?_
                refine jr_ncmp_ge C (b := 5) 157 dX11_readRules_150 (by decide) rfl rfl (fun b150 => ?_) (fun b150 => ?_)
                · refine jr_iconst C (v := 0) dX11_readRules_157 (by decide) ?_
                  refine jr_istore_n C dX11_readRules_158 (by decide) ?_
                  refine jr_goto C 72 dX11_readRules_159 (by decide) ?_
                  exact jr_sub [(0, jf_r E 0), (1, .int _)] rfl (ih _ _ (mS_g_i (mS_g_a (mS_gm z h114 (by decide)) (by decide) (by decide)) (by decide)) ⟨h114.2.1, show 0 ≤ ((τ114.1 0 53) + 1).toInt ∧ ((τ114.1 0 53) + 1).toInt ≤ 5 by rw [f1]; omega, (m_R_must R h114).2.2⟩ (fun h => by first | exact absurd rfl h | (have b : ¬ 5 ≤ ((τ114.1 0 53) + 1).toInt := b150; show ((τ114.1 0 53) + 1).toInt ≤ 4; omega)) (show 5 - ((τ114.1 0 53) + 1).toInt < _ by rw [f1]; omega))
                · refine jr_iconst C (v := 1) dX11_readRules_153 (by decide) ?_
                  refine jr_goto C 158 dX11_readRules_154 (by decide) ?_
                  refine jr_istore_n C dX11_readRules_158 (by decide) ?_
                  refine jr_goto C 72 dX11_readRules_159 (by decide) ?_
                  exact jr_sub [(0, jf_r E 0), (1, .int _)] rfl (ih _ _ (mS_g_i (mS_g_a (mS_gm z h114 (by decide)) (by decide) (by decide)) (by decide)) ⟨h114.2.1, show 0 ≤ ((τ114.1 0 53) + 1).toInt ∧ ((τ114.1 0 53) + 1).toInt ≤ 5 by rw [f1]; omega, (m_R_must R h114).2.2⟩ (fun h => by first | exact absurd rfl h | (have b : ¬ 5 ≤ ((τ114.1 0 53) + 1).toInt := b150; show ((τ114.1 0 53) + 1).toInt ≤ 4; omega)) (show 5 - ((τ114.1 0 53) + 1).toInt < _ by rw [f1]; omega))
            · refine jr_iconst C (v := 1) dX11_readRules_109 (by decide) ?_
              refine jr_goto C 114 dX11_readRules_110 (by decide) ?_
              refine jr_vv C [.int _] _ (ct_X11_must E _ _ R.1) ky_X11_must kv_X11_must kk_M_0 km_X11_333 (by decide) rfl (Nat.le_of_ble_eq_true rfl) dX11_readRules_114 (fun τ114 h114 => ?_)
              have f1 : (τ114.1 0 53) = (τ.1 0 53) := h114.1.2 53 (by decide); have g3 := g1 b73; have e1 := ji_inc1 (k := (τ.1 0 53)) (by omega)
              refine jr_aload_n C dX11_readRules_117 rfl ?_
              refine jr_getr C kf_X11_117_0 dX11_readRules_118 ?_
              refine jr_aload_n C dX11_readRules_121 rfl ?_
              refine jr_geti C kf_X11_350_0 dX11_readRules_122 ?_
              refine jr_iload_n C dX11_readRules_125 rfl ?_
              refine jr_iast C ka_M_35 dX11_readRules_126 (ji_in (i := (τ114.1 0 53)) (by rw [f1]; omega) (by rw [f1]; omega)) ?_
              refine jr_aload_n C dX11_readRules_127 rfl ?_
              refine jr_dup C dX11_readRules_128 rfl ?_
              refine jr_geti C kf_X11_350_0 dX11_readRules_129 ?_
              refine jr_iconst C (v := 1) dX11_readRules_132 (by decide) ?_
              refine jr_iadd C dX11_readRules_133 ?_
              refine jr_puti C kp_X11_350_0 dX11_readRules_134 ?_
              refine jr_aload_n C dX11_readRules_137 rfl ?_
              refine jr_geti C kf_X11_295_0 dX11_readRules_138 ?_
              refine jr_iconst C (v := 2) dX11_readRules_141 (by decide) ?_
              refine jr_ncmp_ne C (b := 2) 157 dX11_readRules_142 (by decide) rfl rfl (fun b142 => ?_) (fun b142 => ?_)
              · refine jr_iconst C (v := 0) dX11_readRules_157 (by decide) ?_
                refine jr_istore_n C dX11_readRules_158 (by decide) ?_
                refine jr_goto C 72 dX11_readRules_159 (by decide) ?_
                exact jr_sub [(0, jf_r E 0), (1, .int _)] rfl (ih _ _ (mS_g_i (mS_g_a (mS_gm z h114 (by decide)) (by decide) (by decide)) (by decide)) ⟨h114.2.1, show 0 ≤ ((τ114.1 0 53) + 1).toInt ∧ ((τ114.1 0 53) + 1).toInt ≤ 5 by rw [f1]; omega, (m_R_must R h114).2.2⟩ (fun h => by first | exact absurd rfl h | (have b : ¬ 5 ≤ ((τ114.1 0 53) + 1).toInt := b150; show ((τ114.1 0 53) + 1).toInt ≤ 4; omega)) (show 5 - ((τ114.1 0 53) + 1).toInt < _ by rw [f1]; omega))
              · refine jr_aload_n C dX11_readRules_145 rfl ?_
                refine jr_geti C kf_X11_350_0 dX11_readRules_146 ?_
                refine jr_iconst C (v := 5) dX11_readRules_149 (by decide) ?_
                refine jr_ncmp_ge C (b := 5) 157 dX11_readRules_150 (by decide) rfl rfl (fun b150 => ?_) (fun b150 => ?_)
                · refine jr_iconst C (v := 0) dX11_readRules_157 (by decide) ?_
                  refine jr_istore_n C dX11_readRules_158 (by decide) ?_
                  refine jr_goto C 72 dX11_readRules_159 (by decide) ?_
                  exact jr_sub [(0, jf_r E 0), (1, .int _)] rfl (ih _ _ (mS_g_i (mS_g_a (mS_gm z h114 (by decide)) (by decide) (by decide)) (by decide)) ⟨h114.2.1, show 0 ≤ ((τ114.1 0 53) + 1).toInt ∧ ((τ114.1 0 53) + 1).toInt ≤ 5 by rw [f1]; omega, (m_R_must R h114).2.2⟩ (fun h => by first | exact absurd rfl h | (have b : ¬ 5 ≤ ((τ114.1 0 53) + 1).toInt := b150; show ((τ114.1 0 53) + 1).toInt ≤ 4; omega)) (show 5 - ((τ114.1 0 53) + 1).toInt < _ by rw [f1]; omega))
                · refine jr_iconst C (v := 1) dX11_readRules_153 (by decide) ?_
                  refine jr_goto C 158 dX11_readRules_154 (by decide) ?_
                  refine jr_istore_n C dX11_readRules_158 (by decide) ?_
                  refine jr_goto C 72 dX11_readRules_159 (by decide) ?_
                  exact jr_sub [(0, jf_r E 0), (1, .int _)] rfl (ih _ _ (mS_g_i (mS_g_a (mS_gm z h114 (by decide)) (by decide) (by decide)) (by decide)) ⟨h114.2.1, show 0 ≤ ((τ114.1 0 53) + 1).toInt ∧ ((τ114.1 0 53) + 1).toInt ≤ 5 by rw [f1]; omega, (m_R_must R h114).2.2⟩ (fun h => by first | exact absurd rfl h | (have b : ¬ 5 ≤ ((τ114.1 0 53) + 1).toInt := b150; show ((τ114.1 0 53) + 1).toInt ≤ 4; omega)) (show 5 - ((τ114.1 0 53) + 1).toInt < _ by rw [f1]; omega))
  have J30 : ∀ (τ : jf_S), mS_g [34, 35, 36] [51, 53, 54, 56, 59, 60, 61, 63, 64] σ τ → m_R τ → ((τ.1 0 53)).toInt = 0 → jf_X jh_M E G 3 30 [(0, jf_r E 0)] [] τ := by
    intro τ z R n0
    refine jr_aload_n C dX11_readRules_30 rfl ?_
    refine jr_aload_n C dX11_readRules_31 rfl ?_
    refine jr_bipush C (v := 59) dX11_readRules_32 (by decide) ?_
    refine jr_vi C [.int _] _ (ct_X11_isSign E _ _) ky_X11_isSign kv_X11_isSign kk_M_0 km_X11_330 (by decide) rfl (Nat.le_of_ble_eq_true rfl) dX11_readRules_34 (fun r34 τ34 h34 => ?_)
    obtain ⟨q34, rfl⟩ := h34
    refine jr_vv C [.int _] _ (ct_X11_must E _ _ R.1) ky_X11_must kv_X11_must kk_M_0 km_X11_333 (by decide) rfl (Nat.le_of_ble_eq_true rfl) dX11_readRules_37 (fun τ37 h37 => ?_)
    have R37 := m_R_must R h37; have f1 : (τ37.1 0 53) = (τ.1 0 53) := h37.1.2 53 (by decide); have a37 := h37.2.1
    refine jr_aload_n C dX11_readRules_40 rfl ?_
    refine jr_geti C kf_X11_310_0 dX11_readRules_41 ?_
    refine jr_nif_ne C 165 dX11_readRules_44 (by decide) (fun b44 => ?_) (fun b44 => ?_)
    · exact J165 _ (mS_gm z h37 (by decide)) R37
    · refine jr_aload_n C dX11_readRules_47 rfl ?_
      refine jr_bipush C (v := 112) dX11_readRules_48 (by decide) ?_
      refine jr_bipush C (v := 111) dX11_readRules_50 (by decide) ?_
      refine jr_bipush C (v := 105) dX11_readRules_52 (by decide) ?_
      refine jr_bipush C (v := 110) dX11_readRules_54 (by decide) ?_
      refine jr_bipush C (v := 116) dX11_readRules_56 (by decide) ?_
      refine jr_bipush C (v := 115) dX11_readRules_58 (by decide) ?_
      refine jr_vi C [.int _, .int _, .int _, .int _, .int _, .int _] _ (ct_X11_isWord E _ _ _ _ _ _ _) ky_X11_isWord kv_X11_isWord kk_M_0 km_X11_326 (by decide) rfl (Nat.le_of_ble_eq_true rfl) dX11_readRules_60 (fun r60 τ60 h60 => ?_)
      obtain ⟨q60, rfl⟩ := h60
      refine jr_nif_eq C 165 dX11_readRules_63 (by decide) (fun b63 => ?_) (fun b63 => ?_)
      · exact J165 _ (mS_gm z h37 (by decide)) R37
      · refine jr_aload_n C dX11_readRules_66 rfl ?_
        refine jr_vv C [] _ (ct_X11_next E _ ⟨by have := a37.1; have := a37.2.1; omega, a37.2.2.1, a37.2.2.2⟩) ky_X11_next kv_X11_next kk_M_0 km_X11_314 (by decide) rfl (Nat.le_of_ble_eq_true rfl) dX11_readRules_67 (fun τ67 h67 => ?_)
        have R67 : m_R τ67 := ⟨h67.2.2.1, by rw [show (τ67.1 0 53) = _ from h67.1.2 53 (by decide) (by decide) (by decide)]; exact R37.2.1, fun h => by rw [show (τ67.1 0 51) = _ from h67.1.2 51 (by decide) (by decide) (by decide), show (τ67.1 34) = _ from h67.1.1 34 (by decide)]; exact R37.2.2 (by rw [← show (τ67.1 0 64) = _ from h67.1.2 64 (by decide) (by decide) (by decide)]; exact h)⟩; have f2 : (τ67.1 0 53) = (τ37.1 0 53) := h67.1.2 53 (by decide) (by decide) (by decide)
        refine jr_iconst C (v := 1) dX11_readRules_70 (by decide) ?_
        refine jr_istore_n C dX11_readRules_71 (by decide) ?_
        exact jr_sub [(0, jf_r E 0), (1, .int 1)] rfl (l72 7 _ _ (mS_g_t (mS_gm z h37 (by decide)) (mS_g_n h67.1 (by decide))) R67 (fun _ => by rw [f2, f1]; omega) (by rw [f2, f1]; omega))
  refine jr_aload_n C dX11_readRules_0 rfl ?_
  refine jr_aload_n C dX11_readRules_1 rfl ?_
  refine jr_bipush C (v := 99) dX11_readRules_2 (by decide) ?_
  refine jr_bipush C (v := 111) dX11_readRules_4 (by decide) ?_
  refine jr_bipush C (v := 117) dX11_readRules_6 (by decide) ?_
  refine jr_bipush C (v := 110) dX11_readRules_8 (by decide) ?_
  refine jr_bipush C (v := 116) dX11_readRules_10 (by decide) ?_
  refine jr_iconst C (v := 0) dX11_readRules_12 (by decide) ?_
  refine jr_vi C [.int _, .int _, .int _, .int _, .int _, .int _] _ (ct_X11_isWord E _ _ _ _ _ _ _) ky_X11_isWord kv_X11_isWord kk_M_0 km_X11_326 (by decide) rfl (Nat.le_of_ble_eq_true rfl) dX11_readRules_13 (fun r13 τ13 h13 => ?_)
  obtain ⟨q13, rfl⟩ := h13
  refine jr_vv C [.int _] _ (ct_X11_must E _ _ h0) ky_X11_must kv_X11_must kk_M_0 km_X11_333 (by decide) rfl (Nat.le_of_ble_eq_true rfl) dX11_readRules_16 (fun τ16 h16 => ?_)
  have f1 : (τ16.1 0 51) = (σ.1 0 51) := h16.1.2 51 (by decide); have f2 : (τ16.1 0 53) = (σ.1 0 53) := h16.1.2 53 (by decide)
  refine jr_aload_n C dX11_readRules_19 rfl ?_
  refine jr_geti C kf_X11_310_0 dX11_readRules_20 ?_
  refine jr_nif_ne C 30 dX11_readRules_23 (by decide) (fun b23 => ?_) (fun b23 => ?_)
  · first | (have h9 : ¬ ((τ16.1 0 64)).toInt = 0 := b23; exact J30 _ (mS_gm (mS_g_r σ) h16 (by decide)) ⟨h16.2.1, by rw [f2]; omega, fun h => absurd h b23⟩ (by rw [f2]; exact hp)) | exact J30 _ (mS_g_t (mS_gm (mS_g_r σ) h16 (by decide)) (mS_g_m h27.1 (by decide) (by decide))) ⟨h27.2.1, by rw [f3]; omega, fun h => (h27.2.2 h).2⟩ (by rw [f3]; exact hp)
  · refine jr_aload_n C dX11_readRules_26 rfl ?_
    refine jr_vv C [] _ (ct_X11_readCond E _ h16.2.1 (h16.2.2.resolve_left (fun g => g b23)).2.2.2.2 b23 (by rw [f1]; exact hn) (by have n := h16.2.2.resolve_left (fun g => g b23); have k := m_isw q13 n.2.2.1; unfold m_kd at hk; have := h0.1; omega)) ky_X11_readCond kv_X11_readCond kk_M_0 km_X11_347 (by decide) rfl (Nat.le_of_ble_eq_true rfl) dX11_readRules_27 (fun τ27 h27 => ?_)
    have f3 : (τ27.1 0 53) = (σ.1 0 53) := (h27.1.2 53 (by decide)).trans f2
    first | (have h9 : ¬ ((τ16.1 0 64)).toInt = 0 := b23; exact J30 _ (mS_gm (mS_g_r σ) h16 (by decide)) ⟨h16.2.1, by rw [f2]; omega, fun h => absurd h b23⟩ (by rw [f2]; exact hp)) | exact J30 _ (mS_g_t (mS_gm (mS_g_r σ) h16 (by decide)) (mS_g_m h27.1 (by decide) (by decide))) ⟨h27.2.1, by rw [f3]; omega, fun h => (h27.2.2 h).2⟩ (by rw [f3]; exact hp)
theorem m_upd_cp {a b : Nat → Int32} {n q : Nat} (h : q ≠ n → a q = b q) : a q = upd b n (a n) q := by
  unfold upd
  by_cases e : q = n
  · rw [if_pos e, e]
  · rw [if_neg e]; exact h e
/-- rules that stand -/
def mI_m (σ : jf_S) : Prop := ((0 ≤ ((σ.1 0 46)).toInt ∧ ((σ.1 0 46)).toInt ≤ 300) ∧ m_val ((σ.1 32)) ((σ.1 0 46)).toNatClampNeg) ∧ (0 ≤ ((σ.1 0 48)).toInt ∧ ((σ.1 0 48)).toInt ≤ 5)
abbrev mJ_rules : List Nat := [0, 1, 44, 46, 48, 49, 51, 53, 54, 56, 58, 59, 60, 61, 63, 64]
theorem ct_X11_rules (E : jf_E) (σ : jf_S) (h0 : 0 ≤ ((σ.1 0 58)).toInt ∧ ((σ.1 0 58)).toInt ≤ 300) (hI : mI_m σ) : jf_I jh_M E yX11_rules cX11_rules 2 .int 6 [jf_r E 0] σ (fun r τ => (r = 0 ∨ r = -6) ∧ mS_g [32, 33, 34, 35, 36] mJ_rules σ τ ∧ (τ.1 0 58) = 0 ∧ mI_m τ) := by
  refine jf_mkI (by decide) (Nat.le_of_ble_eq_true rfl) ?_
  intro G C ret
  have l108 : ∀ (m : Nat) (τ : jf_S) (i : Int32), mS_g [32, 33, 34, 35, 36] mJ_rules σ τ → (τ.1 0 58) = 0 → mI_m τ → (0 ≤ ((τ.1 0 53)).toInt ∧ ((τ.1 0 53)).toInt ≤ 5) → 0 ≤ i.toInt → i.toInt ≤ ((τ.1 0 53)).toInt → ((τ.1 0 53)).toInt - i.toInt < m → jf_X jh_M E G 2 108 [(0, jf_r E 0), (1, .int i)] [] τ := by
    intro m
    induction m with
    | zero => intro τ i z t I n g1 g2 g3; exfalso; omega
    | succ m ih =>
      intro τ i z t I n g1 g2 g3
      have e1 := ji_inc (k := i) (by omega)
      refine jr_iload_n C dX11_rules_108 rfl ?_
      refine jr_aload_n C dX11_rules_109 rfl ?_
      refine jr_getv C kf_X11_350_0 dX11_rules_110 (v := τ.1 0 53) rfl ?_
      refine jr_ncmp_ge C 134 dX11_rules_113 (by decide) rfl rfl (fun b113 => ?_) (fun b113 => ?_)
      · refine jr_aload_n C dX11_rules_134 rfl ?_
        refine jr_aload_n C dX11_rules_135 rfl ?_
        refine jr_getv C kf_X11_353_0 dX11_rules_136 (v := τ.1 0 54) rfl ?_
        refine jr_puti C kp_X11_368_0 dX11_rules_139 ?_
        refine jr_aload_n C dX11_rules_142 rfl ?_
        refine jr_iconst C (v := 0) dX11_rules_143 (by decide) ?_
        refine jr_vip C [.int _] _ (ct_X11_told E _ _) ky_X11_told kv_X11_told kk_M_0 km_X11_173 (by decide) rfl (Nat.le_of_ble_eq_true rfl) dX11_rules_144 ?_
        exact ret _ _ _ _ dX11_rules_147 rfl (⟨by decide, mS_g_i (mS_g_i z (by decide)) (by decide), t, I⟩)
      · refine jr_aload_n C dX11_rules_116 rfl ?_
        refine jr_getr C kf_X11_111_0 dX11_rules_117 ?_
        refine jr_iload_n C dX11_rules_120 rfl ?_
        refine jr_aload_n C dX11_rules_121 rfl ?_
        refine jr_getr C kf_X11_117_0 dX11_rules_122 ?_
        refine jr_iload_n C dX11_rules_125 rfl ?_
        refine jr_ialv C ka_M_35 dX11_rules_126 (ji_in (i := i) (by omega) (by omega)) (v := τ.1 35 _) rfl ?_
        refine jr_iast C ka_M_33 dX11_rules_127 (ji_in (i := i) (by omega) (by omega)) ?_
        refine jr_iinc C _ dX11_rules_128 rfl rfl (by decide) ?_
        refine jr_goto C 108 dX11_rules_131 (by decide) ?_
        exact jr_sub [(0, jf_r E 0), (1, .int _)] rfl (ih _ _ (mS_g_a z (by decide) (by decide)) t I n (by omega) (show (i + Int32.ofInt 1).toInt ≤ ((τ.1 0 53)).toInt by omega) (show ((τ.1 0 53)).toInt - (i + Int32.ofInt 1).toInt < _ by omega))
  have l72 : ∀ (m : Nat) (τ : jf_S) (K : Nat) (i : Int32), mS_g [32, 33, 34, 35, 36] mJ_rules σ τ → (τ.1 0 58) = 0 → (0 ≤ ((τ.1 0 53)).toInt ∧ ((τ.1 0 53)).toInt ≤ 5) → (((τ.1 0 51)).toInt = (K : Int) ∧ K ≤ 300 ∧ m_val ((τ.1 34)) K) → ((τ.1 0 46)).toInt = (K : Int) → (∀ q : Nat, (q : Int) < i.toInt → (τ.1 34) q = (τ.1 32) q) → 0 ≤ i.toInt → i.toInt ≤ (K : Int) → (K : Int) - i.toInt < m → jf_X jh_M E G 2 72 [(0, jf_r E 0), (1, .int i)] [] τ := by
    intro m
    induction m with
    | zero => intro τ K i z t n nK k cp g1 g2 g3; exfalso; omega
    | succ m ih =>
      intro τ K i z t n nK k cp g1 g2 g3
      obtain ⟨n1, n2, n3⟩ := id nK
      have e1 := ji_inc (k := i) (by omega)
      have ei := ji_tn g1
      have cm : ((τ.1 0 46)).toNatClampNeg = K := ji_cl k
      refine jr_iload_n C dX11_rules_72 rfl ?_
      refine jr_aload_n C dX11_rules_73 rfl ?_
      refine jr_getv C kf_X11_317_0 dX11_rules_74 (v := τ.1 0 51) rfl ?_
      refine jr_ncmp_ge C 98 dX11_rules_77 (by decide) rfl rfl (fun b77 => ?_) (fun b77 => ?_)
      · refine jr_aload_n C dX11_rules_98 rfl ?_
        refine jr_aload_n C dX11_rules_99 rfl ?_
        refine jr_getv C kf_X11_350_0 dX11_rules_100 (v := τ.1 0 53) rfl ?_
        refine jr_puti C kp_X11_365_0 dX11_rules_103 ?_
        refine jr_iconst C (v := 0) dX11_rules_106 (by decide) ?_
        refine jr_istore_n C dX11_rules_107 (by decide) ?_
        exact jr_sub [(0, jf_r E 0), (1, .int 0)] rfl (l108 7 _ _ (mS_g_i z (by decide)) t ⟨⟨show 0 ≤ ((τ.1 0 46)).toInt ∧ ((τ.1 0 46)).toInt ≤ 300 by omega, show m_val ((τ.1 32)) ((τ.1 0 46)).toNatClampNeg by rw [cm]; exact m_val_c (fun q hq => cp q (by omega)) n3⟩, n⟩ n (by decide) n.1 (show ((τ.1 0 53)).toInt - (0 : Int) < _ by omega))
      · refine jr_aload_n C dX11_rules_80 rfl ?_
        refine jr_getr C kf_X11_108_0 dX11_rules_81 ?_
        refine jr_iload_n C dX11_rules_84 rfl ?_
        refine jr_aload_n C dX11_rules_85 rfl ?_
        refine jr_getr C kf_X11_114_0 dX11_rules_86 ?_
        refine jr_iload_n C dX11_rules_89 rfl ?_
        refine jr_ialv C ka_M_34 dX11_rules_90 (ji_in (i := i) (by omega) (by omega)) (v := τ.1 34 _) rfl ?_
        refine jr_iast C ka_M_32 dX11_rules_91 (ji_in (i := i) (by omega) (by omega)) ?_
        refine jr_iinc C _ dX11_rules_92 rfl rfl (by decide) ?_
        refine jr_goto C 72 dX11_rules_95 (by decide) ?_
        exact jr_sub [(0, jf_r E 0), (1, .int _)] rfl (ih _ K _ (mS_g_a z (by decide) (by decide)) t n nK k (fun q hq => by rw [jf_i_o 34 (by decide), jf_i_at]; exact m_upd_cp (fun e => cp q (by omega))) (by omega) (by omega) (by omega))
  refine jr_aload_n C dX11_rules_0 rfl ?_
  refine jr_iconst C (v := 0) dX11_rules_1 (by decide) ?_
  refine jr_puti C kp_X11_144_0 dX11_rules_2 ?_
  refine jr_aload_n C dX11_rules_5 rfl ?_
  refine jr_iconst C (v := 0) dX11_rules_6 (by decide) ?_
  refine jr_puti C kp_X11_279_0 dX11_rules_7 ?_
  refine jr_aload_n C dX11_rules_10 rfl ?_
  refine jr_iconst C (v := 0) dX11_rules_11 (by decide) ?_
  refine jr_putz C kp_X11_310_0 (by decide) dX11_rules_12 ?_
  refine jr_aload_n C dX11_rules_15 rfl ?_
  refine jr_iconst C (v := -1) dX11_rules_16 (by decide) ?_
  refine jr_puti C kp_X11_126_0 dX11_rules_17 ?_
  refine jr_aload_n C dX11_rules_20 rfl ?_
  refine jr_iconst C (v := 0) dX11_rules_21 (by decide) ?_
  refine jr_puti C kp_X11_317_0 dX11_rules_22 ?_
  refine jr_aload_n C dX11_rules_25 rfl ?_
  refine jr_iconst C (v := 0) dX11_rules_26 (by decide) ?_
  refine jr_puti C kp_X11_350_0 dX11_rules_27 ?_
  refine jr_aload_n C dX11_rules_30 rfl ?_
  refine jr_vv C [] _ (ct_X11_next E _ (show 0 ≤ (0 : Int32).toInt ∧ (0 : Int32).toInt ≤ ((σ.1 0 58)).toInt ∧ ((σ.1 0 58)).toInt ≤ 300 from ⟨by decide, h0.1, h0.2⟩)) ky_X11_next kv_X11_next kk_M_0 km_X11_314 (by decide) rfl (Nat.le_of_ble_eq_true rfl) dX11_rules_31 (fun τ31 h31 => ?_)
  have w1 : (τ31.1 0 64) = 0 := h31.1.2 64 (by decide) (by decide) (by decide); have w2 : (τ31.1 0 51) = 0 := h31.1.2 51 (by decide) (by decide) (by decide); have w3 : (τ31.1 0 53) = 0 := h31.1.2 53 (by decide) (by decide) (by decide)
  refine jr_aload_n C dX11_rules_34 rfl ?_
  refine jr_vv C [] _ (ct_X11_readRules E _ h31.2.2.1 h31.2.2.2 (by rw [w1]; rfl) (by rw [w2]; rfl) (by rw [w3]; rfl)) ky_X11_readRules kv_X11_readRules kk_M_0 km_X11_356 (by decide) rfl (Nat.le_of_ble_eq_true rfl) dX11_rules_35 (fun τ35 h35 => ?_)
  have z35 : mS_g [32, 33, 34, 35, 36] mJ_rules σ τ35 := mS_g_t (mS_g_t (mS_g_i (mS_g_i (mS_g_i (mS_g_i (mS_g_i (mS_g_i (mS_g_r σ) (by decide)) (by decide)) (by decide)) (by decide)) (by decide)) (by decide)) (mS_g_n h31.1 (by decide))) (mS_g_m h35.1 (by decide) (by decide)); have y1 : (τ35.1 0 46) = (σ.1 0 46) := (h35.1.2 46 (by decide)).trans (h31.1.2 46 (by decide) (by decide) (by decide)); have y2 : (τ35.1 0 48) = (σ.1 0 48) := (h35.1.2 48 (by decide)).trans (h31.1.2 48 (by decide) (by decide) (by decide)); have y3 : (τ35.1 32) = (σ.1 32) := (h35.1.1 32 (by decide) (by decide)).trans (h31.1.1 32 (by decide)); have I35 : mI_m τ35 := by unfold mI_m; rw [y1, y2, y3]; exact hI
  refine jr_aload_n C dX11_rules_38 rfl ?_
  refine jr_iconst C (v := 0) dX11_rules_39 (by decide) ?_
  refine jr_puti C kp_X11_272_0 dX11_rules_40 ?_
  refine jr_aload_n C dX11_rules_43 rfl ?_
  refine jr_geti C kf_X11_310_0 dX11_rules_44 ?_
  refine jr_nif_eq C 57 dX11_rules_47 (by decide) (fun b47 => ?_) (fun b47 => ?_)
  · refine jr_aload_n C dX11_rules_57 rfl ?_
    refine jr_iconst C (v := 1) dX11_rules_58 (by decide) ?_
    refine jr_putz C kp_X11_359_0 (by decide) dX11_rules_59 ?_
    refine jr_aload_n C dX11_rules_62 rfl ?_
    refine jr_aload_n C dX11_rules_63 rfl ?_
    refine jr_geti C kf_X11_317_0 dX11_rules_64 ?_
    refine jr_puti C kp_X11_362_0 dX11_rules_67 ?_
    refine jr_iconst C (v := 0) dX11_rules_70 (by decide) ?_
    refine jr_istore_n C dX11_rules_71 (by decide) ?_
    obtain ⟨K, k1, k2, k3⟩ := h35.2.2.2 b47; exact jr_sub [(0, jf_r E 0), (1, .int 0)] rfl (l72 302 _ K _ (mS_g_i (mS_g_i (mS_g_i z35 (by decide)) (by decide)) (by decide)) rfl h35.2.2.1 ⟨k1, k2, k3⟩ k1 (fun q hq => by exfalso; have : (0 : Int32).toInt = 0 := rfl; omega) (by decide) (show (0 : Int) ≤ _ by omega) (show (K : Int) - 0 < _ by omega))
  · refine jr_aload_n C dX11_rules_50 rfl ?_
    refine jr_bipush C (v := -6) dX11_rules_51 (by decide) ?_
    refine jr_vip C [.int _] _ (ct_X11_told E _ _) ky_X11_told kv_X11_told kk_M_0 km_X11_173 (by decide) rfl (Nat.le_of_ble_eq_true rfl) dX11_rules_53 ?_
    exact ret _ _ _ _ dX11_rules_56 rfl (⟨by decide, mS_g_i (mS_g_i z35 (by decide)) (by decide), rfl, I35⟩)

