/-! rules whole, exactly: what both sides must read, and the reference's road -/
def q_pts (a : Nat → Int32) (n : Nat) : Nat → Nat → List Int32 → q_R
  | 0, f, o => .inl (f, o)
  | m + 1, f, o => if tk_k a n f = 2 then (if tk_v a n f ≤ 1000 then q_pts a n m (tk_x a n f) (o ++ [Int32.ofInt (tk_v a n f)]) else .inr f) else .inl (f, o)
def q_pn (a : Nat → Int32) (n f : Nat) : q_R := if tk_k a n f = 2 ∧ tk_v a n f ≤ 1000 then q_pts a n 4 (tk_x a n f) [Int32.ofInt (tk_v a n f)] else .inr f
def q_man (a : Nat → Int32) (n f : Nat) : q_R := if tk_wb a n f [114, 111, 117, 110, 100, 115] = true then .inl (tk_x a n f, []) else if tk_wb a n f [112, 111, 105, 110, 116, 115] = true then q_pn a n (tk_x a n f) else .inr f
abbrev q_T : Type := (List Int32 × List Int32 × Int32) ⊕ Nat
def q_fin (a : Nat → Int32) (n : Nat) (K p : List Int32) (g : Nat) : q_T :=
  if tk_wb a n g [102, 97, 109, 101] = true then (if tk_k a n (tk_x a n g) = 0 then .inl (K, p, 0) else .inr (tk_x a n g))
  else if tk_wb a n g [102, 105, 108, 109] = true then (if tk_k a n (tk_x a n g) = 0 then .inl (K, p, 1) else .inr (tk_x a n g))
  else if tk_wb a n g [102, 105, 114, 115, 116] = true then (if tk_k a n (tk_x a n g) = 0 then .inl (K, p, 2) else .inr (tk_x a n g))
  else .inr g
def q_end (a : Nat → Int32) (n : Nat) (K p : List Int32) (f : Nat) : q_T := if tk_sb a n f 59 = true then (if tk_wb a n (tk_x a n f) [116, 105, 101] = true then q_fin a n K p (tk_x a n (tk_x a n f)) else .inr (tk_x a n f)) else .inr f
def q_mid (a : Nat → Int32) (n : Nat) (K : List Int32) (f : Nat) : q_T := if tk_sb a n f 59 = true then (match q_man a n (tk_x a n f) with
  | .inl s => q_end a n K s.2 s.1
  | .inr e => .inr e) else .inr f
def q_rules (a : Nat → Int32) (n f : Nat) : q_T := if tk_wb a n f [99, 111, 117, 110, 116] = true then (match q_cond a n (q_not a n 8) (tk_x a n f) with
  | .inl r => q_mid a n r.2 r.1
  | .inr e => .inr e) else .inr f
theorem m_N_ok {a : Nat → Int32} {n f : Nat} {σ τ : jf_S} {v : Int32} (N : m_N a n f σ τ v) (hb : ((σ.1 0 64)).toInt = 0) (hv : ¬ v.toInt = 0) : mS_n σ τ ∧ m_tk a n τ (tk_x a n f) := by
  rcases N with ⟨q, -⟩ | ⟨-, q, -⟩ | ⟨-, -, q⟩
  · exact absurd hb q
  · exact absurd q hv
  · exact q
theorem m_N_no {a : Nat → Int32} {n f : Nat} {σ τ : jf_S} {v : Int32} (N : m_N a n f σ τ v) (hb : ((σ.1 0 64)).toInt = 0) (hv : v.toInt = 0) : τ = jf_i (jf_i σ 0 64 1) 0 63 ((σ.1 0 59)) := by
  rcases N with ⟨q, -⟩ | ⟨-, -, q⟩ | ⟨-, q, -⟩
  · exact absurd hb q
  · exact q
  · exact absurd hv q
theorem m_N_b {a : Nat → Int32} {n f : Nat} {σ τ : jf_S} {v : Int32} (N : m_N a n f σ τ v) (hb : ¬ ((σ.1 0 64)).toInt = 0) : τ = σ := by
  rcases N with ⟨-, q⟩ | ⟨q, -⟩ | ⟨q, -⟩
  · exact q
  · exact absurd q hb
  · exact absurd q hb
theorem jb_nz {p : Prop} [Decidable p] (h : p) : ¬ (jb p).toInt = 0 := by rw [← jb_tt h]; decide
theorem jb_z {p : Prop} [Decidable p] (h : ¬ p) : (jb p).toInt = 0 := by rw [← jb_ff h]; rfl
def m_np (τ : jf_S) (L : List Int32) : Prop := ((τ.1 0 53)).toInt = (L.length : Int) ∧ m_ls ((τ.1 35)) L
theorem m_np_n {σ τ : jf_S} {L : List Int32} (z : mS_n σ τ) (h : m_np σ L) : m_np τ L := by
  unfold m_np
  rw [z.2 53 (by decide) (by decide) (by decide), z.1 35 (by decide)]; exact h
abbrev mK_rd : List Nat := [34, 35, 36]
abbrev mJ_rd : List Nat := [51, 53, 54, 56, 59, 60, 61, 63, 64]
/-- what reading rules must leave -/
def m_out (a : Nat → Int32) (n : Nat) (σ τ : jf_S) (res : q_T) : Prop := (∀ t, res = .inl t → ((τ.1 0 64)).toInt = 0 ∧ m_mk τ t.1 ∧ m_np τ t.2.1 ∧ (τ.1 0 54) = t.2.2 ∧ (τ.1 0 63) = -1) ∧ (∀ e, res = .inr e → ¬ ((τ.1 0 64)).toInt = 0 ∧ ((τ.1 0 63)).toInt = (e : Int)) ∧ mS_g mK_rd mJ_rd σ τ
theorem m_out_b {a : Nat → Int32} {n e : Nat} {σ τ : jf_S} {res : q_T} (h : res = .inr e) (b1 : ¬ ((τ.1 0 64)).toInt = 0) (b2 : ((τ.1 0 63)).toInt = (e : Int)) (z : mS_g mK_rd mJ_rd σ τ) : m_out a n σ τ res := ⟨fun t ht => (by rw [h] at ht; cases ht), fun e' he => (by rw [h] at he; cases he; exact ⟨b1, b2⟩), z⟩
theorem rr_B259 (E : jf_E) (G : jf_G) (σ : jf_S) (a : Nat → Int32) (n : Nat) (RES : q_T) (C : jf_C jh_M E G 3 cX11_readRules yX11_readRules.cls 5) (ret : ∀ (pc : Nat) (L : List (Nat × Value)) (τ : jf_S), decode cX11_readRules pc = .ok (.return_, 1) → m_out a n σ τ RES → jf_X jh_M E G 3 pc L [] τ) (τ : jf_S) (e : Nat) (hq : RES = .inr e) (b1 : ¬ ((τ.1 0 64)).toInt = 0) (b2 : ((τ.1 0 63)).toInt = (e : Int)) (z : mS_g mK_rd mJ_rd σ τ) : jf_X jh_M E G 3 259 [(0, jf_r E 0)] [] τ := by
  refine jr_aload_n C dX11_readRules_259 rfl ?_
  refine jr_aload_n C dX11_readRules_260 rfl ?_
  refine jr_getv C kf_X11_353_0 dX11_readRules_261 (v := τ.1 0 54) rfl ?_
  refine jr_iconst C (v := 2) dX11_readRules_264 (by decide) ?_
  refine jr_ncmp_lt C (b := 2) 286 dX11_readRules_265 (by decide) rfl rfl (fun b265 => ?_) (fun b265 => ?_)
  · refine jr_iconst C (v := 1) dX11_readRules_286 (by decide) ?_
    refine jr_goto C 291 dX11_readRules_287 (by decide) ?_
    refine jr_vv C [.int _] _ (ct_X11_must2 E _ _ a n 0 (fun h => absurd h b1)) ky_X11_must kv_X11_must kk_M_0 km_X11_333 (by decide) rfl (Nat.le_of_ble_eq_true rfl) dX11_readRules_291 (fun τ291 h291 => ?_)
    have e291 := (m_N_b h291 b1).symm; subst e291
    refine jr_aload_n C dX11_readRules_294 rfl ?_
    refine jr_aload_n C dX11_readRules_295 rfl ?_
    refine jr_getv C kf_X11_295_0 dX11_readRules_296 (v := τ.1 0 61) rfl ?_
    refine jr_nif_ne C 306 dX11_readRules_299 (by decide) (fun b299 => ?_) (fun b299 => ?_)
    · refine jr_iconst C (v := 0) dX11_readRules_306 (by decide) ?_
      refine jr_vv C [.int _] _ (ct_X11_must2 E _ _ a n 0 (fun h => absurd h b1)) ky_X11_must kv_X11_must kk_M_0 km_X11_333 (by decide) rfl (Nat.le_of_ble_eq_true rfl) dX11_readRules_307 (fun τ307 h307 => ?_)
      have e307 := (m_N_b h307 b1).symm; subst e307
      exact ret _ _ _ dX11_readRules_310 (m_out_b hq b1 b2 z)
    · refine jr_iconst C (v := 1) dX11_readRules_302 (by decide) ?_
      refine jr_goto C 307 dX11_readRules_303 (by decide) ?_
      refine jr_vv C [.int _] _ (ct_X11_must2 E _ _ a n 0 (fun h => absurd h b1)) ky_X11_must kv_X11_must kk_M_0 km_X11_333 (by decide) rfl (Nat.le_of_ble_eq_true rfl) dX11_readRules_307 (fun τ307 h307 => ?_)
      have e307 := (m_N_b h307 b1).symm; subst e307
      exact ret _ _ _ dX11_readRules_310 (m_out_b hq b1 b2 z)
  · refine jr_aload_n C dX11_readRules_268 rfl ?_
    refine jr_bipush C (v := 102) dX11_readRules_269 (by decide) ?_
    refine jr_bipush C (v := 105) dX11_readRules_271 (by decide) ?_
    refine jr_bipush C (v := 114) dX11_readRules_273 (by decide) ?_
    refine jr_bipush C (v := 115) dX11_readRules_275 (by decide) ?_
    refine jr_bipush C (v := 116) dX11_readRules_277 (by decide) ?_
    refine jr_iconst C (v := 0) dX11_readRules_279 (by decide) ?_
    refine jr_vip C [.int _, .int _, .int _, .int _, .int _, .int _] _ (ct_X11_isWord2 E _ _ _ _ _ _ _) ky_X11_isWord kv_X11_isWord kk_M_0 km_X11_326 (by decide) rfl (Nat.le_of_ble_eq_true rfl) dX11_readRules_280 ?_
    refine jr_if_eq C 290 dX11_readRules_283 (by decide) (fun b283 => ?_) (fun b283 => ?_)
    · replace b283 := jb_f b283
      refine jr_iconst C (v := 0) dX11_readRules_290 (by decide) ?_
      refine jr_vv C [.int _] _ (ct_X11_must2 E _ _ a n 0 (fun h => absurd h b1)) ky_X11_must kv_X11_must kk_M_0 km_X11_333 (by decide) rfl (Nat.le_of_ble_eq_true rfl) dX11_readRules_291 (fun τ291 h291 => ?_)
      have e291 := (m_N_b h291 b1).symm; subst e291
      refine jr_aload_n C dX11_readRules_294 rfl ?_
      refine jr_aload_n C dX11_readRules_295 rfl ?_
      refine jr_getv C kf_X11_295_0 dX11_readRules_296 (v := τ.1 0 61) rfl ?_
      refine jr_nif_ne C 306 dX11_readRules_299 (by decide) (fun b299 => ?_) (fun b299 => ?_)
      · refine jr_iconst C (v := 0) dX11_readRules_306 (by decide) ?_
        refine jr_vv C [.int _] _ (ct_X11_must2 E _ _ a n 0 (fun h => absurd h b1)) ky_X11_must kv_X11_must kk_M_0 km_X11_333 (by decide) rfl (Nat.le_of_ble_eq_true rfl) dX11_readRules_307 (fun τ307 h307 => ?_)
        have e307 := (m_N_b h307 b1).symm; subst e307
        exact ret _ _ _ dX11_readRules_310 (m_out_b hq b1 b2 z)
      · refine jr_iconst C (v := 1) dX11_readRules_302 (by decide) ?_
        refine jr_goto C 307 dX11_readRules_303 (by decide) ?_
        refine jr_vv C [.int _] _ (ct_X11_must2 E _ _ a n 0 (fun h => absurd h b1)) ky_X11_must kv_X11_must kk_M_0 km_X11_333 (by decide) rfl (Nat.le_of_ble_eq_true rfl) dX11_readRules_307 (fun τ307 h307 => ?_)
        have e307 := (m_N_b h307 b1).symm; subst e307
        exact ret _ _ _ dX11_readRules_310 (m_out_b hq b1 b2 z)
    · replace b283 := jb_t b283
      refine jr_iconst C (v := 1) dX11_readRules_286 (by decide) ?_
      refine jr_goto C 291 dX11_readRules_287 (by decide) ?_
      refine jr_vv C [.int _] _ (ct_X11_must2 E _ _ a n 0 (fun h => absurd h b1)) ky_X11_must kv_X11_must kk_M_0 km_X11_333 (by decide) rfl (Nat.le_of_ble_eq_true rfl) dX11_readRules_291 (fun τ291 h291 => ?_)
      have e291 := (m_N_b h291 b1).symm; subst e291
      refine jr_aload_n C dX11_readRules_294 rfl ?_
      refine jr_aload_n C dX11_readRules_295 rfl ?_
      refine jr_getv C kf_X11_295_0 dX11_readRules_296 (v := τ.1 0 61) rfl ?_
      refine jr_nif_ne C 306 dX11_readRules_299 (by decide) (fun b299 => ?_) (fun b299 => ?_)
      · refine jr_iconst C (v := 0) dX11_readRules_306 (by decide) ?_
        refine jr_vv C [.int _] _ (ct_X11_must2 E _ _ a n 0 (fun h => absurd h b1)) ky_X11_must kv_X11_must kk_M_0 km_X11_333 (by decide) rfl (Nat.le_of_ble_eq_true rfl) dX11_readRules_307 (fun τ307 h307 => ?_)
        have e307 := (m_N_b h307 b1).symm; subst e307
        exact ret _ _ _ dX11_readRules_310 (m_out_b hq b1 b2 z)
      · refine jr_iconst C (v := 1) dX11_readRules_302 (by decide) ?_
        refine jr_goto C 307 dX11_readRules_303 (by decide) ?_
        refine jr_vv C [.int _] _ (ct_X11_must2 E _ _ a n 0 (fun h => absurd h b1)) ky_X11_must kv_X11_must kk_M_0 km_X11_333 (by decide) rfl (Nat.le_of_ble_eq_true rfl) dX11_readRules_307 (fun τ307 h307 => ?_)
        have e307 := (m_N_b h307 b1).symm; subst e307
        exact ret _ _ _ dX11_readRules_310 (m_out_b hq b1 b2 z)
theorem rr_B185 (E : jf_E) (G : jf_G) (σ : jf_S) (a : Nat → Int32) (n : Nat) (RES : q_T) (C : jf_C jh_M E G 3 cX11_readRules yX11_readRules.cls 5) (ret : ∀ (pc : Nat) (L : List (Nat × Value)) (τ : jf_S), decode cX11_readRules pc = .ok (.return_, 1) → m_out a n σ τ RES → jf_X jh_M E G 3 pc L [] τ) (τ : jf_S) (e : Nat) (hq : RES = .inr e) (b1 : ¬ ((τ.1 0 64)).toInt = 0) (b2 : ((τ.1 0 63)).toInt = (e : Int)) (z : mS_g mK_rd mJ_rd σ τ) : jf_X jh_M E G 3 185 [(0, jf_r E 0)] [] τ := by
  refine jr_aload_n C dX11_readRules_185 rfl ?_
  refine jr_aload_n C dX11_readRules_186 rfl ?_
  refine jr_bipush C (v := 59) dX11_readRules_187 (by decide) ?_
  refine jr_vip C [.int _] _ (ct_X11_isSign2 E _ _) ky_X11_isSign kv_X11_isSign kk_M_0 km_X11_330 (by decide) rfl (Nat.le_of_ble_eq_true rfl) dX11_readRules_189 ?_
  refine jr_vv C [.int _] _ (ct_X11_must2 E _ _ a n 0 (fun h => absurd h b1)) ky_X11_must kv_X11_must kk_M_0 km_X11_333 (by decide) rfl (Nat.le_of_ble_eq_true rfl) dX11_readRules_192 (fun τ192 h192 => ?_)
  have e192 := (m_N_b h192 b1).symm; subst e192
  refine jr_aload_n C dX11_readRules_195 rfl ?_
  refine jr_aload_n C dX11_readRules_196 rfl ?_
  refine jr_bipush C (v := 116) dX11_readRules_197 (by decide) ?_
  refine jr_bipush C (v := 105) dX11_readRules_199 (by decide) ?_
  refine jr_bipush C (v := 101) dX11_readRules_201 (by decide) ?_
  refine jr_iconst C (v := 0) dX11_readRules_203 (by decide) ?_
  refine jr_iconst C (v := 0) dX11_readRules_204 (by decide) ?_
  refine jr_iconst C (v := 0) dX11_readRules_205 (by decide) ?_
  refine jr_vip C [.int _, .int _, .int _, .int _, .int _, .int _] _ (ct_X11_isWord2 E _ _ _ _ _ _ _) ky_X11_isWord kv_X11_isWord kk_M_0 km_X11_326 (by decide) rfl (Nat.le_of_ble_eq_true rfl) dX11_readRules_206 ?_
  refine jr_vv C [.int _] _ (ct_X11_must2 E _ _ a n 0 (fun h => absurd h b1)) ky_X11_must kv_X11_must kk_M_0 km_X11_333 (by decide) rfl (Nat.le_of_ble_eq_true rfl) dX11_readRules_209 (fun τ209 h209 => ?_)
  have e209 := (m_N_b h209 b1).symm; subst e209
  refine jr_aload_n C dX11_readRules_212 rfl ?_
  refine jr_aload_n C dX11_readRules_213 rfl ?_
  refine jr_bipush C (v := 102) dX11_readRules_214 (by decide) ?_
  refine jr_bipush C (v := 97) dX11_readRules_216 (by decide) ?_
  refine jr_bipush C (v := 109) dX11_readRules_218 (by decide) ?_
  refine jr_bipush C (v := 101) dX11_readRules_220 (by decide) ?_
  refine jr_iconst C (v := 0) dX11_readRules_222 (by decide) ?_
  refine jr_iconst C (v := 0) dX11_readRules_223 (by decide) ?_
  refine jr_vip C [.int _, .int _, .int _, .int _, .int _, .int _] _ (ct_X11_isWord2 E _ _ _ _ _ _ _) ky_X11_isWord kv_X11_isWord kk_M_0 km_X11_326 (by decide) rfl (Nat.le_of_ble_eq_true rfl) dX11_readRules_224 ?_
  refine jr_if_eq C 234 dX11_readRules_227 (by decide) (fun b227 => ?_) (fun b227 => ?_)
  · replace b227 := jb_f b227
    refine jr_aload_n C dX11_readRules_234 rfl ?_
    refine jr_bipush C (v := 102) dX11_readRules_235 (by decide) ?_
    refine jr_bipush C (v := 105) dX11_readRules_237 (by decide) ?_
    refine jr_bipush C (v := 108) dX11_readRules_239 (by decide) ?_
    refine jr_bipush C (v := 109) dX11_readRules_241 (by decide) ?_
    refine jr_iconst C (v := 0) dX11_readRules_243 (by decide) ?_
    refine jr_iconst C (v := 0) dX11_readRules_244 (by decide) ?_
    refine jr_vip C [.int _, .int _, .int _, .int _, .int _, .int _] _ (ct_X11_isWord2 E _ _ _ _ _ _ _) ky_X11_isWord kv_X11_isWord kk_M_0 km_X11_326 (by decide) rfl (Nat.le_of_ble_eq_true rfl) dX11_readRules_245 ?_
    refine jr_if_eq C 255 dX11_readRules_248 (by decide) (fun b248 => ?_) (fun b248 => ?_)
    · replace b248 := jb_f b248
      refine jr_iconst C (v := 2) dX11_readRules_255 (by decide) ?_
      refine jr_puti C kp_X11_353_0 dX11_readRules_256 ?_
      exact rr_B259 E G σ a n RES C ret _ e hq b1 b2 (mS_g_i z (by decide))
    · replace b248 := jb_t b248
      refine jr_iconst C (v := 1) dX11_readRules_251 (by decide) ?_
      refine jr_goto C 256 dX11_readRules_252 (by decide) ?_
      refine jr_puti C kp_X11_353_0 dX11_readRules_256 ?_
      exact rr_B259 E G σ a n RES C ret _ e hq b1 b2 (mS_g_i z (by decide))
  · replace b227 := jb_t b227
    refine jr_iconst C (v := 0) dX11_readRules_230 (by decide) ?_
    refine jr_goto C 256 dX11_readRules_231 (by decide) ?_
    refine jr_puti C kp_X11_353_0 dX11_readRules_256 ?_
    exact rr_B259 E G σ a n RES C ret _ e hq b1 b2 (mS_g_i z (by decide))
theorem rr_B165 (E : jf_E) (G : jf_G) (σ : jf_S) (a : Nat → Int32) (n : Nat) (RES : q_T) (C : jf_C jh_M E G 3 cX11_readRules yX11_readRules.cls 5) (ret : ∀ (pc : Nat) (L : List (Nat × Value)) (τ : jf_S), decode cX11_readRules pc = .ok (.return_, 1) → m_out a n σ τ RES → jf_X jh_M E G 3 pc L [] τ) (τ : jf_S) (e : Nat) (hq : RES = .inr e) (b1 : ¬ ((τ.1 0 64)).toInt = 0) (b2 : ((τ.1 0 63)).toInt = (e : Int)) (z : mS_g mK_rd mJ_rd σ τ) : jf_X jh_M E G 3 165 [(0, jf_r E 0)] [] τ := by
  refine jr_aload_n C dX11_readRules_165 rfl ?_
  refine jr_aload_n C dX11_readRules_166 rfl ?_
  refine jr_bipush C (v := 114) dX11_readRules_167 (by decide) ?_
  refine jr_bipush C (v := 111) dX11_readRules_169 (by decide) ?_
  refine jr_bipush C (v := 117) dX11_readRules_171 (by decide) ?_
  refine jr_bipush C (v := 110) dX11_readRules_173 (by decide) ?_
  refine jr_bipush C (v := 100) dX11_readRules_175 (by decide) ?_
  refine jr_bipush C (v := 115) dX11_readRules_177 (by decide) ?_
  refine jr_vip C [.int _, .int _, .int _, .int _, .int _, .int _] _ (ct_X11_isWord2 E _ _ _ _ _ _ _) ky_X11_isWord kv_X11_isWord kk_M_0 km_X11_326 (by decide) rfl (Nat.le_of_ble_eq_true rfl) dX11_readRules_179 ?_
  refine jr_vv C [.int _] _ (ct_X11_must2 E _ _ a n 0 (fun h => absurd h b1)) ky_X11_must kv_X11_must kk_M_0 km_X11_333 (by decide) rfl (Nat.le_of_ble_eq_true rfl) dX11_readRules_182 (fun τ182 h182 => ?_)
  have e182 := (m_N_b h182 b1).symm; subst e182
  exact rr_B185 E G σ a n RES C ret _ e hq b1 b2 z
theorem rr_G259 (E : jf_E) (G : jf_G) (σ : jf_S) (a : Nat → Int32) (n : Nat) (RES : q_T) (C : jf_C jh_M E G 3 cX11_readRules yX11_readRules.cls 5) (ret : ∀ (pc : Nat) (L : List (Nat × Value)) (τ : jf_S), decode cX11_readRules pc = .ok (.return_, 1) → m_out a n σ τ RES → jf_X jh_M E G 3 pc L [] τ) (τ : jf_S) (K p : List Int32) (g : Nat) (hq : RES = q_fin a n K p g) (k : m_tk a n τ g) (b1 : ((τ.1 0 64)).toInt = 0) (m1 : m_mk τ K) (m2 : m_np τ p) (t : (τ.1 0 54) = (if tk_wb a n g [102, 97, 109, 101] = true then 0 else if tk_wb a n g [102, 105, 108, 109] = true then 1 else 2)) (z : mS_g mK_rd mJ_rd σ τ) : jf_X jh_M E G 3 259 [(0, jf_r E 0)] [] τ := by
  have J291 : ∀ (v : Int32), (¬ v.toInt = 0 ↔ (tk_wb a n g [102, 97, 109, 101] = true ∨ tk_wb a n g [102, 105, 108, 109] = true ∨ tk_wb a n g [102, 105, 114, 115, 116] = true)) → jf_X jh_M E G 3 291 [(0, jf_r E 0)] [.int v, jf_r E 0] τ := by
    intro v hv
    by_cases c : v.toInt = 0
    · have nn : ¬ (tk_wb a n g [102, 97, 109, 101] = true ∨ tk_wb a n g [102, 105, 108, 109] = true ∨ tk_wb a n g [102, 105, 114, 115, 116] = true) := fun w => (hv.mpr w) c
      have hq' : RES = .inr g := by
        rw [hq]; unfold q_fin
        rw [if_neg (fun w => nn (Or.inl w)), if_neg (fun w => nn (Or.inr (Or.inl w))), if_neg (fun w => nn (Or.inr (Or.inr w)))]
      have bb : ¬ (((jf_i (jf_i τ 0 64 1) 0 63 ((τ.1 0 59))).1 0 64)).toInt = 0 := show ¬ (1 : Int32).toInt = 0 by decide
      refine jr_vv C [.int _] _ (ct_X11_must2 E _ _ a n g (fun _ => k)) ky_X11_must kv_X11_must kk_M_0 km_X11_333 (by decide) rfl (Nat.le_of_ble_eq_true rfl) dX11_readRules_291 (fun τ291 h291 => ?_)
      have e291 := m_N_no h291 b1 c; subst e291
      refine jr_aload_n C dX11_readRules_294 rfl ?_
      refine jr_aload_n C dX11_readRules_295 rfl ?_
      refine jr_getv C kf_X11_295_0 dX11_readRules_296 (v := τ.1 0 61) rfl ?_
      refine jr_nif_ne C 306 dX11_readRules_299 (by decide) (fun b299 => ?_) (fun b299 => ?_)
      · refine jr_iconst C (v := 0) dX11_readRules_306 (by decide) ?_
        refine jr_vv C [.int _] _ (ct_X11_must2 E _ _ a n 0 (fun h => absurd h bb)) ky_X11_must kv_X11_must kk_M_0 km_X11_333 (by decide) rfl (Nat.le_of_ble_eq_true rfl) dX11_readRules_307 (fun τ307 h307 => ?_)
        have e307 := (m_N_b h307 bb).symm; subst e307
        exact ret _ _ _ dX11_readRules_310 (m_out_b hq' bb k.2.2.1 (mS_g_i (mS_g_i z (by decide)) (by decide)))
      · refine jr_iconst C (v := 1) dX11_readRules_302 (by decide) ?_
        refine jr_goto C 307 dX11_readRules_303 (by decide) ?_
        refine jr_vv C [.int _] _ (ct_X11_must2 E _ _ a n 0 (fun h => absurd h bb)) ky_X11_must kv_X11_must kk_M_0 km_X11_333 (by decide) rfl (Nat.le_of_ble_eq_true rfl) dX11_readRules_307 (fun τ307 h307 => ?_)
        have e307 := (m_N_b h307 bb).symm; subst e307
        exact ret _ _ _ dX11_readRules_310 (m_out_b hq' bb k.2.2.1 (mS_g_i (mS_g_i z (by decide)) (by decide)))
    · have oo := hv.mp c
      have hq' : RES = (if tk_k a n (tk_x a n g) = 0 then .inl (K, p, (τ.1 0 54)) else .inr (tk_x a n g)) := by
        rw [hq, t]; unfold q_fin
        by_cases w1 : tk_wb a n g [102, 97, 109, 101] = true
        · rw [if_pos w1, if_pos w1]
        · rw [if_neg w1, if_neg w1]
          by_cases w2 : tk_wb a n g [102, 105, 108, 109] = true
          · rw [if_pos w2, if_pos w2]
          · rw [if_neg w2, if_neg w2]
            have w3 : tk_wb a n g [102, 105, 114, 115, 116] = true := (oo.resolve_left w1).resolve_left w2
            rw [if_pos w3]
      have J307 : ∀ (υ : jf_S) (v : Int32), (¬ v.toInt = 0 ↔ tk_k a n (tk_x a n g) = 0) → mS_n τ υ → m_tk a n υ (tk_x a n g) → jf_X jh_M E G 3 307 [(0, jf_r E 0)] [.int v, jf_r E 0] υ := by
        intro υ v hv y1 y2
        have bu : ((υ.1 0 64)).toInt = 0 := by rw [y1.2 64 (by decide) (by decide) (by decide)]; exact b1
        have zu : mS_g mK_rd mJ_rd σ υ := mS_g_t z (mS_g_n y1 (by decide))
        refine jr_vv C [.int _] _ (ct_X11_must2 E _ _ a n (tk_x a n g) (fun _ => y2)) ky_X11_must kv_X11_must kk_M_0 km_X11_333 (by decide) rfl (Nat.le_of_ble_eq_true rfl) dX11_readRules_307 (fun τ307 h307 => ?_)
        by_cases c : v.toInt = 0
        · have e307 := m_N_no h307 bu c
          subst e307
          refine ret _ _ _ dX11_readRules_310 (m_out_b (e := tk_x a n g) ?_ (show ¬ (1 : Int32).toInt = 0 by decide) y2.2.2.1 (mS_g_i (mS_g_i zu (by decide)) (by decide)))
          rw [hq', if_neg (fun w => (hv.mpr w) c)]
        · obtain ⟨u1, u2⟩ := m_N_ok h307 bu c
          rw [if_pos (hv.mp c)] at hq'
          refine ret _ _ _ dX11_readRules_310 ⟨fun t' ht => ?_, fun e' he => (by rw [hq'] at he; cases he), mS_g_t zu (mS_g_n u1 (by decide))⟩
          rw [hq'] at ht; cases ht
          refine ⟨?_, m_mk_n u1 (m_mk_n y1 m1), m_np_n u1 (m_np_n y1 m2), ?_⟩
          · rw [u1.2 64 (by decide) (by decide) (by decide)]; exact bu
          · exact ⟨(u1.2 54 (by decide) (by decide) (by decide)).trans (y1.2 54 (by decide) (by decide) (by decide)), u2.1.2.2.2⟩
      refine jr_vv C [.int _] _ (ct_X11_must2 E _ _ a n g (fun _ => k)) ky_X11_must kv_X11_must kk_M_0 km_X11_333 (by decide) rfl (Nat.le_of_ble_eq_true rfl) dX11_readRules_291 (fun τ291 h291 => ?_)
      obtain ⟨y1, y2⟩ := m_N_ok h291 b1 c
      refine jr_aload_n C dX11_readRules_294 rfl ?_
      refine jr_aload_n C dX11_readRules_295 rfl ?_
      refine jr_geti C kf_X11_295_0 dX11_readRules_296 ?_
      refine jr_nif_ne C 306 dX11_readRules_299 (by decide) (fun b299 => ?_) (fun b299 => ?_)
      · rw [y2.2.2.2.2.1] at b299
        refine jr_iconst C (v := 0) dX11_readRules_306 (by decide) ?_
        first | exact J307 _ _ ⟨fun _ => b299, fun _ => (by decide)⟩ y1 y2 | exact J307 _ _ ⟨fun h => absurd rfl h, fun h => absurd h b299⟩ y1 y2
      · rw [y2.2.2.2.2.1] at b299
        refine jr_iconst C (v := 1) dX11_readRules_302 (by decide) ?_
        refine jr_goto C 307 dX11_readRules_303 (by decide) ?_
        first | exact J307 _ _ ⟨fun _ => b299, fun _ => (by decide)⟩ y1 y2 | exact J307 _ _ ⟨fun h => absurd rfl h, fun h => absurd h b299⟩ y1 y2
  have ti : ((τ.1 0 54)).toInt < 2 ↔ (tk_wb a n g [102, 97, 109, 101] = true ∨ tk_wb a n g [102, 105, 108, 109] = true) := by
    rw [t]
    by_cases w1 : tk_wb a n g [102, 97, 109, 101] = true
    · rw [if_pos w1]; exact ⟨fun _ => Or.inl w1, fun _ => by decide⟩
    · rw [if_neg w1]
      by_cases w2 : tk_wb a n g [102, 105, 108, 109] = true
      · rw [if_pos w2]; exact ⟨fun _ => Or.inr w2, fun _ => by decide⟩
      · rw [if_neg w2]; exact ⟨fun q => absurd q (by decide), fun q => q.elim (fun q => absurd q w1) (fun q => absurd q w2)⟩
  refine jr_aload_n C dX11_readRules_259 rfl ?_
  refine jr_aload_n C dX11_readRules_260 rfl ?_
  refine jr_getv C kf_X11_353_0 dX11_readRules_261 (v := τ.1 0 54) rfl ?_
  refine jr_iconst C (v := 2) dX11_readRules_264 (by decide) ?_
  refine jr_ncmp_lt C (b := 2) 286 dX11_readRules_265 (by decide) rfl rfl (fun b265 => ?_) (fun b265 => ?_)
  · refine jr_iconst C (v := 1) dX11_readRules_286 (by decide) ?_
    refine jr_goto C 291 dX11_readRules_287 (by decide) ?_
    first | exact J291 _ ⟨fun _ => (ti.mp b265).elim Or.inl (fun w => Or.inr (Or.inl w)), fun _ => (by decide)⟩ | exact J291 _ ⟨fun _ => Or.inr (Or.inr b283), fun _ => (by decide)⟩ | exact J291 _ ⟨fun h => absurd rfl h, fun w => (by rcases w with w | w | w; exact absurd (ti.mpr (Or.inl w)) b265; exact absurd (ti.mpr (Or.inr w)) b265; exact absurd w b283)⟩
  · refine jr_aload_n C dX11_readRules_268 rfl ?_
    refine jr_bipush C (v := 102) dX11_readRules_269 (by decide) ?_
    refine jr_bipush C (v := 105) dX11_readRules_271 (by decide) ?_
    refine jr_bipush C (v := 114) dX11_readRules_273 (by decide) ?_
    refine jr_bipush C (v := 115) dX11_readRules_275 (by decide) ?_
    refine jr_bipush C (v := 116) dX11_readRules_277 (by decide) ?_
    refine jr_iconst C (v := 0) dX11_readRules_279 (by decide) ?_
    refine jr_vip C [.int _, .int _, .int _, .int _, .int _, .int _] _ (ct_X11_isWord2 E _ _ _ _ _ _ _) ky_X11_isWord kv_X11_isWord kk_M_0 km_X11_326 (by decide) rfl (Nat.le_of_ble_eq_true rfl) dX11_readRules_280 ?_
    refine jr_if_eq C 290 dX11_readRules_283 (by decide) (fun b283 => ?_) (fun b283 => ?_)
    · replace b283 := jb_f b283
      rw [mw_first k] at b283
      refine jr_iconst C (v := 0) dX11_readRules_290 (by decide) ?_
      first | exact J291 _ ⟨fun _ => (ti.mp b265).elim Or.inl (fun w => Or.inr (Or.inl w)), fun _ => (by decide)⟩ | exact J291 _ ⟨fun _ => Or.inr (Or.inr b283), fun _ => (by decide)⟩ | exact J291 _ ⟨fun h => absurd rfl h, fun w => (by rcases w with w | w | w; exact absurd (ti.mpr (Or.inl w)) b265; exact absurd (ti.mpr (Or.inr w)) b265; exact absurd w b283)⟩
    · replace b283 := jb_t b283
      rw [mw_first k] at b283
      refine jr_iconst C (v := 1) dX11_readRules_286 (by decide) ?_
      refine jr_goto C 291 dX11_readRules_287 (by decide) ?_
      first | exact J291 _ ⟨fun _ => (ti.mp b265).elim Or.inl (fun w => Or.inr (Or.inl w)), fun _ => (by decide)⟩ | exact J291 _ ⟨fun _ => Or.inr (Or.inr b283), fun _ => (by decide)⟩ | exact J291 _ ⟨fun h => absurd rfl h, fun w => (by rcases w with w | w | w; exact absurd (ti.mpr (Or.inl w)) b265; exact absurd (ti.mpr (Or.inr w)) b265; exact absurd w b283)⟩
theorem rr_G185 (E : jf_E) (G : jf_G) (σ : jf_S) (a : Nat → Int32) (n : Nat) (RES : q_T) (C : jf_C jh_M E G 3 cX11_readRules yX11_readRules.cls 5) (ret : ∀ (pc : Nat) (L : List (Nat × Value)) (τ : jf_S), decode cX11_readRules pc = .ok (.return_, 1) → m_out a n σ τ RES → jf_X jh_M E G 3 pc L [] τ) (τ : jf_S) (K p : List Int32) (f : Nat) (hq : RES = q_end a n K p f) (k : m_tk a n τ f) (b1 : ((τ.1 0 64)).toInt = 0) (m1 : m_mk τ K) (m2 : m_np τ p) (z : mS_g mK_rd mJ_rd σ τ) : jf_X jh_M E G 3 185 [(0, jf_r E 0)] [] τ := by
  unfold q_end at hq
  have fin : ∀ (υ : jf_S) (e : Nat) (w : jf_S), RES = .inr e → υ = jf_i (jf_i w 0 64 1) 0 63 ((w.1 0 59)) → m_tk a n w e → mS_g mK_rd mJ_rd σ w → ¬ ((υ.1 0 64)).toInt = 0 ∧ ((υ.1 0 63)).toInt = (e : Int) ∧ mS_g mK_rd mJ_rd σ υ := by
    intro υ e w h1 h2 h3 h4
    subst h2
    exact ⟨show ¬ (1 : Int32).toInt = 0 by decide, h3.2.2.1, mS_g_i (mS_g_i h4 (by decide)) (by decide)⟩
  have J195 : ∀ (υ : jf_S), ((∃ e, RES = .inr e ∧ ¬ ((υ.1 0 64)).toInt = 0 ∧ ((υ.1 0 63)).toInt = (e : Int)) ∨ (((υ.1 0 64)).toInt = 0 ∧ m_tk a n υ (tk_x a n f) ∧ m_mk υ K ∧ m_np υ p ∧ RES = (if tk_wb a n (tk_x a n f) [116, 105, 101] = true then q_fin a n K p (tk_x a n (tk_x a n f)) else .inr (tk_x a n f)))) → mS_g mK_rd mJ_rd σ υ → jf_X jh_M E G 3 195 [(0, jf_r E 0)] [] υ := by
    intro υ hu zu
    have J212 : ∀ (ρ : jf_S), ((∃ e, RES = .inr e ∧ ¬ ((ρ.1 0 64)).toInt = 0 ∧ ((ρ.1 0 63)).toInt = (e : Int)) ∨ (((ρ.1 0 64)).toInt = 0 ∧ m_tk a n ρ (tk_x a n (tk_x a n f)) ∧ m_mk ρ K ∧ m_np ρ p ∧ RES = q_fin a n K p (tk_x a n (tk_x a n f)))) → mS_g mK_rd mJ_rd σ ρ → jf_X jh_M E G 3 212 [(0, jf_r E 0)] [] ρ := by
      intro ρ hr zr
      have J259 : ∀ (v : Int32), (((ρ.1 0 64)).toInt = 0 → v = (if tk_wb a n (tk_x a n (tk_x a n f)) [102, 97, 109, 101] = true then 0 else if tk_wb a n (tk_x a n (tk_x a n f)) [102, 105, 108, 109] = true then 1 else 2)) → jf_X jh_M E G 3 259 [(0, jf_r E 0)] [] (jf_i ρ 0 54 v) := by
        intro v hv
        rcases hr with ⟨e, r1, r2, r3⟩ | ⟨r1, r2, r3, r4, r5⟩
        · exact rr_B259 E G σ a n RES C ret _ e r1 r2 r3 (mS_g_i zr (by decide))
        · exact rr_G259 E G σ a n RES C ret _ K p _ r5 r2 r1 ⟨r3.1, r3.2⟩ ⟨r4.1, r4.2⟩ (hv r1) (mS_g_i zr (by decide))
      have kk : ((ρ.1 0 64)).toInt = 0 → m_tk a n ρ (tk_x a n (tk_x a n f)) := by
        intro hb
        rcases hr with ⟨e, r1, r2, r3⟩ | ⟨r1, r2, r3, r4, r5⟩
        · exact absurd hb r2
        · exact r2
      refine jr_aload_n C dX11_readRules_212 rfl ?_
      refine jr_aload_n C dX11_readRules_213 rfl ?_
      refine jr_bipush C (v := 102) dX11_readRules_214 (by decide) ?_
      refine jr_bipush C (v := 97) dX11_readRules_216 (by decide) ?_
      refine jr_bipush C (v := 109) dX11_readRules_218 (by decide) ?_
      refine jr_bipush C (v := 101) dX11_readRules_220 (by decide) ?_
      refine jr_iconst C (v := 0) dX11_readRules_222 (by decide) ?_
      refine jr_iconst C (v := 0) dX11_readRules_223 (by decide) ?_
      refine jr_vip C [.int _, .int _, .int _, .int _, .int _, .int _] _ (ct_X11_isWord2 E _ _ _ _ _ _ _) ky_X11_isWord kv_X11_isWord kk_M_0 km_X11_326 (by decide) rfl (Nat.le_of_ble_eq_true rfl) dX11_readRules_224 ?_
      refine jr_if_eq C 234 dX11_readRules_227 (by decide) (fun b227 => ?_) (fun b227 => ?_)
      · replace b227 := jb_f b227
        refine jr_aload_n C dX11_readRules_234 rfl ?_
        refine jr_bipush C (v := 102) dX11_readRules_235 (by decide) ?_
        refine jr_bipush C (v := 105) dX11_readRules_237 (by decide) ?_
        refine jr_bipush C (v := 108) dX11_readRules_239 (by decide) ?_
        refine jr_bipush C (v := 109) dX11_readRules_241 (by decide) ?_
        refine jr_iconst C (v := 0) dX11_readRules_243 (by decide) ?_
        refine jr_iconst C (v := 0) dX11_readRules_244 (by decide) ?_
        refine jr_vip C [.int _, .int _, .int _, .int _, .int _, .int _] _ (ct_X11_isWord2 E _ _ _ _ _ _ _) ky_X11_isWord kv_X11_isWord kk_M_0 km_X11_326 (by decide) rfl (Nat.le_of_ble_eq_true rfl) dX11_readRules_245 ?_
        refine jr_if_eq C 255 dX11_readRules_248 (by decide) (fun b248 => ?_) (fun b248 => ?_)
        · replace b248 := jb_f b248
          refine jr_iconst C (v := 2) dX11_readRules_255 (by decide) ?_
          refine jr_puti C kp_X11_353_0 dX11_readRules_256 ?_
          first | exact J259 _ (fun hb => by rw [if_pos ((mw_fame (kk hb)).mp b227)]) | exact J259 _ (fun hb => by rw [if_neg (fun w => b227 ((mw_fame (kk hb)).mpr w)), if_pos ((mw_film (kk hb)).mp b248)]) | exact J259 _ (fun hb => by rw [if_neg (fun w => b227 ((mw_fame (kk hb)).mpr w)), if_neg (fun w => b248 ((mw_film (kk hb)).mpr w))])
        · replace b248 := jb_t b248
          refine jr_iconst C (v := 1) dX11_readRules_251 (by decide) ?_
          refine jr_goto C 256 dX11_readRules_252 (by decide) ?_
          refine jr_puti C kp_X11_353_0 dX11_readRules_256 ?_
          first | exact J259 _ (fun hb => by rw [if_pos ((mw_fame (kk hb)).mp b227)]) | exact J259 _ (fun hb => by rw [if_neg (fun w => b227 ((mw_fame (kk hb)).mpr w)), if_pos ((mw_film (kk hb)).mp b248)]) | exact J259 _ (fun hb => by rw [if_neg (fun w => b227 ((mw_fame (kk hb)).mpr w)), if_neg (fun w => b248 ((mw_film (kk hb)).mpr w))])
      · replace b227 := jb_t b227
        refine jr_iconst C (v := 0) dX11_readRules_230 (by decide) ?_
        refine jr_goto C 256 dX11_readRules_231 (by decide) ?_
        refine jr_puti C kp_X11_353_0 dX11_readRules_256 ?_
        first | exact J259 _ (fun hb => by rw [if_pos ((mw_fame (kk hb)).mp b227)]) | exact J259 _ (fun hb => by rw [if_neg (fun w => b227 ((mw_fame (kk hb)).mpr w)), if_pos ((mw_film (kk hb)).mp b248)]) | exact J259 _ (fun hb => by rw [if_neg (fun w => b227 ((mw_fame (kk hb)).mpr w)), if_neg (fun w => b248 ((mw_film (kk hb)).mpr w))])
    have kk : ((υ.1 0 64)).toInt = 0 → m_tk a n υ (tk_x a n f) := by
      intro hb
      rcases hu with ⟨e, r1, r2, r3⟩ | ⟨r1, r2, r3, r4, r5⟩
      · exact absurd hb r2
      · exact r2
    have D : ∀ ρ : jf_S, m_N a n (tk_x a n f) υ ρ (jb (((υ.1 0 61)).toInt = 1 ∧ ((υ.2 0 62)).toInt = (m_word 116 105 101 0 0 0).toInt)) → jf_X jh_M E G 3 212 [(0, jf_r E 0)] [] ρ := by
      intro ρ N
      rcases hu with ⟨e, r1, r2, r3⟩ | ⟨r1, r2, r3, r4, r5⟩
      · have := m_N_b N r2
        subst this
        exact J212 _ (Or.inl ⟨e, r1, r2, r3⟩) zu
      · by_cases w : tk_wb a n (tk_x a n f) [116, 105, 101] = true
        · obtain ⟨y1, y2⟩ := m_N_ok N r1 (jb_nz ((mw_tie r2).mpr w))
          rw [if_pos w] at r5
          exact J212 ρ (Or.inr ⟨by rw [y1.2 64 (by decide) (by decide) (by decide)]; exact r1, y2, m_mk_n y1 r3, m_np_n y1 r4, r5⟩) (mS_g_t zu (mS_g_n y1 (by decide)))
        · have e := m_N_no N r1 (jb_z (fun q => w ((mw_tie r2).mp q)))
          rw [if_neg w] at r5
          obtain ⟨c1, c2, c3⟩ := fin ρ (tk_x a n f) υ r5 e r2 zu
          exact J212 ρ (Or.inl ⟨_, r5, c1, c2⟩) c3
    refine jr_aload_n C dX11_readRules_195 rfl ?_
    refine jr_aload_n C dX11_readRules_196 rfl ?_
    refine jr_bipush C (v := 116) dX11_readRules_197 (by decide) ?_
    refine jr_bipush C (v := 105) dX11_readRules_199 (by decide) ?_
    refine jr_bipush C (v := 101) dX11_readRules_201 (by decide) ?_
    refine jr_iconst C (v := 0) dX11_readRules_203 (by decide) ?_
    refine jr_iconst C (v := 0) dX11_readRules_204 (by decide) ?_
    refine jr_iconst C (v := 0) dX11_readRules_205 (by decide) ?_
    refine jr_vip C [.int _, .int _, .int _, .int _, .int _, .int _] _ (ct_X11_isWord2 E _ _ _ _ _ _ _) ky_X11_isWord kv_X11_isWord kk_M_0 km_X11_326 (by decide) rfl (Nat.le_of_ble_eq_true rfl) dX11_readRules_206 ?_
    refine jr_vv C [.int _] _ (ct_X11_must2 E _ _ a n (tk_x a n f) kk) ky_X11_must kv_X11_must kk_M_0 km_X11_333 (by decide) rfl (Nat.le_of_ble_eq_true rfl) dX11_readRules_209 (fun τ209 h209 => ?_)
    exact D _ h209
  have D : ∀ υ : jf_S, m_N a n f τ υ (jb (((τ.1 0 61)).toInt = 3 ∧ ((τ.2 0 62)).toInt = (59 : Int32).toInt)) → jf_X jh_M E G 3 195 [(0, jf_r E 0)] [] υ := by
    intro υ N
    by_cases w : tk_sb a n f 59 = true
    · obtain ⟨y1, y2⟩ := m_N_ok N b1 (jb_nz ((ms_59 k).mpr w))
      rw [if_pos w] at hq
      exact J195 υ (Or.inr ⟨by rw [y1.2 64 (by decide) (by decide) (by decide)]; exact b1, y2, m_mk_n y1 m1, m_np_n y1 m2, hq⟩) (mS_g_t z (mS_g_n y1 (by decide)))
    · have e := m_N_no N b1 (jb_z (fun q => w ((ms_59 k).mp q)))
      rw [if_neg w] at hq
      obtain ⟨c1, c2, c3⟩ := fin υ f τ hq e k z
      exact J195 υ (Or.inl ⟨_, hq, c1, c2⟩) c3
  refine jr_aload_n C dX11_readRules_185 rfl ?_
  refine jr_aload_n C dX11_readRules_186 rfl ?_
  refine jr_bipush C (v := 59) dX11_readRules_187 (by decide) ?_
  refine jr_vip C [.int _] _ (ct_X11_isSign2 E _ _) ky_X11_isSign kv_X11_isSign kk_M_0 km_X11_330 (by decide) rfl (Nat.le_of_ble_eq_true rfl) dX11_readRules_189 ?_
  refine jr_vv C [.int _] _ (ct_X11_must2 E _ _ a n f (fun _ => k)) ky_X11_must kv_X11_must kk_M_0 km_X11_333 (by decide) rfl (Nat.le_of_ble_eq_true rfl) dX11_readRules_192 (fun τ192 h192 => ?_)
  exact D _ h192
theorem rr_B72 (E : jf_E) (G : jf_G) (σ : jf_S) (a : Nat → Int32) (n : Nat) (RES : q_T) (C : jf_C jh_M E G 3 cX11_readRules yX11_readRules.cls 5) (ret : ∀ (pc : Nat) (L : List (Nat × Value)) (τ : jf_S), decode cX11_readRules pc = .ok (.return_, 1) → m_out a n σ τ RES → jf_X jh_M E G 3 pc L [] τ) (τ : jf_S) (mo : Int32) (e : Nat) (hq : RES = .inr e) (b1 : ¬ ((τ.1 0 64)).toInt = 0) (b2 : ((τ.1 0 63)).toInt = (e : Int)) (z : mS_g mK_rd mJ_rd σ τ) : jf_X jh_M E G 3 72 [(0, jf_r E 0), (1, .int mo)] [] τ := by
  have J162 : jf_X jh_M E G 3 162 [(0, jf_r E 0), (1, .int mo)] [] τ := by
    refine jr_goto C 185 dX11_readRules_162 (by decide) ?_
    exact jr_sub [(0, jf_r E 0)] rfl (rr_B185 E G σ a n RES C ret τ e hq b1 b2 z)
  refine jr_iload_n C dX11_readRules_72 rfl ?_
  refine jr_nif_eq C 162 dX11_readRules_73 (by decide) (fun _ => J162) (fun _ => ?_)
  refine jr_aload_n C dX11_readRules_76 rfl ?_
  refine jr_geti C kf_X11_310_0 dX11_readRules_77 ?_
  exact jr_nif_ne C 162 dX11_readRules_80 (by decide) (fun _ => J162) (fun b => absurd b b1)
theorem rr_E72 (E : jf_E) (G : jf_G) (σ : jf_S) (a : Nat → Int32) (n : Nat) (RES : q_T) (C : jf_C jh_M E G 3 cX11_readRules yX11_readRules.cls 5) (ret : ∀ (pc : Nat) (L : List (Nat × Value)) (τ : jf_S), decode cX11_readRules pc = .ok (.return_, 1) → m_out a n σ τ RES → jf_X jh_M E G 3 pc L [] τ) (K : List Int32) (τ : jf_S) (o : List Int32) (f : Nat) (mo : Int32) (k : m_tk a n τ f) (b1 : ((τ.1 0 64)).toInt = 0) (m1 : m_mk τ K) (m2 : m_np τ o) (z : mS_g mK_rd mJ_rd σ τ) (h0 : mo.toInt = 0) (hq : RES = q_end a n K o f) : jf_X jh_M E G 3 72 [(0, jf_r E 0), (1, .int mo)] [] τ := by
  refine jr_iload_n C dX11_readRules_72 rfl ?_
  refine jr_nif_eq C 162 dX11_readRules_73 (by decide) (fun _ => ?_) (fun b => absurd h0 b)
  refine jr_goto C 185 dX11_readRules_162 (by decide) ?_
  exact jr_sub [(0, jf_r E 0)] rfl (rr_G185 E G σ a n RES C ret τ K o f hq k b1 m1 m2 z)
theorem m_np_p {τ : jf_S} {o : List Int32} {x : Int32} (h : m_np τ o) (hl : o.length < 1000) : m_np (jf_i (jf_i τ 35 ((τ.1 0 53)).toNatClampNeg x) 0 53 ((τ.1 0 53) + 1)) (o ++ [x]) := by
  have e := ji_inc1 (k := (τ.1 0 53)) (by have := h.1; omega)
  refine ⟨?_, ?_⟩
  · show ((τ.1 0 53) + 1).toInt = ((o ++ [x]).length : Int)
    rw [List.length_append]
    have := h.1
    show _ = ((o.length + 1 : Nat) : Int)
    omega
  · show m_ls ((jf_i (jf_i τ 35 ((τ.1 0 53)).toNatClampNeg x) 0 53 ((τ.1 0 53) + 1)).1 35) _
    rw [jf_i_o 35 (by decide), jf_i_at, ji_cl h.1]
    exact m_ls_push h.2
theorem rr_I72 (E : jf_E) (G : jf_G) (σ : jf_S) (a : Nat → Int32) (n : Nat) (RES : q_T) (C : jf_C jh_M E G 3 cX11_readRules yX11_readRules.cls 5) (ret : ∀ (pc : Nat) (L : List (Nat × Value)) (τ : jf_S), decode cX11_readRules pc = .ok (.return_, 1) → m_out a n σ τ RES → jf_X jh_M E G 3 pc L [] τ) (K : List Int32) (τ : jf_S) (o : List Int32) (f : Nat) (mo : Int32) (k : m_tk a n τ f) (b1 : ((τ.1 0 64)).toInt = 0) (m1 : m_mk τ K) (m2 : m_np τ o) (z : mS_g mK_rd mJ_rd σ τ) (ho : o.length < 5) (h0 : ¬ mo.toInt = 0) (bad : ¬ (tk_k a n f = 2 ∧ tk_v a n f ≤ 1000) → RES = .inr f) (go : (tk_k a n f = 2 ∧ tk_v a n f ≤ 1000) → ∀ (υ : jf_S) (mo' : Int32), m_tk a n υ (tk_x a n f) → ((υ.1 0 64)).toInt = 0 → m_mk υ K → m_np υ (o ++ [Int32.ofInt (tk_v a n f)]) → mS_g mK_rd mJ_rd σ υ → (¬ mo'.toInt = 0 → tk_k a n (tk_x a n f) = 2 ∧ o.length + 1 < 5) → (mo'.toInt = 0 → ¬ (tk_k a n (tk_x a n f) = 2 ∧ o.length + 1 < 5)) → jf_X jh_M E G 3 72 [(0, jf_r E 0), (1, .int mo')] [] υ) : jf_X jh_M E G 3 72 [(0, jf_r E 0), (1, .int mo)] [] τ := by
  have n1 := m2.1
  have J114 : ∀ (v : Int32), (¬ v.toInt = 0 ↔ (tk_k a n f = 2 ∧ tk_v a n f ≤ 1000)) → jf_X jh_M E G 3 114 [(0, jf_r E 0), (1, .int mo), (2, .int ((τ.2 0 62)).toInt32)] [.int v, jf_r E 0] τ := by
    intro v hv
    by_cases c : v.toInt = 0
    · have hq := bad (fun w => (hv.mpr w) c)
      have bb : ∀ (w : Int32) (mo' : Int32), jf_X jh_M E G 3 72 [(0, jf_r E 0), (1, .int mo')] [] (jf_i (jf_i (jf_i (jf_i τ 0 64 1) 0 63 ((τ.1 0 59))) 35 ((τ.1 0 53)).toNatClampNeg w) 0 53 ((τ.1 0 53) + 1)) := fun w mo' => rr_B72 E G σ a n RES C ret _ mo' f hq (show ¬ (1 : Int32).toInt = 0 by decide) k.2.2.1 (mS_g_i (mS_g_a (mS_g_i (mS_g_i z (by decide)) (by decide)) (by decide) (by decide)) (by decide))
      refine jr_vv C [.int _] _ (ct_X11_must2 E _ _ a n f (fun _ => k)) ky_X11_must kv_X11_must kk_M_0 km_X11_333 (by decide) rfl (Nat.le_of_ble_eq_true rfl) dX11_readRules_114 (fun τ114 h114 => ?_)
      have e114 := m_N_no h114 b1 c; subst e114
      refine jr_aload_n C dX11_readRules_117 rfl ?_
      refine jr_getr C kf_X11_117_0 dX11_readRules_118 ?_
      refine jr_aload_n C dX11_readRules_121 rfl ?_
      refine jr_getv C kf_X11_350_0 dX11_readRules_122 (v := τ.1 0 53) rfl ?_
      refine jr_iload_n C dX11_readRules_125 rfl ?_
      refine jr_iast C ka_M_35 dX11_readRules_126 (ji_in (i := (τ.1 0 53)) (by omega) (by omega)) ?_
      refine jr_aload_n C dX11_readRules_127 rfl ?_
      refine jr_dup C dX11_readRules_128 rfl ?_
      refine jr_getv C kf_X11_350_0 dX11_readRules_129 (v := τ.1 0 53) rfl ?_
      refine jr_iconst C (v := 1) dX11_readRules_132 (by decide) ?_
      refine jr_iadd C dX11_readRules_133 ?_
      refine jr_puti C kp_X11_350_0 dX11_readRules_134 ?_
      refine jr_aload_n C dX11_readRules_137 rfl ?_
      refine jr_getv C kf_X11_295_0 dX11_readRules_138 (v := τ.1 0 61) rfl ?_
      refine jr_iconst C (v := 2) dX11_readRules_141 (by decide) ?_
      refine jr_ncmp_ne C (b := 2) 157 dX11_readRules_142 (by decide) rfl rfl (fun b142 => ?_) (fun b142 => ?_)
      · refine jr_iconst C (v := 0) dX11_readRules_157 (by decide) ?_
        refine jr_istore_n C dX11_readRules_158 (by decide) ?_
        refine jr_goto C 72 dX11_readRules_159 (by decide) ?_
        exact jr_sub [(0, jf_r E 0), (1, .int _)] rfl (bb _ _)
      · refine jr_aload_n C dX11_readRules_145 rfl ?_
        refine jr_geti C kf_X11_350_0 dX11_readRules_146 ?_
        refine jr_iconst C (v := 5) dX11_readRules_149 (by decide) ?_
        refine jr_ncmp_ge C (b := 5) 157 dX11_readRules_150 (by decide) rfl rfl (fun b150 => ?_) (fun b150 => ?_)
        · refine jr_iconst C (v := 0) dX11_readRules_157 (by decide) ?_
          refine jr_istore_n C dX11_readRules_158 (by decide) ?_
          refine jr_goto C 72 dX11_readRules_159 (by decide) ?_
          exact jr_sub [(0, jf_r E 0), (1, .int _)] rfl (bb _ _)
        · refine jr_iconst C (v := 1) dX11_readRules_153 (by decide) ?_
          refine jr_goto C 158 dX11_readRules_154 (by decide) ?_
          refine jr_istore_n C dX11_readRules_158 (by decide) ?_
          refine jr_goto C 72 dX11_readRules_159 (by decide) ?_
          exact jr_sub [(0, jf_r E 0), (1, .int _)] rfl (bb _ _)
    · have hc := hv.mp c
      have w32 : ((τ.2 0 62)).toInt32 = Int32.ofInt (tk_v a n f) := m_i32 k.2.2.2.2.2 (tk_v2 hc.1) hc.2
      rw [w32]
      have D : ∀ (υ : jf_S) (mo' : Int32), mS_n τ υ → m_tk a n υ (tk_x a n f) → (¬ mo'.toInt = 0 → tk_k a n (tk_x a n f) = 2 ∧ o.length + 1 < 5) → (mo'.toInt = 0 → ¬ (tk_k a n (tk_x a n f) = 2 ∧ o.length + 1 < 5)) → jf_X jh_M E G 3 72 [(0, jf_r E 0), (1, .int mo')] [] (jf_i (jf_i υ 35 ((υ.1 0 53)).toNatClampNeg (Int32.ofInt (tk_v a n f))) 0 53 ((υ.1 0 53) + 1)) := by
        intro υ mo' y1 y2 p1 p2
        have mu := m_mk_n y1 m1
        exact go hc _ mo' y2 (show ((υ.1 0 64)).toInt = 0 by rw [y1.2 64 (by decide) (by decide) (by decide)]; exact b1) ⟨mu.1, mu.2⟩ (m_np_p (m_np_n y1 m2) (by omega)) (mS_g_i (mS_g_a (mS_g_t z (mS_g_n y1 (by decide))) (by decide) (by decide)) (by decide)) p1 p2
      refine jr_vv C [.int _] _ (ct_X11_must2 E _ _ a n f (fun _ => k)) ky_X11_must kv_X11_must kk_M_0 km_X11_333 (by decide) rfl (Nat.le_of_ble_eq_true rfl) dX11_readRules_114 (fun τ114 h114 => ?_)
      obtain ⟨y1, y2⟩ := m_N_ok h114 b1 c; have n2 : (τ114.1 0 53) = (τ.1 0 53) := y1.2 53 (by decide) (by decide) (by decide); have n3 := ji_inc1 (k := (τ114.1 0 53)) (by rw [n2]; omega)
      refine jr_aload_n C dX11_readRules_117 rfl ?_
      refine jr_getr C kf_X11_117_0 dX11_readRules_118 ?_
      refine jr_aload_n C dX11_readRules_121 rfl ?_
      refine jr_geti C kf_X11_350_0 dX11_readRules_122 ?_
      refine jr_iload_n C dX11_readRules_125 rfl ?_
      refine jr_iast C ka_M_35 dX11_readRules_126 (ji_in (i := (τ114.1 0 53)) (by rw [n2]; omega) (by rw [n2]; omega)) ?_
      refine jr_aload_n C dX11_readRules_127 rfl ?_
      refine jr_dup C dX11_readRules_128 rfl ?_
      refine jr_geti C kf_X11_350_0 dX11_readRules_129 ?_
      refine jr_iconst C (v := 1) dX11_readRules_132 (by decide) ?_
      refine jr_iadd C dX11_readRules_133 ?_
      refine jr_puti C kp_X11_350_0 dX11_readRules_134 ?_
      refine jr_aload_n C dX11_readRules_137 rfl ?_
      refine jr_geti C kf_X11_295_0 dX11_readRules_138 ?_
      refine jr_iconst C (v := 2) dX11_readRules_141 (by decide) ?_
      refine jr_ncmp_ne C (b := 2) 157 dX11_readRules_142 (by decide) rfl rfl (fun b142 => ?_) (fun b142 => ?_)
      · refine jr_iconst C (v := 0) dX11_readRules_157 (by decide) ?_
        refine jr_istore_n C dX11_readRules_158 (by decide) ?_
        refine jr_goto C 72 dX11_readRules_159 (by decide) ?_
        first | (have h9 : ¬ ((τ114.1 0 61)).toInt = 2 := b142; exact jr_sub [(0, jf_r E 0), (1, .int 0)] rfl (D τ114 0 y1 y2 (fun h => absurd rfl h) (fun _ w => h9 (by rw [y2.2.2.2.2.1]; exact w.1)))) | (have h9 : (5 : Int) ≤ ((τ114.1 0 53) + 1).toInt := b150; exact jr_sub [(0, jf_r E 0), (1, .int 0)] rfl (D τ114 0 y1 y2 (fun h => absurd rfl h) (fun _ w => by rw [n3, n2] at h9; omega))) | (have h9 : ¬ (5 : Int) ≤ ((τ114.1 0 53) + 1).toInt := b150; have h8 : ((τ114.1 0 61)).toInt = 2 := b142; exact jr_sub [(0, jf_r E 0), (1, .int 1)] rfl (D τ114 1 y1 y2 (fun _ => ⟨by rw [← y2.2.2.2.2.1]; exact h8, by rw [n3, n2] at h9; omega⟩) (fun h => absurd h (by decide))))
      · refine jr_aload_n C dX11_readRules_145 rfl ?_
        refine jr_geti C kf_X11_350_0 dX11_readRules_146 ?_
        refine jr_iconst C (v := 5) dX11_readRules_149 (by decide) ?_
        refine jr_ncmp_ge C (b := 5) 157 dX11_readRules_150 (by decide) rfl rfl (fun b150 => ?_) (fun b150 => ?_)
        · refine jr_iconst C (v := 0) dX11_readRules_157 (by decide) ?_
          refine jr_istore_n C dX11_readRules_158 (by decide) ?_
          refine jr_goto C 72 dX11_readRules_159 (by decide) ?_
          first | (have h9 : ¬ ((τ114.1 0 61)).toInt = 2 := b142; exact jr_sub [(0, jf_r E 0), (1, .int 0)] rfl (D τ114 0 y1 y2 (fun h => absurd rfl h) (fun _ w => h9 (by rw [y2.2.2.2.2.1]; exact w.1)))) | (have h9 : (5 : Int) ≤ ((τ114.1 0 53) + 1).toInt := b150; exact jr_sub [(0, jf_r E 0), (1, .int 0)] rfl (D τ114 0 y1 y2 (fun h => absurd rfl h) (fun _ w => by rw [n3, n2] at h9; omega))) | (have h9 : ¬ (5 : Int) ≤ ((τ114.1 0 53) + 1).toInt := b150; have h8 : ((τ114.1 0 61)).toInt = 2 := b142; exact jr_sub [(0, jf_r E 0), (1, .int 1)] rfl (D τ114 1 y1 y2 (fun _ => ⟨by rw [← y2.2.2.2.2.1]; exact h8, by rw [n3, n2] at h9; omega⟩) (fun h => absurd h (by decide))))
        · refine jr_iconst C (v := 1) dX11_readRules_153 (by decide) ?_
          refine jr_goto C 158 dX11_readRules_154 (by decide) ?_
          refine jr_istore_n C dX11_readRules_158 (by decide) ?_
          refine jr_goto C 72 dX11_readRules_159 (by decide) ?_
          first | (have h9 : ¬ ((τ114.1 0 61)).toInt = 2 := b142; exact jr_sub [(0, jf_r E 0), (1, .int 0)] rfl (D τ114 0 y1 y2 (fun h => absurd rfl h) (fun _ w => h9 (by rw [y2.2.2.2.2.1]; exact w.1)))) | (have h9 : (5 : Int) ≤ ((τ114.1 0 53) + 1).toInt := b150; exact jr_sub [(0, jf_r E 0), (1, .int 0)] rfl (D τ114 0 y1 y2 (fun h => absurd rfl h) (fun _ w => by rw [n3, n2] at h9; omega))) | (have h9 : ¬ (5 : Int) ≤ ((τ114.1 0 53) + 1).toInt := b150; have h8 : ((τ114.1 0 61)).toInt = 2 := b142; exact jr_sub [(0, jf_r E 0), (1, .int 1)] rfl (D τ114 1 y1 y2 (fun _ => ⟨by rw [← y2.2.2.2.2.1]; exact h8, by rw [n3, n2] at h9; omega⟩) (fun h => absurd h (by decide))))
  refine jr_iload_n C dX11_readRules_72 rfl ?_
  refine jr_nif_eq C 162 dX11_readRules_73 (by decide) (fun b => absurd b h0) (fun _ => ?_)
  refine jr_aload_n C dX11_readRules_76 rfl ?_
  refine jr_geti C kf_X11_310_0 dX11_readRules_77 ?_
  refine jr_nif_ne C 162 dX11_readRules_80 (by decide) (fun b => absurd b1 b) (fun _ => ?_)
  refine jr_aload_n C dX11_readRules_83 rfl ?_
  refine jr_getl C kf_X11_285_0 dX11_readRules_84 ?_
  refine jr_l2i C dX11_readRules_87 ?_
  refine jr_istore_n C dX11_readRules_88 (by decide) ?_
  refine jr_aload_n C dX11_readRules_89 rfl ?_
  refine jr_aload_n C dX11_readRules_90 rfl ?_
  refine jr_getv C kf_X11_295_0 dX11_readRules_91 (v := τ.1 0 61) rfl ?_
  refine jr_iconst C (v := 2) dX11_readRules_94 (by decide) ?_
  refine jr_ncmp_ne C (b := 2) 113 dX11_readRules_95 (by decide) rfl rfl (fun b95 => ?_) (fun b95 => ?_)
  · rw [k.2.2.2.2.1] at b95
    refine jr_iconst C (v := 0) dX11_readRules_113 (by decide) ?_
    first | exact jr_sub [(0, jf_r E 0), (1, .int mo), (2, .int ((τ.2 0 62)).toInt32)] rfl (J114 _ ⟨fun h => absurd rfl h, fun w => absurd w.1 b95⟩) | exact jr_sub [(0, jf_r E 0), (1, .int mo), (2, .int ((τ.2 0 62)).toInt32)] rfl (J114 _ ⟨fun h => absurd rfl h, fun w => (by exfalso; omega)⟩) | exact jr_sub [(0, jf_r E 0), (1, .int mo), (2, .int ((τ.2 0 62)).toInt32)] rfl (J114 _ ⟨fun _ => ⟨b95, by omega⟩, fun _ => (by decide)⟩)
  · rw [k.2.2.2.2.1] at b95
    refine jr_aload_n C dX11_readRules_98 rfl ?_
    refine jr_getl C kf_X11_285_0 dX11_readRules_99 ?_
    refine jr_ldc2 C kc_X11_181 dX11_readRules_102 ?_
    refine jr_lcmp C dX11_readRules_105 ?_
    refine jr_nif_gt C 113 dX11_readRules_106 (by decide) (fun b106 => ?_) (fun b106 => ?_)
    · rw [jl_cgt, k.2.2.2.2.2] at b106; have k0 : (1000 : Int64).toInt = 1000 := rfl
      refine jr_iconst C (v := 0) dX11_readRules_113 (by decide) ?_
      first | exact jr_sub [(0, jf_r E 0), (1, .int mo), (2, .int ((τ.2 0 62)).toInt32)] rfl (J114 _ ⟨fun h => absurd rfl h, fun w => absurd w.1 b95⟩) | exact jr_sub [(0, jf_r E 0), (1, .int mo), (2, .int ((τ.2 0 62)).toInt32)] rfl (J114 _ ⟨fun h => absurd rfl h, fun w => (by exfalso; omega)⟩) | exact jr_sub [(0, jf_r E 0), (1, .int mo), (2, .int ((τ.2 0 62)).toInt32)] rfl (J114 _ ⟨fun _ => ⟨b95, by omega⟩, fun _ => (by decide)⟩)
    · rw [jl_cgt, k.2.2.2.2.2] at b106; have k0 : (1000 : Int64).toInt = 1000 := rfl
      refine jr_iconst C (v := 1) dX11_readRules_109 (by decide) ?_
      refine jr_goto C 114 dX11_readRules_110 (by decide) ?_
      first | exact jr_sub [(0, jf_r E 0), (1, .int mo), (2, .int ((τ.2 0 62)).toInt32)] rfl (J114 _ ⟨fun h => absurd rfl h, fun w => absurd w.1 b95⟩) | exact jr_sub [(0, jf_r E 0), (1, .int mo), (2, .int ((τ.2 0 62)).toInt32)] rfl (J114 _ ⟨fun h => absurd rfl h, fun w => (by exfalso; omega)⟩) | exact jr_sub [(0, jf_r E 0), (1, .int mo), (2, .int ((τ.2 0 62)).toInt32)] rfl (J114 _ ⟨fun _ => ⟨b95, by omega⟩, fun _ => (by decide)⟩)
theorem rr_l72 (E : jf_E) (G : jf_G) (σ : jf_S) (a : Nat → Int32) (n : Nat) (RES : q_T) (C : jf_C jh_M E G 3 cX11_readRules yX11_readRules.cls 5) (ret : ∀ (pc : Nat) (L : List (Nat × Value)) (τ : jf_S), decode cX11_readRules pc = .ok (.return_, 1) → m_out a n σ τ RES → jf_X jh_M E G 3 pc L [] τ) (K : List Int32) : ∀ (m : Nat) (τ : jf_S) (o : List Int32) (f : Nat) (mo : Int32), m_tk a n τ f → ((τ.1 0 64)).toInt = 0 → m_mk τ K → m_np τ o → mS_g mK_rd mJ_rd σ τ → ¬ mo.toInt = 0 → o.length + m + 1 = 5 → RES = (match (if tk_k a n f = 2 ∧ tk_v a n f ≤ 1000 then q_pts a n m (tk_x a n f) (o ++ [Int32.ofInt (tk_v a n f)]) else .inr f : q_R) with
      | .inl s => q_end a n K s.2 s.1
      | .inr e => .inr e) → jf_X jh_M E G 3 72 [(0, jf_r E 0), (1, .int mo)] [] τ := by
  intro m
  induction m with
  | zero =>
    intro τ o f mo k b1 m1 m2 z h0 ho hq
    refine rr_I72 E G σ a n RES C ret K τ o f mo k b1 m1 m2 z (by omega) h0 (fun w => by rw [hq, if_neg w]) (fun w υ mo' c1 c2 c3 c4 c5 c6 c7 => ?_)
    have m0 : mo'.toInt = 0 := Decidable.byContradiction (fun h => by have := (c6 h).2; omega)
    refine rr_E72 E G σ a n RES C ret K υ _ _ mo' c1 c2 c3 c4 c5 m0 ?_
    rw [hq, if_pos w]; rfl
  | succ m ih =>
    intro τ o f mo k b1 m1 m2 z h0 ho hq
    refine rr_I72 E G σ a n RES C ret K τ o f mo k b1 m1 m2 z (by omega) h0 (fun w => by rw [hq, if_neg w]) (fun w υ mo' c1 c2 c3 c4 c5 c6 c7 => ?_)
    rw [if_pos w] at hq
    have ln : (o ++ [Int32.ofInt (tk_v a n f)]).length = o.length + 1 := by rw [List.length_append]; rfl
    by_cases m0 : mo'.toInt = 0
    · refine rr_E72 E G σ a n RES C ret K υ _ _ mo' c1 c2 c3 c4 c5 m0 ?_
      have nk : ¬ tk_k a n (tk_x a n f) = 2 := fun q => c7 m0 ⟨q, by omega⟩
      rw [hq]
      show (match (if tk_k a n (tk_x a n f) = 2 then _ else .inl (tk_x a n f, o ++ [Int32.ofInt (tk_v a n f)]) : q_R) with
        | .inl s => q_end a n K s.2 s.1
        | .inr e => .inr e) = _
      rw [if_neg nk]
    · have k2 := (c6 m0).1
      refine ih υ _ _ mo' c1 c2 c3 c4 c5 m0 (by rw [ln]; omega) ?_
      rw [hq]
      show (match (if tk_k a n (tk_x a n f) = 2 then (if tk_v a n (tk_x a n f) ≤ 1000 then q_pts a n m (tk_x a n (tk_x a n f)) (o ++ [Int32.ofInt (tk_v a n f)] ++ [Int32.ofInt (tk_v a n (tk_x a n f))]) else .inr (tk_x a n f)) else _ : q_R) with
        | .inl s => q_end a n K s.2 s.1
        | .inr e => .inr e) = _
      rw [if_pos k2]
      by_cases v2 : tk_v a n (tk_x a n f) ≤ 1000
      · rw [if_pos v2, if_pos ⟨k2, v2⟩]
      · rw [if_neg v2, if_neg (fun w => v2 w.2)]
theorem rr_G165 (E : jf_E) (G : jf_G) (σ : jf_S) (a : Nat → Int32) (n : Nat) (RES : q_T) (C : jf_C jh_M E G 3 cX11_readRules yX11_readRules.cls 5) (ret : ∀ (pc : Nat) (L : List (Nat × Value)) (τ : jf_S), decode cX11_readRules pc = .ok (.return_, 1) → m_out a n σ τ RES → jf_X jh_M E G 3 pc L [] τ) (τ : jf_S) (K : List Int32) (f : Nat) (hq : RES = (match (if tk_wb a n f [114, 111, 117, 110, 100, 115] = true then .inl (tk_x a n f, []) else .inr f : q_R) with
      | .inl s => q_end a n K s.2 s.1
      | .inr e => .inr e)) (k : m_tk a n τ f) (b1 : ((τ.1 0 64)).toInt = 0) (m1 : m_mk τ K) (m2 : m_np τ []) (z : mS_g mK_rd mJ_rd σ τ) : jf_X jh_M E G 3 165 [(0, jf_r E 0)] [] τ := by
  have D : ∀ υ : jf_S, m_N a n f τ υ (jb (((τ.1 0 61)).toInt = 1 ∧ ((τ.2 0 62)).toInt = (m_word 114 111 117 110 100 115).toInt)) → jf_X jh_M E G 3 185 [(0, jf_r E 0)] [] υ := by
    intro υ N
    by_cases w : tk_wb a n f [114, 111, 117, 110, 100, 115] = true
    · obtain ⟨y1, y2⟩ := m_N_ok N b1 (jb_nz ((mw_rounds k).mpr w))
      rw [if_pos w] at hq
      exact rr_G185 E G σ a n RES C ret υ K [] _ hq y2 (by rw [y1.2 64 (by decide) (by decide) (by decide)]; exact b1) (m_mk_n y1 m1) (m_np_n y1 m2) (mS_g_t z (mS_g_n y1 (by decide)))
    · have e := m_N_no N b1 (jb_z (fun q => w ((mw_rounds k).mp q)))
      rw [if_neg w] at hq
      subst e
      exact rr_B185 E G σ a n RES C ret _ f hq (show ¬ (1 : Int32).toInt = 0 by decide) k.2.2.1 (mS_g_i (mS_g_i z (by decide)) (by decide))
  refine jr_aload_n C dX11_readRules_165 rfl ?_
  refine jr_aload_n C dX11_readRules_166 rfl ?_
  refine jr_bipush C (v := 114) dX11_readRules_167 (by decide) ?_
  refine jr_bipush C (v := 111) dX11_readRules_169 (by decide) ?_
  refine jr_bipush C (v := 117) dX11_readRules_171 (by decide) ?_
  refine jr_bipush C (v := 110) dX11_readRules_173 (by decide) ?_
  refine jr_bipush C (v := 100) dX11_readRules_175 (by decide) ?_
  refine jr_bipush C (v := 115) dX11_readRules_177 (by decide) ?_
  refine jr_vip C [.int _, .int _, .int _, .int _, .int _, .int _] _ (ct_X11_isWord2 E _ _ _ _ _ _ _) ky_X11_isWord kv_X11_isWord kk_M_0 km_X11_326 (by decide) rfl (Nat.le_of_ble_eq_true rfl) dX11_readRules_179 ?_
  refine jr_vv C [.int _] _ (ct_X11_must2 E _ _ a n f (fun _ => k)) ky_X11_must kv_X11_must kk_M_0 km_X11_333 (by decide) rfl (Nat.le_of_ble_eq_true rfl) dX11_readRules_182 (fun τ182 h182 => ?_)
  exact D _ h182
theorem rr_G30 (E : jf_E) (G : jf_G) (σ : jf_S) (a : Nat → Int32) (n : Nat) (RES : q_T) (C : jf_C jh_M E G 3 cX11_readRules yX11_readRules.cls 5) (ret : ∀ (pc : Nat) (L : List (Nat × Value)) (τ : jf_S), decode cX11_readRules pc = .ok (.return_, 1) → m_out a n σ τ RES → jf_X jh_M E G 3 pc L [] τ) (τ : jf_S) (K : List Int32) (f : Nat) (hq : RES = q_mid a n K f) (k : m_tk a n τ f) (b1 : ((τ.1 0 64)).toInt = 0) (m1 : m_mk τ K) (m2 : m_np τ []) (z : mS_g mK_rd mJ_rd σ τ) : jf_X jh_M E G 3 30 [(0, jf_r E 0)] [] τ := by
  unfold q_mid at hq
  have D : ∀ υ : jf_S, m_N a n f τ υ (jb (((τ.1 0 61)).toInt = 3 ∧ ((τ.2 0 62)).toInt = (59 : Int32).toInt)) → jf_X jh_M E G 3 40 [(0, jf_r E 0)] [] υ := by
    intro υ N
    by_cases w : tk_sb a n f 59 = true
    · obtain ⟨y1, y2⟩ := m_N_ok N b1 (jb_nz ((ms_59 k).mpr w))
      rw [if_pos w] at hq
      have bu : ((υ.1 0 64)).toInt = 0 := by rw [y1.2 64 (by decide) (by decide) (by decide)]; exact b1
      have zu : mS_g mK_rd mJ_rd σ υ := mS_g_t z (mS_g_n y1 (by decide))
      have mu := m_mk_n y1 m1
      have nu := m_np_n y1 m2
      have nr : tk_wb a n (tk_x a n f) [112, 111, 105, 110, 116, 115] = true → ¬ tk_wb a n (tk_x a n f) [114, 111, 117, 110, 100, 115] = true := fun q r => by have h1 := q_first (by decide) q; have h2 := q_first (by decide) r; have h1 : (a (tk_x a n f)).toInt = 112 := h1; have h2 : (a (tk_x a n f)).toInt = 114 := h2; omega
      have L : ∀ ρ : jf_S, tk_wb a n (tk_x a n f) [112, 111, 105, 110, 116, 115] = true → mS_n υ ρ ∧ m_tk a n ρ (tk_a a n (tk_t a n (tk_x a n f))) → jf_X jh_M E G 3 72 [(0, jf_r E 0), (1, .int 1)] [] ρ := by
        intro ρ w2 hr
        refine rr_l72 E G σ a n RES C ret K 4 ρ [] (tk_x a n (tk_x a n f)) 1 hr.2 (by rw [hr.1.2 64 (by decide) (by decide) (by decide)]; exact bu) (m_mk_n hr.1 mu) (m_np_n hr.1 nu) (mS_g_t zu (mS_g_n hr.1 (by decide))) (by decide) rfl ?_
        rw [hq]; unfold q_man q_pn; rw [if_neg (nr w2), if_pos w2]; rfl
      have M165 : ¬ tk_wb a n (tk_x a n f) [112, 111, 105, 110, 116, 115] = true → jf_X jh_M E G 3 165 [(0, jf_r E 0)] [] υ := by
        intro w2
        refine rr_G165 E G σ a n RES C ret υ K (tk_x a n f) ?_ y2 bu mu nu zu
        rw [hq]; unfold q_man; rw [if_neg w2]
      refine jr_aload_n C dX11_readRules_40 rfl ?_
      refine jr_geti C kf_X11_310_0 dX11_readRules_41 ?_
      refine jr_nif_ne C 165 dX11_readRules_44 (by decide) (fun b => absurd bu b) (fun _ => ?_)
      refine jr_aload_n C dX11_readRules_47 rfl ?_
      refine jr_bipush C (v := 112) dX11_readRules_48 (by decide) ?_
      refine jr_bipush C (v := 111) dX11_readRules_50 (by decide) ?_
      refine jr_bipush C (v := 105) dX11_readRules_52 (by decide) ?_
      refine jr_bipush C (v := 110) dX11_readRules_54 (by decide) ?_
      refine jr_bipush C (v := 116) dX11_readRules_56 (by decide) ?_
      refine jr_bipush C (v := 115) dX11_readRules_58 (by decide) ?_
      refine jr_vip C [.int _, .int _, .int _, .int _, .int _, .int _] _ (ct_X11_isWord2 E _ _ _ _ _ _ _) ky_X11_isWord kv_X11_isWord kk_M_0 km_X11_326 (by decide) rfl (Nat.le_of_ble_eq_true rfl) dX11_readRules_60 ?_
      refine jr_if_eq C 165 dX11_readRules_63 (by decide) (fun b63 => ?_) (fun b63 => ?_)
      · replace b63 := jb_f b63
        rw [mw_points y2] at b63
        exact M165 b63
      · replace b63 := jb_t b63
        rw [mw_points y2] at b63
        refine jr_aload_n C dX11_readRules_66 rfl ?_
        refine jr_vv C [] _ (ct_X11_next2 E _ a n (tk_t a n (tk_x a n f)) y2.1.1 y2.1.2.1 y2.1.2.2.1 y2.1.2.2.2 y2.2.2.2.1 (tk_t_ok y2.2.1).2.1) ky_X11_next kv_X11_next kk_M_0 km_X11_314 (by decide) rfl (Nat.le_of_ble_eq_true rfl) dX11_readRules_67 (fun τ67 h67 => ?_)
        refine jr_iconst C (v := 1) dX11_readRules_70 (by decide) ?_
        refine jr_istore_n C dX11_readRules_71 (by decide) ?_
        exact jr_sub [(0, jf_r E 0), (1, .int 1)] rfl (L _ b63 h67)
    · have e := m_N_no N b1 (jb_z (fun q => w ((ms_59 k).mp q)))
      rw [if_neg w] at hq
      subst e
      have bb : ¬ (((jf_i (jf_i τ 0 64 1) 0 63 ((τ.1 0 59))).1 0 64)).toInt = 0 := show ¬ (1 : Int32).toInt = 0 by decide
      refine jr_aload_n C dX11_readRules_40 rfl ?_
      refine jr_geti C kf_X11_310_0 dX11_readRules_41 ?_
      refine jr_nif_ne C 165 dX11_readRules_44 (by decide) (fun _ => ?_) (fun b => absurd b bb)
      exact rr_B165 E G σ a n RES C ret _ f hq bb k.2.2.1 (mS_g_i (mS_g_i z (by decide)) (by decide))
  refine jr_aload_n C dX11_readRules_30 rfl ?_
  refine jr_aload_n C dX11_readRules_31 rfl ?_
  refine jr_bipush C (v := 59) dX11_readRules_32 (by decide) ?_
  refine jr_vip C [.int _] _ (ct_X11_isSign2 E _ _) ky_X11_isSign kv_X11_isSign kk_M_0 km_X11_330 (by decide) rfl (Nat.le_of_ble_eq_true rfl) dX11_readRules_34 ?_
  refine jr_vv C [.int _] _ (ct_X11_must2 E _ _ a n f (fun _ => k)) ky_X11_must kv_X11_must kk_M_0 km_X11_333 (by decide) rfl (Nat.le_of_ble_eq_true rfl) dX11_readRules_37 (fun τ37 h37 => ?_)
  exact D _ h37
theorem rr_B30 (E : jf_E) (G : jf_G) (σ : jf_S) (a : Nat → Int32) (n : Nat) (RES : q_T) (C : jf_C jh_M E G 3 cX11_readRules yX11_readRules.cls 5) (ret : ∀ (pc : Nat) (L : List (Nat × Value)) (τ : jf_S), decode cX11_readRules pc = .ok (.return_, 1) → m_out a n σ τ RES → jf_X jh_M E G 3 pc L [] τ) (τ : jf_S) (e : Nat) (hq : RES = .inr e) (b1 : ¬ ((τ.1 0 64)).toInt = 0) (b2 : ((τ.1 0 63)).toInt = (e : Int)) (z : mS_g mK_rd mJ_rd σ τ) : jf_X jh_M E G 3 30 [(0, jf_r E 0)] [] τ := by
  have J40 : jf_X jh_M E G 3 40 [(0, jf_r E 0)] [] τ := by
    refine jr_aload_n C dX11_readRules_40 rfl ?_
    refine jr_geti C kf_X11_310_0 dX11_readRules_41 ?_
    refine jr_nif_ne C 165 dX11_readRules_44 (by decide) (fun _ => ?_) (fun b => absurd b b1)
    exact rr_B165 E G σ a n RES C ret _ e hq b1 b2 z
  refine jr_aload_n C dX11_readRules_30 rfl ?_
  refine jr_aload_n C dX11_readRules_31 rfl ?_
  refine jr_bipush C (v := 59) dX11_readRules_32 (by decide) ?_
  refine jr_vip C [.int _] _ (ct_X11_isSign2 E _ _) ky_X11_isSign kv_X11_isSign kk_M_0 km_X11_330 (by decide) rfl (Nat.le_of_ble_eq_true rfl) dX11_readRules_34 ?_
  refine jr_vv C [.int _] _ (ct_X11_must2 E _ _ a n 0 (fun h => absurd h b1)) ky_X11_must kv_X11_must kk_M_0 km_X11_333 (by decide) rfl (Nat.le_of_ble_eq_true rfl) dX11_readRules_37 (fun τ37 h37 => ?_)
  have e37 := (m_N_b h37 b1).symm; subst e37
  exact J40
theorem ct_X11_readRules2 (E : jf_E) (σ : jf_S) (a : Nat → Int32) (n f : Nat) (k : m_tk a n σ f) (hb : ((σ.1 0 64)).toInt = 0) (hm : m_mk σ []) (hp : m_np σ []) : jf_V jh_M E yX11_readRules cX11_readRules 3 5 [jf_r E 0] σ (fun τ => m_out a n σ τ (q_rules a n f)) := by
  refine jf_mkV (by decide) (Nat.le_of_ble_eq_true rfl) ?_
  intro G C ret
  have x1 := tk_x_ok (a := a) k.2.1
  have D : ∀ υ : jf_S, m_N a n f σ υ (jb (((σ.1 0 61)).toInt = 1 ∧ ((σ.2 0 62)).toInt = (m_word 99 111 117 110 116 0).toInt)) → jf_X jh_M E G 3 19 [(0, jf_r E 0)] [] υ := by
    intro υ N
    by_cases w : tk_wb a n f [99, 111, 117, 110, 116] = true
    · obtain ⟨y1, y2⟩ := m_N_ok N hb (jb_nz ((mw_count k).mpr w))
      have lt := tk_wb_lt (by decide) w
      have bu : ((υ.1 0 64)).toInt = 0 := by rw [y1.2 64 (by decide) (by decide) (by decide)]; exact hb
      have zu : mS_g mK_rd mJ_rd σ υ := mS_g_n y1 (by decide)
      have qq : q_rules a n f = (match q_cond a n (q_not a n 8) (tk_x a n f) with
        | .inl r => q_mid a n r.2 r.1
        | .inr e => .inr e) := by unfold q_rules; rw [if_pos w]
      have L : ∀ ρ : jf_S, ((∀ r, q_cond a n (q_not a n 8) (tk_x a n f) = .inl r → m_tk a n ρ r.1 ∧ ((ρ.1 0 64)).toInt = 0 ∧ m_mk ρ r.2) ∧ (∀ e, q_cond a n (q_not a n 8) (tk_x a n f) = .inr e → ¬ ((ρ.1 0 64)).toInt = 0 ∧ ((ρ.1 0 63)).toInt = (e : Int)) ∧ mS_g [34, 36] mJ_cond υ ρ) → jf_X jh_M E G 3 30 [(0, jf_r E 0)] [] ρ := by
        intro ρ hr
        obtain ⟨r1, r2, r3⟩ := hr
        have zr : mS_g mK_rd mJ_rd σ ρ := mS_g_t zu (mS_g_m r3 (by decide) (by decide))
        cases e : q_cond a n (q_not a n 8) (tk_x a n f) with
        | inl r =>
          obtain ⟨c1, c2, c3⟩ := r1 r e
          rw [e] at qq
          have nr : m_np ρ [] := by unfold m_np; rw [r3.2 53 (by decide), r3.1 35 (by decide) (by decide)]; exact m_np_n y1 hp
          exact rr_G30 E G σ a n (q_rules a n f) C ret ρ r.2 r.1 qq c1 c2 c3 nr zr
        | inr z =>
          obtain ⟨c1, c2⟩ := r2 z e
          rw [e] at qq
          exact rr_B30 E G σ a n (q_rules a n f) C ret ρ z qq c1 c2 zr
      refine jr_aload_n C dX11_readRules_19 rfl ?_
      refine jr_geti C kf_X11_310_0 dX11_readRules_20 ?_
      refine jr_nif_ne C 30 dX11_readRules_23 (by decide) (fun b => absurd bu b) (fun _ => ?_)
      refine jr_aload_n C dX11_readRules_26 rfl ?_
      refine jr_vv C [] _ (ct_X11_readCond2 E _ a n (tk_x a n f) y2 bu (m_mk_n y1 hm) (by omega)) ky_X11_readCond kv_X11_readCond kk_M_0 km_X11_347 (by decide) rfl (Nat.le_of_ble_eq_true rfl) dX11_readRules_27 (fun τ27 h27 => ?_)
      exact L _ h27
    · have e := m_N_no N hb (jb_z (fun q => w ((mw_count k).mp q)))
      have qq : q_rules a n f = .inr f := by unfold q_rules; rw [if_neg w]
      subst e
      have bb : ¬ (((jf_i (jf_i σ 0 64 1) 0 63 ((σ.1 0 59))).1 0 64)).toInt = 0 := show ¬ (1 : Int32).toInt = 0 by decide
      refine jr_aload_n C dX11_readRules_19 rfl ?_
      refine jr_geti C kf_X11_310_0 dX11_readRules_20 ?_
      refine jr_nif_ne C 30 dX11_readRules_23 (by decide) (fun _ => ?_) (fun b => absurd b bb)
      exact rr_B30 E G σ a n (q_rules a n f) C ret _ f qq bb k.2.2.1 (mS_g_i (mS_g_i (mS_g_r σ) (by decide)) (by decide))
  refine jr_aload_n C dX11_readRules_0 rfl ?_
  refine jr_aload_n C dX11_readRules_1 rfl ?_
  refine jr_bipush C (v := 99) dX11_readRules_2 (by decide) ?_
  refine jr_bipush C (v := 111) dX11_readRules_4 (by decide) ?_
  refine jr_bipush C (v := 117) dX11_readRules_6 (by decide) ?_
  refine jr_bipush C (v := 110) dX11_readRules_8 (by decide) ?_
  refine jr_bipush C (v := 116) dX11_readRules_10 (by decide) ?_
  refine jr_iconst C (v := 0) dX11_readRules_12 (by decide) ?_
  refine jr_vip C [.int _, .int _, .int _, .int _, .int _, .int _] _ (ct_X11_isWord2 E _ _ _ _ _ _ _) ky_X11_isWord kv_X11_isWord kk_M_0 km_X11_326 (by decide) rfl (Nat.le_of_ble_eq_true rfl) dX11_readRules_13 ?_
  refine jr_vv C [.int _] _ (ct_X11_must2 E _ _ a n f (fun _ => k)) ky_X11_must kv_X11_must kk_M_0 km_X11_333 (by decide) rfl (Nat.le_of_ble_eq_true rfl) dX11_readRules_16 (fun τ16 h16 => ?_)
  exact D _ h16

