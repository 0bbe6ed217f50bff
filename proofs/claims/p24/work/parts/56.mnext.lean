/-! the reference: the next token, safe -/
/-- the token at hand changed at will -/
def mS_n (σ τ : jf_S) : Prop := (∀ k, k ≠ 0 → τ.1 k = σ.1 k) ∧ (∀ j, j ≠ 59 → j ≠ 60 → j ≠ 61 → τ.1 0 j = σ.1 0 j)
theorem mS_n_r (σ : jf_S) : mS_n σ σ := ⟨fun _ _ => rfl, fun _ _ _ _ => rfl⟩
theorem mS_n_t {σ τ υ : jf_S} (h : mS_n σ τ) (g : mS_n τ υ) : mS_n σ υ := ⟨fun k a => (g.1 k a).trans (h.1 k a), fun j a b c => (g.2 j a b c).trans (h.2 j a b c)⟩
theorem mS_n_i {σ τ : jf_S} (h : mS_n σ τ) {j : Nat} {v : Int32} (hj : 59 ≤ j ∧ j ≤ 61) : mS_n σ (jf_i τ 0 j v) := by
  refine ⟨fun k a => ?_, fun i a b c => ?_⟩
  · rw [jf_i_o k a]; exact h.1 k a
  · rw [jf_i_at]; unfold upd; rw [if_neg (by omega)]; exact h.2 i a b c
theorem mS_n_l {σ τ : jf_S} (h : mS_n σ τ) {k j : Nat} {v : Int64} : mS_n σ (jf_l τ k j v) := h
/-- where the token stands -/
def m_at (τ : jf_S) : Prop := 0 ≤ ((τ.1 0 59)).toInt ∧ ((τ.1 0 59)).toInt ≤ ((τ.1 0 60)).toInt ∧ ((τ.1 0 60)).toInt ≤ ((τ.1 0 58)).toInt ∧ ((τ.1 0 58)).toInt ≤ 300
/-- of what kind it is -/
def m_kd (τ : jf_S) : Prop := (((τ.1 0 61)).toInt = 0 ∧ ((τ.1 0 59)).toInt = ((τ.1 0 58)).toInt) ∨ (((τ.1 0 61)).toInt = 1 ∧ ((τ.1 0 59)).toInt < ((τ.1 0 60)).toInt) ∨ (((τ.1 0 61)).toInt = 3 ∧ ((τ.1 0 59)).toInt < ((τ.1 0 60)).toInt) ∨ (((τ.1 0 61)).toInt = 2 ∧ ((τ.1 0 59)).toInt < ((τ.1 0 60)).toInt ∧ 0 ≤ ((τ.2 0 62)).toInt)
theorem jl_cle {x y : Int64} : (lg_cmp x y).toInt ≤ 0 ↔ x.toInt ≤ y.toInt := by
  have h := jl_gt (x := x) (y := y)
  rw [Int32.lt_iff_toInt_lt] at h
  have : (0 : Int32).toInt = 0 := rfl
  omega
theorem m_wor {w : Int64} {x : Int32} (h0 : 0 ≤ w.toInt) (h1 : w.toInt ≤ 1000) (h2 : 48 ≤ x.toInt ∧ x.toInt ≤ 57) : 0 ≤ (w * 10 + x.toInt64 - 48).toInt := by
  have e0 : (10 : Int64).toInt = 10 := rfl
  have e9 : (48 : Int64).toInt = 48 := rfl
  have e1 : (w * 10).toInt = w.toInt * 10 := by rw [fb_mulL, e0] <;> rw [e0] <;> omega
  have e2 : (w * 10 + x.toInt64).toInt = w.toInt * 10 + x.toInt := by rw [fb_addL, e1, jl_w] <;> rw [e1, jl_w] <;> omega
  have e3 : (w * 10 + x.toInt64 - 48).toInt = w.toInt * 10 + x.toInt - 48 := by rw [fb_subL, e2, e9] <;> rw [e2, e9] <;> omega
  omega
theorem ct_X11_next (E : jf_E) (σ : jf_S) (h0 : 0 ≤ ((σ.1 0 60)).toInt ∧ ((σ.1 0 60)).toInt ≤ ((σ.1 0 58)).toInt ∧ ((σ.1 0 58)).toInt ≤ 300) : jf_V jh_M E yX11_next cX11_next 1 1 [jf_r E 0] σ (fun τ => mS_n σ τ ∧ ((σ.1 0 60)).toInt ≤ ((τ.1 0 59)).toInt ∧ m_at τ ∧ m_kd τ) := by
  refine jf_mkV (by decide) (Nat.le_of_ble_eq_true rfl) ?_
  intro G C ret
  have l243 : ∀ (m : Nat) (τ : jf_S), mS_n σ τ → ((σ.1 0 60)).toInt ≤ ((τ.1 0 59)).toInt → m_at τ → ((((τ.1 0 61)).toInt = 0 ∧ ((τ.1 0 59)).toInt = ((τ.1 0 58)).toInt) ∨ (((τ.1 0 61)).toInt = 1 ∧ ((τ.1 0 59)).toInt < ((τ.1 0 60)).toInt) ∨ (((τ.1 0 61)).toInt = 3 ∧ ((τ.1 0 59)).toInt < ((τ.1 0 60)).toInt) ∨ (((τ.1 0 61)).toInt = 2 ∧ (((τ.1 0 59)).toInt < ((τ.1 0 60)).toInt ∨ (((τ.1 0 60)).toInt < ((τ.1 0 58)).toInt ∧ 48 ≤ ((τ.1 37) ((τ.1 0 60)).toNatClampNeg).toInt ∧ ((τ.1 37) ((τ.1 0 60)).toNatClampNeg).toInt ≤ 57)) ∧ 0 ≤ ((τ.2 0 62)).toInt)) → ((τ.1 0 58)).toInt - ((τ.1 0 60)).toInt < m → jf_X jh_M E G 1 243 [(0, jf_r E 0)] [] τ := by
    intro m
    induction m with
    | zero => intro τ z y a w g; exfalso; have := a.2.2.1; omega
    | succ m ih =>
      intro τ z y a w g
      obtain ⟨a1, a2, a3, a4⟩ := id a
      have e1 := ji_inc1 (k := (τ.1 0 60)) (by omega)
      refine jr_aload_n C dX11_next_243 rfl ?_
      refine jr_getv C kf_X11_295_0 dX11_next_244 (v := τ.1 0 61) rfl ?_
      refine jr_iconst C (v := 2) dX11_next_247 (by decide) ?_
      refine jr_ncmp_ne C (b := 2) 335 dX11_next_248 (by decide) rfl rfl (fun b248 => ?_) (fun b248 => ?_)
      · exact ret _ _ _ dX11_next_335 (⟨z, y, a, by unfold m_kd; omega⟩)
      · refine jr_aload_n C dX11_next_251 rfl ?_
        refine jr_getv C kf_X11_279_0 dX11_next_252 (v := τ.1 0 60) rfl ?_
        refine jr_aload_n C dX11_next_255 rfl ?_
        refine jr_getv C kf_X11_272_0 dX11_next_256 (v := τ.1 0 58) rfl ?_
        refine jr_ncmp_ge C 335 dX11_next_259 (by decide) rfl rfl (fun b259 => ?_) (fun b259 => ?_)
        · exact ret _ _ _ dX11_next_335 (⟨z, y, a, by unfold m_kd; omega⟩)
        · refine jr_aload_n C dX11_next_262 rfl ?_
          refine jr_getr C kf_X11_123_0 dX11_next_263 ?_
          refine jr_aload_n C dX11_next_266 rfl ?_
          refine jr_getv C kf_X11_279_0 dX11_next_267 (v := τ.1 0 60) rfl ?_
          refine jr_ialv C ka_M_37 dX11_next_270 (ji_in (i := (τ.1 0 60)) (by omega) (by omega)) (v := τ.1 37 _) rfl ?_
          refine jr_sip C [.int _] _ (ct_X11_isDigit E _ _) ky_X11_isDigit ks_X11_isDigit km_X11_292 (by decide) rfl (Nat.le_of_ble_eq_true rfl) dX11_next_271 ?_
          refine jr_if_eq C 335 dX11_next_274 (by decide) (fun b274 => ?_) (fun b274 => ?_)
          · replace b274 := jb_f b274
            exact ret _ _ _ dX11_next_335 (⟨z, y, a, by unfold m_kd; omega⟩)
          · replace b274 := jb_t b274
            refine jr_aload_n C dX11_next_277 rfl ?_
            refine jr_aload_n C dX11_next_278 rfl ?_
            refine jr_getl C kf_X11_285_0 dX11_next_279 ?_
            refine jr_ldc2 C kc_X11_181 dX11_next_282 ?_
            refine jr_lcmp C dX11_next_285 ?_
            refine jr_nif_le C 296 dX11_next_286 (by decide) (fun b286 => ?_) (fun b286 => ?_)
            · rw [jl_cle] at b286; have k0 : (1000 : Int64).toInt = 1000 := rfl
              refine jr_aload_n C dX11_next_296 rfl ?_
              refine jr_getl C kf_X11_285_0 dX11_next_297 ?_
              refine jr_ldc2 C kc_X11_249 dX11_next_300 ?_
              refine jr_lmul C dX11_next_303 ?_
              refine jr_aload_n C dX11_next_304 rfl ?_
              refine jr_getr C kf_X11_123_0 dX11_next_305 ?_
              refine jr_aload_n C dX11_next_308 rfl ?_
              refine jr_getv C kf_X11_279_0 dX11_next_309 (v := τ.1 0 60) rfl ?_
              refine jr_ialv C ka_M_37 dX11_next_312 (ji_in (i := (τ.1 0 60)) (by omega) (by omega)) (v := τ.1 37 _) rfl ?_
              refine jr_i2l C dX11_next_313 ?_
              refine jr_ladd C dX11_next_314 ?_
              refine jr_ldc2 C kc_X11_304 dX11_next_315 ?_
              refine jr_lsub C dX11_next_318 ?_
              refine jr_putl C kp_X11_285_0 dX11_next_319 ?_
              refine jr_aload_n C dX11_next_322 rfl ?_
              refine jr_dup C dX11_next_323 rfl ?_
              refine jr_getv C kf_X11_279_0 dX11_next_324 (v := τ.1 0 60) rfl ?_
              refine jr_iconst C (v := 1) dX11_next_327 (by decide) ?_
              refine jr_iadd C dX11_next_328 ?_
              refine jr_puti C kp_X11_279_0 dX11_next_329 ?_
              refine jr_goto C 243 dX11_next_332 (by decide) ?_
              first | exact ih _ (mS_n_i (mS_n_l z) (by decide)) y ⟨a1, show ((τ.1 0 59)).toInt ≤ ((τ.1 0 60) + 1).toInt by omega, show ((τ.1 0 60) + 1).toInt ≤ ((τ.1 0 58)).toInt by omega, a4⟩ (Or.inr (Or.inr (Or.inr ⟨b248, Or.inl (show ((τ.1 0 59)).toInt < ((τ.1 0 60) + 1).toInt by omega), show 0 ≤ ((τ.2 0 62)).toInt by omega⟩))) (show ((τ.1 0 58)).toInt - ((τ.1 0 60) + 1).toInt < _ by omega) | exact ih _ (mS_n_i (mS_n_l z) (by decide)) y ⟨a1, show ((τ.1 0 59)).toInt ≤ ((τ.1 0 60) + 1).toInt by omega, show ((τ.1 0 60) + 1).toInt ≤ ((τ.1 0 58)).toInt by omega, a4⟩ (Or.inr (Or.inr (Or.inr ⟨b248, Or.inl (show ((τ.1 0 59)).toInt < ((τ.1 0 60) + 1).toInt by omega), m_wor (by omega) (by omega) b274⟩))) (show ((τ.1 0 58)).toInt - ((τ.1 0 60) + 1).toInt < _ by omega)
            · rw [jl_cle] at b286; have k0 : (1000 : Int64).toInt = 1000 := rfl
              refine jr_aload_n C dX11_next_289 rfl ?_
              refine jr_getl C kf_X11_285_0 dX11_next_290 ?_
              refine jr_goto C 319 dX11_next_293 (by decide) ?_
              refine jr_putl C kp_X11_285_0 dX11_next_319 ?_
              refine jr_aload_n C dX11_next_322 rfl ?_
              refine jr_dup C dX11_next_323 rfl ?_
              refine jr_getv C kf_X11_279_0 dX11_next_324 (v := τ.1 0 60) rfl ?_
              refine jr_iconst C (v := 1) dX11_next_327 (by decide) ?_
              refine jr_iadd C dX11_next_328 ?_
              refine jr_puti C kp_X11_279_0 dX11_next_329 ?_
              refine jr_goto C 243 dX11_next_332 (by decide) ?_
              first | exact ih _ (mS_n_i (mS_n_l z) (by decide)) y ⟨a1, show ((τ.1 0 59)).toInt ≤ ((τ.1 0 60) + 1).toInt by omega, show ((τ.1 0 60) + 1).toInt ≤ ((τ.1 0 58)).toInt by omega, a4⟩ (Or.inr (Or.inr (Or.inr ⟨b248, Or.inl (show ((τ.1 0 59)).toInt < ((τ.1 0 60) + 1).toInt by omega), show 0 ≤ ((τ.2 0 62)).toInt by omega⟩))) (show ((τ.1 0 58)).toInt - ((τ.1 0 60) + 1).toInt < _ by omega) | exact ih _ (mS_n_i (mS_n_l z) (by decide)) y ⟨a1, show ((τ.1 0 59)).toInt ≤ ((τ.1 0 60) + 1).toInt by omega, show ((τ.1 0 60) + 1).toInt ≤ ((τ.1 0 58)).toInt by omega, a4⟩ (Or.inr (Or.inr (Or.inr ⟨b248, Or.inl (show ((τ.1 0 59)).toInt < ((τ.1 0 60) + 1).toInt by omega), m_wor (by omega) (by omega) b274⟩))) (show ((τ.1 0 58)).toInt - ((τ.1 0 60) + 1).toInt < _ by omega)
  have l149 : ∀ (m : Nat) (τ : jf_S), mS_n σ τ → ((σ.1 0 60)).toInt ≤ ((τ.1 0 59)).toInt → m_at τ → ((((τ.1 0 61)).toInt = 0 ∧ ((τ.1 0 59)).toInt = ((τ.1 0 58)).toInt) ∨ (((τ.1 0 61)).toInt = 3 ∧ ((τ.1 0 59)).toInt < ((τ.1 0 60)).toInt) ∨ (((τ.1 0 61)).toInt = 1 ∧ (((τ.1 0 59)).toInt < ((τ.1 0 60)).toInt ∨ (((τ.1 0 60)).toInt < ((τ.1 0 58)).toInt ∧ 97 ≤ ((τ.1 37) ((τ.1 0 60)).toNatClampNeg).toInt ∧ ((τ.1 37) ((τ.1 0 60)).toNatClampNeg).toInt ≤ 122))) ∨ (((τ.1 0 61)).toInt = 2 ∧ (((τ.1 0 60)).toInt < ((τ.1 0 58)).toInt ∧ 48 ≤ ((τ.1 37) ((τ.1 0 60)).toNatClampNeg).toInt ∧ ((τ.1 37) ((τ.1 0 60)).toNatClampNeg).toInt ≤ 57) ∧ 0 ≤ ((τ.2 0 62)).toInt)) → ((τ.1 0 58)).toInt - ((τ.1 0 60)).toInt < m → jf_X jh_M E G 1 149 [(0, jf_r E 0)] [] τ := by
    intro m
    induction m with
    | zero => intro τ z y a w g; exfalso; have := a.2.2.1; omega
    | succ m ih =>
      intro τ z y a w g
      obtain ⟨a1, a2, a3, a4⟩ := id a
      have e1 := ji_inc1 (k := (τ.1 0 60)) (by omega)
      refine jr_aload_n C dX11_next_149 rfl ?_
      refine jr_getv C kf_X11_295_0 dX11_next_150 (v := τ.1 0 61) rfl ?_
      refine jr_iconst C (v := 1) dX11_next_153 (by decide) ?_
      refine jr_ncmp_ne C (b := 1) 243 dX11_next_154 (by decide) rfl rfl (fun b154 => ?_) (fun b154 => ?_)
      · exact l243 302 τ z y a (by omega) (by omega)
      · refine jr_aload_n C dX11_next_157 rfl ?_
        refine jr_getv C kf_X11_279_0 dX11_next_158 (v := τ.1 0 60) rfl ?_
        refine jr_aload_n C dX11_next_161 rfl ?_
        refine jr_getv C kf_X11_272_0 dX11_next_162 (v := τ.1 0 58) rfl ?_
        refine jr_ncmp_ge C 243 dX11_next_165 (by decide) rfl rfl (fun b165 => ?_) (fun b165 => ?_)
        · exact l243 302 τ z y a (by omega) (by omega)
        · refine jr_aload_n C dX11_next_168 rfl ?_
          refine jr_getr C kf_X11_123_0 dX11_next_169 ?_
          refine jr_aload_n C dX11_next_172 rfl ?_
          refine jr_getv C kf_X11_279_0 dX11_next_173 (v := τ.1 0 60) rfl ?_
          refine jr_ialv C ka_M_37 dX11_next_176 (ji_in (i := (τ.1 0 60)) (by omega) (by omega)) (v := τ.1 37 _) rfl ?_
          refine jr_sip C [.int _] _ (ct_X11_isSmall E _ _) ky_X11_isSmall ks_X11_isSmall km_X11_289 (by decide) rfl (Nat.le_of_ble_eq_true rfl) dX11_next_177 ?_
          refine jr_if_eq C 243 dX11_next_180 (by decide) (fun b180 => ?_) (fun b180 => ?_)
          · replace b180 := jb_f b180
            exact l243 302 τ z y a (by omega) (by omega)
          · replace b180 := jb_t b180
            refine jr_aload_n C dX11_next_183 rfl ?_
            refine jr_aload_n C dX11_next_184 rfl ?_
            refine jr_getv C kf_X11_279_0 dX11_next_185 (v := τ.1 0 60) rfl ?_
            refine jr_aload_n C dX11_next_188 rfl ?_
            refine jr_getv C kf_X11_282_0 dX11_next_189 (v := τ.1 0 59) rfl ?_
            refine jr_isub C dX11_next_192 ?_
            refine jr_bipush C (v := 7) dX11_next_193 (by decide) ?_
            refine jr_ncmp_ge C (b := 7) 224 dX11_next_195 (by decide) rfl rfl (fun b195 => ?_) (fun b195 => ?_)
            · refine jr_ldc2 C kc_X11_302 dX11_next_224 ?_
              refine jr_putl C kp_X11_285_0 dX11_next_227 ?_
              refine jr_aload_n C dX11_next_230 rfl ?_
              refine jr_dup C dX11_next_231 rfl ?_
              refine jr_getv C kf_X11_279_0 dX11_next_232 (v := τ.1 0 60) rfl ?_
              refine jr_iconst C (v := 1) dX11_next_235 (by decide) ?_
              refine jr_iadd C dX11_next_236 ?_
              refine jr_puti C kp_X11_279_0 dX11_next_237 ?_
              refine jr_goto C 149 dX11_next_240 (by decide) ?_
              exact ih _ (mS_n_i (mS_n_l z) (by decide)) y ⟨a1, show ((τ.1 0 59)).toInt ≤ ((τ.1 0 60) + 1).toInt by omega, show ((τ.1 0 60) + 1).toInt ≤ ((τ.1 0 58)).toInt by omega, a4⟩ (Or.inr (Or.inr (Or.inl ⟨b154, Or.inl (show ((τ.1 0 59)).toInt < ((τ.1 0 60) + 1).toInt by omega)⟩))) (show ((τ.1 0 58)).toInt - ((τ.1 0 60) + 1).toInt < _ by omega)
            · refine jr_aload_n C dX11_next_198 rfl ?_
              refine jr_getl C kf_X11_285_0 dX11_next_199 ?_
              refine jr_ldc2 C kc_X11_298 dX11_next_202 ?_
              refine jr_lmul C dX11_next_205 ?_
              refine jr_aload_n C dX11_next_206 rfl ?_
              refine jr_getr C kf_X11_123_0 dX11_next_207 ?_
              refine jr_aload_n C dX11_next_210 rfl ?_
              refine jr_getv C kf_X11_279_0 dX11_next_211 (v := τ.1 0 60) rfl ?_
              refine jr_ialv C ka_M_37 dX11_next_214 (ji_in (i := (τ.1 0 60)) (by omega) (by omega)) (v := τ.1 37 _) rfl ?_
              refine jr_i2l C dX11_next_215 ?_
              refine jr_ladd C dX11_next_216 ?_
              refine jr_ldc2 C kc_X11_300 dX11_next_217 ?_
              refine jr_lsub C dX11_next_220 ?_
              refine jr_goto C 227 dX11_next_221 (by decide) ?_
              refine jr_putl C kp_X11_285_0 dX11_next_227 ?_
              refine jr_aload_n C dX11_next_230 rfl ?_
              refine jr_dup C dX11_next_231 rfl ?_
              refine jr_getv C kf_X11_279_0 dX11_next_232 (v := τ.1 0 60) rfl ?_
              refine jr_iconst C (v := 1) dX11_next_235 (by decide) ?_
              refine jr_iadd C dX11_next_236 ?_
              refine jr_puti C kp_X11_279_0 dX11_next_237 ?_
              refine jr_goto C 149 dX11_next_240 (by decide) ?_
              exact ih _ (mS_n_i (mS_n_l z) (by decide)) y ⟨a1, show ((τ.1 0 59)).toInt ≤ ((τ.1 0 60) + 1).toInt by omega, show ((τ.1 0 60) + 1).toInt ≤ ((τ.1 0 58)).toInt by omega, a4⟩ (Or.inr (Or.inr (Or.inl ⟨b154, Or.inl (show ((τ.1 0 59)).toInt < ((τ.1 0 60) + 1).toInt by omega)⟩))) (show ((τ.1 0 58)).toInt - ((τ.1 0 60) + 1).toInt < _ by omega)
  have J117 : ∀ (τ : jf_S), mS_n σ τ → ((σ.1 0 60)).toInt ≤ ((τ.1 0 59)).toInt → m_at τ → ((τ.1 0 60)).toInt = ((τ.1 0 59)).toInt → ((((τ.1 0 61)).toInt = 0 ∧ ((τ.1 0 59)).toInt = ((τ.1 0 58)).toInt) ∨ (((τ.1 0 61)).toInt = 3 ∧ ((τ.1 0 59)).toInt < ((τ.1 0 58)).toInt) ∨ (((τ.1 0 61)).toInt = 1 ∧ ((τ.1 0 60)).toInt < ((τ.1 0 58)).toInt ∧ 97 ≤ ((τ.1 37) ((τ.1 0 60)).toNatClampNeg).toInt ∧ ((τ.1 37) ((τ.1 0 60)).toNatClampNeg).toInt ≤ 122) ∨ (((τ.1 0 61)).toInt = 2 ∧ (((τ.1 0 60)).toInt < ((τ.1 0 58)).toInt ∧ 48 ≤ ((τ.1 37) ((τ.1 0 60)).toNatClampNeg).toInt ∧ ((τ.1 37) ((τ.1 0 60)).toNatClampNeg).toInt ≤ 57) ∧ 0 ≤ ((τ.2 0 62)).toInt)) → jf_X jh_M E G 1 117 [(0, jf_r E 0)] [] τ := by
    intro τ z y a q w
    obtain ⟨a1, a2, a3, a4⟩ := id a
    have e1 := ji_inc1 (k := (τ.1 0 60)) (by omega)
    refine jr_aload_n C dX11_next_117 rfl ?_
    refine jr_getv C kf_X11_295_0 dX11_next_118 (v := τ.1 0 61) rfl ?_
    refine jr_iconst C (v := 3) dX11_next_121 (by decide) ?_
    refine jr_ncmp_ne C (b := 3) 149 dX11_next_122 (by decide) rfl rfl (fun b122 => ?_) (fun b122 => ?_)
    · first | (have h9 : ¬ ((τ.1 0 61)).toInt = 3 := b122; exact l149 302 τ z y a (by omega) (by omega)) | exact l149 302 _ (mS_n_i (mS_n_l z) (by decide)) y ⟨a1, show ((τ.1 0 59)).toInt ≤ ((τ.1 0 60) + 1).toInt by omega, show ((τ.1 0 60) + 1).toInt ≤ ((τ.1 0 58)).toInt by omega, a4⟩ (Or.inr (Or.inl ⟨b122, show ((τ.1 0 59)).toInt < ((τ.1 0 60) + 1).toInt by omega⟩)) (show ((τ.1 0 58)).toInt - ((τ.1 0 60) + 1).toInt < _ by omega)
    · refine jr_aload_n C dX11_next_125 rfl ?_
      refine jr_aload_n C dX11_next_126 rfl ?_
      refine jr_getr C kf_X11_123_0 dX11_next_127 ?_
      refine jr_aload_n C dX11_next_130 rfl ?_
      refine jr_getv C kf_X11_282_0 dX11_next_131 (v := τ.1 0 59) rfl ?_
      refine jr_ialv C ka_M_37 dX11_next_134 (ji_in (i := (τ.1 0 59)) (by omega) (by omega)) (v := τ.1 37 _) rfl ?_
      refine jr_i2l C dX11_next_135 ?_
      refine jr_putl C kp_X11_285_0 dX11_next_136 ?_
      refine jr_aload_n C dX11_next_139 rfl ?_
      refine jr_dup C dX11_next_140 rfl ?_
      refine jr_getv C kf_X11_279_0 dX11_next_141 (v := τ.1 0 60) rfl ?_
      refine jr_iconst C (v := 1) dX11_next_144 (by decide) ?_
      refine jr_iadd C dX11_next_145 ?_
      refine jr_puti C kp_X11_279_0 dX11_next_146 ?_
      first | (have h9 : ¬ ((τ.1 0 61)).toInt = 3 := b122; exact l149 302 τ z y a (by omega) (by omega)) | exact l149 302 _ (mS_n_i (mS_n_l z) (by decide)) y ⟨a1, show ((τ.1 0 59)).toInt ≤ ((τ.1 0 60) + 1).toInt by omega, show ((τ.1 0 60) + 1).toInt ≤ ((τ.1 0 58)).toInt by omega, a4⟩ (Or.inr (Or.inl ⟨b122, show ((τ.1 0 59)).toInt < ((τ.1 0 60) + 1).toInt by omega⟩)) (show ((τ.1 0 58)).toInt - ((τ.1 0 60) + 1).toInt < _ by omega)
  have l8 : ∀ (m : Nat) (τ : jf_S), mS_n σ τ → ((σ.1 0 60)).toInt ≤ ((τ.1 0 59)).toInt → ((τ.1 0 59)).toInt ≤ ((τ.1 0 58)).toInt → ((τ.1 0 58)).toInt = ((σ.1 0 58)).toInt → ((τ.1 0 58)).toInt - ((τ.1 0 59)).toInt < m → jf_X jh_M E G 1 8 [(0, jf_r E 0)] [] τ := by
    intro m
    induction m with
    | zero => intro τ z y a w g; exfalso; omega
    | succ m ih =>
      intro τ z y a w g
      have e1 := ji_inc1 (k := (τ.1 0 59)) (by omega)
      refine jr_aload_n C dX11_next_8 rfl ?_
      refine jr_getv C kf_X11_282_0 dX11_next_9 (v := τ.1 0 59) rfl ?_
      refine jr_aload_n C dX11_next_12 rfl ?_
      refine jr_getv C kf_X11_272_0 dX11_next_13 (v := τ.1 0 58) rfl ?_
      refine jr_ncmp_ge C 46 dX11_next_16 (by decide) rfl rfl (fun b16 => ?_) (fun b16 => ?_)
      · refine jr_aload_n C dX11_next_46 rfl ?_
        refine jr_aload_n C dX11_next_47 rfl ?_
        refine jr_getv C kf_X11_282_0 dX11_next_48 (v := τ.1 0 59) rfl ?_
        refine jr_puti C kp_X11_279_0 dX11_next_51 ?_
        refine jr_aload_n C dX11_next_54 rfl ?_
        refine jr_lconst C (v := 0) dX11_next_55 (by decide) ?_
        refine jr_putl C kp_X11_285_0 dX11_next_56 ?_
        refine jr_aload_n C dX11_next_59 rfl ?_
        refine jr_aload_n C dX11_next_60 rfl ?_
        refine jr_getv C kf_X11_282_0 dX11_next_61 (v := τ.1 0 59) rfl ?_
        refine jr_aload_n C dX11_next_64 rfl ?_
        refine jr_getv C kf_X11_272_0 dX11_next_65 (v := τ.1 0 58) rfl ?_
        refine jr_ncmp_ne C 75 dX11_next_68 (by decide) rfl rfl (fun b68 => ?_) (fun b68 => ?_)
        · refine jr_aload_n C dX11_next_75 rfl ?_
          refine jr_getr C kf_X11_123_0 dX11_next_76 ?_
          refine jr_aload_n C dX11_next_79 rfl ?_
          refine jr_getv C kf_X11_282_0 dX11_next_80 (v := τ.1 0 59) rfl ?_
          refine jr_ialv C ka_M_37 dX11_next_83 (ji_in (i := (τ.1 0 59)) (by omega) (by omega)) (v := τ.1 37 _) rfl ?_
          refine jr_sip C [.int _] _ (ct_X11_isSmall E _ _) ky_X11_isSmall ks_X11_isSmall km_X11_289 (by decide) rfl (Nat.le_of_ble_eq_true rfl) dX11_next_84 ?_
          refine jr_if_eq C 94 dX11_next_87 (by decide) (fun b87 => ?_) (fun b87 => ?_)
          · replace b87 := jb_f b87
            refine jr_aload_n C dX11_next_94 rfl ?_
            refine jr_getr C kf_X11_123_0 dX11_next_95 ?_
            refine jr_aload_n C dX11_next_98 rfl ?_
            refine jr_getv C kf_X11_282_0 dX11_next_99 (v := τ.1 0 59) rfl ?_
            refine jr_ialv C ka_M_37 dX11_next_102 (ji_in (i := (τ.1 0 59)) (by omega) (by omega)) (v := τ.1 37 _) rfl ?_
            refine jr_sip C [.int _] _ (ct_X11_isDigit E _ _) ky_X11_isDigit ks_X11_isDigit km_X11_292 (by decide) rfl (Nat.le_of_ble_eq_true rfl) dX11_next_103 ?_
            refine jr_if_eq C 113 dX11_next_106 (by decide) (fun b106 => ?_) (fun b106 => ?_)
            · replace b106 := jb_f b106
              refine jr_iconst C (v := 3) dX11_next_113 (by decide) ?_
              refine jr_puti C kp_X11_295_0 dX11_next_114 ?_
              exact J117 _ (mS_n_i (mS_n_l (mS_n_i z (by decide))) (by decide)) y ⟨show 0 ≤ ((τ.1 0 59)).toInt by omega, Int.le_refl _, a, show ((τ.1 0 58)).toInt ≤ 300 by omega⟩ rfl (by first | exact Or.inl ⟨rfl, b68⟩ | exact Or.inr (Or.inr (Or.inl ⟨rfl, show ((τ.1 0 59)).toInt < ((τ.1 0 58)).toInt by omega, b87⟩)) | exact Or.inr (Or.inr (Or.inr ⟨rfl, ⟨show ((τ.1 0 59)).toInt < ((τ.1 0 58)).toInt by omega, b106⟩, Int.le_refl _⟩)) | exact Or.inr (Or.inl ⟨rfl, show ((τ.1 0 59)).toInt < ((τ.1 0 58)).toInt by omega⟩))
            · replace b106 := jb_t b106
              refine jr_iconst C (v := 2) dX11_next_109 (by decide) ?_
              refine jr_goto C 114 dX11_next_110 (by decide) ?_
              refine jr_puti C kp_X11_295_0 dX11_next_114 ?_
              exact J117 _ (mS_n_i (mS_n_l (mS_n_i z (by decide))) (by decide)) y ⟨show 0 ≤ ((τ.1 0 59)).toInt by omega, Int.le_refl _, a, show ((τ.1 0 58)).toInt ≤ 300 by omega⟩ rfl (by first | exact Or.inl ⟨rfl, b68⟩ | exact Or.inr (Or.inr (Or.inl ⟨rfl, show ((τ.1 0 59)).toInt < ((τ.1 0 58)).toInt by omega, b87⟩)) | exact Or.inr (Or.inr (Or.inr ⟨rfl, ⟨show ((τ.1 0 59)).toInt < ((τ.1 0 58)).toInt by omega, b106⟩, Int.le_refl _⟩)) | exact Or.inr (Or.inl ⟨rfl, show ((τ.1 0 59)).toInt < ((τ.1 0 58)).toInt by omega⟩))
          · replace b87 := jb_t b87
            refine jr_iconst C (v := 1) dX11_next_90 (by decide) ?_
            refine jr_goto C 114 dX11_next_91 (by decide) ?_
            refine jr_puti C kp_X11_295_0 dX11_next_114 ?_
            exact J117 _ (mS_n_i (mS_n_l (mS_n_i z (by decide))) (by decide)) y ⟨show 0 ≤ ((τ.1 0 59)).toInt by omega, Int.le_refl _, a, show ((τ.1 0 58)).toInt ≤ 300 by omega⟩ rfl (by first | exact Or.inl ⟨rfl, b68⟩ | exact Or.inr (Or.inr (Or.inl ⟨rfl, show ((τ.1 0 59)).toInt < ((τ.1 0 58)).toInt by omega, b87⟩)) | exact Or.inr (Or.inr (Or.inr ⟨rfl, ⟨show ((τ.1 0 59)).toInt < ((τ.1 0 58)).toInt by omega, b106⟩, Int.le_refl _⟩)) | exact Or.inr (Or.inl ⟨rfl, show ((τ.1 0 59)).toInt < ((τ.1 0 58)).toInt by omega⟩))
        · refine jr_iconst C (v := 0) dX11_next_71 (by decide) ?_
          refine jr_goto C 114 dX11_next_72 (by decide) ?_
          refine jr_puti C kp_X11_295_0 dX11_next_114 ?_
          exact J117 _ (mS_n_i (mS_n_l (mS_n_i z (by decide))) (by decide)) y ⟨show 0 ≤ ((τ.1 0 59)).toInt by omega, Int.le_refl _, a, show ((τ.1 0 58)).toInt ≤ 300 by omega⟩ rfl (by first | exact Or.inl ⟨rfl, b68⟩ | exact Or.inr (Or.inr (Or.inl ⟨rfl, show ((τ.1 0 59)).toInt < ((τ.1 0 58)).toInt by omega, b87⟩)) | exact Or.inr (Or.inr (Or.inr ⟨rfl, ⟨show ((τ.1 0 59)).toInt < ((τ.1 0 58)).toInt by omega, b106⟩, Int.le_refl _⟩)) | exact Or.inr (Or.inl ⟨rfl, show ((τ.1 0 59)).toInt < ((τ.1 0 58)).toInt by omega⟩))
      · refine jr_aload_n C dX11_next_19 rfl ?_
        refine jr_getr C kf_X11_123_0 dX11_next_20 ?_
        refine jr_aload_n C dX11_next_23 rfl ?_
        refine jr_getv C kf_X11_282_0 dX11_next_24 (v := τ.1 0 59) rfl ?_
        refine jr_ialv C ka_M_37 dX11_next_27 (ji_in (i := (τ.1 0 59)) (by omega) (by omega)) (v := τ.1 37 _) rfl ?_
        refine jr_bipush C (v := 32) dX11_next_28 (by decide) ?_
        refine jr_ncmp_ne C (b := 32) 46 dX11_next_30 (by decide) rfl rfl (fun b30 => ?_) (fun b30 => ?_)
        · refine jr_aload_n C dX11_next_46 rfl ?_
          refine jr_aload_n C dX11_next_47 rfl ?_
          refine jr_getv C kf_X11_282_0 dX11_next_48 (v := τ.1 0 59) rfl ?_
          refine jr_puti C kp_X11_279_0 dX11_next_51 ?_
          refine jr_aload_n C dX11_next_54 rfl ?_
          refine jr_lconst C (v := 0) dX11_next_55 (by decide) ?_
          refine jr_putl C kp_X11_285_0 dX11_next_56 ?_
          refine jr_aload_n C dX11_next_59 rfl ?_
          refine jr_aload_n C dX11_next_60 rfl ?_
          refine jr_getv C kf_X11_282_0 dX11_next_61 (v := τ.1 0 59) rfl ?_
          refine jr_aload_n C dX11_next_64 rfl ?_
          refine jr_getv C kf_X11_272_0 dX11_next_65 (v := τ.1 0 58) rfl ?_
          refine jr_ncmp_ne C 75 dX11_next_68 (by decide) rfl rfl (fun b68 => ?_) (fun b68 => ?_)
          · refine jr_aload_n C dX11_next_75 rfl ?_
            refine jr_getr C kf_X11_123_0 dX11_next_76 ?_
            refine jr_aload_n C dX11_next_79 rfl ?_
            refine jr_getv C kf_X11_282_0 dX11_next_80 (v := τ.1 0 59) rfl ?_
            refine jr_ialv C ka_M_37 dX11_next_83 (ji_in (i := (τ.1 0 59)) (by omega) (by omega)) (v := τ.1 37 _) rfl ?_
            refine jr_sip C [.int _] _ (ct_X11_isSmall E _ _) ky_X11_isSmall ks_X11_isSmall km_X11_289 (by decide) rfl (Nat.le_of_ble_eq_true rfl) dX11_next_84 ?_
            refine jr_if_eq C 94 dX11_next_87 (by decide) (fun b87 => ?_) (fun b87 => ?_)
            · replace b87 := jb_f b87
              refine jr_aload_n C dX11_next_94 rfl ?_
              refine jr_getr C kf_X11_123_0 dX11_next_95 ?_
              refine jr_aload_n C dX11_next_98 rfl ?_
              refine jr_getv C kf_X11_282_0 dX11_next_99 (v := τ.1 0 59) rfl ?_
              refine jr_ialv C ka_M_37 dX11_next_102 (ji_in (i := (τ.1 0 59)) (by omega) (by omega)) (v := τ.1 37 _) rfl ?_
              refine jr_sip C [.int _] _ (ct_X11_isDigit E _ _) ky_X11_isDigit ks_X11_isDigit km_X11_292 (by decide) rfl (Nat.le_of_ble_eq_true rfl) dX11_next_103 ?_
              refine jr_if_eq C 113 dX11_next_106 (by decide) (fun b106 => ?_) (fun b106 => ?_)
              · replace b106 := jb_f b106
                refine jr_iconst C (v := 3) dX11_next_113 (by decide) ?_
                refine jr_puti C kp_X11_295_0 dX11_next_114 ?_
                exact J117 _ (mS_n_i (mS_n_l (mS_n_i z (by decide))) (by decide)) y ⟨show 0 ≤ ((τ.1 0 59)).toInt by omega, Int.le_refl _, a, show ((τ.1 0 58)).toInt ≤ 300 by omega⟩ rfl (by first | exact Or.inl ⟨rfl, b68⟩ | exact Or.inr (Or.inr (Or.inl ⟨rfl, show ((τ.1 0 59)).toInt < ((τ.1 0 58)).toInt by omega, b87⟩)) | exact Or.inr (Or.inr (Or.inr ⟨rfl, ⟨show ((τ.1 0 59)).toInt < ((τ.1 0 58)).toInt by omega, b106⟩, Int.le_refl _⟩)) | exact Or.inr (Or.inl ⟨rfl, show ((τ.1 0 59)).toInt < ((τ.1 0 58)).toInt by omega⟩))
              · replace b106 := jb_t b106
                refine jr_iconst C (v := 2) dX11_next_109 (by decide) ?_
                refine jr_goto C 114 dX11_next_110 (by decide) ?_
                refine jr_puti C kp_X11_295_0 dX11_next_114 ?_
                exact J117 _ (mS_n_i (mS_n_l (mS_n_i z (by decide))) (by decide)) y ⟨show 0 ≤ ((τ.1 0 59)).toInt by omega, Int.le_refl _, a, show ((τ.1 0 58)).toInt ≤ 300 by omega⟩ rfl (by first | exact Or.inl ⟨rfl, b68⟩ | exact Or.inr (Or.inr (Or.inl ⟨rfl, show ((τ.1 0 59)).toInt < ((τ.1 0 58)).toInt by omega, b87⟩)) | exact Or.inr (Or.inr (Or.inr ⟨rfl, ⟨show ((τ.1 0 59)).toInt < ((τ.1 0 58)).toInt by omega, b106⟩, Int.le_refl _⟩)) | exact Or.inr (Or.inl ⟨rfl, show ((τ.1 0 59)).toInt < ((τ.1 0 58)).toInt by omega⟩))
            · replace b87 := jb_t b87
              refine jr_iconst C (v := 1) dX11_next_90 (by decide) ?_
              refine jr_goto C 114 dX11_next_91 (by decide) ?_
              refine jr_puti C kp_X11_295_0 dX11_next_114 ?_
              exact J117 _ (mS_n_i (mS_n_l (mS_n_i z (by decide))) (by decide)) y ⟨show 0 ≤ ((τ.1 0 59)).toInt by omega, Int.le_refl _, a, show ((τ.1 0 58)).toInt ≤ 300 by omega⟩ rfl (by first | exact Or.inl ⟨rfl, b68⟩ | exact Or.inr (Or.inr (Or.inl ⟨rfl, show ((τ.1 0 59)).toInt < ((τ.1 0 58)).toInt by omega, b87⟩)) | exact Or.inr (Or.inr (Or.inr ⟨rfl, ⟨show ((τ.1 0 59)).toInt < ((τ.1 0 58)).toInt by omega, b106⟩, Int.le_refl _⟩)) | exact Or.inr (Or.inl ⟨rfl, show ((τ.1 0 59)).toInt < ((τ.1 0 58)).toInt by omega⟩))
          · refine jr_iconst C (v := 0) dX11_next_71 (by decide) ?_
            refine jr_goto C 114 dX11_next_72 (by decide) ?_
            refine jr_puti C kp_X11_295_0 dX11_next_114 ?_
            exact J117 _ (mS_n_i (mS_n_l (mS_n_i z (by decide))) (by decide)) y ⟨show 0 ≤ ((τ.1 0 59)).toInt by omega, Int.le_refl _, a, show ((τ.1 0 58)).toInt ≤ 300 by omega⟩ rfl (by first | exact Or.inl ⟨rfl, b68⟩ | exact Or.inr (Or.inr (Or.inl ⟨rfl, show ((τ.1 0 59)).toInt < ((τ.1 0 58)).toInt by omega, b87⟩)) | exact Or.inr (Or.inr (Or.inr ⟨rfl, ⟨show ((τ.1 0 59)).toInt < ((τ.1 0 58)).toInt by omega, b106⟩, Int.le_refl _⟩)) | exact Or.inr (Or.inl ⟨rfl, show ((τ.1 0 59)).toInt < ((τ.1 0 58)).toInt by omega⟩))
        · refine jr_aload_n C dX11_next_33 rfl ?_
          refine jr_dup C dX11_next_34 rfl ?_
          refine jr_getv C kf_X11_282_0 dX11_next_35 (v := τ.1 0 59) rfl ?_
          refine jr_iconst C (v := 1) dX11_next_38 (by decide) ?_
          refine jr_iadd C dX11_next_39 ?_
          refine jr_puti C kp_X11_282_0 dX11_next_40 ?_
          refine jr_goto C 8 dX11_next_43 (by decide) ?_
          exact ih _ (mS_n_i z (by decide)) (show ((σ.1 0 60)).toInt ≤ ((τ.1 0 59) + 1).toInt by omega) (show ((τ.1 0 59) + 1).toInt ≤ ((τ.1 0 58)).toInt by omega) w (show ((τ.1 0 58)).toInt - ((τ.1 0 59) + 1).toInt < _ by omega)
  refine jr_aload_n C dX11_next_0 rfl ?_
  refine jr_aload_n C dX11_next_1 rfl ?_
  refine jr_getv C kf_X11_279_0 dX11_next_2 (v := σ.1 0 60) rfl ?_
  refine jr_puti C kp_X11_282_0 dX11_next_5 ?_
  exact l8 302 _ (mS_n_i (mS_n_r σ) (by decide)) (Int.le_refl _) h0.2.1 rfl (show ((σ.1 0 58)).toInt - ((σ.1 0 60)).toInt < 302 by omega)

