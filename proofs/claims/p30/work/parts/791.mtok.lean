/-! the reference: tokens exactly -/
/-- the token at f is at hand -/
def m_tk (a : Nat → Int32) (n : Nat) (τ : jf_S) (f : Nat) : Prop := ((τ.1 37) = a ∧ ((τ.1 0 58)).toInt = (n : Int) ∧ n ≤ 300 ∧ (τ.1 0 63) = -1) ∧ f ≤ n ∧ ((τ.1 0 59)).toInt = (f : Int) ∧ ((τ.1 0 60)).toInt = (tk_t a n f : Int) ∧ ((τ.1 0 61)).toInt = tk_k a n f ∧ ((τ.2 0 62)).toInt = tk_v a n f
theorem m_ww {w : Int64} {x : Int32} {v : Int} (h0 : w.toInt = v) (h1 : 0 ≤ v ∧ v < 34359738368) (h2 : 97 ≤ x.toInt ∧ x.toInt ≤ 122) : (w * 32 + x.toInt64 - 96).toInt = v * 32 + x.toInt - 96 := by
  have e0 : (32 : Int64).toInt = 32 := rfl
  have e9 : (96 : Int64).toInt = 96 := rfl
  have e1 : (w * 32).toInt = w.toInt * 32 := by rw [fb_mulL, e0] <;> rw [e0] <;> omega
  have e2 : (w * 32 + x.toInt64).toInt = w.toInt * 32 + x.toInt := by rw [fb_addL, e1, jl_w] <;> rw [e1, jl_w] <;> omega
  have e3 : (w * 32 + x.toInt64 - 96).toInt = w.toInt * 32 + x.toInt - 96 := by rw [fb_subL, e2, e9] <;> rw [e2, e9] <;> omega
  omega
theorem m_wd {w : Int64} {x : Int32} {v : Int} (h0 : w.toInt = v) (h1 : 0 ≤ v ∧ v ≤ 1000) (h2 : 48 ≤ x.toInt ∧ x.toInt ≤ 57) : (w * 10 + x.toInt64 - 48).toInt = v * 10 + x.toInt - 48 := by
  have e0 : (10 : Int64).toInt = 10 := rfl
  have e9 : (48 : Int64).toInt = 48 := rfl
  have e1 : (w * 10).toInt = w.toInt * 10 := by rw [fb_mulL, e0] <;> rw [e0] <;> omega
  have e2 : (w * 10 + x.toInt64).toInt = w.toInt * 10 + x.toInt := by rw [fb_addL, e1, jl_w] <;> rw [e1, jl_w] <;> omega
  have e3 : (w * 10 + x.toInt64 - 48).toInt = w.toInt * 10 + x.toInt - 48 := by rw [fb_subL, e2, e9] <;> rw [e2, e9] <;> omega
  omega
theorem tk_k1 {a : Nat → Int32} {n f : Nat} (h : tk_k a n f = 1) : f < n ∧ tk_S (a f).toInt = true := by
  unfold tk_k at h
  split at h
  · rename_i h1
    split at h
    · rename_i h2; exact ⟨h1, h2⟩
    · split at h <;> omega
  · omega
theorem tk_k2 {a : Nat → Int32} {n f : Nat} (h : tk_k a n f = 2) : f < n ∧ ¬ tk_S (a f).toInt = true ∧ tk_D (a f).toInt = true := by
  unfold tk_k at h
  split at h
  · rename_i h1
    split at h
    · omega
    · rename_i h2
      split at h
      · rename_i h3; exact ⟨h1, h2, h3⟩
      · omega
  · omega
theorem tk_k3 {a : Nat → Int32} {n f : Nat} (h : tk_k a n f = 3) : f < n ∧ ¬ tk_S (a f).toInt = true ∧ ¬ tk_D (a f).toInt = true := by
  unfold tk_k at h
  split at h
  · rename_i h1
    split at h
    · omega
    · rename_i h2
      split at h
      · omega
      · rename_i h3; exact ⟨h1, h2, h3⟩
  · omega
theorem tk_k0 {a : Nat → Int32} {n f : Nat} (h : tk_k a n f = 0) : ¬ f < n := by
  unfold tk_k at h
  split at h
  · split at h
    · omega
    · split at h <;> omega
  · assumption
theorem tk_k_c (a : Nat → Int32) (n f : Nat) : tk_k a n f = 0 ∨ tk_k a n f = 1 ∨ tk_k a n f = 2 ∨ tk_k a n f = 3 := by
  unfold tk_k; (repeat' split) <;> omega
theorem ct_X11_next2 (E : jf_E) (σ : jf_S) (a : Nat → Int32) (n t : Nat) (ha : (σ.1 37) = a) (hn : ((σ.1 0 58)).toInt = (n : Int)) (h3 : n ≤ 300) (hf : (σ.1 0 63) = -1) (ht : ((σ.1 0 60)).toInt = (t : Int)) (h4 : t ≤ n) : jf_V jh_M E yX11_next cX11_next 1 1 [jf_r E 0] σ (fun τ => mS_n σ τ ∧ m_tk a n τ (tk_a a n t)) := by
  refine jf_mkV (by decide) (Nat.le_of_ble_eq_true rfl) ?_
  intro G C ret
  have ok := tk_a_ok (a := a) h4
  have tok := tk_t_ok (a := a) ok.2
  have fr : ∀ τ : jf_S, mS_n σ τ → (τ.1 37) = a ∧ ((τ.1 0 58)).toInt = (n : Int) ∧ (τ.1 0 63) = -1 := fun τ z => ⟨(z.1 37 (by decide)).trans ha, (by rw [show (τ.1 0 58) = (σ.1 0 58) from z.2 58 (by decide) (by decide) (by decide)]; exact hn), (z.2 63 (by decide) (by decide) (by decide)).trans hf⟩
  have l243 : ∀ (m : Nat) (τ : jf_S) (e : Nat), mS_n σ τ → ((τ.1 0 59)).toInt = (tk_a a n t : Int) → ((τ.1 0 60)).toInt = (e : Int) → tk_a a n t ≤ e → e ≤ n → ((τ.1 0 61)).toInt = tk_k a n (tk_a a n t) → (tk_k a n (tk_a a n t) = 2 → tk_end tk_D a n e = tk_t a n (tk_a a n t) ∧ ((τ.2 0 62)).toInt = tk_n a (tk_a a n t) (e - tk_a a n t) ∧ ∀ i, i < e - tk_a a n t → 48 ≤ (a (tk_a a n t + i)).toInt ∧ (a (tk_a a n t + i)).toInt ≤ 57) → (tk_k a n (tk_a a n t) ≠ 2 → e = tk_t a n (tk_a a n t) ∧ ((τ.2 0 62)).toInt = tk_v a n (tk_a a n t)) → n - e < m → jf_X jh_M E G 1 243 [(0, jf_r E 0)] [] τ := by
    intro m
    induction m with
    | zero => intro τ e z y1 y2 y3 y4 y5 d1 d2 g; exfalso; omega
    | succ m ih =>
      intro τ e z y1 y2 y3 y4 y5 d1 d2 g
      obtain ⟨f1, f2, f4⟩ := fr τ z
      have e1 := ji_inc1 (k := (τ.1 0 60)) (by omega)
      have cl : ((τ.1 0 60)).toNatClampNeg = e := ji_cl y2
      have fin1 : tk_k a n (tk_a a n t) ≠ 2 → mS_n σ τ ∧ m_tk a n τ (tk_a a n t) := fun h => ⟨z, ⟨f1, f2, h3, f4⟩, ok.2, y1, by rw [y2, (d2 h).1], y5, (d2 h).2⟩
      have fin2 : tk_k a n (tk_a a n t) = 2 → ¬ (e < n ∧ tk_D (a e).toInt = true) → mS_n σ τ ∧ m_tk a n τ (tk_a a n t) := by
        intro h q
        obtain ⟨w1, w2, w3⟩ := d1 h
        have k2 := tk_k2 h
        rw [tk_end_n q] at w1
        refine ⟨z, ⟨f1, f2, h3, f4⟩, ok.2, y1, by rw [y2, w1], y5, ?_⟩
        unfold tk_v
        rw [if_pos k2.1, if_neg k2.2.1, if_pos k2.2.2, ← w1]
        exact w2
      have go : ∀ (w : Int64), tk_k a n (tk_a a n t) = 2 → e < n → (48 ≤ (a e).toInt ∧ (a e).toInt ≤ 57) → w.toInt = tk_n a (tk_a a n t) (e + 1 - tk_a a n t) → jf_X jh_M E G 1 243 [(0, jf_r E 0)] [] (jf_i (jf_l τ 0 62 w) 0 60 ((τ.1 0 60) + 1)) := by
        intro w h h5 h6 h7
        obtain ⟨w1, w2, w3⟩ := d1 h
        refine ih _ (e + 1) (mS_n_i (mS_n_l z) (by decide)) y1 (show ((τ.1 0 60) + 1).toInt = _ by omega) (by omega) (by omega) y5 (fun _ => ⟨?_, h7, fun i hi => ?_⟩) (fun q => absurd h q) (by omega)
        · rw [← tk_end_y h5 (tk_D_i.mpr h6)]; exact w1
        · by_cases c : i = e - tk_a a n t
          · rw [c, show tk_a a n t + (e - tk_a a n t) = e by omega]; exact h6
          · exact w3 i (by omega)
      have st : tk_n a (tk_a a n t) (e + 1 - tk_a a n t) = if 1000 < tk_n a (tk_a a n t) (e - tk_a a n t) then tk_n a (tk_a a n t) (e - tk_a a n t) else tk_n a (tk_a a n t) (e - tk_a a n t) * 10 + (a e).toInt - 48 := by
        rw [show e + 1 - tk_a a n t = (e - tk_a a n t) + 1 by omega]
        show (if 1000 < tk_n a (tk_a a n t) (e - tk_a a n t) then tk_n a (tk_a a n t) (e - tk_a a n t) else tk_n a (tk_a a n t) (e - tk_a a n t) * 10 + (a (tk_a a n t + (e - tk_a a n t))).toInt - 48) = _
        rw [show tk_a a n t + (e - tk_a a n t) = e by omega]
      refine jr_aload_n C dX11_next_243 rfl ?_
      refine jr_getv C kf_X11_295_0 dX11_next_244 (v := τ.1 0 61) rfl ?_
      refine jr_iconst C (v := 2) dX11_next_247 (by decide) ?_
      refine jr_ncmp_ne C (b := 2) 335 dX11_next_248 (by decide) rfl rfl (fun b248 => ?_) (fun b248 => ?_)
      · rw [y5] at b248
        exact ret _ _ _ dX11_next_335 (by first | exact fin1 b248 | exact fin2 b248 (fun q => by have := tk_D_i.mp q.2; omega))
      · rw [y5] at b248
        refine jr_aload_n C dX11_next_251 rfl ?_
        refine jr_getv C kf_X11_279_0 dX11_next_252 (v := τ.1 0 60) rfl ?_
        refine jr_aload_n C dX11_next_255 rfl ?_
        refine jr_getv C kf_X11_272_0 dX11_next_256 (v := τ.1 0 58) rfl ?_
        refine jr_ncmp_ge C 335 dX11_next_259 (by decide) rfl rfl (fun b259 => ?_) (fun b259 => ?_)
        · exact ret _ _ _ dX11_next_335 (by first | exact fin1 b248 | exact fin2 b248 (fun q => by have := tk_D_i.mp q.2; omega))
        · refine jr_aload_n C dX11_next_262 rfl ?_
          refine jr_getr C kf_X11_123_0 dX11_next_263 ?_
          refine jr_aload_n C dX11_next_266 rfl ?_
          refine jr_getv C kf_X11_279_0 dX11_next_267 (v := τ.1 0 60) rfl ?_
          refine jr_ialv C ka_M_37 dX11_next_270 (ji_in (i := (τ.1 0 60)) (by omega) (by omega)) (v := τ.1 37 _) rfl ?_
          refine jr_sip C [.int _] _ (ct_X11_isDigit E _ _) ky_X11_isDigit ks_X11_isDigit km_X11_292 (by decide) rfl (Nat.le_of_ble_eq_true rfl) dX11_next_271 ?_
          refine jr_if_eq C 335 dX11_next_274 (by decide) (fun b274 => ?_) (fun b274 => ?_)
          · replace b274 := jb_f b274
            rw [f1, cl] at b274
            exact ret _ _ _ dX11_next_335 (by first | exact fin1 b248 | exact fin2 b248 (fun q => by have := tk_D_i.mp q.2; omega))
          · replace b274 := jb_t b274
            rw [f1, cl] at b274
            refine jr_aload_n C dX11_next_277 rfl ?_
            refine jr_aload_n C dX11_next_278 rfl ?_
            refine jr_getl C kf_X11_285_0 dX11_next_279 ?_
            refine jr_ldc2 C kc_X11_181 dX11_next_282 ?_
            refine jr_lcmp C dX11_next_285 ?_
            refine jr_nif_le C 296 dX11_next_286 (by decide) (fun b286 => ?_) (fun b286 => ?_)
            · rw [jl_cle, (d1 b248).2.1] at b286; have k0 : (1000 : Int64).toInt = 1000 := rfl
              refine jr_aload_n C dX11_next_296 rfl ?_
              refine jr_getl C kf_X11_285_0 dX11_next_297 ?_
              refine jr_ldc2 C kc_X11_249 dX11_next_300 ?_
              refine jr_lmul C dX11_next_303 ?_
              refine jr_aload_n C dX11_next_304 rfl ?_
              refine jr_getr C kf_X11_123_0 dX11_next_305 ?_
              refine jr_aload_n C dX11_next_308 rfl ?_
              refine jr_getv C kf_X11_279_0 dX11_next_309 (v := τ.1 0 60) rfl ?_
              refine jr_ialv C ka_M_37 dX11_next_312 (ji_in (i := (τ.1 0 60)) (by omega) (by omega)) (v := τ.1 37 _) rfl ?_
              refine jr_i2l C dX11_next_313 ?_
              refine jr_ladd C dX11_next_314 ?_
              refine jr_ldc2 C kc_X11_304 dX11_next_315 ?_
              refine jr_lsub C dX11_next_318 ?_
              refine jr_putl C kp_X11_285_0 dX11_next_319 ?_
              refine jr_aload_n C dX11_next_322 rfl ?_
              refine jr_dup C dX11_next_323 rfl ?_
              refine jr_getv C kf_X11_279_0 dX11_next_324 (v := τ.1 0 60) rfl ?_
              refine jr_iconst C (v := 1) dX11_next_327 (by decide) ?_
              refine jr_iadd C dX11_next_328 ?_
              refine jr_puti C kp_X11_279_0 dX11_next_329 ?_
              refine jr_goto C 243 dX11_next_332 (by decide) ?_
              first | (have h9 : ¬ tk_n a (tk_a a n t) (e - tk_a a n t) ≤ (1000 : Int64).toInt := b286; exact go _ b248 (by omega) b274 (by rw [(d1 b248).2.1, st, if_pos (by omega)])) | exact go _ b248 (by omega) b274 (by rw [st, if_neg (by omega), f1, cl]; exact m_wd (d1 b248).2.1 ⟨(tk_n_b (d1 b248).2.2).1, by omega⟩ b274)
            · rw [jl_cle, (d1 b248).2.1] at b286; have k0 : (1000 : Int64).toInt = 1000 := rfl
              refine jr_aload_n C dX11_next_289 rfl ?_
              refine jr_getl C kf_X11_285_0 dX11_next_290 ?_
              refine jr_goto C 319 dX11_next_293 (by decide) ?_
              refine jr_putl C kp_X11_285_0 dX11_next_319 ?_
              refine jr_aload_n C dX11_next_322 rfl ?_
              refine jr_dup C dX11_next_323 rfl ?_
              refine jr_getv C kf_X11_279_0 dX11_next_324 (v := τ.1 0 60) rfl ?_
              refine jr_iconst C (v := 1) dX11_next_327 (by decide) ?_
              refine jr_iadd C dX11_next_328 ?_
              refine jr_puti C kp_X11_279_0 dX11_next_329 ?_
              refine jr_goto C 243 dX11_next_332 (by decide) ?_
              first | (have h9 : ¬ tk_n a (tk_a a n t) (e - tk_a a n t) ≤ (1000 : Int64).toInt := b286; exact go _ b248 (by omega) b274 (by rw [(d1 b248).2.1, st, if_pos (by omega)])) | exact go _ b248 (by omega) b274 (by rw [st, if_neg (by omega), f1, cl]; exact m_wd (d1 b248).2.1 ⟨(tk_n_b (d1 b248).2.2).1, by omega⟩ b274)
  have l149 : ∀ (m : Nat) (τ : jf_S) (e : Nat), mS_n σ τ → ((τ.1 0 59)).toInt = (tk_a a n t : Int) → ((τ.1 0 60)).toInt = (e : Int) → tk_a a n t ≤ e → e ≤ n → ((τ.1 0 61)).toInt = tk_k a n (tk_a a n t) → (tk_k a n (tk_a a n t) = 1 → tk_end tk_S a n e = tk_t a n (tk_a a n t) ∧ ((τ.2 0 62)).toInt = (if e - tk_a a n t ≤ 7 then tk_w a (tk_a a n t) (e - tk_a a n t) else -1) ∧ ∀ i, i < e - tk_a a n t → 97 ≤ (a (tk_a a n t + i)).toInt ∧ (a (tk_a a n t + i)).toInt ≤ 122) → (tk_k a n (tk_a a n t) = 2 → e = tk_a a n t ∧ ((τ.2 0 62)).toInt = 0) → (tk_k a n (tk_a a n t) ≠ 1 → tk_k a n (tk_a a n t) ≠ 2 → e = tk_t a n (tk_a a n t) ∧ ((τ.2 0 62)).toInt = tk_v a n (tk_a a n t)) → n - e < m → jf_X jh_M E G 1 149 [(0, jf_r E 0)] [] τ := by
    intro m
    induction m with
    | zero => intro τ e z y1 y2 y3 y4 y5 d1 d2 d3 g; exfalso; omega
    | succ m ih =>
      intro τ e z y1 y2 y3 y4 y5 d1 d2 d3 g
      obtain ⟨f1, f2, f4⟩ := fr τ z
      have e1 := ji_inc1 (k := (τ.1 0 60)) (by omega)
      have es : ((τ.1 0 60) - (τ.1 0 59)).toInt = (e : Int) - (tk_a a n t : Int) := by rw [fb_subI (by omega) (by omega), y1, y2]
      have cl : ((τ.1 0 60)).toNatClampNeg = e := ji_cl y2
      have fin : (tk_k a n (tk_a a n t) = 1 → ¬ (e < n ∧ tk_S (a e).toInt = true)) → jf_X jh_M E G 1 243 [(0, jf_r E 0)] [] τ := by
        intro q
        refine l243 (n + 1) τ e z y1 y2 y3 y4 y5 (fun h => ?_) (fun h => ?_) (by omega)
        · obtain ⟨w1, w2⟩ := d2 h
          have k2 := tk_k2 h
          refine ⟨?_, by rw [w2, w1, Nat.sub_self]; rfl, fun i hi => by omega⟩
          rw [w1]; unfold tk_t; rw [if_pos k2.1, if_neg k2.2.1, if_pos k2.2.2]
        · by_cases c : tk_k a n (tk_a a n t) = 1
          · obtain ⟨w1, w2, w3⟩ := d1 c
            have k1 := tk_k1 c
            rw [tk_end_n (q c)] at w1
            refine ⟨w1, ?_⟩
            unfold tk_v
            rw [if_pos k1.1, if_pos k1.2, ← w1]
            exact w2
          · exact d3 c h
      have go : ∀ (w : Int64), tk_k a n (tk_a a n t) = 1 → e < n → (97 ≤ (a e).toInt ∧ (a e).toInt ≤ 122) → w.toInt = (if e + 1 - tk_a a n t ≤ 7 then tk_w a (tk_a a n t) (e + 1 - tk_a a n t) else -1) → jf_X jh_M E G 1 149 [(0, jf_r E 0)] [] (jf_i (jf_l τ 0 62 w) 0 60 ((τ.1 0 60) + 1)) := by
        intro w h h5 h6 h7
        obtain ⟨w1, w2, w3⟩ := d1 h
        refine ih _ (e + 1) (mS_n_i (mS_n_l z) (by decide)) y1 (show ((τ.1 0 60) + 1).toInt = _ by omega) (by omega) (by omega) y5 (fun _ => ⟨?_, h7, fun i hi => ?_⟩) (fun q => by omega) (fun q => absurd h q) (by omega)
        · rw [← tk_end_y h5 (tk_S_i.mpr h6)]; exact w1
        · by_cases c : i = e - tk_a a n t
          · rw [c, show tk_a a n t + (e - tk_a a n t) = e by omega]; exact h6
          · exact w3 i (by omega)
      have st : tk_w a (tk_a a n t) (e + 1 - tk_a a n t) = tk_w a (tk_a a n t) (e - tk_a a n t) * 32 + (a e).toInt - 96 := by
        rw [show e + 1 - tk_a a n t = (e - tk_a a n t) + 1 by omega]
        show tk_w a (tk_a a n t) (e - tk_a a n t) * 32 + (a (tk_a a n t + (e - tk_a a n t))).toInt - 96 = _
        rw [show tk_a a n t + (e - tk_a a n t) = e by omega]
      have wb : tk_k a n (tk_a a n t) = 1 → e - tk_a a n t ≤ 7 → 0 ≤ tk_w a (tk_a a n t) (e - tk_a a n t) ∧ tk_w a (tk_a a n t) (e - tk_a a n t) < 34359738368 := by
        intro h h7
        obtain ⟨b1, b2, -⟩ := tk_w_b (d1 h).2.2
        refine ⟨b1, ?_⟩
        have p32 : ∀ k, k < 8 → (32 : Int) ^ k ≤ 34359738368 := by decide
        have := p32 (e - tk_a a n t) (by omega)
        omega
      refine jr_aload_n C dX11_next_149 rfl ?_
      refine jr_getv C kf_X11_295_0 dX11_next_150 (v := τ.1 0 61) rfl ?_
      refine jr_iconst C (v := 1) dX11_next_153 (by decide) ?_
      refine jr_ncmp_ne C (b := 1) 243 dX11_next_154 (by decide) rfl rfl (fun b154 => ?_) (fun b154 => ?_)
      · rw [y5] at b154
        first | exact fin (fun h => absurd h b154) | exact fin (fun _ q => by have := tk_S_i.mp q.2; omega)
      · rw [y5] at b154
        refine jr_aload_n C dX11_next_157 rfl ?_
        refine jr_getv C kf_X11_279_0 dX11_next_158 (v := τ.1 0 60) rfl ?_
        refine jr_aload_n C dX11_next_161 rfl ?_
        refine jr_getv C kf_X11_272_0 dX11_next_162 (v := τ.1 0 58) rfl ?_
        refine jr_ncmp_ge C 243 dX11_next_165 (by decide) rfl rfl (fun b165 => ?_) (fun b165 => ?_)
        · first | exact fin (fun h => absurd h b154) | exact fin (fun _ q => by have := tk_S_i.mp q.2; omega)
        · refine jr_aload_n C dX11_next_168 rfl ?_
          refine jr_getr C kf_X11_123_0 dX11_next_169 ?_
          refine jr_aload_n C dX11_next_172 rfl ?_
          refine jr_getv C kf_X11_279_0 dX11_next_173 (v := τ.1 0 60) rfl ?_
          refine jr_ialv C ka_M_37 dX11_next_176 (ji_in (i := (τ.1 0 60)) (by omega) (by omega)) (v := τ.1 37 _) rfl ?_
          refine jr_sip C [.int _] _ (ct_X11_isSmall E _ _) ky_X11_isSmall ks_X11_isSmall km_X11_289 (by decide) rfl (Nat.le_of_ble_eq_true rfl) dX11_next_177 ?_
          refine jr_if_eq C 243 dX11_next_180 (by decide) (fun b180 => ?_) (fun b180 => ?_)
          · replace b180 := jb_f b180
            rw [f1, cl] at b180
            first | exact fin (fun h => absurd h b154) | exact fin (fun _ q => by have := tk_S_i.mp q.2; omega)
          · replace b180 := jb_t b180
            rw [f1, cl] at b180
            refine jr_aload_n C dX11_next_183 rfl ?_
            refine jr_aload_n C dX11_next_184 rfl ?_
            refine jr_getv C kf_X11_279_0 dX11_next_185 (v := τ.1 0 60) rfl ?_
            refine jr_aload_n C dX11_next_188 rfl ?_
            refine jr_getv C kf_X11_282_0 dX11_next_189 (v := τ.1 0 59) rfl ?_
            refine jr_isub C dX11_next_192 ?_
            refine jr_bipush C (v := 7) dX11_next_193 (by decide) ?_
            refine jr_ncmp_ge C (b := 7) 224 dX11_next_195 (by decide) rfl rfl (fun b195 => ?_) (fun b195 => ?_)
            · rw [es] at b195
              refine jr_ldc2 C kc_X11_302 dX11_next_224 ?_
              refine jr_putl C kp_X11_285_0 dX11_next_227 ?_
              refine jr_aload_n C dX11_next_230 rfl ?_
              refine jr_dup C dX11_next_231 rfl ?_
              refine jr_getv C kf_X11_279_0 dX11_next_232 (v := τ.1 0 60) rfl ?_
              refine jr_iconst C (v := 1) dX11_next_235 (by decide) ?_
              refine jr_iadd C dX11_next_236 ?_
              refine jr_puti C kp_X11_279_0 dX11_next_237 ?_
              refine jr_goto C 149 dX11_next_240 (by decide) ?_
              first | (have h9 : (7 : Int) ≤ (e : Int) - (tk_a a n t : Int) := b195; exact go _ b154 (by omega) b180 (by rw [if_neg (by omega)]; rfl)) | exact go _ b154 (by omega) b180 (by rw [if_pos (by omega), st, f1, cl]; exact m_ww (by rw [(d1 b154).2.1, if_pos (by omega)]) (wb b154 (by omega)) b180)
            · rw [es] at b195
              refine jr_aload_n C dX11_next_198 rfl ?_
              refine jr_getl C kf_X11_285_0 dX11_next_199 ?_
              refine jr_ldc2 C kc_X11_298 dX11_next_202 ?_
              refine jr_lmul C dX11_next_205 ?_
              refine jr_aload_n C dX11_next_206 rfl ?_
              refine jr_getr C kf_X11_123_0 dX11_next_207 ?_
              refine jr_aload_n C dX11_next_210 rfl ?_
              refine jr_getv C kf_X11_279_0 dX11_next_211 (v := τ.1 0 60) rfl ?_
              refine jr_ialv C ka_M_37 dX11_next_214 (ji_in (i := (τ.1 0 60)) (by omega) (by omega)) (v := τ.1 37 _) rfl ?_
              refine jr_i2l C dX11_next_215 ?_
              refine jr_ladd C dX11_next_216 ?_
              refine jr_ldc2 C kc_X11_300 dX11_next_217 ?_
              refine jr_lsub C dX11_next_220 ?_
              refine jr_goto C 227 dX11_next_221 (by decide) ?_
              refine jr_putl C kp_X11_285_0 dX11_next_227 ?_
              refine jr_aload_n C dX11_next_230 rfl ?_
              refine jr_dup C dX11_next_231 rfl ?_
              refine jr_getv C kf_X11_279_0 dX11_next_232 (v := τ.1 0 60) rfl ?_
              refine jr_iconst C (v := 1) dX11_next_235 (by decide) ?_
              refine jr_iadd C dX11_next_236 ?_
              refine jr_puti C kp_X11_279_0 dX11_next_237 ?_
              refine jr_goto C 149 dX11_next_240 (by decide) ?_
              first | (have h9 : (7 : Int) ≤ (e : Int) - (tk_a a n t : Int) := b195; exact go _ b154 (by omega) b180 (by rw [if_neg (by omega)]; rfl)) | exact go _ b154 (by omega) b180 (by rw [if_pos (by omega), st, f1, cl]; exact m_ww (by rw [(d1 b154).2.1, if_pos (by omega)]) (wb b154 (by omega)) b180)
  have J117 : ∀ (τ : jf_S), mS_n σ τ → ((τ.1 0 59)).toInt = (tk_a a n t : Int) → ((τ.1 0 60)).toInt = (tk_a a n t : Int) → ((τ.1 0 61)).toInt = tk_k a n (tk_a a n t) → ((τ.2 0 62)).toInt = 0 → jf_X jh_M E G 1 117 [(0, jf_r E 0)] [] τ := by
    intro τ z y1 y2 y5 w0
    obtain ⟨f1, f2, f4⟩ := fr τ z
    have e1 := ji_inc1 (k := (τ.1 0 60)) (by omega)
    have cl : ((τ.1 0 59)).toNatClampNeg = tk_a a n t := ji_cl y1
    have A3 : ∀ (w : Int64), tk_k a n (tk_a a n t) = 3 → w.toInt = (a (tk_a a n t)).toInt → jf_X jh_M E G 1 149 [(0, jf_r E 0)] [] (jf_i (jf_l τ 0 62 w) 0 60 ((τ.1 0 60) + 1)) := by
      intro w h hw
      have k3 := tk_k3 h
      have t3 : tk_t a n (tk_a a n t) = tk_a a n t + 1 := by unfold tk_t; rw [if_pos k3.1, if_neg k3.2.1, if_neg k3.2.2]
      refine l149 (n + 1) _ (tk_a a n t + 1) (mS_n_i (mS_n_l z) (by decide)) y1 (show ((τ.1 0 60) + 1).toInt = _ by omega) (by omega) (by omega) y5 (fun q => by omega) (fun q => by omega) (fun _ _ => ⟨t3.symm, ?_⟩) (by omega)
      show w.toInt = _
      rw [hw]; unfold tk_v; rw [if_pos k3.1, if_neg k3.2.1, if_neg k3.2.2]
    have A0 : tk_k a n (tk_a a n t) ≠ 3 → jf_X jh_M E G 1 149 [(0, jf_r E 0)] [] τ := by
      intro h
      refine l149 (n + 1) τ (tk_a a n t) z y1 y2 (Nat.le_refl _) ok.2 y5 (fun q => ?_) (fun q => ⟨rfl, w0⟩) (fun q1 q2 => ?_) (by omega)
      · have k1 := tk_k1 q
        refine ⟨?_, by rw [w0, Nat.sub_self]; rfl, fun i hi => by omega⟩
        unfold tk_t; rw [if_pos k1.1, if_pos k1.2]
      · have c := tk_k_c a n (tk_a a n t)
        have k0 := tk_k0 (show tk_k a n (tk_a a n t) = 0 by omega)
        refine ⟨?_, ?_⟩
        · unfold tk_t; rw [if_neg k0]
        · rw [w0]; unfold tk_v; rw [if_neg k0]
    refine jr_aload_n C dX11_next_117 rfl ?_
    refine jr_getv C kf_X11_295_0 dX11_next_118 (v := τ.1 0 61) rfl ?_
    refine jr_iconst C (v := 3) dX11_next_121 (by decide) ?_
    refine jr_ncmp_ne C (b := 3) 149 dX11_next_122 (by decide) rfl rfl (fun b122 => ?_) (fun b122 => ?_)
    · rw [y5] at b122
      first | (have h9 : ¬ tk_k a n (tk_a a n t) = 3 := b122; exact A0 b122) | exact A3 _ b122 (by rw [jl_w, f1, cl])
    · rw [y5] at b122
      refine jr_aload_n C dX11_next_125 rfl ?_
      refine jr_aload_n C dX11_next_126 rfl ?_
      refine jr_getr C kf_X11_123_0 dX11_next_127 ?_
      refine jr_aload_n C dX11_next_130 rfl ?_
      refine jr_getv C kf_X11_282_0 dX11_next_131 (v := τ.1 0 59) rfl ?_
      refine jr_ialv C ka_M_37 dX11_next_134 (ji_in (i := (τ.1 0 59)) (by have := tk_k3 b122; omega) (by have := tk_k3 b122; omega)) (v := τ.1 37 _) rfl ?_
      refine jr_i2l C dX11_next_135 ?_
      refine jr_putl C kp_X11_285_0 dX11_next_136 ?_
      refine jr_aload_n C dX11_next_139 rfl ?_
      refine jr_dup C dX11_next_140 rfl ?_
      refine jr_getv C kf_X11_279_0 dX11_next_141 (v := τ.1 0 60) rfl ?_
      refine jr_iconst C (v := 1) dX11_next_144 (by decide) ?_
      refine jr_iadd C dX11_next_145 ?_
      refine jr_puti C kp_X11_279_0 dX11_next_146 ?_
      first | (have h9 : ¬ tk_k a n (tk_a a n t) = 3 := b122; exact A0 b122) | exact A3 _ b122 (by rw [jl_w, f1, cl])
  have l8 : ∀ (m : Nat) (τ : jf_S) (e : Nat), mS_n σ τ → ((τ.1 0 59)).toInt = (e : Int) → e ≤ n → tk_end tk_B a n e = tk_a a n t → n - e < m → jf_X jh_M E G 1 8 [(0, jf_r E 0)] [] τ := by
    intro m
    induction m with
    | zero => intro τ e z y1 y2 y3 g; exfalso; omega
    | succ m ih =>
      intro τ e z y1 y2 y3 g
      obtain ⟨f1, f2, f4⟩ := fr τ z
      have e1 := ji_inc1 (k := (τ.1 0 59)) (by omega)
      have cl : ((τ.1 0 59)).toNatClampNeg = e := ji_cl y1
      have J46 : ¬ (e < n ∧ tk_B (a e).toInt = true) → jf_X jh_M E G 1 46 [(0, jf_r E 0)] [] τ := by
        intro q
        have ee : e = tk_a a n t := (tk_end_n q).symm.trans y3
        rw [ee] at y1 cl
        have kk : ∀ (v : Int32), v.toInt = tk_k a n (tk_a a n t) → jf_X jh_M E G 1 117 [(0, jf_r E 0)] [] (jf_i (jf_l (jf_i τ 0 60 ((τ.1 0 59))) 0 62 0) 0 61 v) := fun v hv => J117 _ (mS_n_i (mS_n_l (mS_n_i z (by decide))) (by decide)) y1 y1 hv rfl
        refine jr_aload_n C dX11_next_46 rfl ?_
        refine jr_aload_n C dX11_next_47 rfl ?_
        refine jr_getv C kf_X11_282_0 dX11_next_48 (v := τ.1 0 59) rfl ?_
        refine jr_puti C kp_X11_279_0 dX11_next_51 ?_
        refine jr_aload_n C dX11_next_54 rfl ?_
        refine jr_lconst C (v := 0) dX11_next_55 (by decide) ?_
        refine jr_putl C kp_X11_285_0 dX11_next_56 ?_
        refine jr_aload_n C dX11_next_59 rfl ?_
        refine jr_aload_n C dX11_next_60 rfl ?_
        refine jr_getv C kf_X11_282_0 dX11_next_61 (v := τ.1 0 59) rfl ?_
        refine jr_aload_n C dX11_next_64 rfl ?_
        refine jr_getv C kf_X11_272_0 dX11_next_65 (v := τ.1 0 58) rfl ?_
        refine jr_ncmp_ne C 75 dX11_next_68 (by decide) rfl rfl (fun b68 => ?_) (fun b68 => ?_)
        · refine jr_aload_n C dX11_next_75 rfl ?_
          refine jr_getr C kf_X11_123_0 dX11_next_76 ?_
          refine jr_aload_n C dX11_next_79 rfl ?_
          refine jr_getv C kf_X11_282_0 dX11_next_80 (v := τ.1 0 59) rfl ?_
          refine jr_ialv C ka_M_37 dX11_next_83 (ji_in (i := (τ.1 0 59)) (by omega) (by omega)) (v := τ.1 37 _) rfl ?_
          refine jr_sip C [.int _] _ (ct_X11_isSmall E _ _) ky_X11_isSmall ks_X11_isSmall km_X11_289 (by decide) rfl (Nat.le_of_ble_eq_true rfl) dX11_next_84 ?_
          refine jr_if_eq C 94 dX11_next_87 (by decide) (fun b87 => ?_) (fun b87 => ?_)
          · replace b87 := jb_f b87
            rw [f1, cl] at b87
            refine jr_aload_n C dX11_next_94 rfl ?_
            refine jr_getr C kf_X11_123_0 dX11_next_95 ?_
            refine jr_aload_n C dX11_next_98 rfl ?_
            refine jr_getv C kf_X11_282_0 dX11_next_99 (v := τ.1 0 59) rfl ?_
            refine jr_ialv C ka_M_37 dX11_next_102 (ji_in (i := (τ.1 0 59)) (by omega) (by omega)) (v := τ.1 37 _) rfl ?_
            refine jr_sip C [.int _] _ (ct_X11_isDigit E _ _) ky_X11_isDigit ks_X11_isDigit km_X11_292 (by decide) rfl (Nat.le_of_ble_eq_true rfl) dX11_next_103 ?_
            refine jr_if_eq C 113 dX11_next_106 (by decide) (fun b106 => ?_) (fun b106 => ?_)
            · replace b106 := jb_f b106
              rw [f1, cl] at b106
              refine jr_iconst C (v := 3) dX11_next_113 (by decide) ?_
              refine jr_puti C kp_X11_295_0 dX11_next_114 ?_
              first | exact kk _ (by unfold tk_k; rw [if_neg (by omega)]; rfl) | exact kk _ (by unfold tk_k; rw [if_pos (by omega), if_pos (tk_S_i.mpr b87)]; rfl) | exact kk _ (by unfold tk_k; rw [if_pos (by omega), if_neg (fun q => b87 (tk_S_i.mp q)), if_pos (tk_D_i.mpr b106)]; rfl) | exact kk _ (by unfold tk_k; rw [if_pos (by omega), if_neg (fun q => b87 (tk_S_i.mp q)), if_neg (fun q => b106 (tk_D_i.mp q))]; rfl)
            · replace b106 := jb_t b106
              rw [f1, cl] at b106
              refine jr_iconst C (v := 2) dX11_next_109 (by decide) ?_
              refine jr_goto C 114 dX11_next_110 (by decide) ?_
              refine jr_puti C kp_X11_295_0 dX11_next_114 ?_
              first | exact kk _ (by unfold tk_k; rw [if_neg (by omega)]; rfl) | exact kk _ (by unfold tk_k; rw [if_pos (by omega), if_pos (tk_S_i.mpr b87)]; rfl) | exact kk _ (by unfold tk_k; rw [if_pos (by omega), if_neg (fun q => b87 (tk_S_i.mp q)), if_pos (tk_D_i.mpr b106)]; rfl) | exact kk _ (by unfold tk_k; rw [if_pos (by omega), if_neg (fun q => b87 (tk_S_i.mp q)), if_neg (fun q => b106 (tk_D_i.mp q))]; rfl)
          · replace b87 := jb_t b87
            rw [f1, cl] at b87
            refine jr_iconst C (v := 1) dX11_next_90 (by decide) ?_
            refine jr_goto C 114 dX11_next_91 (by decide) ?_
            refine jr_puti C kp_X11_295_0 dX11_next_114 ?_
            first | exact kk _ (by unfold tk_k; rw [if_neg (by omega)]; rfl) | exact kk _ (by unfold tk_k; rw [if_pos (by omega), if_pos (tk_S_i.mpr b87)]; rfl) | exact kk _ (by unfold tk_k; rw [if_pos (by omega), if_neg (fun q => b87 (tk_S_i.mp q)), if_pos (tk_D_i.mpr b106)]; rfl) | exact kk _ (by unfold tk_k; rw [if_pos (by omega), if_neg (fun q => b87 (tk_S_i.mp q)), if_neg (fun q => b106 (tk_D_i.mp q))]; rfl)
        · refine jr_iconst C (v := 0) dX11_next_71 (by decide) ?_
          refine jr_goto C 114 dX11_next_72 (by decide) ?_
          refine jr_puti C kp_X11_295_0 dX11_next_114 ?_
          first | exact kk _ (by unfold tk_k; rw [if_neg (by omega)]; rfl) | exact kk _ (by unfold tk_k; rw [if_pos (by omega), if_pos (tk_S_i.mpr b87)]; rfl) | exact kk _ (by unfold tk_k; rw [if_pos (by omega), if_neg (fun q => b87 (tk_S_i.mp q)), if_pos (tk_D_i.mpr b106)]; rfl) | exact kk _ (by unfold tk_k; rw [if_pos (by omega), if_neg (fun q => b87 (tk_S_i.mp q)), if_neg (fun q => b106 (tk_D_i.mp q))]; rfl)
      refine jr_aload_n C dX11_next_8 rfl ?_
      refine jr_getv C kf_X11_282_0 dX11_next_9 (v := τ.1 0 59) rfl ?_
      refine jr_aload_n C dX11_next_12 rfl ?_
      refine jr_getv C kf_X11_272_0 dX11_next_13 (v := τ.1 0 58) rfl ?_
      refine jr_ncmp_ge C 46 dX11_next_16 (by decide) rfl rfl (fun b16 => ?_) (fun b16 => ?_)
      · first | exact J46 (fun q => by omega) | exact J46 (fun q => b30 (tk_B_i.mp q.2))
      · refine jr_aload_n C dX11_next_19 rfl ?_
        refine jr_getr C kf_X11_123_0 dX11_next_20 ?_
        refine jr_aload_n C dX11_next_23 rfl ?_
        refine jr_getv C kf_X11_282_0 dX11_next_24 (v := τ.1 0 59) rfl ?_
        refine jr_ialv C ka_M_37 dX11_next_27 (ji_in (i := (τ.1 0 59)) (by omega) (by omega)) (v := τ.1 37 _) rfl ?_
        refine jr_bipush C (v := 32) dX11_next_28 (by decide) ?_
        refine jr_ncmp_ne C (b := 32) 46 dX11_next_30 (by decide) rfl rfl (fun b30 => ?_) (fun b30 => ?_)
        · rw [f1, cl] at b30
          first | exact J46 (fun q => by omega) | exact J46 (fun q => b30 (tk_B_i.mp q.2))
        · rw [f1, cl] at b30
          refine jr_aload_n C dX11_next_33 rfl ?_
          refine jr_dup C dX11_next_34 rfl ?_
          refine jr_getv C kf_X11_282_0 dX11_next_35 (v := τ.1 0 59) rfl ?_
          refine jr_iconst C (v := 1) dX11_next_38 (by decide) ?_
          refine jr_iadd C dX11_next_39 ?_
          refine jr_puti C kp_X11_282_0 dX11_next_40 ?_
          refine jr_goto C 8 dX11_next_43 (by decide) ?_
          exact ih _ (e + 1) (mS_n_i z (by decide)) (show ((τ.1 0 59) + 1).toInt = _ by omega) (by omega) (by rw [← tk_end_y (by omega) (tk_B_i.mpr b30)]; exact y3) (by omega)
  refine jr_aload_n C dX11_next_0 rfl ?_
  refine jr_aload_n C dX11_next_1 rfl ?_
  refine jr_getv C kf_X11_279_0 dX11_next_2 (v := σ.1 0 60) rfl ?_
  refine jr_puti C kp_X11_282_0 dX11_next_5 ?_
  exact l8 (n + 1) _ t (mS_n_i (mS_n_r σ) (by decide)) ht h4 rfl (by omega)

