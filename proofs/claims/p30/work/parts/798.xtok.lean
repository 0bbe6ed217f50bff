/-! the class: tokens exactly -/
/-- the token at f is at hand -/
def x_tk (a : Nat → Int32) (n : Nat) (τ : jf_S) (f : Nat) : Prop := ((τ.1 49) = a ∧ ((τ.1 9 2)).toInt = (n : Int) ∧ n ≤ 300) ∧ f ≤ n ∧ ((τ.1 9 4)).toInt = (f : Int) ∧ ((τ.1 9 5)).toInt = (tk_t a n f : Int) ∧ ((τ.1 9 6)).toInt = (if tk_k a n f = 2 then tk_v a n f else -1)
theorem x_wd {w x : Int32} {v : Int} (h0 : w.toInt = v) (h1 : 0 ≤ v ∧ v ≤ 1000) (h2 : 48 ≤ x.toInt ∧ x.toInt ≤ 57) : (w * 10 + x - 48).toInt = v * 10 + x.toInt - 48 := by
  have e0 : (10 : Int32).toInt = 10 := rfl
  have e9 : (48 : Int32).toInt = 48 := rfl
  have e1 : (w * 10).toInt = w.toInt * 10 := by rw [fb_mulI, e0] <;> rw [e0] <;> omega
  have e2 : (w * 10 + x).toInt = w.toInt * 10 + x.toInt := by rw [fb_addI, e1] <;> rw [e1] <;> omega
  have e3 : (w * 10 + x - 48).toInt = w.toInt * 10 + x.toInt - 48 := by rw [fb_subI, e2, e9] <;> rw [e2, e9] <;> omega
  omega
theorem tk_v_n {a : Nat → Int32} {n f : Nat} (h : tk_k a n f = 2) : tk_v a n f = tk_n a f (tk_t a n f - f) := by
  have k2 := tk_k2 h
  unfold tk_v
  rw [if_pos k2.1, if_neg k2.2.1, if_pos k2.2.2]
theorem ct_X6_advance2 (E : jf_E) (σ : jf_S) (a : Nat → Int32) (n t : Nat) (ha : (σ.1 49) = a) (hn : ((σ.1 9 2)).toInt = (n : Int)) (h3 : n ≤ 300) (ht : ((σ.1 9 5)).toInt = (t : Int)) (h4 : t ≤ n) : jf_V jh_X E yX6_advance cX6_advance 2 0 [jf_r E 9] σ (fun τ => xS_t σ τ ∧ x_tk a n τ (tk_a a n t)) := by
  refine jf_mkV (by decide) (Nat.le_of_ble_eq_true rfl) ?_
  intro G C ret
  have ok := tk_a_ok (a := a) h4
  have tok := tk_t_ok (a := a) ok.2
  have fr : ∀ τ : jf_S, xS_t σ τ → (τ.1 49) = a ∧ ((τ.1 9 2)).toInt = (n : Int) := fun τ z => ⟨(z.2.1 49 (by decide)).trans ha, by rw [show (τ.1 9 2) = (σ.1 9 2) from z.2.2 2 (by decide)]; exact hn⟩
  have l93 : ∀ (m : Nat) (τ : jf_S) (e : Nat) (v : Int32), xS_t σ τ → ((τ.1 9 4)).toInt = (tk_a a n t : Int) → ((τ.1 9 5)).toInt = (e : Int) → ((τ.1 9 6)).toInt = -1 → tk_a a n t ≤ e → e ≤ n → tk_k a n (tk_a a n t) = 1 → tk_end tk_S a n e = tk_t a n (tk_a a n t) → n - e < m → jf_X jh_X E G 2 93 [(0, jf_r E 9), (1, .int v)] [] τ := by
    intro m
    induction m with
    | zero => intro τ e v z y1 y2 y3 y4 y5 k1 w g; exfalso; omega
    | succ m ih =>
      intro τ e v z y1 y2 y3 y4 y5 k1 w g
      obtain ⟨f1, f2⟩ := fr τ z
      have e1 := ji_inc1 (k := (τ.1 9 5)) (by omega)
      have cl : ((τ.1 9 5)).toNatClampNeg = e := ji_cl y2
      have fin : ¬ (e < n ∧ tk_S (a e).toInt = true) → xS_t σ τ ∧ x_tk a n τ (tk_a a n t) := by
        intro q
        rw [tk_end_n q] at w
        exact ⟨z, ⟨f1, f2, h3⟩, ok.2, y1, by rw [y2, w], by rw [y3, if_neg (by omega)]⟩
      refine jr_aload_n C dX6_advance_93 rfl ?_
      refine jr_getv C kf_X6_32_9 dX6_advance_94 (v := τ.1 9 5) rfl ?_
      refine jr_aload_n C dX6_advance_97 rfl ?_
      refine jr_getv C kf_X6_22_9 dX6_advance_98 (v := τ.1 9 2) rfl ?_
      refine jr_ncmp_ge C 258 dX6_advance_101 (by decide) rfl rfl (fun b101 => ?_) (fun b101 => ?_)
      · exact ret _ _ _ dX6_advance_258 (fin (fun q => by have := tk_S_i.mp q.2; omega))
      · refine jr_aload_n C dX6_advance_104 rfl ?_
        refine jr_getr C kf_X6_11_9 dX6_advance_105 ?_
        refine jr_aload_n C dX6_advance_108 rfl ?_
        refine jr_getv C kf_X6_32_9 dX6_advance_109 (v := τ.1 9 5) rfl ?_
        refine jr_ialv C ka_X_49 dX6_advance_112 (ji_in (i := (τ.1 9 5)) (by omega) (by omega)) (v := τ.1 49 _) rfl ?_
        refine jr_bipush C (v := 97) dX6_advance_113 (by decide) ?_
        refine jr_ncmp_lt C (b := 97) 258 dX6_advance_115 (by decide) rfl rfl (fun b115 => ?_) (fun b115 => ?_)
        · rw [f1, cl] at b115
          exact ret _ _ _ dX6_advance_258 (fin (fun q => by have := tk_S_i.mp q.2; omega))
        · rw [f1, cl] at b115
          refine jr_aload_n C dX6_advance_118 rfl ?_
          refine jr_getr C kf_X6_11_9 dX6_advance_119 ?_
          refine jr_aload_n C dX6_advance_122 rfl ?_
          refine jr_getv C kf_X6_32_9 dX6_advance_123 (v := τ.1 9 5) rfl ?_
          refine jr_ialv C ka_X_49 dX6_advance_126 (ji_in (i := (τ.1 9 5)) (by omega) (by omega)) (v := τ.1 49 _) rfl ?_
          refine jr_bipush C (v := 122) dX6_advance_127 (by decide) ?_
          refine jr_ncmp_gt C (b := 122) 258 dX6_advance_129 (by decide) rfl rfl (fun b129 => ?_) (fun b129 => ?_)
          · rw [f1, cl] at b129
            exact ret _ _ _ dX6_advance_258 (fin (fun q => by have := tk_S_i.mp q.2; omega))
          · rw [f1, cl] at b129
            refine jr_aload_n C dX6_advance_132 rfl ?_
            refine jr_dup C dX6_advance_133 rfl ?_
            refine jr_getv C kf_X6_32_9 dX6_advance_134 (v := τ.1 9 5) rfl ?_
            refine jr_iconst C (v := 1) dX6_advance_137 (by decide) ?_
            refine jr_iadd C dX6_advance_138 ?_
            refine jr_puti C kp_X6_32_9 dX6_advance_139 ?_
            refine jr_goto C 93 dX6_advance_142 (by decide) ?_
            exact jr_sub [(0, jf_r E 9), (1, .int v)] rfl (ih _ (e + 1) v (xS_t_i z (by decide)) y1 (show ((τ.1 9 5) + 1).toInt = _ by omega) y3 (by omega) (by omega) k1 (by rw [← tk_end_y (by omega) (tk_S_i.mpr ⟨by omega, by omega⟩)]; exact w) (by omega))
  have l162 : ∀ (m : Nat) (τ : jf_S) (e : Nat) (v : Int32), xS_t σ τ → ((τ.1 9 4)).toInt = (tk_a a n t : Int) → ((τ.1 9 5)).toInt = (e : Int) → ((τ.1 9 6)).toInt = tk_n a (tk_a a n t) (e - tk_a a n t) → tk_a a n t ≤ e → e ≤ n → tk_k a n (tk_a a n t) = 2 → tk_end tk_D a n e = tk_t a n (tk_a a n t) → (∀ i, i < e - tk_a a n t → 48 ≤ (a (tk_a a n t + i)).toInt ∧ (a (tk_a a n t + i)).toInt ≤ 57) → n - e < m → jf_X jh_X E G 2 162 [(0, jf_r E 9), (1, .int v)] [] τ := by
    intro m
    induction m with
    | zero => intro τ e v z y1 y2 y3 y4 y5 k2 w d g; exfalso; omega
    | succ m ih =>
      intro τ e v z y1 y2 y3 y4 y5 k2 w d g
      obtain ⟨f1, f2⟩ := fr τ z
      have e1 := ji_inc1 (k := (τ.1 9 5)) (by omega)
      have cl : ((τ.1 9 5)).toNatClampNeg = e := ji_cl y2
      have nb := tk_n_b d
      have st : tk_n a (tk_a a n t) (e + 1 - tk_a a n t) = if 1000 < tk_n a (tk_a a n t) (e - tk_a a n t) then tk_n a (tk_a a n t) (e - tk_a a n t) else tk_n a (tk_a a n t) (e - tk_a a n t) * 10 + (a e).toInt - 48 := by
        rw [show e + 1 - tk_a a n t = (e - tk_a a n t) + 1 by omega]
        show (if 1000 < tk_n a (tk_a a n t) (e - tk_a a n t) then tk_n a (tk_a a n t) (e - tk_a a n t) else tk_n a (tk_a a n t) (e - tk_a a n t) * 10 + (a (tk_a a n t + (e - tk_a a n t))).toInt - 48) = _
        rw [show tk_a a n t + (e - tk_a a n t) = e by omega]
      have fin : ¬ (e < n ∧ tk_D (a e).toInt = true) → xS_t σ τ ∧ x_tk a n τ (tk_a a n t) := by
        intro q
        rw [tk_end_n q] at w
        exact ⟨z, ⟨f1, f2, h3⟩, ok.2, y1, by rw [y2, w], by rw [y3, if_pos k2, tk_v_n k2, ← w]⟩
      have go : ∀ υ : jf_S, xS_t σ υ → (υ.1 9 4) = (τ.1 9 4) → (υ.1 9 5) = (τ.1 9 5) + 1 → ((υ.1 9 6)).toInt = tk_n a (tk_a a n t) (e + 1 - tk_a a n t) → e < n → (48 ≤ (a e).toInt ∧ (a e).toInt ≤ 57) → jf_X jh_X E G 2 162 [(0, jf_r E 9), (1, .int v)] [] υ := by
        intro υ zu u1 u2 u3 h5 h6
        refine ih υ (e + 1) v zu (by rw [u1]; exact y1) (by rw [u2]; omega) u3 (by omega) (by omega) k2 (by rw [← tk_end_y h5 (tk_D_i.mpr h6)]; exact w) (fun i hi => ?_) (by omega)
        by_cases c : i = e - tk_a a n t
        · rw [c, show tk_a a n t + (e - tk_a a n t) = e by omega]; exact h6
        · exact d i (by omega)
      refine jr_aload_n C dX6_advance_162 rfl ?_
      refine jr_getv C kf_X6_32_9 dX6_advance_163 (v := τ.1 9 5) rfl ?_
      refine jr_aload_n C dX6_advance_166 rfl ?_
      refine jr_getv C kf_X6_22_9 dX6_advance_167 (v := τ.1 9 2) rfl ?_
      refine jr_ncmp_ge C 258 dX6_advance_170 (by decide) rfl rfl (fun b170 => ?_) (fun b170 => ?_)
      · exact ret _ _ _ dX6_advance_258 (fin (fun q => by have := tk_D_i.mp q.2; omega))
      · refine jr_aload_n C dX6_advance_173 rfl ?_
        refine jr_getr C kf_X6_11_9 dX6_advance_174 ?_
        refine jr_aload_n C dX6_advance_177 rfl ?_
        refine jr_getv C kf_X6_32_9 dX6_advance_178 (v := τ.1 9 5) rfl ?_
        refine jr_ialv C ka_X_49 dX6_advance_181 (ji_in (i := (τ.1 9 5)) (by omega) (by omega)) (v := τ.1 49 _) rfl ?_
        refine jr_bipush C (v := 48) dX6_advance_182 (by decide) ?_
        refine jr_ncmp_lt C (b := 48) 258 dX6_advance_184 (by decide) rfl rfl (fun b184 => ?_) (fun b184 => ?_)
        · rw [f1, cl] at b184
          exact ret _ _ _ dX6_advance_258 (fin (fun q => by have := tk_D_i.mp q.2; omega))
        · rw [f1, cl] at b184
          refine jr_aload_n C dX6_advance_187 rfl ?_
          refine jr_getr C kf_X6_11_9 dX6_advance_188 ?_
          refine jr_aload_n C dX6_advance_191 rfl ?_
          refine jr_getv C kf_X6_32_9 dX6_advance_192 (v := τ.1 9 5) rfl ?_
          refine jr_ialv C ka_X_49 dX6_advance_195 (ji_in (i := (τ.1 9 5)) (by omega) (by omega)) (v := τ.1 49 _) rfl ?_
          refine jr_bipush C (v := 57) dX6_advance_196 (by decide) ?_
          refine jr_ncmp_gt C (b := 57) 258 dX6_advance_198 (by decide) rfl rfl (fun b198 => ?_) (fun b198 => ?_)
          · rw [f1, cl] at b198
            exact ret _ _ _ dX6_advance_258 (fin (fun q => by have := tk_D_i.mp q.2; omega))
          · rw [f1, cl] at b198
            refine jr_aload_n C dX6_advance_201 rfl ?_
            refine jr_getv C kf_X6_71_9 dX6_advance_202 (v := τ.1 9 6) rfl ?_
            refine jr_sipush C (v := 1000) dX6_advance_205 (by decide) ?_
            refine jr_ncmp_gt C (b := 1000) 235 dX6_advance_208 (by decide) rfl rfl (fun b208 => ?_) (fun b208 => ?_)
            · refine jr_aload_n C dX6_advance_235 rfl ?_
              refine jr_dup C dX6_advance_236 rfl ?_
              refine jr_getv C kf_X6_32_9 dX6_advance_237 (v := τ.1 9 5) rfl ?_
              refine jr_iconst C (v := 1) dX6_advance_240 (by decide) ?_
              refine jr_iadd C dX6_advance_241 ?_
              refine jr_puti C kp_X6_32_9 dX6_advance_242 ?_
              refine jr_goto C 162 dX6_advance_245 (by decide) ?_
              first | (have h9 : (1000 : Int) < ((τ.1 9 6)).toInt := b208; exact jr_sub [(0, jf_r E 9), (1, .int v)] rfl (go _ (xS_t_i z (by decide)) rfl rfl (by show ((τ.1 9 6)).toInt = _; rw [st, if_pos (by omega)]; exact y3) (by omega) ⟨by omega, by omega⟩)) | exact jr_sub [(0, jf_r E 9), (1, .int v)] rfl (go _ (xS_t_i (xS_t_i z (by decide)) (by decide)) rfl rfl (by show ((τ.1 9 6) * 10 + (τ.1 49) ((τ.1 9 5)).toNatClampNeg - 48).toInt = _; rw [st, if_neg (by omega), f1, cl]; exact x_wd y3 ⟨by omega, by omega⟩ ⟨by omega, by omega⟩) (by omega) ⟨by omega, by omega⟩)
            · refine jr_aload_n C dX6_advance_211 rfl ?_
              refine jr_aload_n C dX6_advance_212 rfl ?_
              refine jr_getv C kf_X6_71_9 dX6_advance_213 (v := τ.1 9 6) rfl ?_
              refine jr_bipush C (v := 10) dX6_advance_216 (by decide) ?_
              refine jr_imul C dX6_advance_218 ?_
              refine jr_aload_n C dX6_advance_219 rfl ?_
              refine jr_getr C kf_X6_11_9 dX6_advance_220 ?_
              refine jr_aload_n C dX6_advance_223 rfl ?_
              refine jr_getv C kf_X6_32_9 dX6_advance_224 (v := τ.1 9 5) rfl ?_
              refine jr_ialv C ka_X_49 dX6_advance_227 (ji_in (i := (τ.1 9 5)) (by omega) (by omega)) (v := τ.1 49 _) rfl ?_
              refine jr_iadd C dX6_advance_228 ?_
              refine jr_bipush C (v := 48) dX6_advance_229 (by decide) ?_
              refine jr_isub C dX6_advance_231 ?_
              refine jr_puti C kp_X6_71_9 dX6_advance_232 ?_
              refine jr_aload_n C dX6_advance_235 rfl ?_
              refine jr_dup C dX6_advance_236 rfl ?_
              refine jr_getv C kf_X6_32_9 dX6_advance_237 (v := τ.1 9 5) rfl ?_
              refine jr_iconst C (v := 1) dX6_advance_240 (by decide) ?_
              refine jr_iadd C dX6_advance_241 ?_
              refine jr_puti C kp_X6_32_9 dX6_advance_242 ?_
              refine jr_goto C 162 dX6_advance_245 (by decide) ?_
              first | (have h9 : (1000 : Int) < ((τ.1 9 6)).toInt := b208; exact jr_sub [(0, jf_r E 9), (1, .int v)] rfl (go _ (xS_t_i z (by decide)) rfl rfl (by show ((τ.1 9 6)).toInt = _; rw [st, if_pos (by omega)]; exact y3) (by omega) ⟨by omega, by omega⟩)) | exact jr_sub [(0, jf_r E 9), (1, .int v)] rfl (go _ (xS_t_i (xS_t_i z (by decide)) (by decide)) rfl rfl (by show ((τ.1 9 6) * 10 + (τ.1 49) ((τ.1 9 5)).toNatClampNeg - 48).toInt = _; rw [st, if_neg (by omega), f1, cl]; exact x_wd y3 ⟨by omega, by omega⟩ ⟨by omega, by omega⟩) (by omega) ⟨by omega, by omega⟩)
  have l8 : ∀ (m : Nat) (τ : jf_S) (e : Nat), xS_t σ τ → ((τ.1 9 4)).toInt = (e : Int) → e ≤ n → tk_end tk_B a n e = tk_a a n t → n - e < m → jf_X jh_X E G 2 8 [(0, jf_r E 9)] [] τ := by
    intro m
    induction m with
    | zero => intro τ e z y1 y2 y3 g; exfalso; omega
    | succ m ih =>
      intro τ e z y1 y2 y3 g
      obtain ⟨f1, f2⟩ := fr τ z
      have e1 := ji_inc1 (k := (τ.1 9 4)) (by omega)
      have cl : ((τ.1 9 4)).toNatClampNeg = e := ji_cl y1
      have J46 : ¬ (e < n ∧ tk_B (a e).toInt = true) → jf_X jh_X E G 2 46 [(0, jf_r E 9)] [] τ := by
        intro q
        have ee : e = tk_a a n t := (tk_end_n q).symm.trans y3
        rw [ee] at y1 cl
        have zz : xS_t σ (jf_i (jf_i τ 9 5 ((τ.1 9 4))) 9 6 (-1)) := xS_t_i (xS_t_i z (by decide)) (by decide)
        have k0 : ¬ tk_a a n t < n → xS_t σ (jf_i (jf_i τ 9 5 ((τ.1 9 4))) 9 6 (-1)) ∧ x_tk a n (jf_i (jf_i τ 9 5 ((τ.1 9 4))) 9 6 (-1)) (tk_a a n t) := by
          intro h
          refine ⟨zz, ⟨f1, f2, h3⟩, ok.2, y1, ?_, ?_⟩
          · show ((τ.1 9 4)).toInt = _
            unfold tk_t; rw [if_neg h]; exact y1
          · show (-1 : Int32).toInt = _
            unfold tk_k; rw [if_neg h, if_neg (by decide)]; rfl
        have k1 : tk_a a n t < n → (97 ≤ (a (tk_a a n t)).toInt ∧ (a (tk_a a n t)).toInt ≤ 122) → ∀ v : Int32, jf_X jh_X E G 2 93 [(0, jf_r E 9), (1, .int v)] [] (jf_i (jf_i τ 9 5 ((τ.1 9 4))) 9 6 (-1)) := by
          intro h hs v
          have hs' := tk_S_i.mpr hs
          have kk : tk_k a n (tk_a a n t) = 1 := by unfold tk_k; rw [if_pos h, if_pos hs']
          exact l93 (n + 1) _ (tk_a a n t) v zz y1 y1 (show (-1 : Int32).toInt = -1 from rfl) (Nat.le_refl _) ok.2 kk (by unfold tk_t; rw [if_pos h, if_pos hs']) (by omega)
        have k2 : tk_a a n t < n → ¬ (97 ≤ (a (tk_a a n t)).toInt ∧ (a (tk_a a n t)).toInt ≤ 122) → (48 ≤ (a (tk_a a n t)).toInt ∧ (a (tk_a a n t)).toInt ≤ 57) → ∀ v : Int32, jf_X jh_X E G 2 162 [(0, jf_r E 9), (1, .int v)] [] (jf_i (jf_i (jf_i τ 9 5 ((τ.1 9 4))) 9 6 (-1)) 9 6 0) := by
          intro h hs hd v
          have hs' : ¬ tk_S (a (tk_a a n t)).toInt = true := fun w => hs (tk_S_i.mp w)
          have hd' := tk_D_i.mpr hd
          have kk : tk_k a n (tk_a a n t) = 2 := by unfold tk_k; rw [if_pos h, if_neg hs', if_pos hd']
          exact l162 (n + 1) _ (tk_a a n t) v (xS_t_i zz (by decide)) y1 y1 (by rw [Nat.sub_self]; rfl) (Nat.le_refl _) ok.2 kk (by unfold tk_t; rw [if_pos h, if_neg hs', if_pos hd']) (fun i hi => by omega) (by omega)
        have k3 : tk_a a n t < n → ¬ (97 ≤ (a (tk_a a n t)).toInt ∧ (a (tk_a a n t)).toInt ≤ 122) → ¬ (48 ≤ (a (tk_a a n t)).toInt ∧ (a (tk_a a n t)).toInt ≤ 57) → xS_t σ (jf_i (jf_i (jf_i τ 9 5 ((τ.1 9 4))) 9 6 (-1)) 9 5 ((τ.1 9 4) + 1)) ∧ x_tk a n (jf_i (jf_i (jf_i τ 9 5 ((τ.1 9 4))) 9 6 (-1)) 9 5 ((τ.1 9 4) + 1)) (tk_a a n t) := by
          intro h hs hd
          have hs' : ¬ tk_S (a (tk_a a n t)).toInt = true := fun w => hs (tk_S_i.mp w)
          have hd' : ¬ tk_D (a (tk_a a n t)).toInt = true := fun w => hd (tk_D_i.mp w)
          refine ⟨xS_t_i zz (by decide), ⟨f1, f2, h3⟩, ok.2, y1, ?_, ?_⟩
          · show ((τ.1 9 4) + 1).toInt = _
            unfold tk_t; rw [if_pos h, if_neg hs', if_neg hd']; omega
          · show (-1 : Int32).toInt = _
            unfold tk_k; rw [if_pos h, if_neg hs', if_neg hd', if_neg (by decide)]; rfl
        refine jr_aload_n C dX6_advance_46 rfl ?_
        refine jr_aload_n C dX6_advance_47 rfl ?_
        refine jr_getv C kf_X6_61_9 dX6_advance_48 (v := τ.1 9 4) rfl ?_
        refine jr_puti C kp_X6_32_9 dX6_advance_51 ?_
        refine jr_aload_n C dX6_advance_54 rfl ?_
        refine jr_iconst C (v := -1) dX6_advance_55 (by decide) ?_
        refine jr_puti C kp_X6_71_9 dX6_advance_56 ?_
        refine jr_aload_n C dX6_advance_59 rfl ?_
        refine jr_getv C kf_X6_61_9 dX6_advance_60 (v := τ.1 9 4) rfl ?_
        refine jr_aload_n C dX6_advance_63 rfl ?_
        refine jr_getv C kf_X6_22_9 dX6_advance_64 (v := τ.1 9 2) rfl ?_
        refine jr_ncmp_lt C 71 dX6_advance_67 (by decide) rfl rfl (fun b67 => ?_) (fun b67 => ?_)
        · refine jr_aload_n C dX6_advance_71 rfl ?_
          refine jr_getr C kf_X6_11_9 dX6_advance_72 ?_
          refine jr_aload_n C dX6_advance_75 rfl ?_
          refine jr_getv C kf_X6_61_9 dX6_advance_76 (v := τ.1 9 4) rfl ?_
          refine jr_ialv C ka_X_49 dX6_advance_79 (ji_in (i := (τ.1 9 4)) (by omega) (by omega)) (v := τ.1 49 _) rfl ?_
          refine jr_istore_n C dX6_advance_80 (by decide) ?_
          refine jr_iload_n C dX6_advance_81 rfl ?_
          refine jr_bipush C (v := 97) dX6_advance_82 (by decide) ?_
          refine jr_ncmp_lt C (b := 97) 145 dX6_advance_84 (by decide) rfl rfl (fun b84 => ?_) (fun b84 => ?_)
          · rw [f1, cl] at b84
            refine jr_iload_n C dX6_advance_145 rfl ?_
            refine jr_bipush C (v := 48) dX6_advance_146 (by decide) ?_
            refine jr_ncmp_lt C (b := 48) 248 dX6_advance_148 (by decide) rfl rfl (fun b148 => ?_) (fun b148 => ?_)
            · rw [f1, cl] at b148
              refine jr_aload_n C dX6_advance_248 rfl ?_
              refine jr_dup C dX6_advance_249 rfl ?_
              refine jr_geti C kf_X6_32_9 dX6_advance_250 ?_
              refine jr_iconst C (v := 1) dX6_advance_253 (by decide) ?_
              refine jr_iadd C dX6_advance_254 ?_
              refine jr_puti C kp_X6_32_9 dX6_advance_255 ?_
              exact ret _ _ _ dX6_advance_258 (k3 (by omega) (by omega) (by omega))
            · rw [f1, cl] at b148
              refine jr_iload_n C dX6_advance_151 rfl ?_
              refine jr_bipush C (v := 57) dX6_advance_152 (by decide) ?_
              refine jr_ncmp_gt C (b := 57) 248 dX6_advance_154 (by decide) rfl rfl (fun b154 => ?_) (fun b154 => ?_)
              · rw [f1, cl] at b154
                refine jr_aload_n C dX6_advance_248 rfl ?_
                refine jr_dup C dX6_advance_249 rfl ?_
                refine jr_geti C kf_X6_32_9 dX6_advance_250 ?_
                refine jr_iconst C (v := 1) dX6_advance_253 (by decide) ?_
                refine jr_iadd C dX6_advance_254 ?_
                refine jr_puti C kp_X6_32_9 dX6_advance_255 ?_
                exact ret _ _ _ dX6_advance_258 (k3 (by omega) (by omega) (by omega))
              · rw [f1, cl] at b154
                refine jr_aload_n C dX6_advance_157 rfl ?_
                refine jr_iconst C (v := 0) dX6_advance_158 (by decide) ?_
                refine jr_puti C kp_X6_71_9 dX6_advance_159 ?_
                exact jr_sub [(0, jf_r E 9), (1, .int _)] rfl (k2 (by omega) (by omega) ⟨by omega, by omega⟩ _)
          · rw [f1, cl] at b84
            refine jr_iload_n C dX6_advance_87 rfl ?_
            refine jr_bipush C (v := 122) dX6_advance_88 (by decide) ?_
            refine jr_ncmp_gt C (b := 122) 145 dX6_advance_90 (by decide) rfl rfl (fun b90 => ?_) (fun b90 => ?_)
            · rw [f1, cl] at b90
              refine jr_iload_n C dX6_advance_145 rfl ?_
              refine jr_bipush C (v := 48) dX6_advance_146 (by decide) ?_
              refine jr_ncmp_lt C (b := 48) 248 dX6_advance_148 (by decide) rfl rfl (fun b148 => ?_) (fun b148 => ?_)
              · rw [f1, cl] at b148
                refine jr_aload_n C dX6_advance_248 rfl ?_
                refine jr_dup C dX6_advance_249 rfl ?_
                refine jr_geti C kf_X6_32_9 dX6_advance_250 ?_
                refine jr_iconst C (v := 1) dX6_advance_253 (by decide) ?_
                refine jr_iadd C dX6_advance_254 ?_
                refine jr_puti C kp_X6_32_9 dX6_advance_255 ?_
                exact ret _ _ _ dX6_advance_258 (k3 (by omega) (by omega) (by omega))
              · rw [f1, cl] at b148
                refine jr_iload_n C dX6_advance_151 rfl ?_
                refine jr_bipush C (v := 57) dX6_advance_152 (by decide) ?_
                refine jr_ncmp_gt C (b := 57) 248 dX6_advance_154 (by decide) rfl rfl (fun b154 => ?_) (fun b154 => ?_)
                · rw [f1, cl] at b154
                  refine jr_aload_n C dX6_advance_248 rfl ?_
                  refine jr_dup C dX6_advance_249 rfl ?_
                  refine jr_geti C kf_X6_32_9 dX6_advance_250 ?_
                  refine jr_iconst C (v := 1) dX6_advance_253 (by decide) ?_
                  refine jr_iadd C dX6_advance_254 ?_
                  refine jr_puti C kp_X6_32_9 dX6_advance_255 ?_
                  exact ret _ _ _ dX6_advance_258 (k3 (by omega) (by omega) (by omega))
                · rw [f1, cl] at b154
                  refine jr_aload_n C dX6_advance_157 rfl ?_
                  refine jr_iconst C (v := 0) dX6_advance_158 (by decide) ?_
                  refine jr_puti C kp_X6_71_9 dX6_advance_159 ?_
                  exact jr_sub [(0, jf_r E 9), (1, .int _)] rfl (k2 (by omega) (by omega) ⟨by omega, by omega⟩ _)
            · rw [f1, cl] at b90
              exact jr_sub [(0, jf_r E 9), (1, .int _)] rfl (k1 (by omega) ⟨by omega, by omega⟩ _)
        · exact ret _ _ _ dX6_advance_70 (k0 (by omega))
      refine jr_aload_n C dX6_advance_8 rfl ?_
      refine jr_getv C kf_X6_61_9 dX6_advance_9 (v := τ.1 9 4) rfl ?_
      refine jr_aload_n C dX6_advance_12 rfl ?_
      refine jr_getv C kf_X6_22_9 dX6_advance_13 (v := τ.1 9 2) rfl ?_
      refine jr_ncmp_ge C 46 dX6_advance_16 (by decide) rfl rfl (fun b16 => ?_) (fun b16 => ?_)
      · first | exact J46 (fun q => by omega) | exact J46 (fun q => b30 (tk_B_i.mp q.2))
      · refine jr_aload_n C dX6_advance_19 rfl ?_
        refine jr_getr C kf_X6_11_9 dX6_advance_20 ?_
        refine jr_aload_n C dX6_advance_23 rfl ?_
        refine jr_getv C kf_X6_61_9 dX6_advance_24 (v := τ.1 9 4) rfl ?_
        refine jr_ialv C ka_X_49 dX6_advance_27 (ji_in (i := (τ.1 9 4)) (by omega) (by omega)) (v := τ.1 49 _) rfl ?_
        refine jr_bipush C (v := 32) dX6_advance_28 (by decide) ?_
        refine jr_ncmp_ne C (b := 32) 46 dX6_advance_30 (by decide) rfl rfl (fun b30 => ?_) (fun b30 => ?_)
        · rw [f1, cl] at b30
          first | exact J46 (fun q => by omega) | exact J46 (fun q => b30 (tk_B_i.mp q.2))
        · rw [f1, cl] at b30
          refine jr_aload_n C dX6_advance_33 rfl ?_
          refine jr_dup C dX6_advance_34 rfl ?_
          refine jr_getv C kf_X6_61_9 dX6_advance_35 (v := τ.1 9 4) rfl ?_
          refine jr_iconst C (v := 1) dX6_advance_38 (by decide) ?_
          refine jr_iadd C dX6_advance_39 ?_
          refine jr_puti C kp_X6_61_9 dX6_advance_40 ?_
          refine jr_goto C 8 dX6_advance_43 (by decide) ?_
          exact ih _ (e + 1) (xS_t_i z (by decide)) (show ((τ.1 9 4) + 1).toInt = _ by omega) (by omega) (by rw [← tk_end_y (by omega) (tk_B_i.mpr b30)]; exact y3) (by omega)
  refine jr_aload_n C dX6_advance_0 rfl ?_
  refine jr_aload_n C dX6_advance_1 rfl ?_
  refine jr_getv C kf_X6_32_9 dX6_advance_2 (v := σ.1 9 5) rfl ?_
  refine jr_puti C kp_X6_61_9 dX6_advance_5 ?_
  exact l8 (n + 1) _ t (xS_t_i (xS_t_r σ) (by decide)) ht h4 rfl (by omega)
theorem x_adv {a : Nat → Int32} {n f : Nat} {σ : jf_S} (h : x_tk a n σ f) : (σ.1 49) = a ∧ ((σ.1 9 2)).toInt = (n : Int) ∧ n ≤ 300 ∧ ((σ.1 9 5)).toInt = (tk_t a n f : Int) ∧ tk_t a n f ≤ n := ⟨h.1.1, h.1.2.1, h.1.2.2, h.2.2.2.1, (tk_t_ok h.2.1).2.1⟩
theorem ct_X6_takeNumber2 (E : jf_E) (σ : jf_S) (a : Nat → Int32) (n f : Nat) (h : x_tk a n σ f) : jf_I jh_X E yX6_takeNumber cX6_takeNumber 1 .boolean 1 [jf_r E 9] σ (fun r τ => (r = 1 ∧ (tk_k a n f = 2 ∧ tk_v a n f ≤ 1000) ∧ xS_t σ τ ∧ x_tk a n τ (tk_x a n f)) ∨ (r = 0 ∧ ¬ (tk_k a n f = 2 ∧ tk_v a n f ≤ 1000) ∧ τ = σ)) := by
  refine jf_mkI (by decide) (Nat.le_of_ble_eq_true rfl) ?_
  intro G C ret
  have hv := x_adv h
  have hN := h.2.2.2.2
  have yes : tk_k a n f = 2 → ((σ.1 9 6)).toInt = tk_v a n f ∧ 0 ≤ tk_v a n f := fun k => ⟨by rw [hN, if_pos k], tk_v2 k⟩
  have no : ¬ tk_k a n f = 2 → ((σ.1 9 6)).toInt = -1 := fun k => by rw [hN, if_neg k]
  refine jr_aload_n C dX6_takeNumber_0 rfl ?_
  refine jr_getv C kf_X6_71_9 dX6_takeNumber_1 (v := σ.1 9 6) rfl ?_
  refine jr_iconst C (v := -1) dX6_takeNumber_4 (by decide) ?_
  refine jr_ncmp_eq C (b := -1) 18 dX6_takeNumber_5 (by decide) rfl rfl (fun b5 => ?_) (fun b5 => ?_)
  · refine jr_iconst C (v := 0) dX6_takeNumber_18 (by decide) ?_
    exact ret _ _ _ _ dX6_takeNumber_19 (rfl) (Or.inr ⟨rfl, fun q => by have := yes q.1; omega, rfl⟩)
  · refine jr_aload_n C dX6_takeNumber_8 rfl ?_
    refine jr_getv C kf_X6_71_9 dX6_takeNumber_9 (v := σ.1 9 6) rfl ?_
    refine jr_sipush C (v := 1000) dX6_takeNumber_12 (by decide) ?_
    refine jr_ncmp_le C (b := 1000) 20 dX6_takeNumber_15 (by decide) rfl rfl (fun b15 => ?_) (fun b15 => ?_)
    · refine jr_aload_n C dX6_takeNumber_20 rfl ?_
      refine jr_vv C [] _ (ct_X6_advance2 E _ a n (tk_t a n f) hv.1 hv.2.1 hv.2.2.1 hv.2.2.2.1 hv.2.2.2.2) ky_X6_advance kv_X6_advance kk_X_9 km_X6_35 (by decide) rfl (Nat.le_of_ble_eq_true rfl) dX6_takeNumber_21 (fun τ21 h21 => ?_)
      refine jr_iconst C (v := 1) dX6_takeNumber_24 (by decide) ?_
      exact ret _ _ _ _ dX6_takeNumber_25 (rfl) (Or.inl ⟨rfl, by (by_cases k : tk_k a n f = 2; exact ⟨k, by have := yes k; omega⟩; exact absurd (no k) (by omega)), h21⟩)
    · refine jr_iconst C (v := 0) dX6_takeNumber_18 (by decide) ?_
      exact ret _ _ _ _ dX6_takeNumber_19 (rfl) (Or.inr ⟨rfl, fun q => by have := yes q.1; omega, rfl⟩)
theorem ct_X6_takeByte2 (E : jf_E) (σ : jf_S) (c : Int32) (a : Nat → Int32) (n f : Nat) (h : x_tk a n σ f) : jf_I jh_X E yX6_takeByte cX6_takeByte 2 .boolean 1 [jf_r E 9, .int c] σ (fun r τ => (r = 1 ∧ tk_sb a n f c.toInt = true ∧ xS_t σ τ ∧ x_tk a n τ (tk_x a n f)) ∨ (r = 0 ∧ ¬ tk_sb a n f c.toInt = true ∧ τ = σ)) := by
  refine jf_mkI (by decide) (Nat.le_of_ble_eq_true rfl) ?_
  intro G C ret
  have hv := x_adv h
  have y1 := h.2.2.1
  have cl : ((σ.1 9 4)).toNatClampNeg = f := ji_cl y1
  have f1 := hv.1
  refine jr_aload_n C dX6_takeByte_0 rfl ?_
  refine jr_getv C kf_X6_61_9 dX6_takeByte_1 (v := σ.1 9 4) rfl ?_
  refine jr_aload_n C dX6_takeByte_4 rfl ?_
  refine jr_getv C kf_X6_22_9 dX6_takeByte_5 (v := σ.1 9 2) rfl ?_
  refine jr_ncmp_ge C 24 dX6_takeByte_8 (by decide) rfl rfl (fun b8 => ?_) (fun b8 => ?_)
  · refine jr_iconst C (v := 0) dX6_takeByte_24 (by decide) ?_
    exact ret _ _ _ _ dX6_takeByte_25 (rfl) (Or.inr ⟨rfl, fun q => by (have q := tk_sb_i.mp q; omega), rfl⟩)
  · refine jr_aload_n C dX6_takeByte_11 rfl ?_
    refine jr_getr C kf_X6_11_9 dX6_takeByte_12 ?_
    refine jr_aload_n C dX6_takeByte_15 rfl ?_
    refine jr_getv C kf_X6_61_9 dX6_takeByte_16 (v := σ.1 9 4) rfl ?_
    refine jr_ialv C ka_X_49 dX6_takeByte_19 (ji_in (i := (σ.1 9 4)) (by omega) (by omega)) (v := σ.1 49 _) rfl ?_
    refine jr_iload_n C dX6_takeByte_20 rfl ?_
    refine jr_ncmp_eq C 26 dX6_takeByte_21 (by decide) rfl rfl (fun b21 => ?_) (fun b21 => ?_)
    · rw [f1, cl] at b21
      refine jr_aload_n C dX6_takeByte_26 rfl ?_
      refine jr_vv C [] _ (ct_X6_advance2 E _ a n (tk_t a n f) hv.1 hv.2.1 hv.2.2.1 hv.2.2.2.1 hv.2.2.2.2) ky_X6_advance kv_X6_advance kk_X_9 km_X6_35 (by decide) rfl (Nat.le_of_ble_eq_true rfl) dX6_takeByte_27 (fun τ27 h27 => ?_)
      refine jr_iconst C (v := 1) dX6_takeByte_30 (by decide) ?_
      exact ret _ _ _ _ dX6_takeByte_31 (rfl) (Or.inl ⟨rfl, tk_sb_i.mpr ⟨by omega, b21⟩, h27⟩)
    · rw [f1, cl] at b21
      refine jr_iconst C (v := 0) dX6_takeByte_24 (by decide) ?_
      exact ret _ _ _ _ dX6_takeByte_25 (rfl) (Or.inr ⟨rfl, fun q => by (have q := tk_sb_i.mp q; omega), rfl⟩)
theorem ct_X6_takeWord2 (E : jf_E) (σ : jf_S) (vq : Value) (ad av : Nat → Nat) (i : Nat) (t : Nat × String × List Int32) (ht : js_tab[i]? = some t) (a : Nat → Int32) (n f : Nat) (h : x_tk a n σ f) : jf_IZ (js_Z vq ad av (jf_A jh_X E)) jh_X E yX6_takeWord cX6_takeWord 3 .boolean 4 [jf_r E 9, .ref (ad i)] σ (fun r τ => (r = 1 ∧ tk_wb a n f t.2.2 = true ∧ xS_t σ τ ∧ x_tk a n τ (tk_x a n f)) ∨ (r = 0 ∧ ¬ tk_wb a n f t.2.2 = true ∧ τ = σ)) := by
  refine jf_mkIZ (by decide) (Nat.le_of_ble_eq_true rfl) ?_
  intro G C hZ ret
  have hY := (hZ.2 i t ht).2
  have ok := js_oks t (List.mem_of_getElem? ht)
  have ol := ok.1
  have hn : Int32.ofNat t.2.2.length >>> (0 &&& 31) = Int32.ofNat t.2.2.length := by rw [show (0 &&& 31 : Int32) = 0 from rfl]; exact js_sh0 _
  have hl2 : (Int32.ofNat t.2.2.length).toInt = (t.2.2.length : Int) := nI_toInt (by omega)
  have hv := x_adv h
  have y1 := h.2.2.1
  have y2 := h.2.2.2.1
  have f1 := hv.1
  have tok := tk_t_ok (a := a) h.2.1
  have fle := h.2.1
  have es : ((σ.1 9 5) - (σ.1 9 4)).toInt = ((tk_t a n f - f : Nat) : Int) := by rw [fb_subI (by omega) (by omega), y1, y2]; omega
  have l20 : ∀ (m : Nat) (k : Int32), 0 ≤ k.toInt → k.toInt ≤ (t.2.2.length : Int) → (t.2.2.length : Int) - k.toInt < m → tk_t a n f - f = t.2.2.length → (∀ q : Nat, (q : Int) < k.toInt → f + q < n ∧ (a (f + q)).toInt = (t.2.2.getD q 0).toInt) → jf_X jh_X E G 3 20 [(0, jf_r E 9), (1, .ref (ad i)), (2, .int k)] [] σ := by
    intro m
    induction m with
    | zero => intro k g1 g2 g3; exfalso; omega
    | succ m ih =>
      intro k g1 g2 g3 g4 g5
      have e1 := ji_inc (k := k) (by omega)
      have ek := ji_tn g1
      have ea : ((σ.1 9 4) + k).toInt = ((σ.1 9 4)).toInt + k.toInt := fb_addI (by omega) (by omega)
      have cl : ((σ.1 9 4) + k).toNatClampNeg = f + k.toNatClampNeg := ji_cl (by omega)
      have no : ¬ (f + k.toNatClampNeg < n ∧ (a (f + k.toNatClampNeg)).toInt = (t.2.2.getD k.toNatClampNeg 0).toInt) → k.toInt < (t.2.2.length : Int) → ¬ tk_wb a n f t.2.2 = true := by
        intro q lt w
        exact q ((tk_wb_i.mp w).2 k.toNatClampNeg (by omega))
      refine jr_iload_n C dX6_takeWord_20 rfl ?_
      refine jr_aload_n C dX6_takeWord_21 rfl ?_
      refine jr_sti C [] _ hY.2 (js_length E (ad i) (av i) _ _ hn) rfl ky_length kv_length kw_X6_113 (by decide) rfl (Nat.le_of_ble_eq_true rfl) dX6_takeWord_22 ?_
      refine jr_ncmp_ge C (b := (t.2.2.length : Int)) 68 dX6_takeWord_25 (by decide) rfl hl2 (fun b25 => ?_) (fun b25 => ?_)
      · refine jr_aload_n C dX6_takeWord_68 rfl ?_
        refine jr_vv C [] _ (ct_X6_advance2 E _ a n (tk_t a n f) hv.1 hv.2.1 hv.2.2.1 hv.2.2.2.1 hv.2.2.2.2) ky_X6_advance kv_X6_advance kk_X_9 km_X6_35 (by decide) rfl (Nat.le_of_ble_eq_true rfl) dX6_takeWord_69 (fun τ69 h69 => ?_)
        refine jr_iconst C (v := 1) dX6_takeWord_72 (by decide) ?_
        exact ret _ _ _ _ dX6_takeWord_73 (rfl) (Or.inl ⟨rfl, tk_wb_i.mpr ⟨g4, fun q hq => g5 q (by omega)⟩, h69⟩)
      · refine jr_aload_n C dX6_takeWord_28 rfl ?_
        refine jr_geti C kf_X6_61_9 dX6_takeWord_29 ?_
        refine jr_iload_n C dX6_takeWord_32 rfl ?_
        refine jr_iadd C dX6_takeWord_33 ?_
        refine jr_aload_n C dX6_takeWord_34 rfl ?_
        refine jr_geti C kf_X6_22_9 dX6_takeWord_35 ?_
        refine jr_ncmp_ge C 60 dX6_takeWord_38 (by decide) ea rfl (fun b38 => ?_) (fun b38 => ?_)
        · refine jr_iconst C (v := 0) dX6_takeWord_60 (by decide) ?_
          exact ret _ _ _ _ dX6_takeWord_61 (rfl) (Or.inr ⟨rfl, no (fun q => by omega) (by omega), rfl⟩)
        · refine jr_aload_n C dX6_takeWord_41 rfl ?_
          refine jr_getr C kf_X6_11_9 dX6_takeWord_42 ?_
          refine jr_aload_n C dX6_takeWord_45 rfl ?_
          refine jr_geti C kf_X6_61_9 dX6_takeWord_46 ?_
          refine jr_iload_n C dX6_takeWord_49 rfl ?_
          refine jr_iadd C dX6_takeWord_50 ?_
          refine jr_ialv C ka_X_49 dX6_takeWord_51 (ji_in (i := (σ.1 9 4) + k) (by omega) (by omega)) (v := a (f + k.toNatClampNeg)) (by rw [f1, cl]) ?_
          refine jr_aload_n C dX6_takeWord_52 rfl ?_
          refine jr_iload_n C dX6_takeWord_53 rfl ?_
          refine jr_chr C _ hZ.1 ok hY g1 (by omega) kw_X6_118 (by decide) (Nat.le_of_ble_eq_true rfl) rfl dX6_takeWord_54 ?_
          refine jr_ncmp_eq C 62 dX6_takeWord_57 (by decide) rfl rfl (fun b57 => ?_) (fun b57 => ?_)
          · refine jr_iinc C _ dX6_takeWord_62 rfl rfl (by decide) ?_
            refine jr_goto C 20 dX6_takeWord_65 (by decide) ?_
            exact jr_sub [(0, jf_r E 9), (1, .ref (ad i)), (2, .int _)] rfl (ih _ (by omega) (by omega) (by omega) g4 (fun q hq => by by_cases c : q = k.toNatClampNeg; (rw [c]; exact ⟨by omega, b57⟩); exact g5 q (by omega)))
          · refine jr_iconst C (v := 0) dX6_takeWord_60 (by decide) ?_
            exact ret _ _ _ _ dX6_takeWord_61 (rfl) (Or.inr ⟨rfl, no (fun q => b57 q.2) (by omega), rfl⟩)
  refine jr_aload_n C dX6_takeWord_0 rfl ?_
  refine jr_geti C kf_X6_32_9 dX6_takeWord_1 ?_
  refine jr_aload_n C dX6_takeWord_4 rfl ?_
  refine jr_geti C kf_X6_61_9 dX6_takeWord_5 ?_
  refine jr_isub C dX6_takeWord_8 ?_
  refine jr_aload_n C dX6_takeWord_9 rfl ?_
  refine jr_sti C [] _ hY.2 (js_length E (ad i) (av i) _ _ hn) rfl ky_length kv_length kw_X6_113 (by decide) rfl (Nat.le_of_ble_eq_true rfl) dX6_takeWord_10 ?_
  refine jr_ncmp_eq C (b := (t.2.2.length : Int)) 18 dX6_takeWord_13 (by decide) es hl2 (fun b13 => ?_) (fun b13 => ?_)
  · refine jr_iconst C (v := 0) dX6_takeWord_18 (by decide) ?_
    refine jr_istore_n C dX6_takeWord_19 (by decide) ?_
    exact jr_sub [(0, jf_r E 9), (1, .ref (ad i)), (2, .int 0)] rfl (l20 102 _ (by decide) (by show (0 : Int) ≤ _; omega) (by show _ - (0 : Int) < _; omega) (by omega) (fun q hq => by exfalso; have : (0 : Int32).toInt = 0 := rfl; omega))
  · refine jr_iconst C (v := 0) dX6_takeWord_16 (by decide) ?_
    exact ret _ _ _ _ dX6_takeWord_17 (rfl) (Or.inr ⟨rfl, fun w => b13 (by rw [(tk_wb_i.mp w).1]), rfl⟩)

