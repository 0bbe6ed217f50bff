/-! the class: its reader, safe -/
/-- where the reader stands -/
def xT (σ : jf_S) : Prop := (0 ≤ ((σ.1 9 2)).toInt ∧ ((σ.1 9 2)).toInt ≤ 300) ∧ (0 ≤ ((σ.1 9 4)).toInt ∧ ((σ.1 9 4)).toInt ≤ ((σ.1 9 2)).toInt) ∧ (0 ≤ ((σ.1 9 5)).toInt ∧ ((σ.1 9 5)).toInt ≤ ((σ.1 9 2)).toInt)
def xS_t (σ τ : jf_S) : Prop := τ.2 = σ.2 ∧ (∀ k, k ≠ 9 → τ.1 k = σ.1 k) ∧ (∀ j, j < 4 → τ.1 9 j = σ.1 9 j)
theorem xS_t_r (σ : jf_S) : xS_t σ σ := ⟨rfl, fun _ _ => rfl, fun _ _ => rfl⟩
theorem xS_t_t {σ τ υ : jf_S} (h : xS_t σ τ) (g : xS_t τ υ) : xS_t σ υ := ⟨g.1.trans h.1, fun k a => (g.2.1 k a).trans (h.2.1 k a), fun j a => (g.2.2 j a).trans (h.2.2 j a)⟩
theorem xS_t_i {σ τ : jf_S} (h : xS_t σ τ) {j : Nat} {v : Int32} (hj : 4 ≤ j) : xS_t σ (jf_i τ 9 j v) := by
  refine ⟨h.1, fun k a => ?_, fun i a => ?_⟩
  · rw [jf_i_o k a]; exact h.2.1 k a
  · rw [jf_i_at]; unfold upd; rw [if_neg (by omega)]; exact h.2.2 i a
theorem xS_t_l {σ τ : jf_S} (h : xS_t σ τ) : ((τ.1 9 2)).toInt = ((σ.1 9 2)).toInt := by rw [h.2.2 2 (by decide)]
theorem ct_X7_addStep (E : jf_E) (σ : jf_S) (v : Int32) (hn : 0 ≤ ((σ.1 11 3)).toInt ∧ ((σ.1 11 3)).toInt ≤ 300) : jf_V jh_X E yX7_addStep cX7_addStep 2 0 [jf_r E 11, .int v] σ (fun τ => τ = σ ∨ (((σ.1 11 3)).toInt < 300 ∧ τ = jf_i (jf_i σ 55 ((σ.1 11 3)).toNatClampNeg v) 11 3 ((σ.1 11 3) + 1))) := by
  refine jf_mkV (by decide) (Nat.le_of_ble_eq_true rfl) ?_
  intro G C ret
  refine jr_aload_n C dX7_addStep_0 rfl ?_
  refine jr_getv C kf_X7_20_11 dX7_addStep_1 (v := σ.1 11 3) rfl ?_
  refine jr_sipush C (v := 300) dX7_addStep_4 (by decide) ?_
  refine jr_ncmp_ge C (b := 300) 30 dX7_addStep_7 (by decide) rfl rfl (fun b7 => ?_) (fun b7 => ?_)
  · refine ret _ _ _ dX7_addStep_30 ?_
    first | exact Or.inl rfl | exact Or.inr ⟨by omega, rfl⟩
  · refine jr_aload_n C dX7_addStep_10 rfl ?_
    refine jr_getr C kf_X7_9_11 dX7_addStep_11 ?_
    refine jr_aload_n C dX7_addStep_14 rfl ?_
    refine jr_getv C kf_X7_20_11 dX7_addStep_15 (v := σ.1 11 3) rfl ?_
    refine jr_iload_n C dX7_addStep_18 rfl ?_
    refine jr_iast C ka_X_55 dX7_addStep_19 (ji_in (i := (σ.1 11 3)) (by omega) (by omega)) ?_
    refine jr_aload_n C dX7_addStep_20 rfl ?_
    refine jr_dup C dX7_addStep_21 rfl ?_
    refine jr_getv C kf_X7_20_11 dX7_addStep_22 (v := σ.1 11 3) rfl ?_
    refine jr_iconst C (v := 1) dX7_addStep_25 (by decide) ?_
    refine jr_iadd C dX7_addStep_26 ?_
    refine jr_puti C kp_X7_20_11 dX7_addStep_27 ?_
    refine ret _ _ _ dX7_addStep_30 ?_
    first | exact Or.inl rfl | exact Or.inr ⟨by omega, rfl⟩
theorem ct_X7_addNumber (E : jf_E) (σ : jf_S) (v : Int32) (hn : 0 ≤ ((σ.1 11 4)).toInt ∧ ((σ.1 11 4)).toInt ≤ 5) : jf_I jh_X E yX7_addNumber cX7_addNumber 2 .boolean 0 [jf_r E 11, .int v] σ (fun r τ => (r = 0 ∨ r = 1) ∧ (τ = σ ∨ (((σ.1 11 4)).toInt < 5 ∧ τ = jf_i (jf_i σ 56 ((σ.1 11 4)).toNatClampNeg v) 11 4 ((σ.1 11 4) + 1)))) := by
  refine jf_mkI (by decide) (Nat.le_of_ble_eq_true rfl) ?_
  intro G C ret
  refine jr_aload_n C dX7_addNumber_0 rfl ?_
  refine jr_getv C kf_X7_24_11 dX7_addNumber_1 (v := σ.1 11 4) rfl ?_
  refine jr_iconst C (v := 5) dX7_addNumber_4 (by decide) ?_
  refine jr_ncmp_lt C (b := 5) 10 dX7_addNumber_5 (by decide) rfl rfl (fun b5 => ?_) (fun b5 => ?_)
  · refine jr_aload_n C dX7_addNumber_10 rfl ?_
    refine jr_getr C kf_X7_13_11 dX7_addNumber_11 ?_
    refine jr_aload_n C dX7_addNumber_14 rfl ?_
    refine jr_getv C kf_X7_24_11 dX7_addNumber_15 (v := σ.1 11 4) rfl ?_
    refine jr_iload_n C dX7_addNumber_18 rfl ?_
    refine jr_iast C ka_X_56 dX7_addNumber_19 (ji_in (i := (σ.1 11 4)) (by omega) (by omega)) ?_
    refine jr_aload_n C dX7_addNumber_20 rfl ?_
    refine jr_dup C dX7_addNumber_21 rfl ?_
    refine jr_getv C kf_X7_24_11 dX7_addNumber_22 (v := σ.1 11 4) rfl ?_
    refine jr_iconst C (v := 1) dX7_addNumber_25 (by decide) ?_
    refine jr_iadd C dX7_addNumber_26 ?_
    refine jr_puti C kp_X7_24_11 dX7_addNumber_27 ?_
    refine jr_iconst C (v := 1) dX7_addNumber_30 (by decide) ?_
    exact ret _ _ _ _ dX7_addNumber_31 (rfl) (by first | exact ⟨by decide, Or.inl rfl⟩ | exact ⟨by decide, Or.inr ⟨by omega, rfl⟩⟩)
  · refine jr_iconst C (v := 0) dX7_addNumber_8 (by decide) ?_
    exact ret _ _ _ _ dX7_addNumber_9 (rfl) (by first | exact ⟨by decide, Or.inl rfl⟩ | exact ⟨by decide, Or.inr ⟨by omega, rfl⟩⟩)
theorem ct_X6_advance0 (E : jf_E) (σ : jf_S) (hL : 0 ≤ ((σ.1 9 2)).toInt ∧ ((σ.1 9 2)).toInt ≤ 300) (n0 : 0 ≤ ((σ.1 9 5)).toInt ∧ ((σ.1 9 5)).toInt ≤ ((σ.1 9 2)).toInt) : jf_V jh_X E yX6_advance cX6_advance 2 0 [jf_r E 9] σ (fun τ => xS_t σ τ ∧ xT τ) := by
  refine jf_mkV (by decide) (Nat.le_of_ble_eq_true rfl) ?_
  intro G C ret
  have l93 : ∀ (m : Nat) (τ : jf_S) (v : Int32), xS_t σ τ ∧ xT τ → ((τ.1 9 2)).toInt - ((τ.1 9 5)).toInt < m → jf_X jh_X E G 2 93 [(0, jf_r E 9), (1, .int v)] [] τ := by
    intro m
    induction m with
    | zero => intro τ v z g; exfalso; have := z.2.2.2; omega
    | succ m ih =>
      intro τ v z g
      have c1 := z.2.1
      have c2 := z.2.2.2
      have e1 := ji_inc1 (k := (τ.1 9 5)) (by omega)
      refine jr_aload_n C dX6_advance_93 rfl ?_
      refine jr_getv C kf_X6_32_9 dX6_advance_94 (v := τ.1 9 5) rfl ?_
      refine jr_aload_n C dX6_advance_97 rfl ?_
      refine jr_getv C kf_X6_22_9 dX6_advance_98 (v := τ.1 9 2) rfl ?_
      refine jr_ncmp_ge C 258 dX6_advance_101 (by decide) rfl rfl (fun b101 => ?_) (fun b101 => ?_)
      · exact ret _ _ _ dX6_advance_258 (z)
      · refine jr_aload_n C dX6_advance_104 rfl ?_
        refine jr_getr C kf_X6_11_9 dX6_advance_105 ?_
        refine jr_aload_n C dX6_advance_108 rfl ?_
        refine jr_getv C kf_X6_32_9 dX6_advance_109 (v := τ.1 9 5) rfl ?_
        refine jr_ialv C ka_X_49 dX6_advance_112 (ji_in (i := (τ.1 9 5)) (by omega) (by omega)) (v := τ.1 49 _) rfl ?_
        refine jr_bipush C (v := 97) dX6_advance_113 (by decide) ?_
        refine jr_ncmp_lt C (b := 97) 258 dX6_advance_115 (by decide) rfl rfl (fun b115 => ?_) (fun b115 => ?_)
        · exact ret _ _ _ dX6_advance_258 (z)
        · refine jr_aload_n C dX6_advance_118 rfl ?_
          refine jr_getr C kf_X6_11_9 dX6_advance_119 ?_
          refine jr_aload_n C dX6_advance_122 rfl ?_
          refine jr_getv C kf_X6_32_9 dX6_advance_123 (v := τ.1 9 5) rfl ?_
          refine jr_ialv C ka_X_49 dX6_advance_126 (ji_in (i := (τ.1 9 5)) (by omega) (by omega)) (v := τ.1 49 _) rfl ?_
          refine jr_bipush C (v := 122) dX6_advance_127 (by decide) ?_
          refine jr_ncmp_gt C (b := 122) 258 dX6_advance_129 (by decide) rfl rfl (fun b129 => ?_) (fun b129 => ?_)
          · exact ret _ _ _ dX6_advance_258 (z)
          · refine jr_aload_n C dX6_advance_132 rfl ?_
            refine jr_dup C dX6_advance_133 rfl ?_
            refine jr_getv C kf_X6_32_9 dX6_advance_134 (v := τ.1 9 5) rfl ?_
            refine jr_iconst C (v := 1) dX6_advance_137 (by decide) ?_
            refine jr_iadd C dX6_advance_138 ?_
            refine jr_puti C kp_X6_32_9 dX6_advance_139 ?_
            refine jr_goto C 93 dX6_advance_142 (by decide) ?_
            exact jr_sub [(0, jf_r E 9), (1, .int v)] rfl (ih _ _ ⟨xS_t_i z.1 (by decide), z.2.1, z.2.2.1, ⟨show 0 ≤ ((τ.1 9 5) + 1).toInt by omega, show ((τ.1 9 5) + 1).toInt ≤ ((τ.1 9 2)).toInt by omega⟩⟩ (show ((τ.1 9 2)).toInt - ((τ.1 9 5) + 1).toInt < _ by omega))
  have l162 : ∀ (m : Nat) (τ : jf_S) (v : Int32), xS_t σ τ ∧ xT τ → ((τ.1 9 2)).toInt - ((τ.1 9 5)).toInt < m → jf_X jh_X E G 2 162 [(0, jf_r E 9), (1, .int v)] [] τ := by
    intro m
    induction m with
    | zero => intro τ v z g; exfalso; have := z.2.2.2; omega
    | succ m ih =>
      intro τ v z g
      have c1 := z.2.1
      have c2 := z.2.2.2
      have e1 := ji_inc1 (k := (τ.1 9 5)) (by omega)
      refine jr_aload_n C dX6_advance_162 rfl ?_
      refine jr_getv C kf_X6_32_9 dX6_advance_163 (v := τ.1 9 5) rfl ?_
      refine jr_aload_n C dX6_advance_166 rfl ?_
      refine jr_getv C kf_X6_22_9 dX6_advance_167 (v := τ.1 9 2) rfl ?_
      refine jr_ncmp_ge C 258 dX6_advance_170 (by decide) rfl rfl (fun b170 => ?_) (fun b170 => ?_)
      · exact ret _ _ _ dX6_advance_258 (z)
      · refine jr_aload_n C dX6_advance_173 rfl ?_
        refine jr_getr C kf_X6_11_9 dX6_advance_174 ?_
        refine jr_aload_n C dX6_advance_177 rfl ?_
        refine jr_getv C kf_X6_32_9 dX6_advance_178 (v := τ.1 9 5) rfl ?_
        refine jr_ialv C ka_X_49 dX6_advance_181 (ji_in (i := (τ.1 9 5)) (by omega) (by omega)) (v := τ.1 49 _) rfl ?_
        refine jr_bipush C (v := 48) dX6_advance_182 (by decide) ?_
        refine jr_ncmp_lt C (b := 48) 258 dX6_advance_184 (by decide) rfl rfl (fun b184 => ?_) (fun b184 => ?_)
        · exact ret _ _ _ dX6_advance_258 (z)
        · refine jr_aload_n C dX6_advance_187 rfl ?_
          refine jr_getr C kf_X6_11_9 dX6_advance_188 ?_
          refine jr_aload_n C dX6_advance_191 rfl ?_
          refine jr_getv C kf_X6_32_9 dX6_advance_192 (v := τ.1 9 5) rfl ?_
          refine jr_ialv C ka_X_49 dX6_advance_195 (ji_in (i := (τ.1 9 5)) (by omega) (by omega)) (v := τ.1 49 _) rfl ?_
          refine jr_bipush C (v := 57) dX6_advance_196 (by decide) ?_
          refine jr_ncmp_gt C (b := 57) 258 dX6_advance_198 (by decide) rfl rfl (fun b198 => ?_) (fun b198 => ?_)
          · exact ret _ _ _ dX6_advance_258 (z)
          · refine jr_aload_n C dX6_advance_201 rfl ?_
            refine jr_getv C kf_X6_71_9 dX6_advance_202 (v := τ.1 9 6) rfl ?_
            refine jr_sipush C (v := 1000) dX6_advance_205 (by decide) ?_
            refine jr_ncmp_gt C (b := 1000) 235 dX6_advance_208 (by decide) rfl rfl (fun b208 => ?_) (fun b208 => ?_)
            · refine jr_aload_n C dX6_advance_235 rfl ?_
              refine jr_dup C dX6_advance_236 rfl ?_
              refine jr_getv C kf_X6_32_9 dX6_advance_237 (v := τ.1 9 5) rfl ?_
              refine jr_iconst C (v := 1) dX6_advance_240 (by decide) ?_
              refine jr_iadd C dX6_advance_241 ?_
              refine jr_puti C kp_X6_32_9 dX6_advance_242 ?_
              refine jr_goto C 162 dX6_advance_245 (by decide) ?_
              first | exact jr_sub [(0, jf_r E 9), (1, .int v)] rfl (ih _ _ ⟨xS_t_i z.1 (by decide), z.2.1, z.2.2.1, ⟨show 0 ≤ ((τ.1 9 5) + 1).toInt by omega, show ((τ.1 9 5) + 1).toInt ≤ ((τ.1 9 2)).toInt by omega⟩⟩ (show ((τ.1 9 2)).toInt - ((τ.1 9 5) + 1).toInt < _ by omega)) | exact jr_sub [(0, jf_r E 9), (1, .int v)] rfl (ih _ _ ⟨xS_t_i (xS_t_i z.1 (by decide)) (by decide), z.2.1, z.2.2.1, ⟨show 0 ≤ ((τ.1 9 5) + 1).toInt by omega, show ((τ.1 9 5) + 1).toInt ≤ ((τ.1 9 2)).toInt by omega⟩⟩ (show ((τ.1 9 2)).toInt - ((τ.1 9 5) + 1).toInt < _ by omega))
            · refine jr_aload_n C dX6_advance_211 rfl ?_
              refine jr_aload_n C dX6_advance_212 rfl ?_
              refine jr_getv C kf_X6_71_9 dX6_advance_213 (v := τ.1 9 6) rfl ?_
              refine jr_bipush C (v := 10) dX6_advance_216 (by decide) ?_
              refine jr_imul C dX6_advance_218 ?_
              refine jr_aload_n C dX6_advance_219 rfl ?_
              refine jr_getr C kf_X6_11_9 dX6_advance_220 ?_
              refine jr_aload_n C dX6_advance_223 rfl ?_
              refine jr_getv C kf_X6_32_9 dX6_advance_224 (v := τ.1 9 5) rfl ?_
              refine jr_ialv C ka_X_49 dX6_advance_227 (ji_in (i := (τ.1 9 5)) (by omega) (by omega)) (v := τ.1 49 _) rfl ?_
              refine jr_iadd C dX6_advance_228 ?_
              refine jr_bipush C (v := 48) dX6_advance_229 (by decide) ?_
              refine jr_isub C dX6_advance_231 ?_
              refine jr_puti C kp_X6_71_9 dX6_advance_232 ?_
              refine jr_aload_n C dX6_advance_235 rfl ?_
              refine jr_dup C dX6_advance_236 rfl ?_
              refine jr_getv C kf_X6_32_9 dX6_advance_237 (v := τ.1 9 5) rfl ?_
              refine jr_iconst C (v := 1) dX6_advance_240 (by decide) ?_
              refine jr_iadd C dX6_advance_241 ?_
              refine jr_puti C kp_X6_32_9 dX6_advance_242 ?_
              refine jr_goto C 162 dX6_advance_245 (by decide) ?_
              first | exact jr_sub [(0, jf_r E 9), (1, .int v)] rfl (ih _ _ ⟨xS_t_i z.1 (by decide), z.2.1, z.2.2.1, ⟨show 0 ≤ ((τ.1 9 5) + 1).toInt by omega, show ((τ.1 9 5) + 1).toInt ≤ ((τ.1 9 2)).toInt by omega⟩⟩ (show ((τ.1 9 2)).toInt - ((τ.1 9 5) + 1).toInt < _ by omega)) | exact jr_sub [(0, jf_r E 9), (1, .int v)] rfl (ih _ _ ⟨xS_t_i (xS_t_i z.1 (by decide)) (by decide), z.2.1, z.2.2.1, ⟨show 0 ≤ ((τ.1 9 5) + 1).toInt by omega, show ((τ.1 9 5) + 1).toInt ≤ ((τ.1 9 2)).toInt by omega⟩⟩ (show ((τ.1 9 2)).toInt - ((τ.1 9 5) + 1).toInt < _ by omega))
  have l8 : ∀ (m : Nat) (τ : jf_S), xS_t σ τ → 0 ≤ ((τ.1 9 4)).toInt → ((τ.1 9 4)).toInt ≤ ((τ.1 9 2)).toInt → ((τ.1 9 2)).toInt - ((τ.1 9 4)).toInt < m → jf_X jh_X E G 2 8 [(0, jf_r E 9)] [] τ := by
    intro m
    induction m with
    | zero => intro τ z g1 g2 g3; exfalso; omega
    | succ m ih =>
      intro τ z g1 g2 g3
      have c1 := xS_t_l z
      have e1 := ji_inc1 (k := (τ.1 9 4)) (by omega)
      have q1 : 0 ≤ ((τ.1 9 2)).toInt ∧ ((τ.1 9 2)).toInt ≤ 300 := ⟨by omega, by omega⟩
      refine jr_aload_n C dX6_advance_8 rfl ?_
      refine jr_getv C kf_X6_61_9 dX6_advance_9 (v := τ.1 9 4) rfl ?_
      refine jr_aload_n C dX6_advance_12 rfl ?_
      refine jr_getv C kf_X6_22_9 dX6_advance_13 (v := τ.1 9 2) rfl ?_
      refine jr_ncmp_ge C 46 dX6_advance_16 (by decide) rfl rfl (fun b16 => ?_) (fun b16 => ?_)
      · refine jr_aload_n C dX6_advance_46 rfl ?_
        refine jr_aload_n C dX6_advance_47 rfl ?_
        refine jr_getv C kf_X6_61_9 dX6_advance_48 (v := τ.1 9 4) rfl ?_
        refine jr_puti C kp_X6_32_9 dX6_advance_51 ?_
        refine jr_aload_n C dX6_advance_54 rfl ?_
        refine jr_iconst C (v := -1) dX6_advance_55 (by decide) ?_
        refine jr_puti C kp_X6_71_9 dX6_advance_56 ?_
        refine jr_aload_n C dX6_advance_59 rfl ?_
        refine jr_getv C kf_X6_61_9 dX6_advance_60 (v := τ.1 9 4) rfl ?_
        refine jr_aload_n C dX6_advance_63 rfl ?_
        refine jr_getv C kf_X6_22_9 dX6_advance_64 (v := τ.1 9 2) rfl ?_
        refine jr_ncmp_lt C 71 dX6_advance_67 (by decide) rfl rfl (fun b67 => ?_) (fun b67 => ?_)
        · refine jr_aload_n C dX6_advance_71 rfl ?_
          refine jr_getr C kf_X6_11_9 dX6_advance_72 ?_
          refine jr_aload_n C dX6_advance_75 rfl ?_
          refine jr_getv C kf_X6_61_9 dX6_advance_76 (v := τ.1 9 4) rfl ?_
          refine jr_ialv C ka_X_49 dX6_advance_79 (ji_in (i := (τ.1 9 4)) (by omega) (by omega)) (v := τ.1 49 _) rfl ?_
          refine jr_istore_n C dX6_advance_80 (by decide) ?_
          refine jr_iload_n C dX6_advance_81 rfl ?_
          refine jr_bipush C (v := 97) dX6_advance_82 (by decide) ?_
          refine jr_ncmp_lt C (b := 97) 145 dX6_advance_84 (by decide) rfl rfl (fun b84 => ?_) (fun b84 => ?_)
          · refine jr_iload_n C dX6_advance_145 rfl ?_
            refine jr_bipush C (v := 48) dX6_advance_146 (by decide) ?_
            refine jr_ncmp_lt C (b := 48) 248 dX6_advance_148 (by decide) rfl rfl (fun b148 => ?_) (fun b148 => ?_)
            · refine jr_aload_n C dX6_advance_248 rfl ?_
              refine jr_dup C dX6_advance_249 rfl ?_
              refine jr_geti C kf_X6_32_9 dX6_advance_250 ?_
              refine jr_iconst C (v := 1) dX6_advance_253 (by decide) ?_
              refine jr_iadd C dX6_advance_254 ?_
              refine jr_puti C kp_X6_32_9 dX6_advance_255 ?_
              exact ret _ _ _ dX6_advance_258 (⟨xS_t_i (xS_t_i (xS_t_i z (by decide)) (by decide)) (by decide), q1, ⟨g1, g2⟩, ⟨show 0 ≤ ((τ.1 9 4) + 1).toInt by omega, show ((τ.1 9 4) + 1).toInt ≤ ((τ.1 9 2)).toInt by omega⟩⟩)
            · refine jr_iload_n C dX6_advance_151 rfl ?_
              refine jr_bipush C (v := 57) dX6_advance_152 (by decide) ?_
              refine jr_ncmp_gt C (b := 57) 248 dX6_advance_154 (by decide) rfl rfl (fun b154 => ?_) (fun b154 => ?_)
              · refine jr_aload_n C dX6_advance_248 rfl ?_
                refine jr_dup C dX6_advance_249 rfl ?_
                refine jr_geti C kf_X6_32_9 dX6_advance_250 ?_
                refine jr_iconst C (v := 1) dX6_advance_253 (by decide) ?_
                refine jr_iadd C dX6_advance_254 ?_
                refine jr_puti C kp_X6_32_9 dX6_advance_255 ?_
                exact ret _ _ _ dX6_advance_258 (⟨xS_t_i (xS_t_i (xS_t_i z (by decide)) (by decide)) (by decide), q1, ⟨g1, g2⟩, ⟨show 0 ≤ ((τ.1 9 4) + 1).toInt by omega, show ((τ.1 9 4) + 1).toInt ≤ ((τ.1 9 2)).toInt by omega⟩⟩)
              · refine jr_aload_n C dX6_advance_157 rfl ?_
                refine jr_iconst C (v := 0) dX6_advance_158 (by decide) ?_
                refine jr_puti C kp_X6_71_9 dX6_advance_159 ?_
                exact jr_sub [(0, jf_r E 9), (1, .int _)] rfl (l162 302 _ _ ⟨xS_t_i (xS_t_i (xS_t_i z (by decide)) (by decide)) (by decide), q1, ⟨g1, g2⟩, ⟨g1, g2⟩⟩ (show ((τ.1 9 2)).toInt - ((τ.1 9 4)).toInt < 302 by omega))
          · refine jr_iload_n C dX6_advance_87 rfl ?_
            refine jr_bipush C (v := 122) dX6_advance_88 (by decide) ?_
            refine jr_ncmp_gt C (b := 122) 145 dX6_advance_90 (by decide) rfl rfl (fun b90 => ?_) (fun b90 => ?_)
            · refine jr_iload_n C dX6_advance_145 rfl ?_
              refine jr_bipush C (v := 48) dX6_advance_146 (by decide) ?_
              refine jr_ncmp_lt C (b := 48) 248 dX6_advance_148 (by decide) rfl rfl (fun b148 => ?_) (fun b148 => ?_)
              · refine jr_aload_n C dX6_advance_248 rfl ?_
                refine jr_dup C dX6_advance_249 rfl ?_
                refine jr_geti C kf_X6_32_9 dX6_advance_250 ?_
                refine jr_iconst C (v := 1) dX6_advance_253 (by decide) ?_
                refine jr_iadd C dX6_advance_254 ?_
                refine jr_puti C kp_X6_32_9 dX6_advance_255 ?_
                exact ret _ _ _ dX6_advance_258 (⟨xS_t_i (xS_t_i (xS_t_i z (by decide)) (by decide)) (by decide), q1, ⟨g1, g2⟩, ⟨show 0 ≤ ((τ.1 9 4) + 1).toInt by omega, show ((τ.1 9 4) + 1).toInt ≤ ((τ.1 9 2)).toInt by omega⟩⟩)
              · refine jr_iload_n C dX6_advance_151 rfl ?_
                refine jr_bipush C (v := 57) dX6_advance_152 (by decide) ?_
                refine jr_ncmp_gt C (b := 57) 248 dX6_advance_154 (by decide) rfl rfl (fun b154 => ?_) (fun b154 => ?_)
                · refine jr_aload_n C dX6_advance_248 rfl ?_
                  refine jr_dup C dX6_advance_249 rfl ?_
                  refine jr_geti C kf_X6_32_9 dX6_advance_250 ?_
                  refine jr_iconst C (v := 1) dX6_advance_253 (by decide) ?_
                  refine jr_iadd C dX6_advance_254 ?_
                  refine jr_puti C kp_X6_32_9 dX6_advance_255 ?_
                  exact ret _ _ _ dX6_advance_258 (⟨xS_t_i (xS_t_i (xS_t_i z (by decide)) (by decide)) (by decide), q1, ⟨g1, g2⟩, ⟨show 0 ≤ ((τ.1 9 4) + 1).toInt by omega, show ((τ.1 9 4) + 1).toInt ≤ ((τ.1 9 2)).toInt by omega⟩⟩)
                · refine jr_aload_n C dX6_advance_157 rfl ?_
                  refine jr_iconst C (v := 0) dX6_advance_158 (by decide) ?_
                  refine jr_puti C kp_X6_71_9 dX6_advance_159 ?_
                  exact jr_sub [(0, jf_r E 9), (1, .int _)] rfl (l162 302 _ _ ⟨xS_t_i (xS_t_i (xS_t_i z (by decide)) (by decide)) (by decide), q1, ⟨g1, g2⟩, ⟨g1, g2⟩⟩ (show ((τ.1 9 2)).toInt - ((τ.1 9 4)).toInt < 302 by omega))
            · exact jr_sub [(0, jf_r E 9), (1, .int _)] rfl (l93 302 _ _ ⟨xS_t_i (xS_t_i z (by decide)) (by decide), q1, ⟨g1, g2⟩, ⟨g1, g2⟩⟩ (show ((τ.1 9 2)).toInt - ((τ.1 9 4)).toInt < 302 by omega))
        · exact ret _ _ _ dX6_advance_70 (⟨xS_t_i (xS_t_i z (by decide)) (by decide), q1, ⟨g1, g2⟩, ⟨g1, g2⟩⟩)
      · refine jr_aload_n C dX6_advance_19 rfl ?_
        refine jr_getr C kf_X6_11_9 dX6_advance_20 ?_
        refine jr_aload_n C dX6_advance_23 rfl ?_
        refine jr_getv C kf_X6_61_9 dX6_advance_24 (v := τ.1 9 4) rfl ?_
        refine jr_ialv C ka_X_49 dX6_advance_27 (ji_in (i := (τ.1 9 4)) (by omega) (by omega)) (v := τ.1 49 _) rfl ?_
        refine jr_bipush C (v := 32) dX6_advance_28 (by decide) ?_
        refine jr_ncmp_ne C (b := 32) 46 dX6_advance_30 (by decide) rfl rfl (fun b30 => ?_) (fun b30 => ?_)
        · refine jr_aload_n C dX6_advance_46 rfl ?_
          refine jr_aload_n C dX6_advance_47 rfl ?_
          refine jr_getv C kf_X6_61_9 dX6_advance_48 (v := τ.1 9 4) rfl ?_
          refine jr_puti C kp_X6_32_9 dX6_advance_51 ?_
          refine jr_aload_n C dX6_advance_54 rfl ?_
          refine jr_iconst C (v := -1) dX6_advance_55 (by decide) ?_
          refine jr_puti C kp_X6_71_9 dX6_advance_56 ?_
          refine jr_aload_n C dX6_advance_59 rfl ?_
          refine jr_getv C kf_X6_61_9 dX6_advance_60 (v := τ.1 9 4) rfl ?_
          refine jr_aload_n C dX6_advance_63 rfl ?_
          refine jr_getv C kf_X6_22_9 dX6_advance_64 (v := τ.1 9 2) rfl ?_
          refine jr_ncmp_lt C 71 dX6_advance_67 (by decide) rfl rfl (fun b67 => ?_) (fun b67 => ?_)
          · refine jr_aload_n C dX6_advance_71 rfl ?_
            refine jr_getr C kf_X6_11_9 dX6_advance_72 ?_
            refine jr_aload_n C dX6_advance_75 rfl ?_
            refine jr_getv C kf_X6_61_9 dX6_advance_76 (v := τ.1 9 4) rfl ?_
            refine jr_ialv C ka_X_49 dX6_advance_79 (ji_in (i := (τ.1 9 4)) (by omega) (by omega)) (v := τ.1 49 _) rfl ?_
            refine jr_istore_n C dX6_advance_80 (by decide) ?_
            refine jr_iload_n C dX6_advance_81 rfl ?_
            refine jr_bipush C (v := 97) dX6_advance_82 (by decide) ?_
            refine jr_ncmp_lt C (b := 97) 145 dX6_advance_84 (by decide) rfl rfl (fun b84 => ?_) (fun b84 => ?_)
            · refine jr_iload_n C dX6_advance_145 rfl ?_
              refine jr_bipush C (v := 48) dX6_advance_146 (by decide) ?_
              refine jr_ncmp_lt C (b := 48) 248 dX6_advance_148 (by decide) rfl rfl (fun b148 => ?_) (fun b148 => ?_)
              · refine jr_aload_n C dX6_advance_248 rfl ?_
                refine jr_dup C dX6_advance_249 rfl ?_
                refine jr_geti C kf_X6_32_9 dX6_advance_250 ?_
                refine jr_iconst C (v := 1) dX6_advance_253 (by decide) ?_
                refine jr_iadd C dX6_advance_254 ?_
                refine jr_puti C kp_X6_32_9 dX6_advance_255 ?_
                exact ret _ _ _ dX6_advance_258 (⟨xS_t_i (xS_t_i (xS_t_i z (by decide)) (by decide)) (by decide), q1, ⟨g1, g2⟩, ⟨show 0 ≤ ((τ.1 9 4) + 1).toInt by omega, show ((τ.1 9 4) + 1).toInt ≤ ((τ.1 9 2)).toInt by omega⟩⟩)
              · refine jr_iload_n C dX6_advance_151 rfl ?_
                refine jr_bipush C (v := 57) dX6_advance_152 (by decide) ?_
                refine jr_ncmp_gt C (b := 57) 248 dX6_advance_154 (by decide) rfl rfl (fun b154 => ?_) (fun b154 => ?_)
                · refine jr_aload_n C dX6_advance_248 rfl ?_
                  refine jr_dup C dX6_advance_249 rfl ?_
                  refine jr_geti C kf_X6_32_9 dX6_advance_250 ?_
                  refine jr_iconst C (v := 1) dX6_advance_253 (by decide) ?_
                  refine jr_iadd C dX6_advance_254 ?_
                  refine jr_puti C kp_X6_32_9 dX6_advance_255 ?_
                  exact ret _ _ _ dX6_advance_258 (⟨xS_t_i (xS_t_i (xS_t_i z (by decide)) (by decide)) (by decide), q1, ⟨g1, g2⟩, ⟨show 0 ≤ ((τ.1 9 4) + 1).toInt by omega, show ((τ.1 9 4) + 1).toInt ≤ ((τ.1 9 2)).toInt by omega⟩⟩)
                · refine jr_aload_n C dX6_advance_157 rfl ?_
                  refine jr_iconst C (v := 0) dX6_advance_158 (by decide) ?_
                  refine jr_puti C kp_X6_71_9 dX6_advance_159 ?_
                  exact jr_sub [(0, jf_r E 9), (1, .int _)] rfl (l162 302 _ _ ⟨xS_t_i (xS_t_i (xS_t_i z (by decide)) (by decide)) (by decide), q1, ⟨g1, g2⟩, ⟨g1, g2⟩⟩ (show ((τ.1 9 2)).toInt - ((τ.1 9 4)).toInt < 302 by omega))
            · refine jr_iload_n C dX6_advance_87 rfl ?_
              refine jr_bipush C (v := 122) dX6_advance_88 (by decide) ?_
              refine jr_ncmp_gt C (b := 122) 145 dX6_advance_90 (by decide) rfl rfl (fun b90 => ?_) (fun b90 => ?_)
              · refine jr_iload_n C dX6_advance_145 rfl ?_
                refine jr_bipush C (v := 48) dX6_advance_146 (by decide) ?_
                refine jr_ncmp_lt C (b := 48) 248 dX6_advance_148 (by decide) rfl rfl (fun b148 => ?_) (fun b148 => ?_)
                · refine jr_aload_n C dX6_advance_248 rfl ?_
                  refine jr_dup C dX6_advance_249 rfl ?_
                  refine jr_geti C kf_X6_32_9 dX6_advance_250 ?_
                  refine jr_iconst C (v := 1) dX6_advance_253 (by decide) ?_
                  refine jr_iadd C dX6_advance_254 ?_
                  refine jr_puti C kp_X6_32_9 dX6_advance_255 ?_
                  exact ret _ _ _ dX6_advance_258 (⟨xS_t_i (xS_t_i (xS_t_i z (by decide)) (by decide)) (by decide), q1, ⟨g1, g2⟩, ⟨show 0 ≤ ((τ.1 9 4) + 1).toInt by omega, show ((τ.1 9 4) + 1).toInt ≤ ((τ.1 9 2)).toInt by omega⟩⟩)
                · refine jr_iload_n C dX6_advance_151 rfl ?_
                  refine jr_bipush C (v := 57) dX6_advance_152 (by decide) ?_
                  refine jr_ncmp_gt C (b := 57) 248 dX6_advance_154 (by decide) rfl rfl (fun b154 => ?_) (fun b154 => ?_)
                  · refine jr_aload_n C dX6_advance_248 rfl ?_
                    refine jr_dup C dX6_advance_249 rfl ?_
                    refine jr_geti C kf_X6_32_9 dX6_advance_250 ?_
                    refine jr_iconst C (v := 1) dX6_advance_253 (by decide) ?_
                    refine jr_iadd C dX6_advance_254 ?_
                    refine jr_puti C kp_X6_32_9 dX6_advance_255 ?_
                    exact ret _ _ _ dX6_advance_258 (⟨xS_t_i (xS_t_i (xS_t_i z (by decide)) (by decide)) (by decide), q1, ⟨g1, g2⟩, ⟨show 0 ≤ ((τ.1 9 4) + 1).toInt by omega, show ((τ.1 9 4) + 1).toInt ≤ ((τ.1 9 2)).toInt by omega⟩⟩)
                  · refine jr_aload_n C dX6_advance_157 rfl ?_
                    refine jr_iconst C (v := 0) dX6_advance_158 (by decide) ?_
                    refine jr_puti C kp_X6_71_9 dX6_advance_159 ?_
                    exact jr_sub [(0, jf_r E 9), (1, .int _)] rfl (l162 302 _ _ ⟨xS_t_i (xS_t_i (xS_t_i z (by decide)) (by decide)) (by decide), q1, ⟨g1, g2⟩, ⟨g1, g2⟩⟩ (show ((τ.1 9 2)).toInt - ((τ.1 9 4)).toInt < 302 by omega))
              · exact jr_sub [(0, jf_r E 9), (1, .int _)] rfl (l93 302 _ _ ⟨xS_t_i (xS_t_i z (by decide)) (by decide), q1, ⟨g1, g2⟩, ⟨g1, g2⟩⟩ (show ((τ.1 9 2)).toInt - ((τ.1 9 4)).toInt < 302 by omega))
          · exact ret _ _ _ dX6_advance_70 (⟨xS_t_i (xS_t_i z (by decide)) (by decide), q1, ⟨g1, g2⟩, ⟨g1, g2⟩⟩)
        · refine jr_aload_n C dX6_advance_33 rfl ?_
          refine jr_dup C dX6_advance_34 rfl ?_
          refine jr_getv C kf_X6_61_9 dX6_advance_35 (v := τ.1 9 4) rfl ?_
          refine jr_iconst C (v := 1) dX6_advance_38 (by decide) ?_
          refine jr_iadd C dX6_advance_39 ?_
          refine jr_puti C kp_X6_61_9 dX6_advance_40 ?_
          refine jr_goto C 8 dX6_advance_43 (by decide) ?_
          exact ih _ (xS_t_i z (by decide)) (show 0 ≤ ((τ.1 9 4) + 1).toInt by omega) (show ((τ.1 9 4) + 1).toInt ≤ ((τ.1 9 2)).toInt by omega) (show ((τ.1 9 2)).toInt - ((τ.1 9 4) + 1).toInt < _ by omega)
  refine jr_aload_n C dX6_advance_0 rfl ?_
  refine jr_aload_n C dX6_advance_1 rfl ?_
  refine jr_getv C kf_X6_32_9 dX6_advance_2 (v := σ.1 9 5) rfl ?_
  refine jr_puti C kp_X6_61_9 dX6_advance_5 ?_
  exact l8 302 _ (xS_t_i (xS_t_r σ) (by decide)) (show 0 ≤ ((σ.1 9 5)).toInt from n0.1) (show ((σ.1 9 5)).toInt ≤ ((σ.1 9 2)).toInt from n0.2) (show ((σ.1 9 2)).toInt - ((σ.1 9 5)).toInt < 302 by omega)
theorem ct_X6_advance (E : jf_E) (σ : jf_S) (hT : xT σ) : jf_V jh_X E yX6_advance cX6_advance 2 0 [jf_r E 9] σ (fun τ => xS_t σ τ ∧ xT τ) := ct_X6_advance0 E σ hT.1 hT.2.2

