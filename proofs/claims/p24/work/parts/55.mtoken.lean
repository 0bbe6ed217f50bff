/-! the reference: tokens -/
theorem ct_X11_isSmall (E : jf_E) (σ : jf_S) (c : Int32) : jf_I jh_M E yX11_isSmall cX11_isSmall 1 .boolean 0 [.int c] σ (fun r τ => r = jb (97 ≤ c.toInt ∧ c.toInt ≤ 122) ∧ τ = σ) := by
  refine jf_mkI (by decide) (Nat.le_of_ble_eq_true rfl) ?_
  intro G C ret
  refine jr_iload_n C dX11_isSmall_0 rfl ?_
  refine jr_bipush C (v := 97) dX11_isSmall_1 (by decide) ?_
  refine jr_ncmp_lt C (b := 97) 16 dX11_isSmall_3 (by decide) rfl rfl (fun b3 => ?_) (fun b3 => ?_)
  · refine jr_iconst C (v := 0) dX11_isSmall_16 (by decide) ?_
    exact ret _ _ _ _ dX11_isSmall_17 (rfl) (⟨by first | exact jb_tt ⟨by omega, by omega⟩ | exact jb_ff (fun h => by omega), rfl⟩)
  · refine jr_iload_n C dX11_isSmall_6 rfl ?_
    refine jr_bipush C (v := 122) dX11_isSmall_7 (by decide) ?_
    refine jr_ncmp_gt C (b := 122) 16 dX11_isSmall_9 (by decide) rfl rfl (fun b9 => ?_) (fun b9 => ?_)
    · refine jr_iconst C (v := 0) dX11_isSmall_16 (by decide) ?_
      exact ret _ _ _ _ dX11_isSmall_17 (rfl) (⟨by first | exact jb_tt ⟨by omega, by omega⟩ | exact jb_ff (fun h => by omega), rfl⟩)
    · refine jr_iconst C (v := 1) dX11_isSmall_12 (by decide) ?_
      refine jr_goto C 17 dX11_isSmall_13 (by decide) ?_
      exact ret _ _ _ _ dX11_isSmall_17 (rfl) (⟨by first | exact jb_tt ⟨by omega, by omega⟩ | exact jb_ff (fun h => by omega), rfl⟩)
theorem ct_X11_isDigit (E : jf_E) (σ : jf_S) (c : Int32) : jf_I jh_M E yX11_isDigit cX11_isDigit 1 .boolean 0 [.int c] σ (fun r τ => r = jb (48 ≤ c.toInt ∧ c.toInt ≤ 57) ∧ τ = σ) := by
  refine jf_mkI (by decide) (Nat.le_of_ble_eq_true rfl) ?_
  intro G C ret
  refine jr_iload_n C dX11_isDigit_0 rfl ?_
  refine jr_bipush C (v := 48) dX11_isDigit_1 (by decide) ?_
  refine jr_ncmp_lt C (b := 48) 16 dX11_isDigit_3 (by decide) rfl rfl (fun b3 => ?_) (fun b3 => ?_)
  · refine jr_iconst C (v := 0) dX11_isDigit_16 (by decide) ?_
    exact ret _ _ _ _ dX11_isDigit_17 (rfl) (⟨by first | exact jb_tt ⟨by omega, by omega⟩ | exact jb_ff (fun h => by omega), rfl⟩)
  · refine jr_iload_n C dX11_isDigit_6 rfl ?_
    refine jr_bipush C (v := 57) dX11_isDigit_7 (by decide) ?_
    refine jr_ncmp_gt C (b := 57) 16 dX11_isDigit_9 (by decide) rfl rfl (fun b9 => ?_) (fun b9 => ?_)
    · refine jr_iconst C (v := 0) dX11_isDigit_16 (by decide) ?_
      exact ret _ _ _ _ dX11_isDigit_17 (rfl) (⟨by first | exact jb_tt ⟨by omega, by omega⟩ | exact jb_ff (fun h => by omega), rfl⟩)
    · refine jr_iconst C (v := 1) dX11_isDigit_12 (by decide) ?_
      refine jr_goto C 17 dX11_isDigit_13 (by decide) ?_
      exact ret _ _ _ _ dX11_isDigit_17 (rfl) (⟨by first | exact jb_tt ⟨by omega, by omega⟩ | exact jb_ff (fun h => by omega), rfl⟩)
theorem ct_X11_word (E : jf_E) (σ : jf_S) (a b c d e f : Int32) : jf_O jh_M E yX11_word cX11_word 8 0 [.int a, .int b, .int c, .int d, .int e, .int f] σ (fun r τ => σ = τ) := by
  refine jf_mkO (by decide) (Nat.le_of_ble_eq_true rfl) ?_
  intro G C ret
  refine jr_iload_n C dX11_word_0 rfl ?_
  refine jr_i2l C dX11_word_1 ?_
  refine jr_ldc2 C kc_X11_300 dX11_word_2 ?_
  refine jr_lsub C dX11_word_5 ?_
  refine jr_ldc2 C kc_X11_298 dX11_word_6 ?_
  refine jr_lmul C dX11_word_9 ?_
  refine jr_iload_n C dX11_word_10 rfl ?_
  refine jr_i2l C dX11_word_11 ?_
  refine jr_ladd C dX11_word_12 ?_
  refine jr_ldc2 C kc_X11_300 dX11_word_13 ?_
  refine jr_lsub C dX11_word_16 ?_
  refine jr_lstore C dX11_word_17 (by decide) ?_
  refine jr_iload_n C dX11_word_19 rfl ?_
  refine jr_nif_ne C 28 dX11_word_20 (by decide) (fun b20 => ?_) (fun b20 => ?_)
  · refine jr_lload C dX11_word_28 rfl ?_
    refine jr_ldc2 C kc_X11_298 dX11_word_30 ?_
    refine jr_lmul C dX11_word_33 ?_
    refine jr_iload_n C dX11_word_34 rfl ?_
    refine jr_i2l C dX11_word_35 ?_
    refine jr_ladd C dX11_word_36 ?_
    refine jr_ldc2 C kc_X11_300 dX11_word_37 ?_
    refine jr_lsub C dX11_word_40 ?_
    refine jr_lstore C dX11_word_41 (by decide) ?_
    refine jr_iload_n C dX11_word_43 rfl ?_
    refine jr_nif_ne C 52 dX11_word_44 (by decide) (fun b44 => ?_) (fun b44 => ?_)
    · refine jr_lload C dX11_word_52 rfl ?_
      refine jr_ldc2 C kc_X11_298 dX11_word_54 ?_
      refine jr_lmul C dX11_word_57 ?_
      refine jr_iload_n C dX11_word_58 rfl ?_
      refine jr_i2l C dX11_word_59 ?_
      refine jr_ladd C dX11_word_60 ?_
      refine jr_ldc2 C kc_X11_300 dX11_word_61 ?_
      refine jr_lsub C dX11_word_64 ?_
      refine jr_lstore C dX11_word_65 (by decide) ?_
      refine jr_iload C dX11_word_67 rfl ?_
      refine jr_nif_ne C 77 dX11_word_69 (by decide) (fun b69 => ?_) (fun b69 => ?_)
      · refine jr_lload C dX11_word_77 rfl ?_
        refine jr_ldc2 C kc_X11_298 dX11_word_79 ?_
        refine jr_lmul C dX11_word_82 ?_
        refine jr_iload C dX11_word_83 rfl ?_
        refine jr_i2l C dX11_word_85 ?_
        refine jr_ladd C dX11_word_86 ?_
        refine jr_ldc2 C kc_X11_300 dX11_word_87 ?_
        refine jr_lsub C dX11_word_90 ?_
        refine jr_lstore C dX11_word_91 (by decide) ?_
        refine jr_iload C dX11_word_93 rfl ?_
        refine jr_nif_ne C 103 dX11_word_95 (by decide) (fun b95 => ?_) (fun b95 => ?_)
        · refine jr_lload C dX11_word_103 rfl ?_
          refine jr_ldc2 C kc_X11_298 dX11_word_105 ?_
          refine jr_lmul C dX11_word_108 ?_
          refine jr_iload C dX11_word_109 rfl ?_
          refine jr_i2l C dX11_word_111 ?_
          refine jr_ladd C dX11_word_112 ?_
          refine jr_ldc2 C kc_X11_300 dX11_word_113 ?_
          refine jr_lsub C dX11_word_116 ?_
          exact ret _ _ _ _ dX11_word_117 (rfl)
        · refine jr_lload C dX11_word_98 rfl ?_
          refine jr_goto C 117 dX11_word_100 (by decide) ?_
          exact ret _ _ _ _ dX11_word_117 (rfl)
      · refine jr_lload C dX11_word_72 rfl ?_
        refine jr_goto C 91 dX11_word_74 (by decide) ?_
        refine jr_lstore C dX11_word_91 (by decide) ?_
        refine jr_iload C dX11_word_93 rfl ?_
        refine jr_nif_ne C 103 dX11_word_95 (by decide) (fun b95 => ?_) (fun b95 => ?_)
        · refine jr_lload C dX11_word_103 rfl ?_
          refine jr_ldc2 C kc_X11_298 dX11_word_105 ?_
          refine jr_lmul C dX11_word_108 ?_
          refine jr_iload C dX11_word_109 rfl ?_
          refine jr_i2l C dX11_word_111 ?_
          refine jr_ladd C dX11_word_112 ?_
          refine jr_ldc2 C kc_X11_300 dX11_word_113 ?_
          refine jr_lsub C dX11_word_116 ?_
          exact ret _ _ _ _ dX11_word_117 (rfl)
        · refine jr_lload C dX11_word_98 rfl ?_
          refine jr_goto C 117 dX11_word_100 (by decide) ?_
          exact ret _ _ _ _ dX11_word_117 (rfl)
    · refine jr_lload C dX11_word_47 rfl ?_
      refine jr_goto C 65 dX11_word_49 (by decide) ?_
      refine jr_lstore C dX11_word_65 (by decide) ?_
      refine jr_iload C dX11_word_67 rfl ?_
      refine jr_nif_ne C 77 dX11_word_69 (by decide) (fun b69 => ?_) (fun b69 => ?_)
      · refine jr_lload C dX11_word_77 rfl ?_
        refine jr_ldc2 C kc_X11_298 dX11_word_79 ?_
        refine jr_lmul C dX11_word_82 ?_
        refine jr_iload C dX11_word_83 rfl ?_
        refine jr_i2l C dX11_word_85 ?_
        refine jr_ladd C dX11_word_86 ?_
        refine jr_ldc2 C kc_X11_300 dX11_word_87 ?_
        refine jr_lsub C dX11_word_90 ?_
        refine jr_lstore C dX11_word_91 (by decide) ?_
        refine jr_iload C dX11_word_93 rfl ?_
        refine jr_nif_ne C 103 dX11_word_95 (by decide) (fun b95 => ?_) (fun b95 => ?_)
        · refine jr_lload C dX11_word_103 rfl ?_
          refine jr_ldc2 C kc_X11_298 dX11_word_105 ?_
          refine jr_lmul C dX11_word_108 ?_
          refine jr_iload C dX11_word_109 rfl ?_
          refine jr_i2l C dX11_word_111 ?_
          refine jr_ladd C dX11_word_112 ?_
          refine jr_ldc2 C kc_X11_300 dX11_word_113 ?_
          refine jr_lsub C dX11_word_116 ?_
          exact ret _ _ _ _ dX11_word_117 (rfl)
        · refine jr_lload C dX11_word_98 rfl ?_
          refine jr_goto C 117 dX11_word_100 (by decide) ?_
          exact ret _ _ _ _ dX11_word_117 (rfl)
      · refine jr_lload C dX11_word_72 rfl ?_
        refine jr_goto C 91 dX11_word_74 (by decide) ?_
        refine jr_lstore C dX11_word_91 (by decide) ?_
        refine jr_iload C dX11_word_93 rfl ?_
        refine jr_nif_ne C 103 dX11_word_95 (by decide) (fun b95 => ?_) (fun b95 => ?_)
        · refine jr_lload C dX11_word_103 rfl ?_
          refine jr_ldc2 C kc_X11_298 dX11_word_105 ?_
          refine jr_lmul C dX11_word_108 ?_
          refine jr_iload C dX11_word_109 rfl ?_
          refine jr_i2l C dX11_word_111 ?_
          refine jr_ladd C dX11_word_112 ?_
          refine jr_ldc2 C kc_X11_300 dX11_word_113 ?_
          refine jr_lsub C dX11_word_116 ?_
          exact ret _ _ _ _ dX11_word_117 (rfl)
        · refine jr_lload C dX11_word_98 rfl ?_
          refine jr_goto C 117 dX11_word_100 (by decide) ?_
          exact ret _ _ _ _ dX11_word_117 (rfl)
  · refine jr_lload C dX11_word_23 rfl ?_
    refine jr_goto C 41 dX11_word_25 (by decide) ?_
    refine jr_lstore C dX11_word_41 (by decide) ?_
    refine jr_iload_n C dX11_word_43 rfl ?_
    refine jr_nif_ne C 52 dX11_word_44 (by decide) (fun b44 => ?_) (fun b44 => ?_)
    · refine jr_lload C dX11_word_52 rfl ?_
      refine jr_ldc2 C kc_X11_298 dX11_word_54 ?_
      refine jr_lmul C dX11_word_57 ?_
      refine jr_iload_n C dX11_word_58 rfl ?_
      refine jr_i2l C dX11_word_59 ?_
      refine jr_ladd C dX11_word_60 ?_
      refine jr_ldc2 C kc_X11_300 dX11_word_61 ?_
      refine jr_lsub C dX11_word_64 ?_
      refine jr_lstore C dX11_word_65 (by decide) ?_
      refine jr_iload C dX11_word_67 rfl ?_
      refine jr_nif_ne C 77 dX11_word_69 (by decide) (fun b69 => ?_) (fun b69 => ?_)
      · refine jr_lload C dX11_word_77 rfl ?_
        refine jr_ldc2 C kc_X11_298 dX11_word_79 ?_
        refine jr_lmul C dX11_word_82 ?_
        refine jr_iload C dX11_word_83 rfl ?_
        refine jr_i2l C dX11_word_85 ?_
        refine jr_ladd C dX11_word_86 ?_
        refine jr_ldc2 C kc_X11_300 dX11_word_87 ?_
        refine jr_lsub C dX11_word_90 ?_
        refine jr_lstore C dX11_word_91 (by decide) ?_
        refine jr_iload C dX11_word_93 rfl ?_
        refine jr_nif_ne C 103 dX11_word_95 (by decide) (fun b95 => ?_) (fun b95 => ?_)
        · refine jr_lload C dX11_word_103 rfl ?_
          refine jr_ldc2 C kc_X11_298 dX11_word_105 ?_
          refine jr_lmul C dX11_word_108 ?_
          refine jr_iload C dX11_word_109 rfl ?_
          refine jr_i2l C dX11_word_111 ?_
          refine jr_ladd C dX11_word_112 ?_
          refine jr_ldc2 C kc_X11_300 dX11_word_113 ?_
          refine jr_lsub C dX11_word_116 ?_
          exact ret _ _ _ _ dX11_word_117 (rfl)
        · refine jr_lload C dX11_word_98 rfl ?_
          refine jr_goto C 117 dX11_word_100 (by decide) ?_
          exact ret _ _ _ _ dX11_word_117 (rfl)
      · refine jr_lload C dX11_word_72 rfl ?_
        refine jr_goto C 91 dX11_word_74 (by decide) ?_
        refine jr_lstore C dX11_word_91 (by decide) ?_
        refine jr_iload C dX11_word_93 rfl ?_
        refine jr_nif_ne C 103 dX11_word_95 (by decide) (fun b95 => ?_) (fun b95 => ?_)
        · refine jr_lload C dX11_word_103 rfl ?_
          refine jr_ldc2 C kc_X11_298 dX11_word_105 ?_
          refine jr_lmul C dX11_word_108 ?_
          refine jr_iload C dX11_word_109 rfl ?_
          refine jr_i2l C dX11_word_111 ?_
          refine jr_ladd C dX11_word_112 ?_
          refine jr_ldc2 C kc_X11_300 dX11_word_113 ?_
          refine jr_lsub C dX11_word_116 ?_
          exact ret _ _ _ _ dX11_word_117 (rfl)
        · refine jr_lload C dX11_word_98 rfl ?_
          refine jr_goto C 117 dX11_word_100 (by decide) ?_
          exact ret _ _ _ _ dX11_word_117 (rfl)
    · refine jr_lload C dX11_word_47 rfl ?_
      refine jr_goto C 65 dX11_word_49 (by decide) ?_
      refine jr_lstore C dX11_word_65 (by decide) ?_
      refine jr_iload C dX11_word_67 rfl ?_
      refine jr_nif_ne C 77 dX11_word_69 (by decide) (fun b69 => ?_) (fun b69 => ?_)
      · refine jr_lload C dX11_word_77 rfl ?_
        refine jr_ldc2 C kc_X11_298 dX11_word_79 ?_
        refine jr_lmul C dX11_word_82 ?_
        refine jr_iload C dX11_word_83 rfl ?_
        refine jr_i2l C dX11_word_85 ?_
        refine jr_ladd C dX11_word_86 ?_
        refine jr_ldc2 C kc_X11_300 dX11_word_87 ?_
        refine jr_lsub C dX11_word_90 ?_
        refine jr_lstore C dX11_word_91 (by decide) ?_
        refine jr_iload C dX11_word_93 rfl ?_
        refine jr_nif_ne C 103 dX11_word_95 (by decide) (fun b95 => ?_) (fun b95 => ?_)
        · refine jr_lload C dX11_word_103 rfl ?_
          refine jr_ldc2 C kc_X11_298 dX11_word_105 ?_
          refine jr_lmul C dX11_word_108 ?_
          refine jr_iload C dX11_word_109 rfl ?_
          refine jr_i2l C dX11_word_111 ?_
          refine jr_ladd C dX11_word_112 ?_
          refine jr_ldc2 C kc_X11_300 dX11_word_113 ?_
          refine jr_lsub C dX11_word_116 ?_
          exact ret _ _ _ _ dX11_word_117 (rfl)
        · refine jr_lload C dX11_word_98 rfl ?_
          refine jr_goto C 117 dX11_word_100 (by decide) ?_
          exact ret _ _ _ _ dX11_word_117 (rfl)
      · refine jr_lload C dX11_word_72 rfl ?_
        refine jr_goto C 91 dX11_word_74 (by decide) ?_
        refine jr_lstore C dX11_word_91 (by decide) ?_
        refine jr_iload C dX11_word_93 rfl ?_
        refine jr_nif_ne C 103 dX11_word_95 (by decide) (fun b95 => ?_) (fun b95 => ?_)
        · refine jr_lload C dX11_word_103 rfl ?_
          refine jr_ldc2 C kc_X11_298 dX11_word_105 ?_
          refine jr_lmul C dX11_word_108 ?_
          refine jr_iload C dX11_word_109 rfl ?_
          refine jr_i2l C dX11_word_111 ?_
          refine jr_ladd C dX11_word_112 ?_
          refine jr_ldc2 C kc_X11_300 dX11_word_113 ?_
          refine jr_lsub C dX11_word_116 ?_
          exact ret _ _ _ _ dX11_word_117 (rfl)
        · refine jr_lload C dX11_word_98 rfl ?_
          refine jr_goto C 117 dX11_word_100 (by decide) ?_
          exact ret _ _ _ _ dX11_word_117 (rfl)
theorem ct_X11_isWord (E : jf_E) (σ : jf_S) (a b c d e f : Int32) : jf_I jh_M E yX11_isWord cX11_isWord 7 .boolean 1 [jf_r E 0, .int a, .int b, .int c, .int d, .int e, .int f] σ (fun r τ => (r = 0 ∨ (((σ.1 0 61)).toInt = 1 ∧ r = 1)) ∧ σ = τ) := by
  refine jf_mkI (by decide) (Nat.le_of_ble_eq_true rfl) ?_
  intro G C ret
  refine jr_aload_n C dX11_isWord_0 rfl ?_
  refine jr_getv C kf_X11_295_0 dX11_isWord_1 (v := σ.1 0 61) rfl ?_
  refine jr_iconst C (v := 1) dX11_isWord_4 (by decide) ?_
  refine jr_ncmp_ne C (b := 1) 32 dX11_isWord_5 (by decide) rfl rfl (fun b5 => ?_) (fun b5 => ?_)
  · refine jr_iconst C (v := 0) dX11_isWord_32 (by decide) ?_
    exact ret _ _ _ _ dX11_isWord_33 (rfl) (by first | exact ⟨Or.inl rfl, rfl⟩ | exact ⟨Or.inr ⟨by omega, rfl⟩, rfl⟩)
  · refine jr_aload_n C dX11_isWord_8 rfl ?_
    refine jr_getl C kf_X11_285_0 dX11_isWord_9 ?_
    refine jr_iload_n C dX11_isWord_12 rfl ?_
    refine jr_iload_n C dX11_isWord_13 rfl ?_
    refine jr_iload_n C dX11_isWord_14 rfl ?_
    refine jr_iload C dX11_isWord_15 rfl ?_
    refine jr_iload C dX11_isWord_17 rfl ?_
    refine jr_iload C dX11_isWord_19 rfl ?_
    refine jr_sl C [.int _, .int _, .int _, .int _, .int _, .int _] _ (ct_X11_word E _ _ _ _ _ _ _) ky_X11_word ks_X11_word km_X11_306 (by decide) rfl (Nat.le_of_ble_eq_true rfl) dX11_isWord_21 (fun r21 τ21 h21 => ?_)
    subst h21
    refine jr_lcmp C dX11_isWord_24 ?_
    refine jr_nif_ne C 32 dX11_isWord_25 (by decide) (fun b25 => ?_) (fun b25 => ?_)
    · refine jr_iconst C (v := 0) dX11_isWord_32 (by decide) ?_
      exact ret _ _ _ _ dX11_isWord_33 (rfl) (by first | exact ⟨Or.inl rfl, rfl⟩ | exact ⟨Or.inr ⟨by omega, rfl⟩, rfl⟩)
    · refine jr_iconst C (v := 1) dX11_isWord_28 (by decide) ?_
      refine jr_goto C 33 dX11_isWord_29 (by decide) ?_
      exact ret _ _ _ _ dX11_isWord_33 (rfl) (by first | exact ⟨Or.inl rfl, rfl⟩ | exact ⟨Or.inr ⟨by omega, rfl⟩, rfl⟩)
theorem ct_X11_isSign (E : jf_E) (σ : jf_S) (a : Int32) : jf_I jh_M E yX11_isSign cX11_isSign 2 .boolean 0 [jf_r E 0, .int a] σ (fun r τ => (r = 0 ∨ (((σ.1 0 61)).toInt = 3 ∧ r = 1)) ∧ σ = τ) := by
  refine jf_mkI (by decide) (Nat.le_of_ble_eq_true rfl) ?_
  intro G C ret
  refine jr_aload_n C dX11_isSign_0 rfl ?_
  refine jr_getv C kf_X11_295_0 dX11_isSign_1 (v := σ.1 0 61) rfl ?_
  refine jr_iconst C (v := 3) dX11_isSign_4 (by decide) ?_
  refine jr_ncmp_ne C (b := 3) 22 dX11_isSign_5 (by decide) rfl rfl (fun b5 => ?_) (fun b5 => ?_)
  · refine jr_iconst C (v := 0) dX11_isSign_22 (by decide) ?_
    exact ret _ _ _ _ dX11_isSign_23 (rfl) (by first | exact ⟨Or.inl rfl, rfl⟩ | exact ⟨Or.inr ⟨by omega, rfl⟩, rfl⟩)
  · refine jr_aload_n C dX11_isSign_8 rfl ?_
    refine jr_getl C kf_X11_285_0 dX11_isSign_9 ?_
    refine jr_iload_n C dX11_isSign_12 rfl ?_
    refine jr_i2l C dX11_isSign_13 ?_
    refine jr_lcmp C dX11_isSign_14 ?_
    refine jr_nif_ne C 22 dX11_isSign_15 (by decide) (fun b15 => ?_) (fun b15 => ?_)
    · refine jr_iconst C (v := 0) dX11_isSign_22 (by decide) ?_
      exact ret _ _ _ _ dX11_isSign_23 (rfl) (by first | exact ⟨Or.inl rfl, rfl⟩ | exact ⟨Or.inr ⟨by omega, rfl⟩, rfl⟩)
    · refine jr_iconst C (v := 1) dX11_isSign_18 (by decide) ?_
      refine jr_goto C 23 dX11_isSign_19 (by decide) ?_
      exact ret _ _ _ _ dX11_isSign_23 (rfl) (by first | exact ⟨Or.inl rfl, rfl⟩ | exact ⟨Or.inr ⟨by omega, rfl⟩, rfl⟩)
theorem ct_X11_mark (E : jf_E) (σ : jf_S) (v : Int32) (h0 : 0 ≤ ((σ.1 0 51)).toInt ∧ ((σ.1 0 51)).toInt < 300) : jf_V jh_M E yX11_mark cX11_mark 2 0 [jf_r E 0, .int v] σ (fun τ => τ = jf_i (jf_i σ 34 ((σ.1 0 51)).toNatClampNeg v) 0 51 ((σ.1 0 51) + 1)) := by
  refine jf_mkV (by decide) (Nat.le_of_ble_eq_true rfl) ?_
  intro G C ret
  refine jr_aload_n C dX11_mark_0 rfl ?_
  refine jr_getr C kf_X11_114_0 dX11_mark_1 ?_
  refine jr_aload_n C dX11_mark_4 rfl ?_
  refine jr_getv C kf_X11_317_0 dX11_mark_5 (v := σ.1 0 51) rfl ?_
  refine jr_iload_n C dX11_mark_8 rfl ?_
  refine jr_iast C ka_M_34 dX11_mark_9 (ji_in h0.1 h0.2) ?_
  refine jr_aload_n C dX11_mark_10 rfl ?_
  refine jr_dup C dX11_mark_11 rfl ?_
  refine jr_getv C kf_X11_317_0 dX11_mark_12 (v := σ.1 0 51) rfl ?_
  refine jr_iconst C (v := 1) dX11_mark_15 (by decide) ?_
  refine jr_iadd C dX11_mark_16 ?_
  refine jr_puti C kp_X11_317_0 dX11_mark_17 ?_
  exact ret _ _ _ dX11_mark_20 (rfl)

