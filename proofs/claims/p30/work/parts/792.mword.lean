/-! the reference: words and signs exactly -/
theorem jl_ceq {x y : Int64} : (lg_cmp x y).toInt = 0 ↔ x.toInt = y.toInt := by
  have h := jl_gt (x := x) (y := y)
  have g := jl_lt (x := x) (y := y)
  rw [Int32.lt_iff_toInt_lt] at h g
  have : (0 : Int32).toInt = 0 := rfl
  omega
def m_word (a b c d e f : Int32) : Int64 :=
  let v0 := (a.toInt64 - 96) * 32 + b.toInt64 - 96
  let v1 := if c.toInt = 0 then v0 else v0 * 32 + c.toInt64 - 96
  let v2 := if d.toInt = 0 then v1 else v1 * 32 + d.toInt64 - 96
  let v3 := if e.toInt = 0 then v2 else v2 * 32 + e.toInt64 - 96
  if f.toInt = 0 then v3 else v3 * 32 + f.toInt64 - 96
theorem ct_X11_word2 (E : jf_E) (σ : jf_S) (a b c d e f : Int32) : jf_O jh_M E yX11_word cX11_word 8 0 [.int a, .int b, .int c, .int d, .int e, .int f] σ (fun r τ => r = m_word a b c d e f ∧ τ = σ) := by
  refine jf_mkO (by decide) (Nat.le_of_ble_eq_true rfl) ?_
  intro G C ret
  refine jr_iload_n C dX11_word_0 rfl ?_
  refine jr_i2l C dX11_word_1 ?_
  refine jr_ldc2 C kc_X11_300 dX11_word_2 ?_
  refine jr_lsub C dX11_word_5 ?_
  refine jr_ldc2 C kc_X11_298 dX11_word_6 ?_
  refine jr_lmul C dX11_word_9 ?_
  refine jr_iload_n C dX11_word_10 rfl ?_
  refine jr_i2l C dX11_word_11 ?_
  refine jr_ladd C dX11_word_12 ?_
  refine jr_ldc2 C kc_X11_300 dX11_word_13 ?_
  refine jr_lsub C dX11_word_16 ?_
  refine jr_lstore C dX11_word_17 (by decide) ?_
  refine jr_iload_n C dX11_word_19 rfl ?_
  refine jr_nif_ne C 28 dX11_word_20 (by decide) (fun b20 => ?_) (fun b20 => ?_)
  · refine jr_lload C dX11_word_28 rfl ?_
    refine jr_ldc2 C kc_X11_298 dX11_word_30 ?_
    refine jr_lmul C dX11_word_33 ?_
    refine jr_iload_n C dX11_word_34 rfl ?_
    refine jr_i2l C dX11_word_35 ?_
    refine jr_ladd C dX11_word_36 ?_
    refine jr_ldc2 C kc_X11_300 dX11_word_37 ?_
    refine jr_lsub C dX11_word_40 ?_
    refine jr_lstore C dX11_word_41 (by decide) ?_
    refine jr_iload_n C dX11_word_43 rfl ?_
    refine jr_nif_ne C 52 dX11_word_44 (by decide) (fun b44 => ?_) (fun b44 => ?_)
    · refine jr_lload C dX11_word_52 rfl ?_
      refine jr_ldc2 C kc_X11_298 dX11_word_54 ?_
      refine jr_lmul C dX11_word_57 ?_
      refine jr_iload_n C dX11_word_58 rfl ?_
      refine jr_i2l C dX11_word_59 ?_
      refine jr_ladd C dX11_word_60 ?_
      refine jr_ldc2 C kc_X11_300 dX11_word_61 ?_
      refine jr_lsub C dX11_word_64 ?_
      refine jr_lstore C dX11_word_65 (by decide) ?_
      refine jr_iload C dX11_word_67 rfl ?_
      refine jr_nif_ne C 77 dX11_word_69 (by decide) (fun b69 => ?_) (fun b69 => ?_)
      · refine jr_lload C dX11_word_77 rfl ?_
        refine jr_ldc2 C kc_X11_298 dX11_word_79 ?_
        refine jr_lmul C dX11_word_82 ?_
        refine jr_iload C dX11_word_83 rfl ?_
        refine jr_i2l C dX11_word_85 ?_
        refine jr_ladd C dX11_word_86 ?_
        refine jr_ldc2 C kc_X11_300 dX11_word_87 ?_
        refine jr_lsub C dX11_word_90 ?_
        refine jr_lstore C dX11_word_91 (by decide) ?_
        refine jr_iload C dX11_word_93 rfl ?_
        refine jr_nif_ne C 103 dX11_word_95 (by decide) (fun b95 => ?_) (fun b95 => ?_)
        · refine jr_lload C dX11_word_103 rfl ?_
          refine jr_ldc2 C kc_X11_298 dX11_word_105 ?_
          refine jr_lmul C dX11_word_108 ?_
          refine jr_iload C dX11_word_109 rfl ?_
          refine jr_i2l C dX11_word_111 ?_
          refine jr_ladd C dX11_word_112 ?_
          refine jr_ldc2 C kc_X11_300 dX11_word_113 ?_
          refine jr_lsub C dX11_word_116 ?_
          exact ret _ _ _ _ dX11_word_117 (⟨by unfold m_word; (repeat' split) <;> first | (exfalso; omega) | rfl, rfl⟩)
        · refine jr_lload C dX11_word_98 rfl ?_
          refine jr_goto C 117 dX11_word_100 (by decide) ?_
          exact ret _ _ _ _ dX11_word_117 (⟨by unfold m_word; (repeat' split) <;> first | (exfalso; omega) | rfl, rfl⟩)
      · refine jr_lload C dX11_word_72 rfl ?_
        refine jr_goto C 91 dX11_word_74 (by decide) ?_
        refine jr_lstore C dX11_word_91 (by decide) ?_
        refine jr_iload C dX11_word_93 rfl ?_
        refine jr_nif_ne C 103 dX11_word_95 (by decide) (fun b95 => ?_) (fun b95 => ?_)
        · refine jr_lload C dX11_word_103 rfl ?_
          refine jr_ldc2 C kc_X11_298 dX11_word_105 ?_
          refine jr_lmul C dX11_word_108 ?_
          refine jr_iload C dX11_word_109 rfl ?_
          refine jr_i2l C dX11_word_111 ?_
          refine jr_ladd C dX11_word_112 ?_
          refine jr_ldc2 C kc_X11_300 dX11_word_113 ?_
          refine jr_lsub C dX11_word_116 ?_
          exact ret _ _ _ _ dX11_word_117 (⟨by unfold m_word; (repeat' split) <;> first | (exfalso; omega) | rfl, rfl⟩)
        · refine jr_lload C dX11_word_98 rfl ?_
          refine jr_goto C 117 dX11_word_100 (by decide) ?_
          exact ret _ _ _ _ dX11_word_117 (⟨by unfold m_word; (repeat' split) <;> first | (exfalso; omega) | rfl, rfl⟩)
    · refine jr_lload C dX11_word_47 rfl ?_
      refine jr_goto C 65 dX11_word_49 (by decide) ?_
      refine jr_lstore C dX11_word_65 (by decide) ?_
      refine jr_iload C dX11_word_67 rfl ?_
      refine jr_nif_ne C 77 dX11_word_69 (by decide) (fun b69 => ?_) (fun b69 => ?_)
      · refine jr_lload C dX11_word_77 rfl ?_
        refine jr_ldc2 C kc_X11_298 dX11_word_79 ?_
        refine jr_lmul C dX11_word_82 ?_
        refine jr_iload C dX11_word_83 rfl ?_
        refine jr_i2l C dX11_word_85 ?_
        refine jr_ladd C dX11_word_86 ?_
        refine jr_ldc2 C kc_X11_300 dX11_word_87 ?_
        refine jr_lsub C dX11_word_90 ?_
        refine jr_lstore C dX11_word_91 (by decide) ?_
        refine jr_iload C dX11_word_93 rfl ?_
        refine jr_nif_ne C 103 dX11_word_95 (by decide) (fun b95 => ?_) (fun b95 => ?_)
        · refine jr_lload C dX11_word_103 rfl ?_
          refine jr_ldc2 C kc_X11_298 dX11_word_105 ?_
          refine jr_lmul C dX11_word_108 ?_
          refine jr_iload C dX11_word_109 rfl ?_
          refine jr_i2l C dX11_word_111 ?_
          refine jr_ladd C dX11_word_112 ?_
          refine jr_ldc2 C kc_X11_300 dX11_word_113 ?_
          refine jr_lsub C dX11_word_116 ?_
          exact ret _ _ _ _ dX11_word_117 (⟨by unfold m_word; (repeat' split) <;> first | (exfalso; omega) | rfl, rfl⟩)
        · refine jr_lload C dX11_word_98 rfl ?_
          refine jr_goto C 117 dX11_word_100 (by decide) ?_
          exact ret _ _ _ _ dX11_word_117 (⟨by unfold m_word; (repeat' split) <;> first | (exfalso; omega) | rfl, rfl⟩)
      · refine jr_lload C dX11_word_72 rfl ?_
        refine jr_goto C 91 dX11_word_74 (by decide) ?_
        refine jr_lstore C dX11_word_91 (by decide) ?_
        refine jr_iload C dX11_word_93 rfl ?_
        refine jr_nif_ne C 103 dX11_word_95 (by decide) (fun b95 => ?_) (fun b95 => ?_)
        · refine jr_lload C dX11_word_103 rfl ?_
          refine jr_ldc2 C kc_X11_298 dX11_word_105 ?_
          refine jr_lmul C dX11_word_108 ?_
          refine jr_iload C dX11_word_109 rfl ?_
          refine jr_i2l C dX11_word_111 ?_
          refine jr_ladd C dX11_word_112 ?_
          refine jr_ldc2 C kc_X11_300 dX11_word_113 ?_
          refine jr_lsub C dX11_word_116 ?_
          exact ret _ _ _ _ dX11_word_117 (⟨by unfold m_word; (repeat' split) <;> first | (exfalso; omega) | rfl, rfl⟩)
        · refine jr_lload C dX11_word_98 rfl ?_
          refine jr_goto C 117 dX11_word_100 (by decide) ?_
          exact ret _ _ _ _ dX11_word_117 (⟨by unfold m_word; (repeat' split) <;> first | (exfalso; omega) | rfl, rfl⟩)
  · refine jr_lload C dX11_word_23 rfl ?_
    refine jr_goto C 41 dX11_word_25 (by decide) ?_
    refine jr_lstore C dX11_word_41 (by decide) ?_
    refine jr_iload_n C dX11_word_43 rfl ?_
    refine jr_nif_ne C 52 dX11_word_44 (by decide) (fun b44 => ?_) (fun b44 => ?_)
    · refine jr_lload C dX11_word_52 rfl ?_
      refine jr_ldc2 C kc_X11_298 dX11_word_54 ?_
      refine jr_lmul C dX11_word_57 ?_
      refine jr_iload_n C dX11_word_58 rfl ?_
      refine jr_i2l C dX11_word_59 ?_
      refine jr_ladd C dX11_word_60 ?_
      refine jr_ldc2 C kc_X11_300 dX11_word_61 ?_
      refine jr_lsub C dX11_word_64 ?_
      refine jr_lstore C dX11_word_65 (by decide) ?_
      refine jr_iload C dX11_word_67 rfl ?_
      refine jr_nif_ne C 77 dX11_word_69 (by decide) (fun b69 => ?_) (fun b69 => ?_)
      · refine jr_lload C dX11_word_77 rfl ?_
        refine jr_ldc2 C kc_X11_298 dX11_word_79 ?_
        refine jr_lmul C dX11_word_82 ?_
        refine jr_iload C dX11_word_83 rfl ?_
        refine jr_i2l C dX11_word_85 ?_
        refine jr_ladd C dX11_word_86 ?_
        refine jr_ldc2 C kc_X11_300 dX11_word_87 ?_
        refine jr_lsub C dX11_word_90 ?_
        refine jr_lstore C dX11_word_91 (by decide) ?_
        refine jr_iload C dX11_word_93 rfl ?_
        refine jr_nif_ne C 103 dX11_word_95 (by decide) (fun b95 => ?_) (fun b95 => ?_)
        · refine jr_lload C dX11_word_103 rfl ?_
          refine jr_ldc2 C kc_X11_298 dX11_word_105 ?_
          refine jr_lmul C dX11_word_108 ?_
          refine jr_iload C dX11_word_109 rfl ?_
          refine jr_i2l C dX11_word_111 ?_
          refine jr_ladd C dX11_word_112 ?_
          refine jr_ldc2 C kc_X11_300 dX11_word_113 ?_
          refine jr_lsub C dX11_word_116 ?_
          exact ret _ _ _ _ dX11_word_117 (⟨by unfold m_word; (repeat' split) <;> first | (exfalso; omega) | rfl, rfl⟩)
        · refine jr_lload C dX11_word_98 rfl ?_
          refine jr_goto C 117 dX11_word_100 (by decide) ?_
          exact ret _ _ _ _ dX11_word_117 (⟨by unfold m_word; (repeat' split) <;> first | (exfalso; omega) | rfl, rfl⟩)
      · refine jr_lload C dX11_word_72 rfl ?_
        refine jr_goto C 91 dX11_word_74 (by decide) ?_
        refine jr_lstore C dX11_word_91 (by decide) ?_
        refine jr_iload C dX11_word_93 rfl ?_
        refine jr_nif_ne C 103 dX11_word_95 (by decide) (fun b95 => ?_) (fun b95 => ?_)
        · refine jr_lload C dX11_word_103 rfl ?_
          refine jr_ldc2 C kc_X11_298 dX11_word_105 ?_
          refine jr_lmul C dX11_word_108 ?_
          refine jr_iload C dX11_word_109 rfl ?_
          refine jr_i2l C dX11_word_111 ?_
          refine jr_ladd C dX11_word_112 ?_
          refine jr_ldc2 C kc_X11_300 dX11_word_113 ?_
          refine jr_lsub C dX11_word_116 ?_
          exact ret _ _ _ _ dX11_word_117 (⟨by unfold m_word; (repeat' split) <;> first | (exfalso; omega) | rfl, rfl⟩)
        · refine jr_lload C dX11_word_98 rfl ?_
          refine jr_goto C 117 dX11_word_100 (by decide) ?_
          exact ret _ _ _ _ dX11_word_117 (⟨by unfold m_word; (repeat' split) <;> first | (exfalso; omega) | rfl, rfl⟩)
    · refine jr_lload C dX11_word_47 rfl ?_
      refine jr_goto C 65 dX11_word_49 (by decide) ?_
      refine jr_lstore C dX11_word_65 (by decide) ?_
      refine jr_iload C dX11_word_67 rfl ?_
      refine jr_nif_ne C 77 dX11_word_69 (by decide) (fun b69 => ?_) (fun b69 => ?_)
      · refine jr_lload C dX11_word_77 rfl ?_
        refine jr_ldc2 C kc_X11_298 dX11_word_79 ?_
        refine jr_lmul C dX11_word_82 ?_
        refine jr_iload C dX11_word_83 rfl ?_
        refine jr_i2l C dX11_word_85 ?_
        refine jr_ladd C dX11_word_86 ?_
        refine jr_ldc2 C kc_X11_300 dX11_word_87 ?_
        refine jr_lsub C dX11_word_90 ?_
        refine jr_lstore C dX11_word_91 (by decide) ?_
        refine jr_iload C dX11_word_93 rfl ?_
        refine jr_nif_ne C 103 dX11_word_95 (by decide) (fun b95 => ?_) (fun b95 => ?_)
        · refine jr_lload C dX11_word_103 rfl ?_
          refine jr_ldc2 C kc_X11_298 dX11_word_105 ?_
          refine jr_lmul C dX11_word_108 ?_
          refine jr_iload C dX11_word_109 rfl ?_
          refine jr_i2l C dX11_word_111 ?_
          refine jr_ladd C dX11_word_112 ?_
          refine jr_ldc2 C kc_X11_300 dX11_word_113 ?_
          refine jr_lsub C dX11_word_116 ?_
          exact ret _ _ _ _ dX11_word_117 (⟨by unfold m_word; (repeat' split) <;> first | (exfalso; omega) | rfl, rfl⟩)
        · refine jr_lload C dX11_word_98 rfl ?_
          refine jr_goto C 117 dX11_word_100 (by decide) ?_
          exact ret _ _ _ _ dX11_word_117 (⟨by unfold m_word; (repeat' split) <;> first | (exfalso; omega) | rfl, rfl⟩)
      · refine jr_lload C dX11_word_72 rfl ?_
        refine jr_goto C 91 dX11_word_74 (by decide) ?_
        refine jr_lstore C dX11_word_91 (by decide) ?_
        refine jr_iload C dX11_word_93 rfl ?_
        refine jr_nif_ne C 103 dX11_word_95 (by decide) (fun b95 => ?_) (fun b95 => ?_)
        · refine jr_lload C dX11_word_103 rfl ?_
          refine jr_ldc2 C kc_X11_298 dX11_word_105 ?_
          refine jr_lmul C dX11_word_108 ?_
          refine jr_iload C dX11_word_109 rfl ?_
          refine jr_i2l C dX11_word_111 ?_
          refine jr_ladd C dX11_word_112 ?_
          refine jr_ldc2 C kc_X11_300 dX11_word_113 ?_
          refine jr_lsub C dX11_word_116 ?_
          exact ret _ _ _ _ dX11_word_117 (⟨by unfold m_word; (repeat' split) <;> first | (exfalso; omega) | rfl, rfl⟩)
        · refine jr_lload C dX11_word_98 rfl ?_
          refine jr_goto C 117 dX11_word_100 (by decide) ?_
          exact ret _ _ _ _ dX11_word_117 (⟨by unfold m_word; (repeat' split) <;> first | (exfalso; omega) | rfl, rfl⟩)
theorem ct_X11_isWord2 (E : jf_E) (σ : jf_S) (a b c d e f : Int32) : jf_I jh_M E yX11_isWord cX11_isWord 7 .boolean 1 [jf_r E 0, .int a, .int b, .int c, .int d, .int e, .int f] σ (fun r τ => r = jb (((σ.1 0 61)).toInt = 1 ∧ ((σ.2 0 62)).toInt = (m_word a b c d e f).toInt) ∧ τ = σ) := by
  refine jf_mkI (by decide) (Nat.le_of_ble_eq_true rfl) ?_
  intro G C ret
  refine jr_aload_n C dX11_isWord_0 rfl ?_
  refine jr_getv C kf_X11_295_0 dX11_isWord_1 (v := σ.1 0 61) rfl ?_
  refine jr_iconst C (v := 1) dX11_isWord_4 (by decide) ?_
  refine jr_ncmp_ne C (b := 1) 32 dX11_isWord_5 (by decide) rfl rfl (fun b5 => ?_) (fun b5 => ?_)
  · refine jr_iconst C (v := 0) dX11_isWord_32 (by decide) ?_
    exact ret _ _ _ _ dX11_isWord_33 (rfl) (⟨by first | exact jb_tt ⟨by omega, b25⟩ | exact jb_ff (fun h => b25 h.2) | exact jb_ff (fun h => by omega), rfl⟩)
  · refine jr_aload_n C dX11_isWord_8 rfl ?_
    refine jr_getl C kf_X11_285_0 dX11_isWord_9 ?_
    refine jr_iload_n C dX11_isWord_12 rfl ?_
    refine jr_iload_n C dX11_isWord_13 rfl ?_
    refine jr_iload_n C dX11_isWord_14 rfl ?_
    refine jr_iload C dX11_isWord_15 rfl ?_
    refine jr_iload C dX11_isWord_17 rfl ?_
    refine jr_iload C dX11_isWord_19 rfl ?_
    refine jr_slp C [.int _, .int _, .int _, .int _, .int _, .int _] _ (ct_X11_word2 E _ _ _ _ _ _ _) ky_X11_word ks_X11_word km_X11_306 (by decide) rfl (Nat.le_of_ble_eq_true rfl) dX11_isWord_21 ?_
    refine jr_lcmp C dX11_isWord_24 ?_
    refine jr_nif_ne C 32 dX11_isWord_25 (by decide) (fun b25 => ?_) (fun b25 => ?_)
    · rw [jl_ceq] at b25
      refine jr_iconst C (v := 0) dX11_isWord_32 (by decide) ?_
      exact ret _ _ _ _ dX11_isWord_33 (rfl) (⟨by first | exact jb_tt ⟨by omega, b25⟩ | exact jb_ff (fun h => b25 h.2) | exact jb_ff (fun h => by omega), rfl⟩)
    · rw [jl_ceq] at b25
      refine jr_iconst C (v := 1) dX11_isWord_28 (by decide) ?_
      refine jr_goto C 33 dX11_isWord_29 (by decide) ?_
      exact ret _ _ _ _ dX11_isWord_33 (rfl) (⟨by first | exact jb_tt ⟨by omega, b25⟩ | exact jb_ff (fun h => b25 h.2) | exact jb_ff (fun h => by omega), rfl⟩)
theorem ct_X11_isSign2 (E : jf_E) (σ : jf_S) (a : Int32) : jf_I jh_M E yX11_isSign cX11_isSign 2 .boolean 0 [jf_r E 0, .int a] σ (fun r τ => r = jb (((σ.1 0 61)).toInt = 3 ∧ ((σ.2 0 62)).toInt = a.toInt) ∧ τ = σ) := by
  refine jf_mkI (by decide) (Nat.le_of_ble_eq_true rfl) ?_
  intro G C ret
  refine jr_aload_n C dX11_isSign_0 rfl ?_
  refine jr_getv C kf_X11_295_0 dX11_isSign_1 (v := σ.1 0 61) rfl ?_
  refine jr_iconst C (v := 3) dX11_isSign_4 (by decide) ?_
  refine jr_ncmp_ne C (b := 3) 22 dX11_isSign_5 (by decide) rfl rfl (fun b5 => ?_) (fun b5 => ?_)
  · refine jr_iconst C (v := 0) dX11_isSign_22 (by decide) ?_
    exact ret _ _ _ _ dX11_isSign_23 (rfl) (⟨by first | exact jb_tt ⟨by omega, b15⟩ | exact jb_ff (fun h => b15 h.2) | exact jb_ff (fun h => by omega), rfl⟩)
  · refine jr_aload_n C dX11_isSign_8 rfl ?_
    refine jr_getl C kf_X11_285_0 dX11_isSign_9 ?_
    refine jr_iload_n C dX11_isSign_12 rfl ?_
    refine jr_i2l C dX11_isSign_13 ?_
    refine jr_lcmp C dX11_isSign_14 ?_
    refine jr_nif_ne C 22 dX11_isSign_15 (by decide) (fun b15 => ?_) (fun b15 => ?_)
    · rw [jl_ceq, jl_w] at b15
      refine jr_iconst C (v := 0) dX11_isSign_22 (by decide) ?_
      exact ret _ _ _ _ dX11_isSign_23 (rfl) (⟨by first | exact jb_tt ⟨by omega, b15⟩ | exact jb_ff (fun h => b15 h.2) | exact jb_ff (fun h => by omega), rfl⟩)
    · rw [jl_ceq, jl_w] at b15
      refine jr_iconst C (v := 1) dX11_isSign_18 (by decide) ?_
      refine jr_goto C 23 dX11_isSign_19 (by decide) ?_
      exact ret _ _ _ _ dX11_isSign_23 (rfl) (⟨by first | exact jb_tt ⟨by omega, b15⟩ | exact jb_ff (fun h => b15 h.2) | exact jb_ff (fun h => by omega), rfl⟩)
/-- what a must leaves, exactly -/
def m_N (a : Nat → Int32) (n f : Nat) (σ τ : jf_S) (v : Int32) : Prop := (¬ ((σ.1 0 64)).toInt = 0 ∧ τ = σ) ∨ (((σ.1 0 64)).toInt = 0 ∧ v.toInt = 0 ∧ τ = jf_i (jf_i σ 0 64 1) 0 63 ((σ.1 0 59))) ∨ (((σ.1 0 64)).toInt = 0 ∧ ¬ v.toInt = 0 ∧ mS_n σ τ ∧ m_tk a n τ (tk_x a n f))
theorem ct_X11_must2 (E : jf_E) (σ : jf_S) (v : Int32) (a : Nat → Int32) (n f : Nat) (h0 : ((σ.1 0 64)).toInt = 0 → m_tk a n σ f) : jf_V jh_M E yX11_must cX11_must 2 2 [jf_r E 0, .int v] σ (fun τ => m_N a n f σ τ v) := by
  refine jf_mkV (by decide) (Nat.le_of_ble_eq_true rfl) ?_
  intro G C ret
  have J24 : ((σ.1 0 64)).toInt = 0 → ¬ v.toInt = 0 → jf_X jh_M E G 2 24 [(0, jf_r E 0), (1, .int v)] [] σ := by
    intro hb hv
    have hk := h0 hb
    refine jr_aload_n C dX11_must_24 rfl ?_
    refine jr_getv C kf_X11_310_0 dX11_must_25 (v := σ.1 0 64) rfl ?_
    refine jr_nif_ne C 35 dX11_must_28 (by decide) (fun b28 => ?_) (fun b28 => ?_)
    · exact ret _ _ _ dX11_must_35 (by first | exact absurd hb b28 | exact Or.inr (Or.inr ⟨hb, hv, h32⟩))
    · refine jr_aload_n C dX11_must_31 rfl ?_
      refine jr_vv C [] _ (ct_X11_next2 E _ a n (tk_t a n f) hk.1.1 hk.1.2.1 hk.1.2.2.1 hk.1.2.2.2 hk.2.2.2.1 (tk_t_ok hk.2.1).2.1) ky_X11_next kv_X11_next kk_M_0 km_X11_314 (by decide) rfl (Nat.le_of_ble_eq_true rfl) dX11_must_32 (fun τ32 h32 => ?_)
      exact ret _ _ _ dX11_must_35 (by first | exact absurd hb b28 | exact Or.inr (Or.inr ⟨hb, hv, h32⟩))
  have Jb : ∀ τ : jf_S, ¬ ((τ.1 0 64)).toInt = 0 → m_N a n f σ τ v → jf_X jh_M E G 2 24 [(0, jf_r E 0), (1, .int v)] [] τ := by
    intro τ hb hN
    refine jr_aload_n C dX11_must_24 rfl ?_
    refine jr_geti C kf_X11_310_0 dX11_must_25 ?_
    refine jr_nif_ne C 35 dX11_must_28 (by decide) (fun _ => ?_) (fun b => absurd b hb)
    exact ret _ _ _ dX11_must_35 (hN)
  refine jr_aload_n C dX11_must_0 rfl ?_
  refine jr_getv C kf_X11_310_0 dX11_must_1 (v := σ.1 0 64) rfl ?_
  refine jr_nif_ne C 24 dX11_must_4 (by decide) (fun b4 => ?_) (fun b4 => ?_)
  · first | (have h9 : ¬ ((σ.1 0 64)).toInt = 0 := b4; exact Jb σ b4 (Or.inl ⟨b4, rfl⟩)) | (have h9 : ¬ v.toInt = 0 := b8; exact J24 b4 b8) | exact Jb _ (show ¬ (1 : Int32).toInt = 0 by decide) (Or.inr (Or.inl ⟨b4, b8, rfl⟩))
  · refine jr_iload_n C dX11_must_7 rfl ?_
    refine jr_nif_ne C 24 dX11_must_8 (by decide) (fun b8 => ?_) (fun b8 => ?_)
    · first | (have h9 : ¬ ((σ.1 0 64)).toInt = 0 := b4; exact Jb σ b4 (Or.inl ⟨b4, rfl⟩)) | (have h9 : ¬ v.toInt = 0 := b8; exact J24 b4 b8) | exact Jb _ (show ¬ (1 : Int32).toInt = 0 by decide) (Or.inr (Or.inl ⟨b4, b8, rfl⟩))
    · refine jr_aload_n C dX11_must_11 rfl ?_
      refine jr_iconst C (v := 1) dX11_must_12 (by decide) ?_
      refine jr_putz C kp_X11_310_0 (by decide) dX11_must_13 ?_
      refine jr_aload_n C dX11_must_16 rfl ?_
      refine jr_aload_n C dX11_must_17 rfl ?_
      refine jr_getv C kf_X11_282_0 dX11_must_18 (v := σ.1 0 59) rfl ?_
      refine jr_puti C kp_X11_126_0 dX11_must_21 ?_
      first | (have h9 : ¬ ((σ.1 0 64)).toInt = 0 := b4; exact Jb σ b4 (Or.inl ⟨b4, rfl⟩)) | (have h9 : ¬ v.toInt = 0 := b8; exact J24 b4 b8) | exact Jb _ (show ¬ (1 : Int32).toInt = 0 by decide) (Or.inr (Or.inl ⟨b4, b8, rfl⟩))

