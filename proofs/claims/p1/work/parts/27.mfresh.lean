/-! the reference: what it answers while nothing is told (cf_) -/
def m_count (σ : jf_S) (w : Int32) : Int32 :=
  if w.toInt = 0 then (σ.1 0 2) else if w.toInt = 1 then (σ.1 0 7) else if w.toInt = 2 then nI (jx_ct (fun j => !((σ.1 14) j == 0)) ((σ.1 0 17)).toNatClampNeg) else if w.toInt = 3 then (σ.1 0 17) else if w.toInt = 4 then (σ.1 0 35) else if w.toInt = 5 then (σ.1 0 39) else if w.toInt = 6 then (σ.1 0 27) else if w.toInt = 7 then (σ.1 0 58) else if w.toInt = 8 then (if ((σ.1 0 44)).toInt = 0 then -1 else (σ.1 0 48)) else -1
theorem ct_X11_count (E : jf_E) (σ : jf_S) (w : Int32) (hE : 0 ≤ ((σ.1 0 17)).toInt ∧ ((σ.1 0 17)).toInt ≤ 60) : jf_I jh_M E yX11_count cX11_count 4 .int 0 [jf_r E 0, .int w] σ (fun r τ => (r, τ) = (m_count σ w, jf_i σ 0 0 0)) := by
  refine jf_mkI (by decide) (Nat.le_of_ble_eq_true rfl) ?_
  intro G C ret
  have loop : ∀ (m : Nat) (n o : Int32), w.toInt = 2 → 0 ≤ o.toInt → o.toInt ≤ ((σ.1 0 17)).toInt → ((σ.1 0 17)).toInt - o.toInt < m → n = nI (jx_ct (fun j => !((σ.1 14) j == 0)) o.toNatClampNeg) → jf_X jh_M E G 4 70 [(0, jf_r E 0), (1, .int w), (2, .int n), (3, .int o)] [] (jf_i σ 0 0 0) := by
    intro m
    induction m with
    | zero => intro n o g0 g1 g2 g3 g4; exfalso; omega
    | succ m ih =>
      intro n o g0 g1 g2 g3 g4
      have e1 := ji_inc (k := o) (by omega)
      have e2 : (o + Int32.ofInt 1).toNatClampNeg = o.toNatClampNeg + 1 := ji_cl (by rw [e1, Int.natCast_add, ji_tn g1]; rfl)
      refine jr_iload_n C dX11_count_70 rfl ?_
      refine jr_aload_n C dX11_count_71 rfl ?_
      refine jr_geti C kf_X11_160_0 dX11_count_72 ?_
      refine jr_ncmp_ge C (b := ((σ.1 0 17)).toInt) 101 dX11_count_75 (by decide) rfl rfl (fun b75 => ?_) (fun b75 => ?_)
      · refine jr_iload_n C dX11_count_101 rfl ?_
        exact ret _ _ _ _ dX11_count_102 rfl (by rw [m_count, if_neg (show ¬ w.toInt = 0 by omega), if_neg (show ¬ w.toInt = 1 by omega), if_pos g0, g4, show o = (σ.1 0 17) from Int32.toInt_inj.mp (by omega)])
      · refine jr_iload_n C dX11_count_78 rfl ?_
        refine jr_aload_n C dX11_count_79 rfl ?_
        refine jr_getr C kf_X11_49_0 dX11_count_80 ?_
        refine jr_iload_n C dX11_count_83 rfl ?_
        refine jr_zalv C ka_M_14 dX11_count_84 (ji_in (i := o) (by omega) (by omega)) (v := σ.1 14 _) rfl ?_
        refine jr_nif_eq C 92 dX11_count_85 (by decide) (fun b85 => ?_) (fun b85 => ?_)
        · refine jr_iconst C (v := 0) dX11_count_92 (by decide) ?_
          refine jr_iadd C dX11_count_93 ?_
          refine jr_istore_n C dX11_count_94 (by decide) ?_
          refine jr_iinc C _ dX11_count_95 rfl rfl (by decide) ?_
          refine jr_goto C 70 dX11_count_98 (by decide) ?_
          first | exact jr_sub [(0, jf_r E 0), (1, .int w), (2, .int (n + 0)), (3, .int _)] rfl (ih _ _ g0 (by omega) (by omega) (by omega) (by rw [e2, jx_ct, if_neg (by simp [jn_eq.mpr b85]), Int32.add_zero]; exact g4)) | exact jr_sub [(0, jf_r E 0), (1, .int w), (2, .int (n + 1)), (3, .int _)] rfl (ih _ _ g0 (by omega) (by omega) (by omega) (by rw [e2, jx_ct, if_pos (by simp [jn_ne.mpr b85]), g4, nI_1]))
        · refine jr_iconst C (v := 1) dX11_count_88 (by decide) ?_
          refine jr_goto C 93 dX11_count_89 (by decide) ?_
          refine jr_iadd C dX11_count_93 ?_
          refine jr_istore_n C dX11_count_94 (by decide) ?_
          refine jr_iinc C _ dX11_count_95 rfl rfl (by decide) ?_
          refine jr_goto C 70 dX11_count_98 (by decide) ?_
          first | exact jr_sub [(0, jf_r E 0), (1, .int w), (2, .int (n + 0)), (3, .int _)] rfl (ih _ _ g0 (by omega) (by omega) (by omega) (by rw [e2, jx_ct, if_neg (by simp [jn_eq.mpr b85]), Int32.add_zero]; exact g4)) | exact jr_sub [(0, jf_r E 0), (1, .int w), (2, .int (n + 1)), (3, .int _)] rfl (ih _ _ g0 (by omega) (by omega) (by omega) (by rw [e2, jx_ct, if_pos (by simp [jn_ne.mpr b85]), g4, nI_1]))
  refine jr_aload_n C dX11_count_0 rfl ?_
  refine jr_iconst C (v := 0) dX11_count_1 (by decide) ?_
  refine jr_puti C kp_X11_144_0 dX11_count_2 ?_
  refine jr_iload_n C dX11_count_5 rfl ?_
  have w6 : w.toInt < 0 ∨ w.toInt = 0 ∨ w.toInt = 1 ∨ w.toInt = 2 ∨ w.toInt = 3 ∨ w.toInt = 4 ∨ w.toInt = 5 ∨ w.toInt = 6 ∨ w.toInt = 7 ∨ w.toInt = 8 ∨ 8 < w.toInt := by omega
  rcases w6 with w6 | w6 | w6 | w6 | w6 | w6 | w6 | w6 | w6 | w6 | w6
  · refine jr_tabOut C 144 dX11_count_6 (Or.inl w6) (by decide) ?_
    refine jr_iconst C (v := -1) dX11_count_144 (by decide) ?_
    exact ret _ _ _ _ dX11_count_145 rfl (by unfold m_count; (repeat' split) <;> first | (exfalso; omega) | rfl)
  · refine jr_tabIn C 56 dX11_count_6 (by omega) (by omega) (by rw [w6]; rfl) (by decide) ?_
    refine jr_aload_n C dX11_count_56 rfl ?_
    refine jr_getv C kf_X11_150_0 dX11_count_57 (v := σ.1 0 2) rfl ?_
    exact ret _ _ _ _ dX11_count_60 rfl (by unfold m_count; (repeat' split) <;> first | (exfalso; omega) | rfl)
  · refine jr_tabIn C 61 dX11_count_6 (by omega) (by omega) (by rw [w6]; rfl) (by decide) ?_
    refine jr_aload_n C dX11_count_61 rfl ?_
    refine jr_getv C kf_X11_157_0 dX11_count_62 (v := σ.1 0 7) rfl ?_
    exact ret _ _ _ _ dX11_count_65 rfl (by unfold m_count; (repeat' split) <;> first | (exfalso; omega) | rfl)
  · refine jr_tabIn C 66 dX11_count_6 (by omega) (by omega) (by rw [w6]; rfl) (by decide) ?_
    refine jr_iconst C (v := 0) dX11_count_66 (by decide) ?_
    refine jr_istore_n C dX11_count_67 (by decide) ?_
    refine jr_iconst C (v := 0) dX11_count_68 (by decide) ?_
    refine jr_istore_n C dX11_count_69 (by decide) ?_
    exact jr_sub [(0, jf_r E 0), (1, .int w), (2, .int 0), (3, .int 0)] rfl (loop 61 0 0 w6 (by decide) hE.1 (by show _ - 0 < _; omega) rfl)
  · refine jr_tabIn C 103 dX11_count_6 (by omega) (by omega) (by rw [w6]; rfl) (by decide) ?_
    refine jr_aload_n C dX11_count_103 rfl ?_
    refine jr_getv C kf_X11_160_0 dX11_count_104 (v := σ.1 0 17) rfl ?_
    exact ret _ _ _ _ dX11_count_107 rfl (by unfold m_count; (repeat' split) <;> first | (exfalso; omega) | rfl)
  · refine jr_tabIn C 108 dX11_count_6 (by omega) (by omega) (by rw [w6]; rfl) (by decide) ?_
    refine jr_aload_n C dX11_count_108 rfl ?_
    refine jr_getv C kf_X11_257_0 dX11_count_109 (v := σ.1 0 35) rfl ?_
    exact ret _ _ _ _ dX11_count_112 rfl (by unfold m_count; (repeat' split) <;> first | (exfalso; omega) | rfl)
  · refine jr_tabIn C 113 dX11_count_6 (by omega) (by omega) (by rw [w6]; rfl) (by decide) ?_
    refine jr_aload_n C dX11_count_113 rfl ?_
    refine jr_getv C kf_X11_269_0 dX11_count_114 (v := σ.1 0 39) rfl ?_
    exact ret _ _ _ _ dX11_count_117 rfl (by unfold m_count; (repeat' split) <;> first | (exfalso; omega) | rfl)
  · refine jr_tabIn C 118 dX11_count_6 (by omega) (by omega) (by rw [w6]; rfl) (by decide) ?_
    refine jr_aload_n C dX11_count_118 rfl ?_
    refine jr_getv C kf_X11_228_0 dX11_count_119 (v := σ.1 0 27) rfl ?_
    exact ret _ _ _ _ dX11_count_122 rfl (by unfold m_count; (repeat' split) <;> first | (exfalso; omega) | rfl)
  · refine jr_tabIn C 123 dX11_count_6 (by omega) (by omega) (by rw [w6]; rfl) (by decide) ?_
    refine jr_aload_n C dX11_count_123 rfl ?_
    refine jr_getv C kf_X11_272_0 dX11_count_124 (v := σ.1 0 58) rfl ?_
    exact ret _ _ _ _ dX11_count_127 rfl (by unfold m_count; (repeat' split) <;> first | (exfalso; omega) | rfl)
  · refine jr_tabIn C 128 dX11_count_6 (by omega) (by omega) (by rw [w6]; rfl) (by decide) ?_
    refine jr_aload_n C dX11_count_128 rfl ?_
    refine jr_getv C kf_X11_359_0 dX11_count_129 (v := σ.1 0 44) rfl ?_
    refine jr_nif_eq C 142 dX11_count_132 (by decide) (fun b132 => ?_) (fun b132 => ?_)
    · refine jr_iconst C (v := -1) dX11_count_142 (by decide) ?_
      exact ret _ _ _ _ dX11_count_143 rfl (by unfold m_count; (repeat' split) <;> first | (exfalso; omega) | rfl)
    · refine jr_aload_n C dX11_count_135 rfl ?_
      refine jr_getv C kf_X11_365_0 dX11_count_136 (v := σ.1 0 48) rfl ?_
      refine jr_goto C 143 dX11_count_139 (by decide) ?_
      exact ret _ _ _ _ dX11_count_143 rfl (by unfold m_count; (repeat' split) <;> first | (exfalso; omega) | rfl)
  · refine jr_tabOut C 144 dX11_count_6 (Or.inr w6) (by decide) ?_
    refine jr_iconst C (v := -1) dX11_count_144 (by decide) ?_
    exact ret _ _ _ _ dX11_count_145 rfl (by unfold m_count; (repeat' split) <;> first | (exfalso; omega) | rfl)
def m_whyf (b s : Int32) : Int32 := if (0 ≤ b.toInt ∧ b.toInt ≤ 14399) ∧ (0 ≤ s.toInt ∧ s.toInt ≤ 2) then -2 else -1
theorem cf_X11_why (E : jf_E) (σ : jf_S) (f h b s : Int32) (hf : ((σ.1 0 7)).toInt = 0) : jf_I jh_M E yX11_why cX11_why 5 .int 2 [jf_r E 0, .int f, .int h, .int b, .int s] σ (fun r τ => r = m_whyf b s ∧ τ = jf_i σ 0 0 0) := by
  refine jf_mkI (by decide) (Nat.le_of_ble_eq_true rfl) ?_
  intro G C ret
  refine jr_aload_n C dX11_why_0 rfl ?_
  refine jr_iconst C (v := 0) dX11_why_1 (by decide) ?_
  refine jr_puti C kp_X11_144_0 dX11_why_2 ?_
  refine jr_iload_n C dX11_why_5 rfl ?_
  refine jr_sip C [.int _] _ (ct_X11_isMinute E _ _) ky_X11_isMinute ks_X11_isMinute km_X11_183 (by decide) rfl (Nat.le_of_ble_eq_true rfl) dX11_why_6 ?_
  refine jr_if_eq C 25 dX11_why_9 (by decide) (fun b9 => ?_) (fun b9 => ?_)
  · replace b9 := jb_f b9
    refine jr_iconst C (v := -1) dX11_why_25 (by decide) ?_
    exact ret _ _ _ _ dX11_why_26 rfl (⟨by unfold m_whyf; split <;> first | (exfalso; omega) | rfl, rfl⟩)
  · replace b9 := jb_t b9
    refine jr_iload C dX11_why_12 rfl ?_
    refine jr_i2l C dX11_why_14 ?_
    refine jr_lconst C (v := 0) dX11_why_15 (by decide) ?_
    refine jr_ldc2 C kc_X11_195 dX11_why_16 ?_
    refine jr_sip C [.long _, .long _, .long _] _ (ct_X11_inw E _ _ _ _ 0 2 rfl rfl) ky_X11_in ks_X11_in km_X11_153 (by decide) rfl (Nat.le_of_ble_eq_true rfl) dX11_why_19 ?_
    refine jr_if_ne C 27 dX11_why_22 (by decide) (fun b22 => ?_) (fun b22 => ?_)
    · replace b22 := jb_t b22
      refine jr_aload_n C dX11_why_27 rfl ?_
      refine jr_iload_n C dX11_why_28 rfl ?_
      refine jr_vip C [.int _] _ (ct_X11_isFilm E _ _ (σ.1 0 7) rfl) ky_X11_isFilm kv_X11_isFilm kk_M_0 km_X11_187 (by decide) rfl (Nat.le_of_ble_eq_true rfl) dX11_why_29 ?_
      refine jr_if_eq C 56 dX11_why_32 (by decide) (fun b32 => ?_) (fun b32 => ?_)
      · replace b32 := jb_f b32
        refine jr_bipush C (v := -2) dX11_why_56 (by decide) ?_
        exact ret _ _ _ _ dX11_why_58 rfl (⟨by unfold m_whyf; split <;> first | (exfalso; omega) | rfl, rfl⟩)
      · replace b32 := jb_t b32
        exfalso; omega
    · replace b22 := jb_f b22
      refine jr_iconst C (v := -1) dX11_why_25 (by decide) ?_
      exact ret _ _ _ _ dX11_why_26 rfl (⟨by unfold m_whyf; split <;> first | (exfalso; omega) | rfl, rfl⟩)
theorem cf_X11_put (E : jf_E) (σ : jf_S) (f h b s : Int32) (hf : ((σ.1 0 7)).toInt = 0) : jf_I jh_M E yX11_put cX11_put 5 .int 2 [jf_r E 0, .int f, .int h, .int b, .int s] σ (fun r τ => r = m_whyf b s ∧ τ = m_told (jf_i σ 0 0 0) r) := by
  refine jf_mkI (by decide) (Nat.le_of_ble_eq_true rfl) ?_
  intro G C ret
  refine jr_aload_n C dX11_put_0 rfl ?_
  refine jr_iconst C (v := 0) dX11_put_1 (by decide) ?_
  refine jr_puti C kp_X11_144_0 dX11_put_2 ?_
  refine jr_iload_n C dX11_put_5 rfl ?_
  refine jr_sip C [.int _] _ (ct_X11_isMinute E _ _) ky_X11_isMinute ks_X11_isMinute km_X11_183 (by decide) rfl (Nat.le_of_ble_eq_true rfl) dX11_put_6 ?_
  refine jr_if_eq C 25 dX11_put_9 (by decide) (fun b9 => ?_) (fun b9 => ?_)
  · replace b9 := jb_f b9
    refine jr_aload_n C dX11_put_25 rfl ?_
    refine jr_iconst C (v := -1) dX11_put_26 (by decide) ?_
    refine jr_vip C [.int _] _ (ct_X11_told E _ _) ky_X11_told kv_X11_told kk_M_0 km_X11_173 (by decide) rfl (Nat.le_of_ble_eq_true rfl) dX11_put_27 ?_
    exact ret _ _ _ _ dX11_put_30 rfl (⟨by unfold m_whyf; split <;> first | (exfalso; omega) | rfl, rfl⟩)
  · replace b9 := jb_t b9
    refine jr_iload C dX11_put_12 rfl ?_
    refine jr_i2l C dX11_put_14 ?_
    refine jr_lconst C (v := 0) dX11_put_15 (by decide) ?_
    refine jr_ldc2 C kc_X11_195 dX11_put_16 ?_
    refine jr_sip C [.long _, .long _, .long _] _ (ct_X11_inw E _ _ _ _ 0 2 rfl rfl) ky_X11_in ks_X11_in km_X11_153 (by decide) rfl (Nat.le_of_ble_eq_true rfl) dX11_put_19 ?_
    refine jr_if_ne C 31 dX11_put_22 (by decide) (fun b22 => ?_) (fun b22 => ?_)
    · replace b22 := jb_t b22
      refine jr_aload_n C dX11_put_31 rfl ?_
      refine jr_iload_n C dX11_put_32 rfl ?_
      refine jr_vip C [.int _] _ (ct_X11_isFilm E _ _ (σ.1 0 7) rfl) ky_X11_isFilm kv_X11_isFilm kk_M_0 km_X11_187 (by decide) rfl (Nat.le_of_ble_eq_true rfl) dX11_put_33 ?_
      refine jr_if_eq C 47 dX11_put_36 (by decide) (fun b36 => ?_) (fun b36 => ?_)
      · replace b36 := jb_f b36
        refine jr_aload_n C dX11_put_47 rfl ?_
        refine jr_bipush C (v := -2) dX11_put_48 (by decide) ?_
        refine jr_vip C [.int _] _ (ct_X11_told E _ _) ky_X11_told kv_X11_told kk_M_0 km_X11_173 (by decide) rfl (Nat.le_of_ble_eq_true rfl) dX11_put_50 ?_
        exact ret _ _ _ _ dX11_put_53 rfl (⟨by unfold m_whyf; split <;> first | (exfalso; omega) | rfl, rfl⟩)
      · replace b36 := jb_t b36
        exfalso; omega
    · replace b22 := jb_f b22
      refine jr_aload_n C dX11_put_25 rfl ?_
      refine jr_iconst C (v := -1) dX11_put_26 (by decide) ?_
      refine jr_vip C [.int _] _ (ct_X11_told E _ _) ky_X11_told kv_X11_told kk_M_0 km_X11_173 (by decide) rfl (Nat.le_of_ble_eq_true rfl) dX11_put_27 ?_
      exact ret _ _ _ _ dX11_put_30 rfl (⟨by unfold m_whyf; split <;> first | (exfalso; omega) | rfl, rfl⟩)
theorem cf_X11_of (E : jf_E) (σ : jf_S) (s w : Int32) (he : ((σ.1 0 17)).toInt = 0) : jf_I jh_M E yX11_of cX11_of 3 .int 2 [jf_r E 0, .int s, .int w] σ (fun r τ => r = -1 ∧ τ = jf_i σ 0 0 0) := by
  refine jf_mkI (by decide) (Nat.le_of_ble_eq_true rfl) ?_
  intro G C ret
  refine jr_aload_n C dX11_of_0 rfl ?_
  refine jr_iconst C (v := 0) dX11_of_1 (by decide) ?_
  refine jr_puti C kp_X11_144_0 dX11_of_2 ?_
  refine jr_aload_n C dX11_of_5 rfl ?_
  refine jr_iload_n C dX11_of_6 rfl ?_
  refine jr_vip C [.int _] _ (ct_X11_isShowing E _ _ (σ.1 0 17) (σ.1 14) rfl rfl (by omega)) ky_X11_isShowing kv_X11_isShowing kk_M_0 km_X11_204 (by decide) rfl (Nat.le_of_ble_eq_true rfl) dX11_of_7 ?_
  refine jr_if_ne C 15 dX11_of_10 (by decide) (fun b10 => ?_) (fun b10 => ?_)
  · replace b10 := jb_t b10
    exfalso; omega
  · replace b10 := jb_f b10
    refine jr_iconst C (v := -1) dX11_of_13 (by decide) ?_
    exact ret _ _ _ _ dX11_of_14 rfl (⟨rfl, rfl⟩)
theorem cf_X11_queue (E : jf_E) (σ : jf_S) (s m w : Int32) (he : ((σ.1 0 17)).toInt = 0) : jf_I jh_M E yX11_queue cX11_queue 12 .int 2 [jf_r E 0, .int s, .int m, .int w] σ (fun r τ => r = -1 ∧ τ = jf_i σ 0 0 0) := by
  refine jf_mkI (by decide) (Nat.le_of_ble_eq_true rfl) ?_
  intro G C ret
  refine jr_aload_n C dX11_queue_0 rfl ?_
  refine jr_iconst C (v := 0) dX11_queue_1 (by decide) ?_
  refine jr_puti C kp_X11_144_0 dX11_queue_2 ?_
  refine jr_aload_n C dX11_queue_5 rfl ?_
  refine jr_iload_n C dX11_queue_6 rfl ?_
  refine jr_vip C [.int _] _ (ct_X11_isShowing E _ _ (σ.1 0 17) (σ.1 14) rfl rfl (by omega)) ky_X11_isShowing kv_X11_isShowing kk_M_0 km_X11_204 (by decide) rfl (Nat.le_of_ble_eq_true rfl) dX11_queue_7 ?_
  refine jr_if_eq C 39 dX11_queue_10 (by decide) (fun b10 => ?_) (fun b10 => ?_)
  · replace b10 := jb_f b10
    refine jr_iconst C (v := -1) dX11_queue_39 (by decide) ?_
    exact ret _ _ _ _ dX11_queue_40 rfl (⟨rfl, rfl⟩)
  · replace b10 := jb_t b10
    exfalso; omega
theorem cf_X11_counts (E : jf_E) (σ : jf_S) (j f k : Int32) (hj : ((σ.1 0 35)).toInt = 0) : jf_I jh_M E yX11_counts cX11_counts 4 .int 2 [jf_r E 0, .int j, .int f, .int k] σ (fun r τ => r = (if 0 ≤ k.toInt ∧ k.toInt ≤ 100000 then -2 else -1) ∧ τ = jf_i σ 0 0 0) := by
  refine jf_mkI (by decide) (Nat.le_of_ble_eq_true rfl) ?_
  intro G C ret
  refine jr_aload_n C dX11_counts_0 rfl ?_
  refine jr_iconst C (v := 0) dX11_counts_1 (by decide) ?_
  refine jr_puti C kp_X11_144_0 dX11_counts_2 ?_
  refine jr_iload_n C dX11_counts_5 rfl ?_
  refine jr_i2l C dX11_counts_6 ?_
  refine jr_lconst C (v := 0) dX11_counts_7 (by decide) ?_
  refine jr_ldc2 C kc_X11_267 dX11_counts_8 ?_
  refine jr_sip C [.long _, .long _, .long _] _ (ct_X11_inw E _ _ _ _ 0 100000 rfl rfl) ky_X11_in ks_X11_in km_X11_153 (by decide) rfl (Nat.le_of_ble_eq_true rfl) dX11_counts_11 ?_
  refine jr_if_ne C 19 dX11_counts_14 (by decide) (fun b14 => ?_) (fun b14 => ?_)
  · replace b14 := jb_t b14
    refine jr_aload_n C dX11_counts_19 rfl ?_
    refine jr_iload_n C dX11_counts_20 rfl ?_
    refine jr_vip C [.int _] _ (ct_X11_isJuror E _ _ (σ.1 0 35) rfl) ky_X11_isJuror kv_X11_isJuror kk_M_0 km_X11_260 (by decide) rfl (Nat.le_of_ble_eq_true rfl) dX11_counts_21 ?_
    refine jr_if_eq C 35 dX11_counts_24 (by decide) (fun b24 => ?_) (fun b24 => ?_)
    · replace b24 := jb_f b24
      refine jr_bipush C (v := -2) dX11_counts_35 (by decide) ?_
      exact ret _ _ _ _ dX11_counts_37 rfl (⟨by split <;> first | (exfalso; omega) | rfl, rfl⟩)
    · replace b24 := jb_t b24
      exfalso; omega
  · replace b14 := jb_f b14
    refine jr_iconst C (v := -1) dX11_counts_17 (by decide) ?_
    exact ret _ _ _ _ dX11_counts_18 rfl (⟨by split <;> first | (exfalso; omega) | rfl, rfl⟩)
theorem cf_X11_prize (E : jf_E) (σ : jf_S) (k : Int32) (hs : ((σ.1 0 44)).toInt = 0) : jf_I jh_M E yX11_prize cX11_prize 4 .int 2 [jf_r E 0, .int k] σ (fun r τ => r = (if 0 ≤ k.toInt ∧ k.toInt ≤ 100000 then -6 else -1) ∧ τ = m_told (jf_i σ 0 0 0) r) := by
  refine jf_mkI (by decide) (Nat.le_of_ble_eq_true rfl) ?_
  intro G C ret
  refine jr_aload_n C dX11_prize_0 rfl ?_
  refine jr_iconst C (v := 0) dX11_prize_1 (by decide) ?_
  refine jr_puti C kp_X11_144_0 dX11_prize_2 ?_
  refine jr_iload_n C dX11_prize_5 rfl ?_
  refine jr_i2l C dX11_prize_6 ?_
  refine jr_lconst C (v := 0) dX11_prize_7 (by decide) ?_
  refine jr_ldc2 C kc_X11_267 dX11_prize_8 ?_
  refine jr_sip C [.long _, .long _, .long _] _ (ct_X11_inw E _ _ _ _ 0 100000 rfl rfl) ky_X11_in ks_X11_in km_X11_153 (by decide) rfl (Nat.le_of_ble_eq_true rfl) dX11_prize_11 ?_
  refine jr_if_ne C 23 dX11_prize_14 (by decide) (fun b14 => ?_) (fun b14 => ?_)
  · replace b14 := jb_t b14
    refine jr_aload_n C dX11_prize_23 rfl ?_
    refine jr_getv C kf_X11_359_0 dX11_prize_24 (v := σ.1 0 44) rfl ?_
    refine jr_nif_ne C 37 dX11_prize_27 (by decide) (fun b27 => ?_) (fun b27 => ?_)
    · exfalso; omega
    · refine jr_aload_n C dX11_prize_30 rfl ?_
      refine jr_bipush C (v := -6) dX11_prize_31 (by decide) ?_
      refine jr_vip C [.int _] _ (ct_X11_told E _ _) ky_X11_told kv_X11_told kk_M_0 km_X11_173 (by decide) rfl (Nat.le_of_ble_eq_true rfl) dX11_prize_33 ?_
      exact ret _ _ _ _ dX11_prize_36 rfl (⟨by split <;> first | (exfalso; omega) | rfl, rfl⟩)
  · replace b14 := jb_f b14
    refine jr_aload_n C dX11_prize_17 rfl ?_
    refine jr_iconst C (v := -1) dX11_prize_18 (by decide) ?_
    refine jr_vip C [.int _] _ (ct_X11_told E _ _) ky_X11_told kv_X11_told kk_M_0 km_X11_173 (by decide) rfl (Nat.le_of_ble_eq_true rfl) dX11_prize_19 ?_
    exact ret _ _ _ _ dX11_prize_22 rfl (⟨by split <;> first | (exfalso; omega) | rfl, rfl⟩)
theorem cf_X11_gridOf (E : jf_E) (σ : jf_S) (he : ((σ.1 0 17)).toInt = 0) : jf_I jh_M E yX11_gridOf cX11_gridOf 3 .int 0 [jf_r E 0] σ (fun r τ => r = 0 ∧ τ = σ) := by
  refine jf_mkI (by decide) (Nat.le_of_ble_eq_true rfl) ?_
  intro G C ret
  have z0 : (0 : Int32).toInt = 0 := rfl
  refine jr_iconst C (v := 0) dX11_gridOf_0 (by decide) ?_
  refine jr_istore_n C dX11_gridOf_1 (by decide) ?_
  refine jr_iconst C (v := 0) dX11_gridOf_2 (by decide) ?_
  refine jr_istore_n C dX11_gridOf_3 (by decide) ?_
  refine jr_iload_n C dX11_gridOf_4 rfl ?_
  refine jr_aload_n C dX11_gridOf_5 rfl ?_
  refine jr_getv C kf_X11_160_0 dX11_gridOf_6 (v := σ.1 0 17) rfl ?_
  refine jr_ncmp_ge C 39 dX11_gridOf_9 (by decide) rfl rfl (fun b9 => ?_) (fun b9 => ?_)
  · refine jr_iload_n C dX11_gridOf_39 rfl ?_
    exact ret _ _ _ _ dX11_gridOf_40 rfl (⟨rfl, rfl⟩)
  · exfalso; omega
theorem cf_X11_grid (E : jf_E) (σ : jf_S) (he : ((σ.1 0 17)).toInt = 0) : jf_I jh_M E yX11_grid cX11_grid 1 .int 1 [jf_r E 0] σ (fun r τ => r = 0 ∧ τ = jf_i σ 0 0 0) := by
  refine jf_mkI (by decide) (Nat.le_of_ble_eq_true rfl) ?_
  intro G C ret
  refine jr_aload_n C dX11_grid_0 rfl ?_
  refine jr_iconst C (v := 0) dX11_grid_1 (by decide) ?_
  refine jr_puti C kp_X11_144_0 dX11_grid_2 ?_
  refine jr_aload_n C dX11_grid_5 rfl ?_
  refine jr_vip C [] _ (cf_X11_gridOf E _ he) ky_X11_gridOf kv_X11_gridOf kk_M_0 km_X11_225 (by decide) rfl (Nat.le_of_ble_eq_true rfl) dX11_grid_6 ?_
  exact ret _ _ _ _ dX11_grid_9 rfl (⟨rfl, rfl⟩)
theorem cf_X11_better (E : jf_E) (σ : jf_S) (he : ((σ.1 0 17)).toInt = 0) : jf_I jh_M E yX11_better cX11_better 6 .int 1 [jf_r E 0] σ (fun r τ => r = 0) := by
  refine jf_mkI (by decide) (Nat.le_of_ble_eq_true rfl) ?_
  intro G C ret
  have z0 : (0 : Int32).toInt = 0 := rfl
  refine jr_aload_n C dX11_better_0 rfl ?_
  refine jr_iconst C (v := 0) dX11_better_1 (by decide) ?_
  refine jr_puti C kp_X11_144_0 dX11_better_2 ?_
  refine jr_iconst C (v := 0) dX11_better_5 (by decide) ?_
  refine jr_istore_n C dX11_better_6 (by decide) ?_
  refine jr_iconst C (v := 1) dX11_better_7 (by decide) ?_
  refine jr_istore_n C dX11_better_8 (by decide) ?_
  refine jr_iload_n C dX11_better_9 rfl ?_
  refine jr_if_eq C 169 dX11_better_10 (by decide) (fun b => absurd b (by decide)) (fun _ => ?_)
  refine jr_iload_n C dX11_better_13 rfl ?_
  refine jr_bipush C (v := 40) dX11_better_14 (by decide) ?_
  refine jr_icmp_ge C 169 dX11_better_16 (by decide) (fun b => absurd b (by decide)) (fun _ => ?_)
  refine jr_aload_n C dX11_better_19 rfl ?_
  refine jr_aload_n C dX11_better_20 rfl ?_
  refine jr_vip C [] _ (cf_X11_gridOf E _ he) ky_X11_gridOf kv_X11_gridOf kk_M_0 km_X11_225 (by decide) rfl (Nat.le_of_ble_eq_true rfl) dX11_better_21 ?_
  refine jr_puti C kp_X11_231_0 dX11_better_24 ?_
  refine jr_aload_n C dX11_better_27 rfl ?_
  refine jr_iconst C (v := -1) dX11_better_28 (by decide) ?_
  refine jr_puti C kp_X11_234_0 dX11_better_29 ?_
  refine jr_iconst C (v := 0) dX11_better_32 (by decide) ?_
  refine jr_istore_n C dX11_better_33 (by decide) ?_
  refine jr_iload_n C dX11_better_34 rfl ?_
  refine jr_aload_n C dX11_better_35 rfl ?_
  refine jr_geti C kf_X11_160_0 dX11_better_36 ?_
  refine jr_ncmp_ge C (a := (0 : Int32).toInt) (b := ((σ.1 0 17)).toInt) 120 dX11_better_39 (by decide) rfl rfl (fun _ => ?_) (fun b => absurd b (by omega))
  refine jr_aload_n C dX11_better_120 rfl ?_
  refine jr_geti C kf_X11_234_0 dX11_better_121 ?_
  refine jr_if_lt C 131 dX11_better_124 (by decide) (fun _ => ?_) (fun b => absurd (show (-1 : Int32) < 0 by decide) b)
  refine jr_iconst C (v := 0) dX11_better_131 (by decide) ?_
  refine jr_istore_n C dX11_better_132 (by decide) ?_
  refine jr_iload_n C dX11_better_133 rfl ?_
  refine jr_if_eq C 9 dX11_better_134 (by decide) (fun _ => ?_) (fun b => absurd rfl b)
  refine jr_iload_n C dX11_better_9 rfl ?_
  refine jr_if_eq C 169 dX11_better_10 (by decide) (fun _ => ?_) (fun b => absurd rfl b)
  refine jr_aload_n C dX11_better_169 rfl ?_
  refine jr_iconst C (v := 0) dX11_better_170 (by decide) ?_
  refine jr_puti C kp_X11_228_0 dX11_better_171 ?_
  refine jr_iload_n C dX11_better_174 rfl ?_
  exact ret _ _ _ _ dX11_better_175 rfl (rfl)
/-! the reader of the reference at an empty tape -/
theorem cf_X11_next (E : jf_E) (σ : jf_S) (h : ((σ.1 0 60)).toInt = ((σ.1 0 58)).toInt) : jf_V jh_M E yX11_next cX11_next 1 0 [jf_r E 0] σ (fun τ => τ = jf_i (jf_l (jf_i (jf_i σ 0 59 ((σ.1 0 60))) 0 60 ((σ.1 0 60))) 0 62 0) 0 61 0) := by
  refine jf_mkV (by decide) (Nat.le_of_ble_eq_true rfl) ?_
  intro G C ret
  refine jr_aload_n C dX11_next_0 rfl ?_
  refine jr_aload_n C dX11_next_1 rfl ?_
  refine jr_geti C kf_X11_279_0 dX11_next_2 ?_
  refine jr_puti C kp_X11_282_0 dX11_next_5 ?_
  refine jr_aload_n C dX11_next_8 rfl ?_
  refine jr_geti C kf_X11_282_0 dX11_next_9 ?_
  refine jr_aload_n C dX11_next_12 rfl ?_
  refine jr_geti C kf_X11_272_0 dX11_next_13 ?_
  refine jr_ncmp_ge C (a := ((σ.1 0 60)).toInt) (b := ((σ.1 0 58)).toInt) 46 dX11_next_16 (by decide) rfl rfl (fun _ => ?_) (fun b => absurd b (by omega))
  refine jr_aload_n C dX11_next_46 rfl ?_
  refine jr_aload_n C dX11_next_47 rfl ?_
  refine jr_geti C kf_X11_282_0 dX11_next_48 ?_
  refine jr_puti C kp_X11_279_0 dX11_next_51 ?_
  refine jr_aload_n C dX11_next_54 rfl ?_
  refine jr_lconst C (v := 0) dX11_next_55 (by decide) ?_
  refine jr_putl C kp_X11_285_0 dX11_next_56 ?_
  refine jr_aload_n C dX11_next_59 rfl ?_
  refine jr_aload_n C dX11_next_60 rfl ?_
  refine jr_geti C kf_X11_282_0 dX11_next_61 ?_
  refine jr_aload_n C dX11_next_64 rfl ?_
  refine jr_geti C kf_X11_272_0 dX11_next_65 ?_
  refine jr_ncmp_ne C (a := ((σ.1 0 60)).toInt) (b := ((σ.1 0 58)).toInt) 75 dX11_next_68 (by decide) rfl rfl (fun b => absurd h b) (fun _ => ?_)
  refine jr_iconst C (v := 0) dX11_next_71 (by decide) ?_
  refine jr_goto C 114 dX11_next_72 (by decide) ?_
  refine jr_puti C kp_X11_295_0 dX11_next_114 ?_
  refine jr_aload_n C dX11_next_117 rfl ?_
  refine jr_geti C kf_X11_295_0 dX11_next_118 ?_
  refine jr_iconst C (v := 3) dX11_next_121 (by decide) ?_
  refine jr_ncmp_ne C (a := 0) (b := 3) 149 dX11_next_122 (by decide) rfl rfl (fun _ => ?_) (fun b => absurd b (by decide))
  refine jr_aload_n C dX11_next_149 rfl ?_
  refine jr_geti C kf_X11_295_0 dX11_next_150 ?_
  refine jr_iconst C (v := 1) dX11_next_153 (by decide) ?_
  refine jr_ncmp_ne C (a := 0) (b := 1) 243 dX11_next_154 (by decide) rfl rfl (fun _ => ?_) (fun b => absurd b (by decide))
  refine jr_aload_n C dX11_next_243 rfl ?_
  refine jr_geti C kf_X11_295_0 dX11_next_244 ?_
  refine jr_iconst C (v := 2) dX11_next_247 (by decide) ?_
  refine jr_ncmp_ne C (a := 0) (b := 2) 335 dX11_next_248 (by decide) rfl rfl (fun _ => ?_) (fun b => absurd b (by decide))
  exact ret _ _ _ dX11_next_335 (rfl)
theorem cf_X11_isWord (E : jf_E) (σ : jf_S) (a b c d e f : Int32) (hk : ¬ ((σ.1 0 61)).toInt = 1) : jf_I jh_M E yX11_isWord cX11_isWord 7 .boolean 0 [jf_r E 0, .int a, .int b, .int c, .int d, .int e, .int f] σ (fun r τ => r = 0 ∧ τ = σ) := by
  refine jf_mkI (by decide) (Nat.le_of_ble_eq_true rfl) ?_
  intro G C ret
  refine jr_aload_n C dX11_isWord_0 rfl ?_
  refine jr_getv C kf_X11_295_0 dX11_isWord_1 (v := σ.1 0 61) rfl ?_
  refine jr_iconst C (v := 1) dX11_isWord_4 (by decide) ?_
  refine jr_ncmp_ne C (b := 1) 32 dX11_isWord_5 (by decide) rfl rfl (fun b5 => ?_) (fun b5 => ?_)
  · refine jr_iconst C (v := 0) dX11_isWord_32 (by decide) ?_
    exact ret _ _ _ _ dX11_isWord_33 (rfl) (⟨rfl, rfl⟩)
  · exfalso; omega
theorem cf_X11_isSign (E : jf_E) (σ : jf_S) (a : Int32) (hk : ¬ ((σ.1 0 61)).toInt = 3) : jf_I jh_M E yX11_isSign cX11_isSign 2 .boolean 0 [jf_r E 0, .int a] σ (fun r τ => r = 0 ∧ τ = σ) := by
  refine jf_mkI (by decide) (Nat.le_of_ble_eq_true rfl) ?_
  intro G C ret
  refine jr_aload_n C dX11_isSign_0 rfl ?_
  refine jr_getv C kf_X11_295_0 dX11_isSign_1 (v := σ.1 0 61) rfl ?_
  refine jr_iconst C (v := 3) dX11_isSign_4 (by decide) ?_
  refine jr_ncmp_ne C (b := 3) 22 dX11_isSign_5 (by decide) rfl rfl (fun b5 => ?_) (fun b5 => ?_)
  · refine jr_iconst C (v := 0) dX11_isSign_22 (by decide) ?_
    exact ret _ _ _ _ dX11_isSign_23 (rfl) (⟨rfl, rfl⟩)
  · exfalso; omega
theorem cf_X11_must0 (E : jf_E) (σ : jf_S) (v : Int32) (hb : ((σ.1 0 64)).toInt = 0) (hv : v.toInt = 0) : jf_V jh_M E yX11_must cX11_must 2 0 [jf_r E 0, .int v] σ (fun τ => τ = jf_i (jf_i σ 0 64 1) 0 63 ((σ.1 0 59))) := by
  refine jf_mkV (by decide) (Nat.le_of_ble_eq_true rfl) ?_
  intro G C ret
  refine jr_aload_n C dX11_must_0 rfl ?_
  refine jr_geti C kf_X11_310_0 dX11_must_1 ?_
  refine jr_nif_ne C 24 dX11_must_4 (by decide) (fun b => absurd hb b) (fun _ => ?_)
  refine jr_iload_n C dX11_must_7 rfl ?_
  refine jr_nif_ne C 24 dX11_must_8 (by decide) (fun b => absurd hv b) (fun _ => ?_)
  refine jr_aload_n C dX11_must_11 rfl ?_
  refine jr_iconst C (v := 1) dX11_must_12 (by decide) ?_
  refine jr_putz C kp_X11_310_0 (by decide) dX11_must_13 ?_
  refine jr_aload_n C dX11_must_16 rfl ?_
  refine jr_aload_n C dX11_must_17 rfl ?_
  refine jr_geti C kf_X11_282_0 dX11_must_18 ?_
  refine jr_puti C kp_X11_126_0 dX11_must_21 ?_
  refine jr_aload_n C dX11_must_24 rfl ?_
  refine jr_geti C kf_X11_310_0 dX11_must_25 ?_
  refine jr_if_ne C 35 dX11_must_28 (by decide) (fun _ => ?_) (fun b => absurd (show (1 : Int32) = 0 from b) (by decide))
  exact ret _ _ _ dX11_must_35 (rfl)
theorem cf_X11_must1 (E : jf_E) (σ : jf_S) (v : Int32) (hb : ¬ ((σ.1 0 64)).toInt = 0) : jf_V jh_M E yX11_must cX11_must 2 0 [jf_r E 0, .int v] σ (fun τ => τ = σ) := by
  refine jf_mkV (by decide) (Nat.le_of_ble_eq_true rfl) ?_
  intro G C ret
  refine jr_aload_n C dX11_must_0 rfl ?_
  refine jr_geti C kf_X11_310_0 dX11_must_1 ?_
  refine jr_nif_ne C 24 dX11_must_4 (by decide) (fun _ => ?_) (fun b => absurd b hb)
  refine jr_aload_n C dX11_must_24 rfl ?_
  refine jr_geti C kf_X11_310_0 dX11_must_25 ?_
  refine jr_nif_ne C 35 dX11_must_28 (by decide) (fun _ => ?_) (fun b => absurd b hb)
  exact ret _ _ _ dX11_must_35 (rfl)
theorem cf_X11_readRules (E : jf_E) (σ : jf_S) (hb : ((σ.1 0 64)).toInt = 0) (hk : (σ.1 0 61) = 0) : jf_V jh_M E yX11_readRules cX11_readRules 3 1 [jf_r E 0] σ (fun τ => (τ.1 0 64) = 1 ∧ (τ.1 0 63) = (σ.1 0 59)) := by
  refine jf_mkV (by decide) (Nat.le_of_ble_eq_true rfl) ?_
  intro G C ret
  have k1 : ¬ ((σ.1 0 61)).toInt = 1 := by rw [hk]; decide
  have k3 : ¬ ((σ.1 0 61)).toInt = 3 := by rw [hk]; decide
  have b1 : ¬ (1 : Int32).toInt = 0 := by decide
  have z0 : (0 : Int32).toInt = 0 := rfl
  refine jr_aload_n C dX11_readRules_0 rfl ?_
  refine jr_aload_n C dX11_readRules_1 rfl ?_
  refine jr_bipush C (v := 99) dX11_readRules_2 (by decide) ?_
  refine jr_bipush C (v := 111) dX11_readRules_4 (by decide) ?_
  refine jr_bipush C (v := 117) dX11_readRules_6 (by decide) ?_
  refine jr_bipush C (v := 110) dX11_readRules_8 (by decide) ?_
  refine jr_bipush C (v := 116) dX11_readRules_10 (by decide) ?_
  refine jr_iconst C (v := 0) dX11_readRules_12 (by decide) ?_
  refine jr_vip C [.int _, .int _, .int _, .int _, .int _, .int _] _ (cf_X11_isWord E _ _ _ _ _ _ _ k1) ky_X11_isWord kv_X11_isWord kk_M_0 km_X11_326 (by decide) rfl (Nat.le_of_ble_eq_true rfl) dX11_readRules_13 ?_
  refine jr_vvp C [.int _] _ (cf_X11_must0 E _ _ hb z0) ky_X11_must kv_X11_must kk_M_0 km_X11_333 (by decide) rfl (Nat.le_of_ble_eq_true rfl) dX11_readRules_16 ?_
  refine jr_aload_n C dX11_readRules_19 rfl ?_
  refine jr_geti C kf_X11_310_0 dX11_readRules_20 ?_
  refine jr_if_ne C 30 dX11_readRules_23 (by decide) (fun _ => ?_) (fun b => absurd (show (1 : Int32) = 0 from b) (by decide))
  refine jr_aload_n C dX11_readRules_30 rfl ?_
  refine jr_aload_n C dX11_readRules_31 rfl ?_
  refine jr_bipush C (v := 59) dX11_readRules_32 (by decide) ?_
  refine jr_vip C [.int _] _ (cf_X11_isSign E _ _ k3) ky_X11_isSign kv_X11_isSign kk_M_0 km_X11_330 (by decide) rfl (Nat.le_of_ble_eq_true rfl) dX11_readRules_34 ?_
  refine jr_vvp C [.int _] _ (cf_X11_must1 E _ _ b1) ky_X11_must kv_X11_must kk_M_0 km_X11_333 (by decide) rfl (Nat.le_of_ble_eq_true rfl) dX11_readRules_37 ?_
  refine jr_aload_n C dX11_readRules_40 rfl ?_
  refine jr_geti C kf_X11_310_0 dX11_readRules_41 ?_
  refine jr_if_ne C 165 dX11_readRules_44 (by decide) (fun _ => ?_) (fun b => absurd (show (1 : Int32) = 0 from b) (by decide))
  refine jr_aload_n C dX11_readRules_165 rfl ?_
  refine jr_aload_n C dX11_readRules_166 rfl ?_
  refine jr_bipush C (v := 114) dX11_readRules_167 (by decide) ?_
  refine jr_bipush C (v := 111) dX11_readRules_169 (by decide) ?_
  refine jr_bipush C (v := 117) dX11_readRules_171 (by decide) ?_
  refine jr_bipush C (v := 110) dX11_readRules_173 (by decide) ?_
  refine jr_bipush C (v := 100) dX11_readRules_175 (by decide) ?_
  refine jr_bipush C (v := 115) dX11_readRules_177 (by decide) ?_
  refine jr_vip C [.int _, .int _, .int _, .int _, .int _, .int _] _ (cf_X11_isWord E _ _ _ _ _ _ _ k1) ky_X11_isWord kv_X11_isWord kk_M_0 km_X11_326 (by decide) rfl (Nat.le_of_ble_eq_true rfl) dX11_readRules_179 ?_
  refine jr_vvp C [.int _] _ (cf_X11_must1 E _ _ b1) ky_X11_must kv_X11_must kk_M_0 km_X11_333 (by decide) rfl (Nat.le_of_ble_eq_true rfl) dX11_readRules_182 ?_
  refine jr_aload_n C dX11_readRules_185 rfl ?_
  refine jr_aload_n C dX11_readRules_186 rfl ?_
  refine jr_bipush C (v := 59) dX11_readRules_187 (by decide) ?_
  refine jr_vip C [.int _] _ (cf_X11_isSign E _ _ k3) ky_X11_isSign kv_X11_isSign kk_M_0 km_X11_330 (by decide) rfl (Nat.le_of_ble_eq_true rfl) dX11_readRules_189 ?_
  refine jr_vvp C [.int _] _ (cf_X11_must1 E _ _ b1) ky_X11_must kv_X11_must kk_M_0 km_X11_333 (by decide) rfl (Nat.le_of_ble_eq_true rfl) dX11_readRules_192 ?_
  refine jr_aload_n C dX11_readRules_195 rfl ?_
  refine jr_aload_n C dX11_readRules_196 rfl ?_
  refine jr_bipush C (v := 116) dX11_readRules_197 (by decide) ?_
  refine jr_bipush C (v := 105) dX11_readRules_199 (by decide) ?_
  refine jr_bipush C (v := 101) dX11_readRules_201 (by decide) ?_
  refine jr_iconst C (v := 0) dX11_readRules_203 (by decide) ?_
  refine jr_iconst C (v := 0) dX11_readRules_204 (by decide) ?_
  refine jr_iconst C (v := 0) dX11_readRules_205 (by decide) ?_
  refine jr_vip C [.int _, .int _, .int _, .int _, .int _, .int _] _ (cf_X11_isWord E _ _ _ _ _ _ _ k1) ky_X11_isWord kv_X11_isWord kk_M_0 km_X11_326 (by decide) rfl (Nat.le_of_ble_eq_true rfl) dX11_readRules_206 ?_
  refine jr_vvp C [.int _] _ (cf_X11_must1 E _ _ b1) ky_X11_must kv_X11_must kk_M_0 km_X11_333 (by decide) rfl (Nat.le_of_ble_eq_true rfl) dX11_readRules_209 ?_
  refine jr_aload_n C dX11_readRules_212 rfl ?_
  refine jr_aload_n C dX11_readRules_213 rfl ?_
  refine jr_bipush C (v := 102) dX11_readRules_214 (by decide) ?_
  refine jr_bipush C (v := 97) dX11_readRules_216 (by decide) ?_
  refine jr_bipush C (v := 109) dX11_readRules_218 (by decide) ?_
  refine jr_bipush C (v := 101) dX11_readRules_220 (by decide) ?_
  refine jr_iconst C (v := 0) dX11_readRules_222 (by decide) ?_
  refine jr_iconst C (v := 0) dX11_readRules_223 (by decide) ?_
  refine jr_vip C [.int _, .int _, .int _, .int _, .int _, .int _] _ (cf_X11_isWord E _ _ _ _ _ _ _ k1) ky_X11_isWord kv_X11_isWord kk_M_0 km_X11_326 (by decide) rfl (Nat.le_of_ble_eq_true rfl) dX11_readRules_224 ?_
  refine jr_if_eq C 234 dX11_readRules_227 (by decide) (fun _ => ?_) (fun b => absurd rfl b)
  refine jr_aload_n C dX11_readRules_234 rfl ?_
  refine jr_bipush C (v := 102) dX11_readRules_235 (by decide) ?_
  refine jr_bipush C (v := 105) dX11_readRules_237 (by decide) ?_
  refine jr_bipush C (v := 108) dX11_readRules_239 (by decide) ?_
  refine jr_bipush C (v := 109) dX11_readRules_241 (by decide) ?_
  refine jr_iconst C (v := 0) dX11_readRules_243 (by decide) ?_
  refine jr_iconst C (v := 0) dX11_readRules_244 (by decide) ?_
  refine jr_vip C [.int _, .int _, .int _, .int _, .int _, .int _] _ (cf_X11_isWord E _ _ _ _ _ _ _ k1) ky_X11_isWord kv_X11_isWord kk_M_0 km_X11_326 (by decide) rfl (Nat.le_of_ble_eq_true rfl) dX11_readRules_245 ?_
  refine jr_if_eq C 255 dX11_readRules_248 (by decide) (fun _ => ?_) (fun b => absurd rfl b)
  refine jr_iconst C (v := 2) dX11_readRules_255 (by decide) ?_
  refine jr_puti C kp_X11_353_0 dX11_readRules_256 ?_
  refine jr_aload_n C dX11_readRules_259 rfl ?_
  refine jr_aload_n C dX11_readRules_260 rfl ?_
  refine jr_geti C kf_X11_353_0 dX11_readRules_261 ?_
  refine jr_iconst C (v := 2) dX11_readRules_264 (by decide) ?_
  refine jr_ncmp_lt C (a := 2) (b := 2) 286 dX11_readRules_265 (by decide) rfl rfl (fun b => absurd b (by decide)) (fun _ => ?_)
  refine jr_aload_n C dX11_readRules_268 rfl ?_
  refine jr_bipush C (v := 102) dX11_readRules_269 (by decide) ?_
  refine jr_bipush C (v := 105) dX11_readRules_271 (by decide) ?_
  refine jr_bipush C (v := 114) dX11_readRules_273 (by decide) ?_
  refine jr_bipush C (v := 115) dX11_readRules_275 (by decide) ?_
  refine jr_bipush C (v := 116) dX11_readRules_277 (by decide) ?_
  refine jr_iconst C (v := 0) dX11_readRules_279 (by decide) ?_
  refine jr_vip C [.int _, .int _, .int _, .int _, .int _, .int _] _ (cf_X11_isWord E _ _ _ _ _ _ _ k1) ky_X11_isWord kv_X11_isWord kk_M_0 km_X11_326 (by decide) rfl (Nat.le_of_ble_eq_true rfl) dX11_readRules_280 ?_
  refine jr_if_eq C 290 dX11_readRules_283 (by decide) (fun _ => ?_) (fun b => absurd rfl b)
  refine jr_iconst C (v := 0) dX11_readRules_290 (by decide) ?_
  refine jr_vvp C [.int _] _ (cf_X11_must1 E _ _ b1) ky_X11_must kv_X11_must kk_M_0 km_X11_333 (by decide) rfl (Nat.le_of_ble_eq_true rfl) dX11_readRules_291 ?_
  refine jr_aload_n C dX11_readRules_294 rfl ?_
  refine jr_aload_n C dX11_readRules_295 rfl ?_
  refine jr_geti C kf_X11_295_0 dX11_readRules_296 ?_
  refine jr_if_ne C 306 dX11_readRules_299 (by decide) (fun b => absurd hk b) (fun _ => ?_)
  refine jr_iconst C (v := 1) dX11_readRules_302 (by decide) ?_
  refine jr_goto C 307 dX11_readRules_303 (by decide) ?_
  refine jr_vvp C [.int _] _ (cf_X11_must1 E _ _ b1) ky_X11_must kv_X11_must kk_M_0 km_X11_333 (by decide) rfl (Nat.le_of_ble_eq_true rfl) dX11_readRules_307 ?_
  exact ret _ _ _ dX11_readRules_310 (⟨rfl, rfl⟩)
theorem cf_X11_rules (E : jf_E) (σ : jf_S) (ht : ((σ.1 0 58)).toInt = 0) : jf_I jh_M E yX11_rules cX11_rules 2 .int 2 [jf_r E 0] σ (fun r τ => r = -6) := by
  refine jf_mkI (by decide) (Nat.le_of_ble_eq_true rfl) ?_
  intro G C ret
  refine jr_aload_n C dX11_rules_0 rfl ?_
  refine jr_iconst C (v := 0) dX11_rules_1 (by decide) ?_
  refine jr_puti C kp_X11_144_0 dX11_rules_2 ?_
  refine jr_aload_n C dX11_rules_5 rfl ?_
  refine jr_iconst C (v := 0) dX11_rules_6 (by decide) ?_
  refine jr_puti C kp_X11_279_0 dX11_rules_7 ?_
  refine jr_aload_n C dX11_rules_10 rfl ?_
  refine jr_iconst C (v := 0) dX11_rules_11 (by decide) ?_
  refine jr_putz C kp_X11_310_0 (by decide) dX11_rules_12 ?_
  refine jr_aload_n C dX11_rules_15 rfl ?_
  refine jr_iconst C (v := -1) dX11_rules_16 (by decide) ?_
  refine jr_puti C kp_X11_126_0 dX11_rules_17 ?_
  refine jr_aload_n C dX11_rules_20 rfl ?_
  refine jr_iconst C (v := 0) dX11_rules_21 (by decide) ?_
  refine jr_puti C kp_X11_317_0 dX11_rules_22 ?_
  refine jr_aload_n C dX11_rules_25 rfl ?_
  refine jr_iconst C (v := 0) dX11_rules_26 (by decide) ?_
  refine jr_puti C kp_X11_350_0 dX11_rules_27 ?_
  refine jr_aload_n C dX11_rules_30 rfl ?_
  refine jr_vvp C [] _ (cf_X11_next E _ (show (0 : Int32).toInt = ((σ.1 0 58)).toInt from ht.symm)) ky_X11_next kv_X11_next kk_M_0 km_X11_314 (by decide) rfl (Nat.le_of_ble_eq_true rfl) dX11_rules_31 ?_
  refine jr_aload_n C dX11_rules_34 rfl ?_
  refine jr_vv C [] _ (cf_X11_readRules E _ (show (0 : Int32).toInt = 0 from rfl) rfl) ky_X11_readRules kv_X11_readRules kk_M_0 km_X11_356 (by decide) rfl (Nat.le_of_ble_eq_true rfl) dX11_rules_35 (fun τ35 h35 => ?_)
  refine jr_aload_n C dX11_rules_38 rfl ?_
  refine jr_iconst C (v := 0) dX11_rules_39 (by decide) ?_
  refine jr_puti C kp_X11_272_0 dX11_rules_40 ?_
  refine jr_aload_n C dX11_rules_43 rfl ?_
  refine jr_geti C kf_X11_310_0 dX11_rules_44 ?_
  refine jr_if_eq C 57 dX11_rules_47 (by decide) (fun b => absurd ((show ((τ35.1 0 64)) = 0 from b).symm.trans h35.1) (by decide)) (fun _ => ?_)
  refine jr_aload_n C dX11_rules_50 rfl ?_
  refine jr_bipush C (v := -6) dX11_rules_51 (by decide) ?_
  refine jr_vip C [.int _] _ (ct_X11_told E _ _) ky_X11_told kv_X11_told kk_M_0 km_X11_173 (by decide) rfl (Nat.le_of_ble_eq_true rfl) dX11_rules_53 ?_
  exact ret _ _ _ _ dX11_rules_56 rfl (rfl)

