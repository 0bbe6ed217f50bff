/-! the reference: of, count, queue: safe -/
/-- behind a question: thrown, and the scratch rows of TRUE beginnings -/
def mS_q (σ τ : jf_S) : Prop := mS_true (jf_i σ 0 0 0) τ
theorem mS_q_r (σ : jf_S) : mS_q σ (jf_i σ 0 0 0) := ⟨rfl, fun _ _ _ => rfl⟩
theorem ct_X11_of (E : jf_E) (σ : jf_S) (s w : Int32) (hI : mI_s σ) : jf_I jh_M E yX11_of cX11_of 3 .int 3 [jf_r E 0, .int s, .int w] σ (fun r τ => (¬ (0 ≤ s.toInt ∧ s.toInt < ((σ.1 0 17)).toInt ∧ ¬ (σ.1 14) s.toNatClampNeg = 0) → r = -1) ∧ mS_q σ τ) := by
  refine jf_mkI (by decide) (Nat.le_of_ble_eq_true rfl) ?_
  intro G C ret
  have hE := hI.1
  refine jr_aload_n C dX11_of_0 rfl ?_
  refine jr_iconst C (v := 0) dX11_of_1 (by decide) ?_
  refine jr_puti C kp_X11_144_0 dX11_of_2 ?_
  refine jr_aload_n C dX11_of_5 rfl ?_
  refine jr_iload_n C dX11_of_6 rfl ?_
  refine jr_vip C [.int _] _ (ct_X11_isShowing E _ _ (σ.1 0 17) (σ.1 14) rfl rfl (by omega)) ky_X11_isShowing kv_X11_isShowing kk_M_0 km_X11_204 (by decide) rfl (Nat.le_of_ble_eq_true rfl) dX11_of_7 ?_
  refine jr_if_ne C 15 dX11_of_10 (by decide) (fun b10 => ?_) (fun b10 => ?_)
  · replace b10 := jb_t b10
    refine jr_iload_n C dX11_of_15 rfl ?_
    have w16 : w.toInt < 0 ∨ w.toInt = 0 ∨ w.toInt = 1 ∨ w.toInt = 2 ∨ w.toInt = 3 ∨ w.toInt = 4 ∨ w.toInt = 5 ∨ w.toInt = 6 ∨ w.toInt = 7 ∨ w.toInt = 8 ∨ 8 < w.toInt := by omega
    rcases w16 with w16 | w16 | w16 | w16 | w16 | w16 | w16 | w16 | w16 | w16 | w16
    · refine jr_tabOut C 135 dX11_of_16 (Or.inl w16) (by decide) ?_
      refine jr_iconst C (v := -1) dX11_of_135 (by decide) ?_
      exact ret _ _ _ _ dX11_of_136 rfl (by first | exact ⟨fun q => absurd b10 q, mS_q_r σ⟩ | exact ⟨fun q => absurd b10 q, h115⟩ | exact ⟨fun q => absurd b10 q, h126⟩)
    · refine jr_tabIn C 68 dX11_of_16 (by omega) (by omega) (by rw [w16]; rfl) (by decide) ?_
      refine jr_aload_n C dX11_of_68 rfl ?_
      refine jr_getr C kf_X11_53_0 dX11_of_69 ?_
      refine jr_iload_n C dX11_of_72 rfl ?_
      refine jr_ialv C ka_M_15 dX11_of_73 (ji_in (i := s) (by omega) (by omega)) (v := σ.1 15 _) rfl ?_
      exact ret _ _ _ _ dX11_of_74 rfl (by first | exact ⟨fun q => absurd b10 q, mS_q_r σ⟩ | exact ⟨fun q => absurd b10 q, h115⟩ | exact ⟨fun q => absurd b10 q, h126⟩)
    · refine jr_tabIn C 75 dX11_of_16 (by omega) (by omega) (by rw [w16]; rfl) (by decide) ?_
      refine jr_aload_n C dX11_of_75 rfl ?_
      refine jr_getr C kf_X11_56_0 dX11_of_76 ?_
      refine jr_iload_n C dX11_of_79 rfl ?_
      refine jr_ialv C ka_M_16 dX11_of_80 (ji_in (i := s) (by omega) (by omega)) (v := σ.1 16 _) rfl ?_
      exact ret _ _ _ _ dX11_of_81 rfl (by first | exact ⟨fun q => absurd b10 q, mS_q_r σ⟩ | exact ⟨fun q => absurd b10 q, h115⟩ | exact ⟨fun q => absurd b10 q, h126⟩)
    · refine jr_tabIn C 82 dX11_of_16 (by omega) (by omega) (by rw [w16]; rfl) (by decide) ?_
      refine jr_aload_n C dX11_of_82 rfl ?_
      refine jr_getr C kf_X11_59_0 dX11_of_83 ?_
      refine jr_iload_n C dX11_of_86 rfl ?_
      refine jr_ialv C ka_M_17 dX11_of_87 (ji_in (i := s) (by omega) (by omega)) (v := σ.1 17 _) rfl ?_
      exact ret _ _ _ _ dX11_of_88 rfl (by first | exact ⟨fun q => absurd b10 q, mS_q_r σ⟩ | exact ⟨fun q => absurd b10 q, h115⟩ | exact ⟨fun q => absurd b10 q, h126⟩)
    · refine jr_tabIn C 89 dX11_of_16 (by omega) (by omega) (by rw [w16]; rfl) (by decide) ?_
      refine jr_aload_n C dX11_of_89 rfl ?_
      refine jr_getr C kf_X11_62_0 dX11_of_90 ?_
      refine jr_iload_n C dX11_of_93 rfl ?_
      refine jr_ialv C ka_M_18 dX11_of_94 (ji_in (i := s) (by omega) (by omega)) (v := σ.1 18 _) rfl ?_
      exact ret _ _ _ _ dX11_of_95 rfl (by first | exact ⟨fun q => absurd b10 q, mS_q_r σ⟩ | exact ⟨fun q => absurd b10 q, h115⟩ | exact ⟨fun q => absurd b10 q, h126⟩)
    · refine jr_tabIn C 96 dX11_of_16 (by omega) (by omega) (by rw [w16]; rfl) (by decide) ?_
      refine jr_aload_n C dX11_of_96 rfl ?_
      refine jr_iload_n C dX11_of_97 rfl ?_
      refine jr_vip C [.int _] _ (ct_X11_endOf E _ _ hI (by omega) (by omega)) ky_X11_endOf kv_X11_endOf kk_M_0 km_X11_192 (by decide) rfl (Nat.le_of_ble_eq_true rfl) dX11_of_98 ?_
      exact ret _ _ _ _ dX11_of_101 rfl (by first | exact ⟨fun q => absurd b10 q, mS_q_r σ⟩ | exact ⟨fun q => absurd b10 q, h115⟩ | exact ⟨fun q => absurd b10 q, h126⟩)
    · refine jr_tabIn C 102 dX11_of_16 (by omega) (by omega) (by rw [w16]; rfl) (by decide) ?_
      refine jr_aload_n C dX11_of_102 rfl ?_
      refine jr_iload_n C dX11_of_103 rfl ?_
      refine jr_vi C [.int _] _ (ct_X11_crowdOf E _ _ hI (by omega) (by omega)) ky_X11_crowdOf kv_X11_crowdOf kk_M_0 km_X11_207 (by decide) rfl (Nat.le_of_ble_eq_true rfl) dX11_of_104 (fun r104 τ104 h104 => ?_)
      subst h104
      exact ret _ _ _ _ dX11_of_107 rfl (by first | exact ⟨fun q => absurd b10 q, mS_q_r σ⟩ | exact ⟨fun q => absurd b10 q, h115⟩ | exact ⟨fun q => absurd b10 q, h126⟩)
    · refine jr_tabIn C 108 dX11_of_16 (by omega) (by omega) (by rw [w16]; rfl) (by decide) ?_
      refine jr_aload_n C dX11_of_108 rfl ?_
      refine jr_iload_n C dX11_of_109 rfl ?_
      refine jr_vi C [.int _] _ (ct_X11_worthOf E _ _ hI (by omega) (by omega)) ky_X11_worthOf kv_X11_worthOf kk_M_0 km_X11_210 (by decide) rfl (Nat.le_of_ble_eq_true rfl) dX11_of_110 (fun r110 τ110 h110 => ?_)
      subst h110
      exact ret _ _ _ _ dX11_of_113 rfl (by first | exact ⟨fun q => absurd b10 q, mS_q_r σ⟩ | exact ⟨fun q => absurd b10 q, h115⟩ | exact ⟨fun q => absurd b10 q, h126⟩)
    · refine jr_tabIn C 114 dX11_of_16 (by omega) (by omega) (by rw [w16]; rfl) (by decide) ?_
      refine jr_aload_n C dX11_of_114 rfl ?_
      refine jr_vv C [] _ (ct_X11_findTrue E _ hI) ky_X11_findTrue kv_X11_findTrue kk_M_0 km_X11_220 (by decide) rfl (Nat.le_of_ble_eq_true rfl) dX11_of_115 (fun τ115 h115 => ?_)
      refine jr_aload_n C dX11_of_118 rfl ?_
      refine jr_getr C kf_X11_81_0 dX11_of_119 ?_
      refine jr_iload_n C dX11_of_122 rfl ?_
      refine jr_iald C ka_M_23 dX11_of_123 (ji_in (i := s) (by omega) (by omega)) ?_
      exact ret _ _ _ _ dX11_of_124 rfl (by first | exact ⟨fun q => absurd b10 q, mS_q_r σ⟩ | exact ⟨fun q => absurd b10 q, h115⟩ | exact ⟨fun q => absurd b10 q, h126⟩)
    · refine jr_tabIn C 125 dX11_of_16 (by omega) (by omega) (by rw [w16]; rfl) (by decide) ?_
      refine jr_aload_n C dX11_of_125 rfl ?_
      refine jr_vv C [] _ (ct_X11_findTrue E _ hI) ky_X11_findTrue kv_X11_findTrue kk_M_0 km_X11_220 (by decide) rfl (Nat.le_of_ble_eq_true rfl) dX11_of_126 (fun τ126 h126 => ?_)
      refine jr_aload_n C dX11_of_129 rfl ?_
      refine jr_iload_n C dX11_of_130 rfl ?_
      refine jr_vip C [.int _] _ (ct_X11_trueEnd E _ _ (mS_true_I h126 hI) (by omega) (by omega)) ky_X11_trueEnd kv_X11_trueEnd kk_M_0 km_X11_217 (by decide) rfl (Nat.le_of_ble_eq_true rfl) dX11_of_131 ?_
      exact ret _ _ _ _ dX11_of_134 rfl (by first | exact ⟨fun q => absurd b10 q, mS_q_r σ⟩ | exact ⟨fun q => absurd b10 q, h115⟩ | exact ⟨fun q => absurd b10 q, h126⟩)
    · refine jr_tabOut C 135 dX11_of_16 (Or.inr w16) (by decide) ?_
      refine jr_iconst C (v := -1) dX11_of_135 (by decide) ?_
      exact ret _ _ _ _ dX11_of_136 rfl (by first | exact ⟨fun q => absurd b10 q, mS_q_r σ⟩ | exact ⟨fun q => absurd b10 q, h115⟩ | exact ⟨fun q => absurd b10 q, h126⟩)
  · replace b10 := jb_f b10
    refine jr_iconst C (v := -1) dX11_of_13 (by decide) ?_
    exact ret _ _ _ _ dX11_of_14 rfl (⟨fun _ => rfl, mS_q_r σ⟩)
def m_count (σ : jf_S) (w : Int32) : Int32 :=
  if w.toInt = 0 then (σ.1 0 2) else if w.toInt = 1 then (σ.1 0 7) else if w.toInt = 2 then nI (jx_ct (fun j => !((σ.1 14) j == 0)) ((σ.1 0 17)).toNatClampNeg) else if w.toInt = 3 then (σ.1 0 17) else if w.toInt = 4 then (σ.1 0 35) else if w.toInt = 5 then (σ.1 0 39) else if w.toInt = 6 then (σ.1 0 27) else if w.toInt = 7 then (σ.1 0 58) else if w.toInt = 8 then (if ((σ.1 0 44)).toInt = 0 then -1 else (σ.1 0 48)) else -1
theorem ct_X11_count (E : jf_E) (σ : jf_S) (w : Int32) (hE : 0 ≤ ((σ.1 0 17)).toInt ∧ ((σ.1 0 17)).toInt ≤ 60) : jf_I jh_M E yX11_count cX11_count 4 .int 0 [jf_r E 0, .int w] σ (fun r τ => (r, τ) = (m_count σ w, jf_i σ 0 0 0)) := by
  refine jf_mkI (by decide) (Nat.le_of_ble_eq_true rfl) ?_
  intro G C ret
  have loop : ∀ (m : Nat) (n o : Int32), w.toInt = 2 → 0 ≤ o.toInt → o.toInt ≤ ((σ.1 0 17)).toInt → ((σ.1 0 17)).toInt - o.toInt < m → n = nI (jx_ct (fun j => !((σ.1 14) j == 0)) o.toNatClampNeg) → jf_X jh_M E G 4 70 [(0, jf_r E 0), (1, .int w), (2, .int n), (3, .int o)] [] (jf_i σ 0 0 0) := by
    intro m
    induction m with
    | zero => intro n o g0 g1 g2 g3 g4; exfalso; omega
    | succ m ih =>
      intro n o g0 g1 g2 g3 g4
      have e1 := ji_inc (k := o) (by omega)
      have e2 : (o + Int32.ofInt 1).toNatClampNeg = o.toNatClampNeg + 1 := ji_cl (by rw [e1, Int.natCast_add, ji_tn g1]; rfl)
      refine jr_iload_n C dX11_count_70 rfl ?_
      refine jr_aload_n C dX11_count_71 rfl ?_
      refine jr_geti C kf_X11_160_0 dX11_count_72 ?_
      refine jr_ncmp_ge C (b := ((σ.1 0 17)).toInt) 101 dX11_count_75 (by decide) rfl rfl (fun b75 => ?_) (fun b75 => ?_)
      · refine jr_iload_n C dX11_count_101 rfl ?_
        exact ret _ _ _ _ dX11_count_102 rfl (by rw [m_count, if_neg (show ¬ w.toInt = 0 by omega), if_neg (show ¬ w.toInt = 1 by omega), if_pos g0, g4, show o = (σ.1 0 17) from Int32.toInt_inj.mp (by omega)])
      · refine jr_iload_n C dX11_count_78 rfl ?_
        refine jr_aload_n C dX11_count_79 rfl ?_
        refine jr_getr C kf_X11_49_0 dX11_count_80 ?_
        refine jr_iload_n C dX11_count_83 rfl ?_
        refine jr_zalv C ka_M_14 dX11_count_84 (ji_in (i := o) (by omega) (by omega)) (v := σ.1 14 _) rfl ?_
        refine jr_nif_eq C 92 dX11_count_85 (by decide) (fun b85 => ?_) (fun b85 => ?_)
        · refine jr_iconst C (v := 0) dX11_count_92 (by decide) ?_
          refine jr_iadd C dX11_count_93 ?_
          refine jr_istore_n C dX11_count_94 (by decide) ?_
          refine jr_iinc C _ dX11_count_95 rfl rfl (by decide) ?_
          refine jr_goto C 70 dX11_count_98 (by decide) ?_
          first | exact jr_sub [(0, jf_r E 0), (1, .int w), (2, .int (n + 0)), (3, .int _)] rfl (ih _ _ g0 (by omega) (by omega) (by omega) (by rw [e2, jx_ct, if_neg (by simp [jn_eq.mpr b85]), Int32.add_zero]; exact g4)) | exact jr_sub [(0, jf_r E 0), (1, .int w), (2, .int (n + 1)), (3, .int _)] rfl (ih _ _ g0 (by omega) (by omega) (by omega) (by rw [e2, jx_ct, if_pos (by simp [jn_ne.mpr b85]), g4, nI_1]))
        · refine jr_iconst C (v := 1) dX11_count_88 (by decide) ?_
          refine jr_goto C 93 dX11_count_89 (by decide) ?_
          refine jr_iadd C dX11_count_93 ?_
          refine jr_istore_n C dX11_count_94 (by decide) ?_
          refine jr_iinc C _ dX11_count_95 rfl rfl (by decide) ?_
          refine jr_goto C 70 dX11_count_98 (by decide) ?_
          first | exact jr_sub [(0, jf_r E 0), (1, .int w), (2, .int (n + 0)), (3, .int _)] rfl (ih _ _ g0 (by omega) (by omega) (by omega) (by rw [e2, jx_ct, if_neg (by simp [jn_eq.mpr b85]), Int32.add_zero]; exact g4)) | exact jr_sub [(0, jf_r E 0), (1, .int w), (2, .int (n + 1)), (3, .int _)] rfl (ih _ _ g0 (by omega) (by omega) (by omega) (by rw [e2, jx_ct, if_pos (by simp [jn_ne.mpr b85]), g4, nI_1]))
  refine jr_aload_n C dX11_count_0 rfl ?_
  refine jr_iconst C (v := 0) dX11_count_1 (by decide) ?_
  refine jr_puti C kp_X11_144_0 dX11_count_2 ?_
  refine jr_iload_n C dX11_count_5 rfl ?_
  have w6 : w.toInt < 0 ∨ w.toInt = 0 ∨ w.toInt = 1 ∨ w.toInt = 2 ∨ w.toInt = 3 ∨ w.toInt = 4 ∨ w.toInt = 5 ∨ w.toInt = 6 ∨ w.toInt = 7 ∨ w.toInt = 8 ∨ 8 < w.toInt := by omega
  rcases w6 with w6 | w6 | w6 | w6 | w6 | w6 | w6 | w6 | w6 | w6 | w6
  · refine jr_tabOut C 144 dX11_count_6 (Or.inl w6) (by decide) ?_
    refine jr_iconst C (v := -1) dX11_count_144 (by decide) ?_
    exact ret _ _ _ _ dX11_count_145 rfl (by unfold m_count; (repeat' split) <;> first | (exfalso; omega) | rfl)
  · refine jr_tabIn C 56 dX11_count_6 (by omega) (by omega) (by rw [w6]; rfl) (by decide) ?_
    refine jr_aload_n C dX11_count_56 rfl ?_
    refine jr_getv C kf_X11_150_0 dX11_count_57 (v := σ.1 0 2) rfl ?_
    exact ret _ _ _ _ dX11_count_60 rfl (by unfold m_count; (repeat' split) <;> first | (exfalso; omega) | rfl)
  · refine jr_tabIn C 61 dX11_count_6 (by omega) (by omega) (by rw [w6]; rfl) (by decide) ?_
    refine jr_aload_n C dX11_count_61 rfl ?_
    refine jr_getv C kf_X11_157_0 dX11_count_62 (v := σ.1 0 7) rfl ?_
    exact ret _ _ _ _ dX11_count_65 rfl (by unfold m_count; (repeat' split) <;> first | (exfalso; omega) | rfl)
  · refine jr_tabIn C 66 dX11_count_6 (by omega) (by omega) (by rw [w6]; rfl) (by decide) ?_
    refine jr_iconst C (v := 0) dX11_count_66 (by decide) ?_
    refine jr_istore_n C dX11_count_67 (by decide) ?_
    refine jr_iconst C (v := 0) dX11_count_68 (by decide) ?_
    refine jr_istore_n C dX11_count_69 (by decide) ?_
    exact jr_sub [(0, jf_r E 0), (1, .int w), (2, .int 0), (3, .int 0)] rfl (loop 61 0 0 w6 (by decide) hE.1 (by show _ - 0 < _; omega) rfl)
  · refine jr_tabIn C 103 dX11_count_6 (by omega) (by omega) (by rw [w6]; rfl) (by decide) ?_
    refine jr_aload_n C dX11_count_103 rfl ?_
    refine jr_getv C kf_X11_160_0 dX11_count_104 (v := σ.1 0 17) rfl ?_
    exact ret _ _ _ _ dX11_count_107 rfl (by unfold m_count; (repeat' split) <;> first | (exfalso; omega) | rfl)
  · refine jr_tabIn C 108 dX11_count_6 (by omega) (by omega) (by rw [w6]; rfl) (by decide) ?_
    refine jr_aload_n C dX11_count_108 rfl ?_
    refine jr_getv C kf_X11_257_0 dX11_count_109 (v := σ.1 0 35) rfl ?_
    exact ret _ _ _ _ dX11_count_112 rfl (by unfold m_count; (repeat' split) <;> first | (exfalso; omega) | rfl)
  · refine jr_tabIn C 113 dX11_count_6 (by omega) (by omega) (by rw [w6]; rfl) (by decide) ?_
    refine jr_aload_n C dX11_count_113 rfl ?_
    refine jr_getv C kf_X11_269_0 dX11_count_114 (v := σ.1 0 39) rfl ?_
    exact ret _ _ _ _ dX11_count_117 rfl (by unfold m_count; (repeat' split) <;> first | (exfalso; omega) | rfl)
  · refine jr_tabIn C 118 dX11_count_6 (by omega) (by omega) (by rw [w6]; rfl) (by decide) ?_
    refine jr_aload_n C dX11_count_118 rfl ?_
    refine jr_getv C kf_X11_228_0 dX11_count_119 (v := σ.1 0 27) rfl ?_
    exact ret _ _ _ _ dX11_count_122 rfl (by unfold m_count; (repeat' split) <;> first | (exfalso; omega) | rfl)
  · refine jr_tabIn C 123 dX11_count_6 (by omega) (by omega) (by rw [w6]; rfl) (by decide) ?_
    refine jr_aload_n C dX11_count_123 rfl ?_
    refine jr_getv C kf_X11_272_0 dX11_count_124 (v := σ.1 0 58) rfl ?_
    exact ret _ _ _ _ dX11_count_127 rfl (by unfold m_count; (repeat' split) <;> first | (exfalso; omega) | rfl)
  · refine jr_tabIn C 128 dX11_count_6 (by omega) (by omega) (by rw [w6]; rfl) (by decide) ?_
    refine jr_aload_n C dX11_count_128 rfl ?_
    refine jr_getv C kf_X11_359_0 dX11_count_129 (v := σ.1 0 44) rfl ?_
    refine jr_nif_eq C 142 dX11_count_132 (by decide) (fun b132 => ?_) (fun b132 => ?_)
    · refine jr_iconst C (v := -1) dX11_count_142 (by decide) ?_
      exact ret _ _ _ _ dX11_count_143 rfl (by unfold m_count; (repeat' split) <;> first | (exfalso; omega) | rfl)
    · refine jr_aload_n C dX11_count_135 rfl ?_
      refine jr_getv C kf_X11_365_0 dX11_count_136 (v := σ.1 0 48) rfl ?_
      refine jr_goto C 143 dX11_count_139 (by decide) ?_
      exact ret _ _ _ _ dX11_count_143 rfl (by unfold m_count; (repeat' split) <;> first | (exfalso; omega) | rfl)
  · refine jr_tabOut C 144 dX11_count_6 (Or.inr w6) (by decide) ?_
    refine jr_iconst C (v := -1) dX11_count_144 (by decide) ?_
    exact ret _ _ _ _ dX11_count_145 rfl (by unfold m_count; (repeat' split) <;> first | (exfalso; omega) | rfl)
set_option maxHeartbeats 1000000 in
theorem ct_X11_queue (E : jf_E) (σ : jf_S) (s m w : Int32) (hI : mI_s σ) : jf_I jh_M E yX11_queue cX11_queue 12 .int 2 [jf_r E 0, .int s, .int m, .int w] σ (fun r τ => (¬ (0 ≤ s.toInt ∧ s.toInt < ((σ.1 0 17)).toInt ∧ ¬ (σ.1 14) s.toNatClampNeg = 0) → r = -1) ∧ mS_q σ τ) := by
  refine jf_mkI (by decide) (Nat.le_of_ble_eq_true rfl) ?_
  intro G C ret
  have hE := hI.1
  have loop : ∀ (n : Nat) (τ : jf_S) (a c5 c6 c7 k : Int32), mS_q σ τ → (0 ≤ s.toInt ∧ s.toInt < ((σ.1 0 17)).toInt ∧ ¬ (σ.1 14) s.toNatClampNeg = 0) → m.toInt ≤ 400 → -40 ≤ k.toInt → k.toInt ≤ 401 → 401 - k.toInt < n → jf_X jh_M E G 12 73 [(0, jf_r E 0), (1, .int s), (2, .int m), (3, .int w), (4, .int a), (5, .int c5), (6, .int c6), (7, .int c7), (8, .int k)] [] τ := by
    intro n
    induction n with
    | zero => intro τ a c5 c6 c7 k g0 g1 g2 g3 g4 g5; exfalso; omega
    | succ n ih =>
      intro τ a c5 c6 c7 k g0 g1 g2 g3 g4 g5
      have hT := mS_true_I g0 hI
      have ek := ji_inc (k := k) (by omega)
      refine jr_iload C dX11_queue_73 rfl ?_
      refine jr_iload_n C dX11_queue_75 rfl ?_
      refine jr_ncmp_gt C 216 dX11_queue_76 (by decide) rfl rfl (fun b76 => ?_) (fun b76 => ?_)
      · refine jr_iload_n C dX11_queue_216 rfl ?_
        refine jr_nif_ne C 225 dX11_queue_217 (by decide) (fun b217 => ?_) (fun b217 => ?_)
        · refine jr_iload_n C dX11_queue_225 rfl ?_
          refine jr_iconst C (v := 1) dX11_queue_226 (by decide) ?_
          refine jr_ncmp_ne C (b := 1) 235 dX11_queue_227 (by decide) rfl rfl (fun b227 => ?_) (fun b227 => ?_)
          · refine jr_iload C dX11_queue_235 rfl ?_
            exact ret _ _ _ _ dX11_queue_237 rfl (⟨fun q => absurd g1 q, g0⟩)
          · refine jr_iload C dX11_queue_230 rfl ?_
            refine jr_goto C 237 dX11_queue_232 (by decide) ?_
            exact ret _ _ _ _ dX11_queue_237 rfl (⟨fun q => absurd g1 q, g0⟩)
        · refine jr_iload C dX11_queue_220 rfl ?_
          refine jr_goto C 237 dX11_queue_222 (by decide) ?_
          exact ret _ _ _ _ dX11_queue_237 rfl (⟨fun q => absurd g1 q, g0⟩)
      have J210 : ∀ (c5 c6 c7 : Int32), jf_X jh_M E G 12 210 [(0, jf_r E 0), (1, .int s), (2, .int m), (3, .int w), (4, .int a), (5, .int c5), (6, .int c6), (7, .int c7), (8, .int k)] [] τ := by
        intro c5 c6 c7
        refine jr_iinc C _ dX11_queue_210 rfl rfl (by decide) ?_
        refine jr_goto C 73 dX11_queue_213 (by decide) ?_
        exact jr_sub [(0, jf_r E 0), (1, .int s), (2, .int m), (3, .int w), (4, .int a), (5, .int c5), (6, .int c6), (7, .int c7), (8, .int _)] rfl (ih _ _ _ _ _ _ g0 g1 g2 (by omega) (by omega) (by omega))
      have J105 : ∀ (v : Int32), jf_X jh_M E G 12 105 [(0, jf_r E 0), (1, .int s), (2, .int m), (3, .int w), (4, .int a), (5, .int c5), (6, .int c6), (7, .int c7), (8, .int k)] [.int v] τ := by
        intro v
        refine jr_istore C dX11_queue_105 (by decide) ?_
        refine jr_iload C dX11_queue_107 rfl ?_
        refine jr_iload C dX11_queue_109 rfl ?_
        refine jr_iadd C dX11_queue_111 ?_
        refine jr_istore C dX11_queue_112 (by decide) ?_
        refine jr_iload C dX11_queue_114 rfl ?_
        refine jr_iload C dX11_queue_116 rfl ?_
        refine jr_iadd C dX11_queue_118 ?_
        refine jr_istore C dX11_queue_119 (by decide) ?_
        refine jr_iload C dX11_queue_121 rfl ?_
        refine jr_i2l C dX11_queue_123 ?_
        refine jr_iload C dX11_queue_124 rfl ?_
        refine jr_i2l C dX11_queue_126 ?_
        refine jr_ldc2 C kc_X11_255 dX11_queue_127 ?_
        refine jr_lsub C dX11_queue_130 ?_
        refine jr_iload C dX11_queue_131 rfl ?_
        refine jr_i2l C dX11_queue_133 ?_
        refine jr_ldc2 C kc_X11_249 dX11_queue_134 ?_
        refine jr_ladd C dX11_queue_137 ?_
        refine jr_sip C [.long _, .long _, .long _] _ (ct_X11_in E _ _ _ _) ky_X11_in ks_X11_in km_X11_153 (by decide) rfl (Nat.le_of_ble_eq_true rfl) dX11_queue_138 ?_
        refine jr_if_eq C 210 dX11_queue_141 (by decide) (fun b141 => ?_) (fun b141 => ?_)
        · replace b141 := jb_f b141
          exact jr_sub [(0, jf_r E 0), (1, .int s), (2, .int m), (3, .int w), (4, .int a), (5, .int _), (6, .int _), (7, .int _), (8, .int k)] rfl (J210 _ _ _)
        · replace b141 := jb_t b141
          refine jr_iload C dX11_queue_144 rfl ?_
          refine jr_aload_n C dX11_queue_146 rfl ?_
          refine jr_getv C kf_X11_77_0 dX11_queue_147 (v := τ.1 0 28) rfl ?_
          refine jr_ncmp_ge C 158 dX11_queue_150 (by decide) rfl rfl (fun b150 => ?_) (fun b150 => ?_)
          · refine jr_aload_n C dX11_queue_158 rfl ?_
            refine jr_getv C kf_X11_77_0 dX11_queue_159 (v := τ.1 0 28) rfl ?_
            refine jr_istore C dX11_queue_162 (by decide) ?_
            refine jr_aload_n C dX11_queue_164 rfl ?_
            refine jr_getr C kf_X11_13_0 dX11_queue_165 ?_
            refine jr_aload_n C dX11_queue_168 rfl ?_
            refine jr_getr C kf_X11_56_0 dX11_queue_169 ?_
            refine jr_iload_n C dX11_queue_172 rfl ?_
            refine jr_ialv C ka_M_16 dX11_queue_173 (ji_in (i := s) (by omega) (by omega)) (v := τ.1 16 _) rfl ?_
            refine jr_ialv C ka_M_2 dX11_queue_174 (mI_hall hT _ (by decide)) (v := τ.1 2 _) rfl ?_
            refine jr_iload C dX11_queue_175 rfl ?_
            refine jr_isub C dX11_queue_177 ?_
            refine jr_istore C dX11_queue_178 (by decide) ?_
            refine jr_iload C dX11_queue_180 rfl ?_
            refine jr_iload C dX11_queue_182 rfl ?_
            refine jr_ncmp_ge C 192 dX11_queue_184 (by decide) rfl rfl (fun b184 => ?_) (fun b184 => ?_)
            · refine jr_iload C dX11_queue_192 rfl ?_
              refine jr_istore C dX11_queue_194 (by decide) ?_
              refine jr_iload C dX11_queue_196 rfl ?_
              refine jr_iload C dX11_queue_198 rfl ?_
              refine jr_iadd C dX11_queue_200 ?_
              refine jr_istore C dX11_queue_201 (by decide) ?_
              refine jr_iload C dX11_queue_203 rfl ?_
              refine jr_iload C dX11_queue_205 rfl ?_
              refine jr_isub C dX11_queue_207 ?_
              refine jr_istore C dX11_queue_208 (by decide) ?_
              exact jr_sub [(0, jf_r E 0), (1, .int s), (2, .int m), (3, .int w), (4, .int a), (5, .int _), (6, .int _), (7, .int _), (8, .int k)] rfl (J210 _ _ _)
            · refine jr_iload C dX11_queue_187 rfl ?_
              refine jr_goto C 194 dX11_queue_189 (by decide) ?_
              refine jr_istore C dX11_queue_194 (by decide) ?_
              refine jr_iload C dX11_queue_196 rfl ?_
              refine jr_iload C dX11_queue_198 rfl ?_
              refine jr_iadd C dX11_queue_200 ?_
              refine jr_istore C dX11_queue_201 (by decide) ?_
              refine jr_iload C dX11_queue_203 rfl ?_
              refine jr_iload C dX11_queue_205 rfl ?_
              refine jr_isub C dX11_queue_207 ?_
              refine jr_istore C dX11_queue_208 (by decide) ?_
              exact jr_sub [(0, jf_r E 0), (1, .int s), (2, .int m), (3, .int w), (4, .int a), (5, .int _), (6, .int _), (7, .int _), (8, .int k)] rfl (J210 _ _ _)
          · refine jr_iload C dX11_queue_153 rfl ?_
            refine jr_goto C 162 dX11_queue_155 (by decide) ?_
            refine jr_istore C dX11_queue_162 (by decide) ?_
            refine jr_aload_n C dX11_queue_164 rfl ?_
            refine jr_getr C kf_X11_13_0 dX11_queue_165 ?_
            refine jr_aload_n C dX11_queue_168 rfl ?_
            refine jr_getr C kf_X11_56_0 dX11_queue_169 ?_
            refine jr_iload_n C dX11_queue_172 rfl ?_
            refine jr_ialv C ka_M_16 dX11_queue_173 (ji_in (i := s) (by omega) (by omega)) (v := τ.1 16 _) rfl ?_
            refine jr_ialv C ka_M_2 dX11_queue_174 (mI_hall hT _ (by decide)) (v := τ.1 2 _) rfl ?_
            refine jr_iload C dX11_queue_175 rfl ?_
            refine jr_isub C dX11_queue_177 ?_
            refine jr_istore C dX11_queue_178 (by decide) ?_
            refine jr_iload C dX11_queue_180 rfl ?_
            refine jr_iload C dX11_queue_182 rfl ?_
            refine jr_ncmp_ge C 192 dX11_queue_184 (by decide) rfl rfl (fun b184 => ?_) (fun b184 => ?_)
            · refine jr_iload C dX11_queue_192 rfl ?_
              refine jr_istore C dX11_queue_194 (by decide) ?_
              refine jr_iload C dX11_queue_196 rfl ?_
              refine jr_iload C dX11_queue_198 rfl ?_
              refine jr_iadd C dX11_queue_200 ?_
              refine jr_istore C dX11_queue_201 (by decide) ?_
              refine jr_iload C dX11_queue_203 rfl ?_
              refine jr_iload C dX11_queue_205 rfl ?_
              refine jr_isub C dX11_queue_207 ?_
              refine jr_istore C dX11_queue_208 (by decide) ?_
              exact jr_sub [(0, jf_r E 0), (1, .int s), (2, .int m), (3, .int w), (4, .int a), (5, .int _), (6, .int _), (7, .int _), (8, .int k)] rfl (J210 _ _ _)
            · refine jr_iload C dX11_queue_187 rfl ?_
              refine jr_goto C 194 dX11_queue_189 (by decide) ?_
              refine jr_istore C dX11_queue_194 (by decide) ?_
              refine jr_iload C dX11_queue_196 rfl ?_
              refine jr_iload C dX11_queue_198 rfl ?_
              refine jr_iadd C dX11_queue_200 ?_
              refine jr_istore C dX11_queue_201 (by decide) ?_
              refine jr_iload C dX11_queue_203 rfl ?_
              refine jr_iload C dX11_queue_205 rfl ?_
              refine jr_isub C dX11_queue_207 ?_
              refine jr_istore C dX11_queue_208 (by decide) ?_
              exact jr_sub [(0, jf_r E 0), (1, .int s), (2, .int m), (3, .int w), (4, .int a), (5, .int _), (6, .int _), (7, .int _), (8, .int k)] rfl (J210 _ _ _)
      refine jr_iload C dX11_queue_79 rfl ?_
      refine jr_bipush C (v := 10) dX11_queue_81 (by decide) ?_
      refine jr_ncmp_gt C (b := 10) 104 dX11_queue_83 (by decide) rfl rfl (fun b83 => ?_) (fun b83 => ?_)
      · refine jr_iconst C (v := 0) dX11_queue_104 (by decide) ?_
        exact J105 _
      · refine jr_aload_n C dX11_queue_86 rfl ?_
        refine jr_getr C kf_X11_68_0 dX11_queue_87 ?_
        refine jr_bipush C (v := 51) dX11_queue_90 (by decide) ?_
        refine jr_iload_n C dX11_queue_92 rfl ?_
        refine jr_imul C dX11_queue_93 ?_
        refine jr_iload C dX11_queue_94 rfl ?_
        refine jr_iadd C dX11_queue_96 ?_
        refine jr_bipush C (v := 40) dX11_queue_97 (by decide) ?_
        refine jr_iadd C dX11_queue_99 ?_
        refine jr_ialv C ka_M_20 dX11_queue_100 (ji_lin3 51 40 rfl rfl (by omega) (by omega) (by omega)) (v := τ.1 20 _) rfl ?_
        refine jr_goto C 105 dX11_queue_101 (by decide) ?_
        exact J105 _
  refine jr_aload_n C dX11_queue_0 rfl ?_
  refine jr_iconst C (v := 0) dX11_queue_1 (by decide) ?_
  refine jr_puti C kp_X11_144_0 dX11_queue_2 ?_
  refine jr_aload_n C dX11_queue_5 rfl ?_
  refine jr_iload_n C dX11_queue_6 rfl ?_
  refine jr_vip C [.int _] _ (ct_X11_isShowing E _ _ (σ.1 0 17) (σ.1 14) rfl rfl (by omega)) ky_X11_isShowing kv_X11_isShowing kk_M_0 km_X11_204 (by decide) rfl (Nat.le_of_ble_eq_true rfl) dX11_queue_7 ?_
  refine jr_if_eq C 39 dX11_queue_10 (by decide) (fun b10 => ?_) (fun b10 => ?_)
  · replace b10 := jb_f b10
    refine jr_iconst C (v := -1) dX11_queue_39 (by decide) ?_
    exact ret _ _ _ _ dX11_queue_40 rfl (⟨fun _ => rfl, mS_q_r σ⟩)
  · replace b10 := jb_t b10
    refine jr_iload_n C dX11_queue_13 rfl ?_
    refine jr_i2l C dX11_queue_14 ?_
    refine jr_ldc2 C kc_X11_247 dX11_queue_15 ?_
    refine jr_ldc2 C kc_X11_253 dX11_queue_18 ?_
    refine jr_sip C [.long _, .long _, .long _] _ (ct_X11_inw E _ _ _ _ (-40) 400 rfl rfl) ky_X11_in ks_X11_in km_X11_153 (by decide) rfl (Nat.le_of_ble_eq_true rfl) dX11_queue_21 ?_
    refine jr_if_eq C 39 dX11_queue_24 (by decide) (fun b24 => ?_) (fun b24 => ?_)
    · replace b24 := jb_f b24
      refine jr_iconst C (v := -1) dX11_queue_39 (by decide) ?_
      exact ret _ _ _ _ dX11_queue_40 rfl (⟨fun _ => rfl, mS_q_r σ⟩)
    · replace b24 := jb_t b24
      refine jr_iload_n C dX11_queue_27 rfl ?_
      refine jr_i2l C dX11_queue_28 ?_
      refine jr_lconst C (v := 0) dX11_queue_29 (by decide) ?_
      refine jr_ldc2 C kc_X11_195 dX11_queue_30 ?_
      refine jr_sip C [.long _, .long _, .long _] _ (ct_X11_inw E _ _ _ _ 0 2 rfl rfl) ky_X11_in ks_X11_in km_X11_153 (by decide) rfl (Nat.le_of_ble_eq_true rfl) dX11_queue_33 ?_
      refine jr_if_ne C 41 dX11_queue_36 (by decide) (fun b36 => ?_) (fun b36 => ?_)
      · replace b36 := jb_t b36
        refine jr_aload_n C dX11_queue_41 rfl ?_
        refine jr_vv C [] _ (ct_X11_findTrue E _ hI) ky_X11_findTrue kv_X11_findTrue kk_M_0 km_X11_220 (by decide) rfl (Nat.le_of_ble_eq_true rfl) dX11_queue_42 (fun τ42 h42 => ?_)
        refine jr_aload_n C dX11_queue_45 rfl ?_
        refine jr_getr C kf_X11_81_0 dX11_queue_46 ?_
        refine jr_iload_n C dX11_queue_49 rfl ?_
        refine jr_iald C ka_M_23 dX11_queue_50 (ji_in (i := s) (by omega) (by omega)) ?_
        refine jr_aload_n C dX11_queue_51 rfl ?_
        refine jr_getr C kf_X11_59_0 dX11_queue_52 ?_
        refine jr_iload_n C dX11_queue_55 rfl ?_
        refine jr_iald C ka_M_17 dX11_queue_56 (ji_in (i := s) (by omega) (by omega)) ?_
        refine jr_isub C dX11_queue_57 ?_
        refine jr_istore C dX11_queue_58 (by decide) ?_
        refine jr_iconst C (v := 0) dX11_queue_60 (by decide) ?_
        refine jr_istore C dX11_queue_61 (by decide) ?_
        refine jr_iconst C (v := 0) dX11_queue_63 (by decide) ?_
        refine jr_istore C dX11_queue_64 (by decide) ?_
        refine jr_iconst C (v := 0) dX11_queue_66 (by decide) ?_
        refine jr_istore C dX11_queue_67 (by decide) ?_
        refine jr_bipush C (v := -40) dX11_queue_69 (by decide) ?_
        refine jr_istore C dX11_queue_71 (by decide) ?_
        exact jr_sub [(0, jf_r E 0), (1, .int s), (2, .int m), (3, .int w), (4, .int _), (5, .int 0), (6, .int 0), (7, .int 0), (8, .int (-40))] rfl (loop 442 _ _ 0 0 0 (-40) h42 b10 (by omega) (by decide) (by decide) (by decide))
      · replace b36 := jb_f b36
        refine jr_iconst C (v := -1) dX11_queue_39 (by decide) ?_
        exact ret _ _ _ _ dX11_queue_40 rfl (⟨fun _ => rfl, mS_q_r σ⟩)

