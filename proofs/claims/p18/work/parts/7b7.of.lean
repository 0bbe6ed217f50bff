/-! of, exactly -/
section
variable {V : Nat → Nat → Int32} {n : Nat} {T : Nat → Int32} {s : Nat} {w : Int32}
theorem g_of_0 (h : w.toInt = 0) : g_of V n T s w = V 15 s := if_pos h
theorem g_of_1 (h : w.toInt = 1) : g_of V n T s w = V 16 s := (if_neg (by omega)).trans (if_pos h)
theorem g_of_2 (h : w.toInt = 2) : g_of V n T s w = V 17 s := (if_neg (by omega)).trans ((if_neg (by omega)).trans (if_pos h))
theorem g_of_3 (h : w.toInt = 3) : g_of V n T s w = V 18 s := (if_neg (by omega)).trans ((if_neg (by omega)).trans ((if_neg (by omega)).trans (if_pos h)))
theorem g_of_4 (h : w.toInt = 4) : g_of V n T s w = g_end V s := (if_neg (by omega)).trans ((if_neg (by omega)).trans ((if_neg (by omega)).trans ((if_neg (by omega)).trans (if_pos h))))
theorem g_of_5 (h : w.toInt = 5) : g_of V n T s w = g_crowd V n s := (if_neg (by omega)).trans ((if_neg (by omega)).trans ((if_neg (by omega)).trans ((if_neg (by omega)).trans ((if_neg (by omega)).trans (if_pos h)))))
theorem g_of_6 (h : w.toInt = 6) : g_of V n T s w = g_worth V n s := (if_neg (by omega)).trans ((if_neg (by omega)).trans ((if_neg (by omega)).trans ((if_neg (by omega)).trans ((if_neg (by omega)).trans ((if_neg (by omega)).trans (if_pos h))))))
theorem g_of_7 (h : w.toInt = 7) : g_of V n T s w = T s := (if_neg (by omega)).trans ((if_neg (by omega)).trans ((if_neg (by omega)).trans ((if_neg (by omega)).trans ((if_neg (by omega)).trans ((if_neg (by omega)).trans ((if_neg (by omega)).trans (if_pos h)))))))
theorem g_of_8 (h : w.toInt = 8) : g_of V n T s w = g_te V T s := (if_neg (by omega)).trans ((if_neg (by omega)).trans ((if_neg (by omega)).trans ((if_neg (by omega)).trans ((if_neg (by omega)).trans ((if_neg (by omega)).trans ((if_neg (by omega)).trans ((if_neg (by omega)).trans (if_pos h))))))))
theorem g_of_x (h : w.toInt < 0 ∨ 8 < w.toInt) : g_of V n T s w = -1 := (if_neg (by omega)).trans ((if_neg (by omega)).trans ((if_neg (by omega)).trans ((if_neg (by omega)).trans ((if_neg (by omega)).trans ((if_neg (by omega)).trans ((if_neg (by omega)).trans ((if_neg (by omega)).trans (if_neg (by omega)))))))))
end
theorem ct_X10_of2 (E : jf_E) (σ : jf_S) (s w : Int32) (hI : xI σ) (hN : xN σ) (hO : xO σ) (hB1 : gB (x_G σ) (x_N σ) 16) (hB2 : gB (x_G σ) (x_N σ) 15) : jf_I jh_X E yX10_of cX10_of 3 .int 4 [jf_r E 0, .int s, .int w] σ (fun r τ => g_ofq (x_G σ) (x_N σ) s w r ∧ xS_l σ τ ∧ xO τ) := by
  refine jf_mkI (by decide) (Nat.le_of_ble_eq_true rfl) ?_
  intro G C ret
  have hE := hI.1
  have te := ji_tn hE.1
  have eN : (x_N σ : Int) = ((σ.1 3 8)).toInt := te
  have fin : ∀ (T : Nat → Int32) (r : Int32), (0 ≤ s.toInt ∧ s.toInt < ((σ.1 3 8)).toInt ∧ ¬ (σ.1 31) s.toNatClampNeg = 0) → (w.toInt = 7 ∨ w.toInt = 8 → g_tr (x_G σ) (x_N σ) T) → r = g_of (x_G σ) (x_N σ) T s.toNatClampNeg w → g_ofq (x_G σ) (x_N σ) s w r := fun T r c t e => Or.inr ⟨⟨c.1, by omega, fun q => c.2.2 (Int32.toInt_inj.mp q)⟩, T, t, e⟩
  refine jr_aload_n C dX10_of_0 rfl ?_
  refine jr_getr C kf_X10_26_0 dX10_of_1 ?_
  refine jr_iload_n C dX10_of_4 rfl ?_
  refine jr_vip C [.int _] _ (ct_X8_has E _ _ (σ.1 3 8) (σ.1 31) rfl rfl (by omega)) ky_X8_has kv_X8_has kk_X_3 km_X10_135 (by decide) rfl (Nat.le_of_ble_eq_true rfl) dX10_of_5 ?_
  refine jr_if_ne C 13 dX10_of_8 (by decide) (fun b8 => ?_) (fun b8 => ?_)
  · replace b8 := jb_t b8
    refine jr_iload_n C dX10_of_13 rfl ?_
    have w14 : w.toInt < 0 ∨ w.toInt = 0 ∨ w.toInt = 1 ∨ w.toInt = 2 ∨ w.toInt = 3 ∨ w.toInt = 4 ∨ w.toInt = 5 ∨ w.toInt = 6 ∨ w.toInt = 7 ∨ w.toInt = 8 ∨ 8 < w.toInt := by omega
    rcases w14 with w14 | w14 | w14 | w14 | w14 | w14 | w14 | w14 | w14 | w14 | w14
    · refine jr_tabOut C 166 dX10_of_14 (Or.inl w14) (by decide) ?_
      refine jr_iconst C (v := -1) dX10_of_166 (by decide) ?_
      exact ret _ _ _ _ dX10_of_167 rfl (⟨fin (fun _ => 0) _ b8 (fun q => absurd q (by omega)) (g_of_x (V := x_G σ) (s := s.toNatClampNeg) (by omega)).symm, xS_l_r σ, hO⟩)
    · refine jr_tabIn C 64 dX10_of_14 (by omega) (by omega) (by rw [w14]; rfl) (by decide) ?_
      refine jr_aload_n C dX10_of_64 rfl ?_
      refine jr_getr C kf_X10_26_0 dX10_of_65 ?_
      refine jr_getr C kf_X10_140_3 dX10_of_68 ?_
      refine jr_iload_n C dX10_of_71 rfl ?_
      refine jr_ialv C ka_X_25 dX10_of_72 (ji_in (i := s) (by omega) (by omega)) (v := σ.1 25 _) rfl ?_
      exact ret _ _ _ _ dX10_of_73 rfl (⟨fin (fun _ => 0) _ b8 (fun q => absurd q (by omega)) (g_of_0 (V := x_G σ) (s := s.toNatClampNeg) w14).symm, xS_l_r σ, hO⟩)
    · refine jr_tabIn C 74 dX10_of_14 (by omega) (by omega) (by rw [w14]; rfl) (by decide) ?_
      refine jr_aload_n C dX10_of_74 rfl ?_
      refine jr_getr C kf_X10_26_0 dX10_of_75 ?_
      refine jr_getr C kf_X10_143_3 dX10_of_78 ?_
      refine jr_iload_n C dX10_of_81 rfl ?_
      refine jr_ialv C ka_X_26 dX10_of_82 (ji_in (i := s) (by omega) (by omega)) (v := σ.1 26 _) rfl ?_
      exact ret _ _ _ _ dX10_of_83 rfl (⟨fin (fun _ => 0) _ b8 (fun q => absurd q (by omega)) (g_of_1 (V := x_G σ) (s := s.toNatClampNeg) w14).symm, xS_l_r σ, hO⟩)
    · refine jr_tabIn C 84 dX10_of_14 (by omega) (by omega) (by rw [w14]; rfl) (by decide) ?_
      refine jr_aload_n C dX10_of_84 rfl ?_
      refine jr_getr C kf_X10_26_0 dX10_of_85 ?_
      refine jr_getr C kf_X10_146_3 dX10_of_88 ?_
      refine jr_iload_n C dX10_of_91 rfl ?_
      refine jr_ialv C ka_X_27 dX10_of_92 (ji_in (i := s) (by omega) (by omega)) (v := σ.1 27 _) rfl ?_
      exact ret _ _ _ _ dX10_of_93 rfl (⟨fin (fun _ => 0) _ b8 (fun q => absurd q (by omega)) (g_of_2 (V := x_G σ) (s := s.toNatClampNeg) w14).symm, xS_l_r σ, hO⟩)
    · refine jr_tabIn C 94 dX10_of_14 (by omega) (by omega) (by rw [w14]; rfl) (by decide) ?_
      refine jr_aload_n C dX10_of_94 rfl ?_
      refine jr_getr C kf_X10_26_0 dX10_of_95 ?_
      refine jr_getr C kf_X10_149_3 dX10_of_98 ?_
      refine jr_iload_n C dX10_of_101 rfl ?_
      refine jr_ialv C ka_X_29 dX10_of_102 (ji_in (i := s) (by omega) (by omega)) (v := σ.1 29 _) rfl ?_
      exact ret _ _ _ _ dX10_of_103 rfl (⟨fin (fun _ => 0) _ b8 (fun q => absurd q (by omega)) (g_of_3 (V := x_G σ) (s := s.toNatClampNeg) w14).symm, xS_l_r σ, hO⟩)
    · refine jr_tabIn C 104 dX10_of_14 (by omega) (by omega) (by rw [w14]; rfl) (by decide) ?_
      refine jr_aload_n C dX10_of_104 rfl ?_
      refine jr_getr C kf_X10_26_0 dX10_of_105 ?_
      refine jr_getr C kf_X10_152_3 dX10_of_108 ?_
      refine jr_iload_n C dX10_of_111 rfl ?_
      refine jr_ialv C ka_X_28 dX10_of_112 (ji_in (i := s) (by omega) (by omega)) (v := σ.1 28 _) rfl ?_
      exact ret _ _ _ _ dX10_of_113 rfl (⟨fin (fun _ => 0) _ b8 (fun q => absurd q (by omega)) ((hN _ (by have := ji_tn b8.1; omega)).trans (g_of_4 (V := x_G σ) (s := s.toNatClampNeg) w14).symm), xS_l_r σ, hO⟩)
    · refine jr_tabIn C 114 dX10_of_14 (by omega) (by omega) (by rw [w14]; rfl) (by decide) ?_
      refine jr_aload_n C dX10_of_114 rfl ?_
      refine jr_getr C kf_X10_44_0 dX10_of_115 ?_
      refine jr_iload_n C dX10_of_118 rfl ?_
      refine jr_vi C [.int _] _ (ct_X9_crowdOf2 E _ _ hI hN ⟨by omega, by omega⟩) ky_X9_crowdOf kv_X9_crowdOf kk_X_5 km_X10_155 (by decide) rfl (Nat.le_of_ble_eq_true rfl) dX10_of_119 (fun r119 τ119 h119 => ?_)
      obtain ⟨q119, rfl⟩ := h119
      exact ret _ _ _ _ dX10_of_122 rfl (⟨fin (fun _ => 0) _ b8 (fun q => absurd q (by omega)) (q119.trans (g_of_5 (V := x_G σ) (s := s.toNatClampNeg) w14).symm), xS_l_r σ, hO⟩)
    · refine jr_tabIn C 123 dX10_of_14 (by omega) (by omega) (by rw [w14]; rfl) (by decide) ?_
      refine jr_aload_n C dX10_of_123 rfl ?_
      refine jr_getr C kf_X10_44_0 dX10_of_124 ?_
      refine jr_iload_n C dX10_of_127 rfl ?_
      refine jr_vi C [.int _] _ (ct_X9_worthOf2 E _ _ hI hN ⟨by omega, by omega⟩) ky_X9_worthOf kv_X9_worthOf kk_X_5 km_X10_158 (by decide) rfl (Nat.le_of_ble_eq_true rfl) dX10_of_128 (fun r128 τ128 h128 => ?_)
      obtain ⟨q128, rfl⟩ := h128
      exact ret _ _ _ _ dX10_of_131 rfl (⟨fin (fun _ => 0) _ b8 (fun q => absurd q (by omega)) (q128.trans (g_of_6 (V := x_G σ) (s := s.toNatClampNeg) w14).symm), xS_l_r σ, hO⟩)
    · refine jr_tabIn C 132 dX10_of_14 (by omega) (by omega) (by rw [w14]; rfl) (by decide) ?_
      refine jr_aload_n C dX10_of_132 rfl ?_
      refine jr_getr C kf_X10_51_0 dX10_of_133 ?_
      refine jr_vv C [] _ (ct_X5_reckon2 E _ hI hO hB1 hB2) ky_X5_reckon kv_X5_reckon kk_X_6 km_X10_161 (by decide) rfl (Nat.le_of_ble_eq_true rfl) dX10_of_136 (fun τ136 h136 => ?_)
      refine jr_aload_n C dX10_of_139 rfl ?_
      refine jr_getr C kf_X10_51_0 dX10_of_140 ?_
      refine jr_getr C kf_X10_164_6 dX10_of_143 ?_
      refine jr_iload_n C dX10_of_146 rfl ?_
      refine jr_iald C ka_X_38 dX10_of_147 (ji_in (i := s) (by omega) (by omega)) ?_
      exact ret _ _ _ _ dX10_of_148 rfl (⟨fin ((τ136.1 38)) _ b8 (fun _ => h136.2.2.1) (g_of_7 (V := x_G σ) (s := s.toNatClampNeg) w14).symm, h136.1, h136.2.1⟩)
    · refine jr_tabIn C 149 dX10_of_14 (by omega) (by omega) (by rw [w14]; rfl) (by decide) ?_
      refine jr_aload_n C dX10_of_149 rfl ?_
      refine jr_getr C kf_X10_51_0 dX10_of_150 ?_
      refine jr_vv C [] _ (ct_X5_reckon2 E _ hI hO hB1 hB2) ky_X5_reckon kv_X5_reckon kk_X_6 km_X10_161 (by decide) rfl (Nat.le_of_ble_eq_true rfl) dX10_of_153 (fun τ153 h153 => ?_)
      refine jr_aload_n C dX10_of_156 rfl ?_
      refine jr_getr C kf_X10_51_0 dX10_of_157 ?_
      refine jr_getr C kf_X10_167_6 dX10_of_160 ?_
      refine jr_iload_n C dX10_of_163 rfl ?_
      refine jr_iald C ka_X_39 dX10_of_164 (ji_in (i := s) (by omega) (by omega)) ?_
      exact ret _ _ _ _ dX10_of_165 rfl (⟨fin ((τ153.1 38)) _ b8 (fun _ => h153.2.2.1) ((h153.2.2.2 _ (by have := ji_tn b8.1; omega) (fun z => b8.2.2 (Int32.toInt_inj.mp z))).trans (g_of_8 (V := x_G σ) (s := s.toNatClampNeg) w14).symm), h153.1, h153.2.1⟩)
    · refine jr_tabOut C 166 dX10_of_14 (Or.inr w14) (by decide) ?_
      refine jr_iconst C (v := -1) dX10_of_166 (by decide) ?_
      exact ret _ _ _ _ dX10_of_167 rfl (⟨fin (fun _ => 0) _ b8 (fun q => absurd q (by omega)) (g_of_x (V := x_G σ) (s := s.toNatClampNeg) (by omega)).symm, xS_l_r σ, hO⟩)
  · replace b8 := jb_f b8
    refine jr_iconst C (v := -1) dX10_of_11 (by decide) ?_
    exact ret _ _ _ _ dX10_of_12 rfl (⟨Or.inl ⟨fun q => b8 ⟨q.1, by omega, fun z => q.2.2 (by show ((σ.1 31) s.toNatClampNeg).toInt = 0; rw [z]; rfl)⟩, rfl⟩, xS_l_r σ, hO⟩)
theorem m_te_d {σ τ : jf_S} (h : mS_true σ τ) {j : Nat} : (τ.1 23) j + (τ.1 5) ((τ.1 15) j).toNatClampNeg + (τ.1 19) j = g_te (m_G σ) ((τ.1 23)) j := by
  rw [← mS_true_G h]; rfl
theorem ct_X11_of2 (E : jf_E) (σ : jf_S) (s w : Int32) (hI : mI_s σ) : jf_I jh_M E yX11_of cX11_of 3 .int 3 [jf_r E 0, .int s, .int w] σ (fun r τ => g_ofq (m_G σ) (m_E σ) s w r ∧ mS_q σ τ) := by
  refine jf_mkI (by decide) (Nat.le_of_ble_eq_true rfl) ?_
  intro G C ret
  have hE := hI.1
  have te := ji_tn hE.1
  have eN : (m_E σ : Int) = ((σ.1 0 17)).toInt := te
  have mt : m_G (jf_i σ 0 0 0) = m_G σ := m_G_c
  have fin : ∀ (T : Nat → Int32) (r : Int32), (0 ≤ s.toInt ∧ s.toInt < ((σ.1 0 17)).toInt ∧ ¬ (σ.1 14) s.toNatClampNeg = 0) → (w.toInt = 7 ∨ w.toInt = 8 → g_tr (m_G σ) (m_E σ) T) → r = g_of (m_G σ) (m_E σ) T s.toNatClampNeg w → g_ofq (m_G σ) (m_E σ) s w r := fun T r c t e => Or.inr ⟨⟨c.1, by omega, fun q => c.2.2 (Int32.toInt_inj.mp q)⟩, T, t, e⟩
  refine jr_aload_n C dX11_of_0 rfl ?_
  refine jr_iconst C (v := 0) dX11_of_1 (by decide) ?_
  refine jr_puti C kp_X11_144_0 dX11_of_2 ?_
  refine jr_aload_n C dX11_of_5 rfl ?_
  refine jr_iload_n C dX11_of_6 rfl ?_
  refine jr_vip C [.int _] _ (ct_X11_isShowing E _ _ (σ.1 0 17) (σ.1 14) rfl rfl (by omega)) ky_X11_isShowing kv_X11_isShowing kk_M_0 km_X11_204 (by decide) rfl (Nat.le_of_ble_eq_true rfl) dX11_of_7 ?_
  refine jr_if_ne C 15 dX11_of_10 (by decide) (fun b10 => ?_) (fun b10 => ?_)
  · replace b10 := jb_t b10
    refine jr_iload_n C dX11_of_15 rfl ?_
    have w16 : w.toInt < 0 ∨ w.toInt = 0 ∨ w.toInt = 1 ∨ w.toInt = 2 ∨ w.toInt = 3 ∨ w.toInt = 4 ∨ w.toInt = 5 ∨ w.toInt = 6 ∨ w.toInt = 7 ∨ w.toInt = 8 ∨ 8 < w.toInt := by omega
    rcases w16 with w16 | w16 | w16 | w16 | w16 | w16 | w16 | w16 | w16 | w16 | w16
    · refine jr_tabOut C 135 dX11_of_16 (Or.inl w16) (by decide) ?_
      refine jr_iconst C (v := -1) dX11_of_135 (by decide) ?_
      exact ret _ _ _ _ dX11_of_136 rfl (⟨fin (fun _ => 0) _ b10 (fun q => absurd q (by omega)) (g_of_x (V := m_G σ) (s := s.toNatClampNeg) (by omega)).symm, mS_q_r σ⟩)
    · refine jr_tabIn C 68 dX11_of_16 (by omega) (by omega) (by rw [w16]; rfl) (by decide) ?_
      refine jr_aload_n C dX11_of_68 rfl ?_
      refine jr_getr C kf_X11_53_0 dX11_of_69 ?_
      refine jr_iload_n C dX11_of_72 rfl ?_
      refine jr_ialv C ka_M_15 dX11_of_73 (ji_in (i := s) (by omega) (by omega)) (v := σ.1 15 _) rfl ?_
      exact ret _ _ _ _ dX11_of_74 rfl (⟨fin (fun _ => 0) _ b10 (fun q => absurd q (by omega)) (g_of_0 (V := m_G σ) (s := s.toNatClampNeg) w16).symm, mS_q_r σ⟩)
    · refine jr_tabIn C 75 dX11_of_16 (by omega) (by omega) (by rw [w16]; rfl) (by decide) ?_
      refine jr_aload_n C dX11_of_75 rfl ?_
      refine jr_getr C kf_X11_56_0 dX11_of_76 ?_
      refine jr_iload_n C dX11_of_79 rfl ?_
      refine jr_ialv C ka_M_16 dX11_of_80 (ji_in (i := s) (by omega) (by omega)) (v := σ.1 16 _) rfl ?_
      exact ret _ _ _ _ dX11_of_81 rfl (⟨fin (fun _ => 0) _ b10 (fun q => absurd q (by omega)) (g_of_1 (V := m_G σ) (s := s.toNatClampNeg) w16).symm, mS_q_r σ⟩)
    · refine jr_tabIn C 82 dX11_of_16 (by omega) (by omega) (by rw [w16]; rfl) (by decide) ?_
      refine jr_aload_n C dX11_of_82 rfl ?_
      refine jr_getr C kf_X11_59_0 dX11_of_83 ?_
      refine jr_iload_n C dX11_of_86 rfl ?_
      refine jr_ialv C ka_M_17 dX11_of_87 (ji_in (i := s) (by omega) (by omega)) (v := σ.1 17 _) rfl ?_
      exact ret _ _ _ _ dX11_of_88 rfl (⟨fin (fun _ => 0) _ b10 (fun q => absurd q (by omega)) (g_of_2 (V := m_G σ) (s := s.toNatClampNeg) w16).symm, mS_q_r σ⟩)
    · refine jr_tabIn C 89 dX11_of_16 (by omega) (by omega) (by rw [w16]; rfl) (by decide) ?_
      refine jr_aload_n C dX11_of_89 rfl ?_
      refine jr_getr C kf_X11_62_0 dX11_of_90 ?_
      refine jr_iload_n C dX11_of_93 rfl ?_
      refine jr_ialv C ka_M_18 dX11_of_94 (ji_in (i := s) (by omega) (by omega)) (v := σ.1 18 _) rfl ?_
      exact ret _ _ _ _ dX11_of_95 rfl (⟨fin (fun _ => 0) _ b10 (fun q => absurd q (by omega)) (g_of_3 (V := m_G σ) (s := s.toNatClampNeg) w16).symm, mS_q_r σ⟩)
    · refine jr_tabIn C 96 dX11_of_16 (by omega) (by omega) (by rw [w16]; rfl) (by decide) ?_
      refine jr_aload_n C dX11_of_96 rfl ?_
      refine jr_iload_n C dX11_of_97 rfl ?_
      refine jr_vip C [.int _] _ (ct_X11_endOf E _ _ hI (by omega) (by omega)) ky_X11_endOf kv_X11_endOf kk_M_0 km_X11_192 (by decide) rfl (Nat.le_of_ble_eq_true rfl) dX11_of_98 ?_
      exact ret _ _ _ _ dX11_of_101 rfl (⟨fin (fun _ => 0) _ b10 (fun q => absurd q (by omega)) (g_of_4 (V := m_G σ) (s := s.toNatClampNeg) w16).symm, mS_q_r σ⟩)
    · refine jr_tabIn C 102 dX11_of_16 (by omega) (by omega) (by rw [w16]; rfl) (by decide) ?_
      refine jr_aload_n C dX11_of_102 rfl ?_
      refine jr_iload_n C dX11_of_103 rfl ?_
      refine jr_vi C [.int _] _ (ct_X11_crowdOf2 E _ _ hI (by omega) (by omega)) ky_X11_crowdOf kv_X11_crowdOf kk_M_0 km_X11_207 (by decide) rfl (Nat.le_of_ble_eq_true rfl) dX11_of_104 (fun r104 τ104 h104 => ?_)
      obtain ⟨q104, rfl⟩ := h104; rw [mt] at q104
      exact ret _ _ _ _ dX11_of_107 rfl (⟨fin (fun _ => 0) _ b10 (fun q => absurd q (by omega)) (q104.trans (g_of_5 (V := m_G σ) (s := s.toNatClampNeg) w16).symm), mS_q_r σ⟩)
    · refine jr_tabIn C 108 dX11_of_16 (by omega) (by omega) (by rw [w16]; rfl) (by decide) ?_
      refine jr_aload_n C dX11_of_108 rfl ?_
      refine jr_iload_n C dX11_of_109 rfl ?_
      refine jr_vi C [.int _] _ (ct_X11_worthOf2 E _ _ hI (by omega) (by omega)) ky_X11_worthOf kv_X11_worthOf kk_M_0 km_X11_210 (by decide) rfl (Nat.le_of_ble_eq_true rfl) dX11_of_110 (fun r110 τ110 h110 => ?_)
      obtain ⟨q110, rfl⟩ := h110; rw [mt] at q110
      exact ret _ _ _ _ dX11_of_113 rfl (⟨fin (fun _ => 0) _ b10 (fun q => absurd q (by omega)) (q110.trans (g_of_6 (V := m_G σ) (s := s.toNatClampNeg) w16).symm), mS_q_r σ⟩)
    · refine jr_tabIn C 114 dX11_of_16 (by omega) (by omega) (by rw [w16]; rfl) (by decide) ?_
      refine jr_aload_n C dX11_of_114 rfl ?_
      refine jr_vv C [] _ (ct_X11_findTrue2 E _ hI) ky_X11_findTrue kv_X11_findTrue kk_M_0 km_X11_220 (by decide) rfl (Nat.le_of_ble_eq_true rfl) dX11_of_115 (fun τ115 h115 => ?_)
      rw [mt] at h115
      refine jr_aload_n C dX11_of_118 rfl ?_
      refine jr_getr C kf_X11_81_0 dX11_of_119 ?_
      refine jr_iload_n C dX11_of_122 rfl ?_
      refine jr_iald C ka_M_23 dX11_of_123 (ji_in (i := s) (by omega) (by omega)) ?_
      exact ret _ _ _ _ dX11_of_124 rfl (⟨fin ((τ115.1 23)) _ b10 (fun _ => h115.2) (g_of_7 (V := m_G σ) (s := s.toNatClampNeg) w16).symm, h115.1⟩)
    · refine jr_tabIn C 125 dX11_of_16 (by omega) (by omega) (by rw [w16]; rfl) (by decide) ?_
      refine jr_aload_n C dX11_of_125 rfl ?_
      refine jr_vv C [] _ (ct_X11_findTrue2 E _ hI) ky_X11_findTrue kv_X11_findTrue kk_M_0 km_X11_220 (by decide) rfl (Nat.le_of_ble_eq_true rfl) dX11_of_126 (fun τ126 h126 => ?_)
      rw [mt] at h126
      refine jr_aload_n C dX11_of_129 rfl ?_
      refine jr_iload_n C dX11_of_130 rfl ?_
      refine jr_vip C [.int _] _ (ct_X11_trueEnd E _ _ (mS_true_I h126.1 hI) (by omega) (by omega)) ky_X11_trueEnd kv_X11_trueEnd kk_M_0 km_X11_217 (by decide) rfl (Nat.le_of_ble_eq_true rfl) dX11_of_131 ?_
      exact ret _ _ _ _ dX11_of_134 rfl (⟨fin ((τ126.1 23)) _ b10 (fun _ => h126.2) ((m_te_d h126.1).trans ((show g_te (m_G (jf_i σ 0 0 0)) _ _ = g_te (m_G σ) _ _ by rw [mt]).trans (g_of_8 (V := m_G σ) (s := s.toNatClampNeg) w16).symm)), h126.1⟩)
    · refine jr_tabOut C 135 dX11_of_16 (Or.inr w16) (by decide) ?_
      refine jr_iconst C (v := -1) dX11_of_135 (by decide) ?_
      exact ret _ _ _ _ dX11_of_136 rfl (⟨fin (fun _ => 0) _ b10 (fun q => absurd q (by omega)) (g_of_x (V := m_G σ) (s := s.toNatClampNeg) (by omega)).symm, mS_q_r σ⟩)
  · replace b10 := jb_f b10
    refine jr_iconst C (v := -1) dX11_of_13 (by decide) ?_
    exact ret _ _ _ _ dX11_of_14 rfl (⟨Or.inl ⟨fun q => b10 ⟨q.1, by omega, fun z => q.2.2 (by show ((σ.1 14) s.toNatClampNeg).toInt = 0; rw [z]; rfl)⟩, rfl⟩, mS_q_r σ⟩)

