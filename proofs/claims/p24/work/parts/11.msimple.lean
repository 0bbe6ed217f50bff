/-! the reference: simple methods -/
def m_hall (σ : jf_S) (t s c f : Int32) : Int32 × jf_S :=
  if ¬ ((0 ≤ t.toInt ∧ t.toInt ≤ 4) ∧ (1 ≤ s.toInt ∧ s.toInt ≤ 2000) ∧ (0 ≤ c.toInt ∧ c.toInt ≤ 120) ∧ (1 ≤ f.toInt ∧ f.toInt ≤ 15)) then (-1, m_told (jf_i σ 0 0 0) (-1))
  else if ((σ.1 0 2)).toInt = 4 then (-5, m_told (jf_i σ 0 0 0) (-5))
  else ((σ.1 0 2) + 1 - 1, m_told (jf_i (jf_i (jf_i (jf_i (jf_i (jf_i σ 0 0 0) 1 ((σ.1 0 2)).toNatClampNeg t) 2 ((σ.1 0 2)).toNatClampNeg s) 3 ((σ.1 0 2)).toNatClampNeg c) 4 ((σ.1 0 2)).toNatClampNeg f) 0 2 ((σ.1 0 2) + 1)) ((σ.1 0 2) + 1 - 1))
theorem ct_X11_hall (E : jf_E) (σ : jf_S) (t s c f : Int32) (h0 : 0 ≤ ((σ.1 0 2)).toInt) (h4 : ((σ.1 0 2)).toInt ≤ 4) : jf_I jh_M E yX11_hall cX11_hall 5 .int 1 [jf_r E 0, .int t, .int s, .int c, .int f] σ (fun r τ => (r, τ) = m_hall σ t s c f) := by
  refine jf_mkI (by decide) (Nat.le_of_ble_eq_true rfl) ?_
  intro G C ret
  refine jr_aload_n C dX11_hall_0 rfl ?_
  refine jr_iconst C (v := 0) dX11_hall_1 (by decide) ?_
  refine jr_puti C kp_X11_144_0 dX11_hall_2 ?_
  refine jr_iload_n C dX11_hall_5 rfl ?_
  refine jr_i2l C dX11_hall_6 ?_
  refine jr_lconst C (v := 0) dX11_hall_7 (by decide) ?_
  refine jr_ldc2 C kc_X11_165 dX11_hall_8 ?_
  refine jr_sip C [.long _, .long _, .long _] _ (ct_X11_inw E _ _ _ _ 0 4 rfl rfl) ky_X11_in ks_X11_in km_X11_153 (by decide) rfl (Nat.le_of_ble_eq_true rfl) dX11_hall_11 ?_
  refine jr_if_eq C 54 dX11_hall_14 (by decide) (fun b14 => ?_) (fun b14 => ?_)
  · replace b14 := jb_f b14
    refine jr_aload_n C dX11_hall_54 rfl ?_
    refine jr_iconst C (v := -1) dX11_hall_55 (by decide) ?_
    refine jr_vip C [.int _] _ (ct_X11_told E _ _) ky_X11_told kv_X11_told kk_M_0 km_X11_173 (by decide) rfl (Nat.le_of_ble_eq_true rfl) dX11_hall_56 ?_
    exact ret _ _ _ _ dX11_hall_59 rfl (by unfold m_hall; (repeat' split) <;> first | (exfalso; omega) | rfl)
  · replace b14 := jb_t b14
    refine jr_iload_n C dX11_hall_17 rfl ?_
    refine jr_i2l C dX11_hall_18 ?_
    refine jr_lconst C (v := 1) dX11_hall_19 (by decide) ?_
    refine jr_ldc2 C kc_X11_167 dX11_hall_20 ?_
    refine jr_sip C [.long _, .long _, .long _] _ (ct_X11_inw E _ _ _ _ 1 2000 rfl rfl) ky_X11_in ks_X11_in km_X11_153 (by decide) rfl (Nat.le_of_ble_eq_true rfl) dX11_hall_23 ?_
    refine jr_if_eq C 54 dX11_hall_26 (by decide) (fun b26 => ?_) (fun b26 => ?_)
    · replace b26 := jb_f b26
      refine jr_aload_n C dX11_hall_54 rfl ?_
      refine jr_iconst C (v := -1) dX11_hall_55 (by decide) ?_
      refine jr_vip C [.int _] _ (ct_X11_told E _ _) ky_X11_told kv_X11_told kk_M_0 km_X11_173 (by decide) rfl (Nat.le_of_ble_eq_true rfl) dX11_hall_56 ?_
      exact ret _ _ _ _ dX11_hall_59 rfl (by unfold m_hall; (repeat' split) <;> first | (exfalso; omega) | rfl)
    · replace b26 := jb_t b26
      refine jr_iload_n C dX11_hall_29 rfl ?_
      refine jr_i2l C dX11_hall_30 ?_
      refine jr_lconst C (v := 0) dX11_hall_31 (by decide) ?_
      refine jr_ldc2 C kc_X11_169 dX11_hall_32 ?_
      refine jr_sip C [.long _, .long _, .long _] _ (ct_X11_inw E _ _ _ _ 0 120 rfl rfl) ky_X11_in ks_X11_in km_X11_153 (by decide) rfl (Nat.le_of_ble_eq_true rfl) dX11_hall_35 ?_
      refine jr_if_eq C 54 dX11_hall_38 (by decide) (fun b38 => ?_) (fun b38 => ?_)
      · replace b38 := jb_f b38
        refine jr_aload_n C dX11_hall_54 rfl ?_
        refine jr_iconst C (v := -1) dX11_hall_55 (by decide) ?_
        refine jr_vip C [.int _] _ (ct_X11_told E _ _) ky_X11_told kv_X11_told kk_M_0 km_X11_173 (by decide) rfl (Nat.le_of_ble_eq_true rfl) dX11_hall_56 ?_
        exact ret _ _ _ _ dX11_hall_59 rfl (by unfold m_hall; (repeat' split) <;> first | (exfalso; omega) | rfl)
      · replace b38 := jb_t b38
        refine jr_iload C dX11_hall_41 rfl ?_
        refine jr_i2l C dX11_hall_43 ?_
        refine jr_lconst C (v := 1) dX11_hall_44 (by decide) ?_
        refine jr_ldc2 C kc_X11_171 dX11_hall_45 ?_
        refine jr_sip C [.long _, .long _, .long _] _ (ct_X11_inw E _ _ _ _ 1 15 rfl rfl) ky_X11_in ks_X11_in km_X11_153 (by decide) rfl (Nat.le_of_ble_eq_true rfl) dX11_hall_48 ?_
        refine jr_if_ne C 60 dX11_hall_51 (by decide) (fun b51 => ?_) (fun b51 => ?_)
        · replace b51 := jb_t b51
          refine jr_aload_n C dX11_hall_60 rfl ?_
          refine jr_getv C kf_X11_150_0 dX11_hall_61 (v := σ.1 0 2) rfl ?_
          refine jr_iconst C (v := 4) dX11_hall_64 (by decide) ?_
          refine jr_ncmp_ne C (b := 4) 75 dX11_hall_65 (by decide) rfl rfl (fun b65 => ?_) (fun b65 => ?_)
          · refine jr_aload_n C dX11_hall_75 rfl ?_
            refine jr_getr C kf_X11_7_0 dX11_hall_76 ?_
            refine jr_aload_n C dX11_hall_79 rfl ?_
            refine jr_getv C kf_X11_150_0 dX11_hall_80 (v := σ.1 0 2) rfl ?_
            refine jr_iload_n C dX11_hall_83 rfl ?_
            refine jr_iast C ka_M_1 dX11_hall_84 (ji_in (i := (σ.1 0 2)) h0 (by omega)) ?_
            refine jr_aload_n C dX11_hall_85 rfl ?_
            refine jr_getr C kf_X11_13_0 dX11_hall_86 ?_
            refine jr_aload_n C dX11_hall_89 rfl ?_
            refine jr_getv C kf_X11_150_0 dX11_hall_90 (v := σ.1 0 2) rfl ?_
            refine jr_iload_n C dX11_hall_93 rfl ?_
            refine jr_iast C ka_M_2 dX11_hall_94 (ji_in (i := (σ.1 0 2)) h0 (by omega)) ?_
            refine jr_aload_n C dX11_hall_95 rfl ?_
            refine jr_getr C kf_X11_16_0 dX11_hall_96 ?_
            refine jr_aload_n C dX11_hall_99 rfl ?_
            refine jr_getv C kf_X11_150_0 dX11_hall_100 (v := σ.1 0 2) rfl ?_
            refine jr_iload_n C dX11_hall_103 rfl ?_
            refine jr_iast C ka_M_3 dX11_hall_104 (ji_in (i := (σ.1 0 2)) h0 (by omega)) ?_
            refine jr_aload_n C dX11_hall_105 rfl ?_
            refine jr_getr C kf_X11_19_0 dX11_hall_106 ?_
            refine jr_aload_n C dX11_hall_109 rfl ?_
            refine jr_getv C kf_X11_150_0 dX11_hall_110 (v := σ.1 0 2) rfl ?_
            refine jr_iload C dX11_hall_113 rfl ?_
            refine jr_iast C ka_M_4 dX11_hall_115 (ji_in (i := (σ.1 0 2)) h0 (by omega)) ?_
            refine jr_aload_n C dX11_hall_116 rfl ?_
            refine jr_dup C dX11_hall_117 rfl ?_
            refine jr_getv C kf_X11_150_0 dX11_hall_118 (v := σ.1 0 2) rfl ?_
            refine jr_iconst C (v := 1) dX11_hall_121 (by decide) ?_
            refine jr_iadd C dX11_hall_122 ?_
            refine jr_puti C kp_X11_150_0 dX11_hall_123 ?_
            refine jr_aload_n C dX11_hall_126 rfl ?_
            refine jr_aload_n C dX11_hall_127 rfl ?_
            refine jr_geti C kf_X11_150_0 dX11_hall_128 ?_
            refine jr_iconst C (v := 1) dX11_hall_131 (by decide) ?_
            refine jr_isub C dX11_hall_132 ?_
            refine jr_vip C [.int _] _ (ct_X11_told E _ _) ky_X11_told kv_X11_told kk_M_0 km_X11_173 (by decide) rfl (Nat.le_of_ble_eq_true rfl) dX11_hall_133 ?_
            exact ret _ _ _ _ dX11_hall_136 rfl (by unfold m_hall; (repeat' split) <;> first | (exfalso; omega) | rfl)
          · refine jr_aload_n C dX11_hall_68 rfl ?_
            refine jr_bipush C (v := -5) dX11_hall_69 (by decide) ?_
            refine jr_vip C [.int _] _ (ct_X11_told E _ _) ky_X11_told kv_X11_told kk_M_0 km_X11_173 (by decide) rfl (Nat.le_of_ble_eq_true rfl) dX11_hall_71 ?_
            exact ret _ _ _ _ dX11_hall_74 rfl (by unfold m_hall; (repeat' split) <;> first | (exfalso; omega) | rfl)
        · replace b51 := jb_f b51
          refine jr_aload_n C dX11_hall_54 rfl ?_
          refine jr_iconst C (v := -1) dX11_hall_55 (by decide) ?_
          refine jr_vip C [.int _] _ (ct_X11_told E _ _) ky_X11_told kv_X11_told kk_M_0 km_X11_173 (by decide) rfl (Nat.le_of_ble_eq_true rfl) dX11_hall_56 ?_
          exact ret _ _ _ _ dX11_hall_59 rfl (by unfold m_hall; (repeat' split) <;> first | (exfalso; omega) | rfl)
def m_film (σ : jf_S) (m f p : Int32) : Int32 × jf_S :=
  if ¬ ((1 ≤ m.toInt ∧ m.toInt ≤ 300) ∧ (0 ≤ f.toInt ∧ f.toInt ≤ 3) ∧ (0 ≤ p.toInt ∧ p.toInt ≤ 1000)) then (-1, m_told (jf_i σ 0 0 0) (-1))
  else if ((σ.1 0 7)).toInt = 20 then (-5, m_told (jf_i σ 0 0 0) (-5))
  else ((σ.1 0 7) + 1 - 1, m_told (jf_i (jf_i (jf_i (jf_i (jf_i (jf_i (jf_i (jf_i (jf_i (jf_i σ 0 0 0) 5 ((σ.1 0 7)).toNatClampNeg m) 6 ((σ.1 0 7)).toNatClampNeg f) 7 ((σ.1 0 7)).toNatClampNeg p) 8 ((σ.1 0 7)).toNatClampNeg (-1)) 9 ((σ.1 0 7)).toNatClampNeg (-1)) 10 ((σ.1 0 7)).toNatClampNeg 0) 11 ((σ.1 0 7)).toNatClampNeg 60) 12 ((σ.1 0 7)).toNatClampNeg (-1)) 0 7 ((σ.1 0 7) + 1)) ((σ.1 0 7) + 1 - 1))
theorem ct_X11_film (E : jf_E) (σ : jf_S) (m f p : Int32) (h0 : 0 ≤ ((σ.1 0 7)).toInt) (h4 : ((σ.1 0 7)).toInt ≤ 20) : jf_I jh_M E yX11_film cX11_film 4 .int 1 [jf_r E 0, .int m, .int f, .int p] σ (fun r τ => (r, τ) = m_film σ m f p) := by
  refine jf_mkI (by decide) (Nat.le_of_ble_eq_true rfl) ?_
  intro G C ret
  refine jr_aload_n C dX11_film_0 rfl ?_
  refine jr_iconst C (v := 0) dX11_film_1 (by decide) ?_
  refine jr_puti C kp_X11_144_0 dX11_film_2 ?_
  refine jr_iload_n C dX11_film_5 rfl ?_
  refine jr_i2l C dX11_film_6 ?_
  refine jr_lconst C (v := 1) dX11_film_7 (by decide) ?_
  refine jr_ldc2 C kc_X11_177 dX11_film_8 ?_
  refine jr_sip C [.long _, .long _, .long _] _ (ct_X11_inw E _ _ _ _ 1 300 rfl rfl) ky_X11_in ks_X11_in km_X11_153 (by decide) rfl (Nat.le_of_ble_eq_true rfl) dX11_film_11 ?_
  refine jr_if_eq C 41 dX11_film_14 (by decide) (fun b14 => ?_) (fun b14 => ?_)
  · replace b14 := jb_f b14
    refine jr_aload_n C dX11_film_41 rfl ?_
    refine jr_iconst C (v := -1) dX11_film_42 (by decide) ?_
    refine jr_vip C [.int _] _ (ct_X11_told E _ _) ky_X11_told kv_X11_told kk_M_0 km_X11_173 (by decide) rfl (Nat.le_of_ble_eq_true rfl) dX11_film_43 ?_
    exact ret _ _ _ _ dX11_film_46 rfl (by unfold m_film; (repeat' split) <;> first | (exfalso; omega) | rfl)
  · replace b14 := jb_t b14
    refine jr_iload_n C dX11_film_17 rfl ?_
    refine jr_i2l C dX11_film_18 ?_
    refine jr_lconst C (v := 0) dX11_film_19 (by decide) ?_
    refine jr_ldc2 C kc_X11_179 dX11_film_20 ?_
    refine jr_sip C [.long _, .long _, .long _] _ (ct_X11_inw E _ _ _ _ 0 3 rfl rfl) ky_X11_in ks_X11_in km_X11_153 (by decide) rfl (Nat.le_of_ble_eq_true rfl) dX11_film_23 ?_
    refine jr_if_eq C 41 dX11_film_26 (by decide) (fun b26 => ?_) (fun b26 => ?_)
    · replace b26 := jb_f b26
      refine jr_aload_n C dX11_film_41 rfl ?_
      refine jr_iconst C (v := -1) dX11_film_42 (by decide) ?_
      refine jr_vip C [.int _] _ (ct_X11_told E _ _) ky_X11_told kv_X11_told kk_M_0 km_X11_173 (by decide) rfl (Nat.le_of_ble_eq_true rfl) dX11_film_43 ?_
      exact ret _ _ _ _ dX11_film_46 rfl (by unfold m_film; (repeat' split) <;> first | (exfalso; omega) | rfl)
    · replace b26 := jb_t b26
      refine jr_iload_n C dX11_film_29 rfl ?_
      refine jr_i2l C dX11_film_30 ?_
      refine jr_lconst C (v := 0) dX11_film_31 (by decide) ?_
      refine jr_ldc2 C kc_X11_181 dX11_film_32 ?_
      refine jr_sip C [.long _, .long _, .long _] _ (ct_X11_inw E _ _ _ _ 0 1000 rfl rfl) ky_X11_in ks_X11_in km_X11_153 (by decide) rfl (Nat.le_of_ble_eq_true rfl) dX11_film_35 ?_
      refine jr_if_ne C 47 dX11_film_38 (by decide) (fun b38 => ?_) (fun b38 => ?_)
      · replace b38 := jb_t b38
        refine jr_aload_n C dX11_film_47 rfl ?_
        refine jr_getv C kf_X11_157_0 dX11_film_48 (v := σ.1 0 7) rfl ?_
        refine jr_bipush C (v := 20) dX11_film_51 (by decide) ?_
        refine jr_ncmp_ne C (b := 20) 63 dX11_film_53 (by decide) rfl rfl (fun b53 => ?_) (fun b53 => ?_)
        · refine jr_aload_n C dX11_film_63 rfl ?_
          refine jr_getr C kf_X11_22_0 dX11_film_64 ?_
          refine jr_aload_n C dX11_film_67 rfl ?_
          refine jr_getv C kf_X11_157_0 dX11_film_68 (v := σ.1 0 7) rfl ?_
          refine jr_iload_n C dX11_film_71 rfl ?_
          refine jr_iast C ka_M_5 dX11_film_72 (ji_in (i := (σ.1 0 7)) h0 (by omega)) ?_
          refine jr_aload_n C dX11_film_73 rfl ?_
          refine jr_getr C kf_X11_25_0 dX11_film_74 ?_
          refine jr_aload_n C dX11_film_77 rfl ?_
          refine jr_getv C kf_X11_157_0 dX11_film_78 (v := σ.1 0 7) rfl ?_
          refine jr_iload_n C dX11_film_81 rfl ?_
          refine jr_iast C ka_M_6 dX11_film_82 (ji_in (i := (σ.1 0 7)) h0 (by omega)) ?_
          refine jr_aload_n C dX11_film_83 rfl ?_
          refine jr_getr C kf_X11_28_0 dX11_film_84 ?_
          refine jr_aload_n C dX11_film_87 rfl ?_
          refine jr_getv C kf_X11_157_0 dX11_film_88 (v := σ.1 0 7) rfl ?_
          refine jr_iload_n C dX11_film_91 rfl ?_
          refine jr_iast C ka_M_7 dX11_film_92 (ji_in (i := (σ.1 0 7)) h0 (by omega)) ?_
          refine jr_aload_n C dX11_film_93 rfl ?_
          refine jr_getr C kf_X11_31_0 dX11_film_94 ?_
          refine jr_aload_n C dX11_film_97 rfl ?_
          refine jr_getv C kf_X11_157_0 dX11_film_98 (v := σ.1 0 7) rfl ?_
          refine jr_iconst C (v := -1) dX11_film_101 (by decide) ?_
          refine jr_iast C ka_M_8 dX11_film_102 (ji_in (i := (σ.1 0 7)) h0 (by omega)) ?_
          refine jr_aload_n C dX11_film_103 rfl ?_
          refine jr_getr C kf_X11_34_0 dX11_film_104 ?_
          refine jr_aload_n C dX11_film_107 rfl ?_
          refine jr_getv C kf_X11_157_0 dX11_film_108 (v := σ.1 0 7) rfl ?_
          refine jr_iconst C (v := -1) dX11_film_111 (by decide) ?_
          refine jr_iast C ka_M_9 dX11_film_112 (ji_in (i := (σ.1 0 7)) h0 (by omega)) ?_
          refine jr_aload_n C dX11_film_113 rfl ?_
          refine jr_getr C kf_X11_37_0 dX11_film_114 ?_
          refine jr_aload_n C dX11_film_117 rfl ?_
          refine jr_getv C kf_X11_157_0 dX11_film_118 (v := σ.1 0 7) rfl ?_
          refine jr_iconst C (v := 0) dX11_film_121 (by decide) ?_
          refine jr_iast C ka_M_10 dX11_film_122 (ji_in (i := (σ.1 0 7)) h0 (by omega)) ?_
          refine jr_aload_n C dX11_film_123 rfl ?_
          refine jr_getr C kf_X11_40_0 dX11_film_124 ?_
          refine jr_aload_n C dX11_film_127 rfl ?_
          refine jr_getv C kf_X11_157_0 dX11_film_128 (v := σ.1 0 7) rfl ?_
          refine jr_bipush C (v := 60) dX11_film_131 (by decide) ?_
          refine jr_iast C ka_M_11 dX11_film_133 (ji_in (i := (σ.1 0 7)) h0 (by omega)) ?_
          refine jr_aload_n C dX11_film_134 rfl ?_
          refine jr_getr C kf_X11_43_0 dX11_film_135 ?_
          refine jr_aload_n C dX11_film_138 rfl ?_
          refine jr_getv C kf_X11_157_0 dX11_film_139 (v := σ.1 0 7) rfl ?_
          refine jr_iconst C (v := -1) dX11_film_142 (by decide) ?_
          refine jr_iast C ka_M_12 dX11_film_143 (ji_in (i := (σ.1 0 7)) h0 (by omega)) ?_
          refine jr_aload_n C dX11_film_144 rfl ?_
          refine jr_dup C dX11_film_145 rfl ?_
          refine jr_getv C kf_X11_157_0 dX11_film_146 (v := σ.1 0 7) rfl ?_
          refine jr_iconst C (v := 1) dX11_film_149 (by decide) ?_
          refine jr_iadd C dX11_film_150 ?_
          refine jr_puti C kp_X11_157_0 dX11_film_151 ?_
          refine jr_aload_n C dX11_film_154 rfl ?_
          refine jr_aload_n C dX11_film_155 rfl ?_
          refine jr_geti C kf_X11_157_0 dX11_film_156 ?_
          refine jr_iconst C (v := 1) dX11_film_159 (by decide) ?_
          refine jr_isub C dX11_film_160 ?_
          refine jr_vip C [.int _] _ (ct_X11_told E _ _) ky_X11_told kv_X11_told kk_M_0 km_X11_173 (by decide) rfl (Nat.le_of_ble_eq_true rfl) dX11_film_161 ?_
          exact ret _ _ _ _ dX11_film_164 rfl (by unfold m_film; (repeat' split) <;> first | (exfalso; omega) | rfl)
        · refine jr_aload_n C dX11_film_56 rfl ?_
          refine jr_bipush C (v := -5) dX11_film_57 (by decide) ?_
          refine jr_vip C [.int _] _ (ct_X11_told E _ _) ky_X11_told kv_X11_told kk_M_0 km_X11_173 (by decide) rfl (Nat.le_of_ble_eq_true rfl) dX11_film_59 ?_
          exact ret _ _ _ _ dX11_film_62 rfl (by unfold m_film; (repeat' split) <;> first | (exfalso; omega) | rfl)
      · replace b38 := jb_f b38
        refine jr_aload_n C dX11_film_41 rfl ?_
        refine jr_iconst C (v := -1) dX11_film_42 (by decide) ?_
        refine jr_vip C [.int _] _ (ct_X11_told E _ _) ky_X11_told kv_X11_told kk_M_0 km_X11_173 (by decide) rfl (Nat.le_of_ble_eq_true rfl) dX11_film_43 ?_
        exact ret _ _ _ _ dX11_film_46 rfl (by unfold m_film; (repeat' split) <;> first | (exfalso; omega) | rfl)
def m_way (σ : jf_S) (a b m : Int32) : Int32 × jf_S :=
  if ¬ ((0 ≤ a.toInt ∧ a.toInt ≤ 4) ∧ (0 ≤ b.toInt ∧ b.toInt ≤ 4) ∧ ¬ a.toInt = b.toInt ∧ (0 ≤ m.toInt ∧ m.toInt ≤ 2000)) then (-1, m_told (jf_i σ 0 0 0) (-1))
  else (0, m_told (jf_i (jf_i (jf_i σ 0 0 0) 13 (5 * a + b).toNatClampNeg m) 13 (5 * b + a).toNatClampNeg m) 0)
theorem ct_X11_way (E : jf_E) (σ : jf_S) (a b m : Int32) : jf_I jh_M E yX11_way cX11_way 4 .int 1 [jf_r E 0, .int a, .int b, .int m] σ (fun r τ => (r, τ) = m_way σ a b m) := by
  refine jf_mkI (by decide) (Nat.le_of_ble_eq_true rfl) ?_
  intro G C ret
  refine jr_aload_n C dX11_way_0 rfl ?_
  refine jr_iconst C (v := 0) dX11_way_1 (by decide) ?_
  refine jr_puti C kp_X11_144_0 dX11_way_2 ?_
  refine jr_iload_n C dX11_way_5 rfl ?_
  refine jr_i2l C dX11_way_6 ?_
  refine jr_lconst C (v := 0) dX11_way_7 (by decide) ?_
  refine jr_ldc2 C kc_X11_165 dX11_way_8 ?_
  refine jr_sip C [.long _, .long _, .long _] _ (ct_X11_inw E _ _ _ _ 0 4 rfl rfl) ky_X11_in ks_X11_in km_X11_153 (by decide) rfl (Nat.le_of_ble_eq_true rfl) dX11_way_11 ?_
  refine jr_if_eq C 46 dX11_way_14 (by decide) (fun b14 => ?_) (fun b14 => ?_)
  · replace b14 := jb_f b14
    refine jr_aload_n C dX11_way_46 rfl ?_
    refine jr_iconst C (v := -1) dX11_way_47 (by decide) ?_
    refine jr_vip C [.int _] _ (ct_X11_told E _ _) ky_X11_told kv_X11_told kk_M_0 km_X11_173 (by decide) rfl (Nat.le_of_ble_eq_true rfl) dX11_way_48 ?_
    exact ret _ _ _ _ dX11_way_51 rfl (by unfold m_way; (repeat' split) <;> first | (exfalso; omega) | rfl)
  · replace b14 := jb_t b14
    refine jr_iload_n C dX11_way_17 rfl ?_
    refine jr_i2l C dX11_way_18 ?_
    refine jr_lconst C (v := 0) dX11_way_19 (by decide) ?_
    refine jr_ldc2 C kc_X11_165 dX11_way_20 ?_
    refine jr_sip C [.long _, .long _, .long _] _ (ct_X11_inw E _ _ _ _ 0 4 rfl rfl) ky_X11_in ks_X11_in km_X11_153 (by decide) rfl (Nat.le_of_ble_eq_true rfl) dX11_way_23 ?_
    refine jr_if_eq C 46 dX11_way_26 (by decide) (fun b26 => ?_) (fun b26 => ?_)
    · replace b26 := jb_f b26
      refine jr_aload_n C dX11_way_46 rfl ?_
      refine jr_iconst C (v := -1) dX11_way_47 (by decide) ?_
      refine jr_vip C [.int _] _ (ct_X11_told E _ _) ky_X11_told kv_X11_told kk_M_0 km_X11_173 (by decide) rfl (Nat.le_of_ble_eq_true rfl) dX11_way_48 ?_
      exact ret _ _ _ _ dX11_way_51 rfl (by unfold m_way; (repeat' split) <;> first | (exfalso; omega) | rfl)
    · replace b26 := jb_t b26
      refine jr_iload_n C dX11_way_29 rfl ?_
      refine jr_iload_n C dX11_way_30 rfl ?_
      refine jr_ncmp_eq C 46 dX11_way_31 (by decide) rfl rfl (fun b31 => ?_) (fun b31 => ?_)
      · refine jr_aload_n C dX11_way_46 rfl ?_
        refine jr_iconst C (v := -1) dX11_way_47 (by decide) ?_
        refine jr_vip C [.int _] _ (ct_X11_told E _ _) ky_X11_told kv_X11_told kk_M_0 km_X11_173 (by decide) rfl (Nat.le_of_ble_eq_true rfl) dX11_way_48 ?_
        exact ret _ _ _ _ dX11_way_51 rfl (by unfold m_way; (repeat' split) <;> first | (exfalso; omega) | rfl)
      · refine jr_iload_n C dX11_way_34 rfl ?_
        refine jr_i2l C dX11_way_35 ?_
        refine jr_lconst C (v := 0) dX11_way_36 (by decide) ?_
        refine jr_ldc2 C kc_X11_167 dX11_way_37 ?_
        refine jr_sip C [.long _, .long _, .long _] _ (ct_X11_inw E _ _ _ _ 0 2000 rfl rfl) ky_X11_in ks_X11_in km_X11_153 (by decide) rfl (Nat.le_of_ble_eq_true rfl) dX11_way_40 ?_
        refine jr_if_ne C 52 dX11_way_43 (by decide) (fun b43 => ?_) (fun b43 => ?_)
        · replace b43 := jb_t b43
          refine jr_aload_n C dX11_way_52 rfl ?_
          refine jr_getr C kf_X11_46_0 dX11_way_53 ?_
          refine jr_iconst C (v := 5) dX11_way_56 (by decide) ?_
          refine jr_iload_n C dX11_way_57 rfl ?_
          refine jr_imul C dX11_way_58 ?_
          refine jr_iload_n C dX11_way_59 rfl ?_
          refine jr_iadd C dX11_way_60 ?_
          refine jr_iload_n C dX11_way_61 rfl ?_
          refine jr_iast C ka_M_13 dX11_way_62 (ji_lin 5 5 rfl (by omega) (by omega) (by omega) (by omega)) ?_
          refine jr_aload_n C dX11_way_63 rfl ?_
          refine jr_getr C kf_X11_46_0 dX11_way_64 ?_
          refine jr_iconst C (v := 5) dX11_way_67 (by decide) ?_
          refine jr_iload_n C dX11_way_68 rfl ?_
          refine jr_imul C dX11_way_69 ?_
          refine jr_iload_n C dX11_way_70 rfl ?_
          refine jr_iadd C dX11_way_71 ?_
          refine jr_iload_n C dX11_way_72 rfl ?_
          refine jr_iast C ka_M_13 dX11_way_73 (ji_lin 5 5 rfl (by omega) (by omega) (by omega) (by omega)) ?_
          refine jr_aload_n C dX11_way_74 rfl ?_
          refine jr_iconst C (v := 0) dX11_way_75 (by decide) ?_
          refine jr_vip C [.int _] _ (ct_X11_told E _ _) ky_X11_told kv_X11_told kk_M_0 km_X11_173 (by decide) rfl (Nat.le_of_ble_eq_true rfl) dX11_way_76 ?_
          exact ret _ _ _ _ dX11_way_79 rfl (by unfold m_way; (repeat' split) <;> first | (exfalso; omega) | rfl)
        · replace b43 := jb_f b43
          refine jr_aload_n C dX11_way_46 rfl ?_
          refine jr_iconst C (v := -1) dX11_way_47 (by decide) ?_
          refine jr_vip C [.int _] _ (ct_X11_told E _ _) ky_X11_told kv_X11_told kk_M_0 km_X11_173 (by decide) rfl (Nat.le_of_ble_eq_true rfl) dX11_way_48 ?_
          exact ret _ _ _ _ dX11_way_51 rfl (by unfold m_way; (repeat' split) <;> first | (exfalso; omega) | rfl)
def m_guest (σ : jf_S) (f a b : Int32) : Int32 × jf_S :=
  if ¬ (a.toInt = -1 ∧ b.toInt = -1) ∧ ¬ ((0 ≤ a.toInt ∧ a.toInt ≤ 14399) ∧ (0 ≤ b.toInt ∧ b.toInt ≤ 14399) ∧ a.toInt ≤ b.toInt) then (-1, m_told (jf_i σ 0 0 0) (-1))
  else if ¬ (0 ≤ f.toInt ∧ f.toInt < ((σ.1 0 7)).toInt) then (-2, m_told (jf_i σ 0 0 0) (-2))
  else (0, m_told (jf_i (jf_i (jf_i σ 0 0 0) 8 f.toNatClampNeg a) 9 f.toNatClampNeg b) 0)
theorem ct_X11_guest (E : jf_E) (σ : jf_S) (f a b : Int32) (h4 : ((σ.1 0 7)).toInt ≤ 20) : jf_I jh_M E yX11_guest cX11_guest 5 .int 2 [jf_r E 0, .int f, .int a, .int b] σ (fun r τ => (r, τ) = m_guest σ f a b) := by
  refine jf_mkI (by decide) (Nat.le_of_ble_eq_true rfl) ?_
  intro G C ret
  refine jr_aload_n C dX11_guest_0 rfl ?_
  refine jr_iconst C (v := 0) dX11_guest_1 (by decide) ?_
  refine jr_puti C kp_X11_144_0 dX11_guest_2 ?_
  refine jr_iload_n C dX11_guest_5 rfl ?_
  refine jr_iconst C (v := -1) dX11_guest_6 (by decide) ?_
  refine jr_ncmp_ne C (b := -1) 19 dX11_guest_7 (by decide) rfl rfl (fun b7 => ?_) (fun b7 => ?_)
  · refine jr_iconst C (v := 0) dX11_guest_19 (by decide) ?_
    refine jr_istore C dX11_guest_20 (by decide) ?_
    refine jr_iload C dX11_guest_22 rfl ?_
    refine jr_if_ne C 52 dX11_guest_24 (by decide) (fun b => absurd b (by decide)) (fun _ => ?_)
    refine jr_iload_n C dX11_guest_27 rfl ?_
    refine jr_sip C [.int _] _ (ct_X11_isMinute E _ _) ky_X11_isMinute ks_X11_isMinute km_X11_183 (by decide) rfl (Nat.le_of_ble_eq_true rfl) dX11_guest_28 ?_
    refine jr_if_eq C 46 dX11_guest_31 (by decide) (fun b31 => ?_) (fun b31 => ?_)
    · replace b31 := jb_f b31
      refine jr_aload_n C dX11_guest_46 rfl ?_
      refine jr_iconst C (v := -1) dX11_guest_47 (by decide) ?_
      refine jr_vip C [.int _] _ (ct_X11_told E _ _) ky_X11_told kv_X11_told kk_M_0 km_X11_173 (by decide) rfl (Nat.le_of_ble_eq_true rfl) dX11_guest_48 ?_
      exact ret _ _ _ _ dX11_guest_51 rfl (by unfold m_guest; (repeat' split) <;> first | (exfalso; omega) | rfl)
    · replace b31 := jb_t b31
      refine jr_iload_n C dX11_guest_34 rfl ?_
      refine jr_sip C [.int _] _ (ct_X11_isMinute E _ _) ky_X11_isMinute ks_X11_isMinute km_X11_183 (by decide) rfl (Nat.le_of_ble_eq_true rfl) dX11_guest_35 ?_
      refine jr_if_eq C 46 dX11_guest_38 (by decide) (fun b38 => ?_) (fun b38 => ?_)
      · replace b38 := jb_f b38
        refine jr_aload_n C dX11_guest_46 rfl ?_
        refine jr_iconst C (v := -1) dX11_guest_47 (by decide) ?_
        refine jr_vip C [.int _] _ (ct_X11_told E _ _) ky_X11_told kv_X11_told kk_M_0 km_X11_173 (by decide) rfl (Nat.le_of_ble_eq_true rfl) dX11_guest_48 ?_
        exact ret _ _ _ _ dX11_guest_51 rfl (by unfold m_guest; (repeat' split) <;> first | (exfalso; omega) | rfl)
      · replace b38 := jb_t b38
        refine jr_iload_n C dX11_guest_41 rfl ?_
        refine jr_iload_n C dX11_guest_42 rfl ?_
        refine jr_ncmp_le C 52 dX11_guest_43 (by decide) rfl rfl (fun b43 => ?_) (fun b43 => ?_)
        · refine jr_aload_n C dX11_guest_52 rfl ?_
          refine jr_iload_n C dX11_guest_53 rfl ?_
          refine jr_vip C [.int _] _ (ct_X11_isFilm E _ _ (σ.1 0 7) rfl) ky_X11_isFilm kv_X11_isFilm kk_M_0 km_X11_187 (by decide) rfl (Nat.le_of_ble_eq_true rfl) dX11_guest_54 ?_
          refine jr_if_ne C 67 dX11_guest_57 (by decide) (fun b57 => ?_) (fun b57 => ?_)
          · replace b57 := jb_t b57
            refine jr_aload_n C dX11_guest_67 rfl ?_
            refine jr_getr C kf_X11_31_0 dX11_guest_68 ?_
            refine jr_iload_n C dX11_guest_71 rfl ?_
            refine jr_iload_n C dX11_guest_72 rfl ?_
            refine jr_iast C ka_M_8 dX11_guest_73 (ji_in (i := f) (by omega) (by omega)) ?_
            refine jr_aload_n C dX11_guest_74 rfl ?_
            refine jr_getr C kf_X11_34_0 dX11_guest_75 ?_
            refine jr_iload_n C dX11_guest_78 rfl ?_
            refine jr_iload_n C dX11_guest_79 rfl ?_
            refine jr_iast C ka_M_9 dX11_guest_80 (ji_in (i := f) (by omega) (by omega)) ?_
            refine jr_aload_n C dX11_guest_81 rfl ?_
            refine jr_iconst C (v := 0) dX11_guest_82 (by decide) ?_
            refine jr_vip C [.int _] _ (ct_X11_told E _ _) ky_X11_told kv_X11_told kk_M_0 km_X11_173 (by decide) rfl (Nat.le_of_ble_eq_true rfl) dX11_guest_83 ?_
            exact ret _ _ _ _ dX11_guest_86 rfl (by unfold m_guest; (repeat' split) <;> first | (exfalso; omega) | rfl)
          · replace b57 := jb_f b57
            refine jr_aload_n C dX11_guest_60 rfl ?_
            refine jr_bipush C (v := -2) dX11_guest_61 (by decide) ?_
            refine jr_vip C [.int _] _ (ct_X11_told E _ _) ky_X11_told kv_X11_told kk_M_0 km_X11_173 (by decide) rfl (Nat.le_of_ble_eq_true rfl) dX11_guest_63 ?_
            exact ret _ _ _ _ dX11_guest_66 rfl (by unfold m_guest; (repeat' split) <;> first | (exfalso; omega) | rfl)
        · refine jr_aload_n C dX11_guest_46 rfl ?_
          refine jr_iconst C (v := -1) dX11_guest_47 (by decide) ?_
          refine jr_vip C [.int _] _ (ct_X11_told E _ _) ky_X11_told kv_X11_told kk_M_0 km_X11_173 (by decide) rfl (Nat.le_of_ble_eq_true rfl) dX11_guest_48 ?_
          exact ret _ _ _ _ dX11_guest_51 rfl (by unfold m_guest; (repeat' split) <;> first | (exfalso; omega) | rfl)
  · refine jr_iload_n C dX11_guest_10 rfl ?_
    refine jr_iconst C (v := -1) dX11_guest_11 (by decide) ?_
    refine jr_ncmp_ne C (b := -1) 19 dX11_guest_12 (by decide) rfl rfl (fun b12 => ?_) (fun b12 => ?_)
    · refine jr_iconst C (v := 0) dX11_guest_19 (by decide) ?_
      refine jr_istore C dX11_guest_20 (by decide) ?_
      refine jr_iload C dX11_guest_22 rfl ?_
      refine jr_if_ne C 52 dX11_guest_24 (by decide) (fun b => absurd b (by decide)) (fun _ => ?_)
      refine jr_iload_n C dX11_guest_27 rfl ?_
      refine jr_sip C [.int _] _ (ct_X11_isMinute E _ _) ky_X11_isMinute ks_X11_isMinute km_X11_183 (by decide) rfl (Nat.le_of_ble_eq_true rfl) dX11_guest_28 ?_
      refine jr_if_eq C 46 dX11_guest_31 (by decide) (fun b31 => ?_) (fun b31 => ?_)
      · replace b31 := jb_f b31
        refine jr_aload_n C dX11_guest_46 rfl ?_
        refine jr_iconst C (v := -1) dX11_guest_47 (by decide) ?_
        refine jr_vip C [.int _] _ (ct_X11_told E _ _) ky_X11_told kv_X11_told kk_M_0 km_X11_173 (by decide) rfl (Nat.le_of_ble_eq_true rfl) dX11_guest_48 ?_
        exact ret _ _ _ _ dX11_guest_51 rfl (by unfold m_guest; (repeat' split) <;> first | (exfalso; omega) | rfl)
      · replace b31 := jb_t b31
        refine jr_iload_n C dX11_guest_34 rfl ?_
        refine jr_sip C [.int _] _ (ct_X11_isMinute E _ _) ky_X11_isMinute ks_X11_isMinute km_X11_183 (by decide) rfl (Nat.le_of_ble_eq_true rfl) dX11_guest_35 ?_
        refine jr_if_eq C 46 dX11_guest_38 (by decide) (fun b38 => ?_) (fun b38 => ?_)
        · replace b38 := jb_f b38
          refine jr_aload_n C dX11_guest_46 rfl ?_
          refine jr_iconst C (v := -1) dX11_guest_47 (by decide) ?_
          refine jr_vip C [.int _] _ (ct_X11_told E _ _) ky_X11_told kv_X11_told kk_M_0 km_X11_173 (by decide) rfl (Nat.le_of_ble_eq_true rfl) dX11_guest_48 ?_
          exact ret _ _ _ _ dX11_guest_51 rfl (by unfold m_guest; (repeat' split) <;> first | (exfalso; omega) | rfl)
        · replace b38 := jb_t b38
          refine jr_iload_n C dX11_guest_41 rfl ?_
          refine jr_iload_n C dX11_guest_42 rfl ?_
          refine jr_ncmp_le C 52 dX11_guest_43 (by decide) rfl rfl (fun b43 => ?_) (fun b43 => ?_)
          · refine jr_aload_n C dX11_guest_52 rfl ?_
            refine jr_iload_n C dX11_guest_53 rfl ?_
            refine jr_vip C [.int _] _ (ct_X11_isFilm E _ _ (σ.1 0 7) rfl) ky_X11_isFilm kv_X11_isFilm kk_M_0 km_X11_187 (by decide) rfl (Nat.le_of_ble_eq_true rfl) dX11_guest_54 ?_
            refine jr_if_ne C 67 dX11_guest_57 (by decide) (fun b57 => ?_) (fun b57 => ?_)
            · replace b57 := jb_t b57
              refine jr_aload_n C dX11_guest_67 rfl ?_
              refine jr_getr C kf_X11_31_0 dX11_guest_68 ?_
              refine jr_iload_n C dX11_guest_71 rfl ?_
              refine jr_iload_n C dX11_guest_72 rfl ?_
              refine jr_iast C ka_M_8 dX11_guest_73 (ji_in (i := f) (by omega) (by omega)) ?_
              refine jr_aload_n C dX11_guest_74 rfl ?_
              refine jr_getr C kf_X11_34_0 dX11_guest_75 ?_
              refine jr_iload_n C dX11_guest_78 rfl ?_
              refine jr_iload_n C dX11_guest_79 rfl ?_
              refine jr_iast C ka_M_9 dX11_guest_80 (ji_in (i := f) (by omega) (by omega)) ?_
              refine jr_aload_n C dX11_guest_81 rfl ?_
              refine jr_iconst C (v := 0) dX11_guest_82 (by decide) ?_
              refine jr_vip C [.int _] _ (ct_X11_told E _ _) ky_X11_told kv_X11_told kk_M_0 km_X11_173 (by decide) rfl (Nat.le_of_ble_eq_true rfl) dX11_guest_83 ?_
              exact ret _ _ _ _ dX11_guest_86 rfl (by unfold m_guest; (repeat' split) <;> first | (exfalso; omega) | rfl)
            · replace b57 := jb_f b57
              refine jr_aload_n C dX11_guest_60 rfl ?_
              refine jr_bipush C (v := -2) dX11_guest_61 (by decide) ?_
              refine jr_vip C [.int _] _ (ct_X11_told E _ _) ky_X11_told kv_X11_told kk_M_0 km_X11_173 (by decide) rfl (Nat.le_of_ble_eq_true rfl) dX11_guest_63 ?_
              exact ret _ _ _ _ dX11_guest_66 rfl (by unfold m_guest; (repeat' split) <;> first | (exfalso; omega) | rfl)
          · refine jr_aload_n C dX11_guest_46 rfl ?_
            refine jr_iconst C (v := -1) dX11_guest_47 (by decide) ?_
            refine jr_vip C [.int _] _ (ct_X11_told E _ _) ky_X11_told kv_X11_told kk_M_0 km_X11_173 (by decide) rfl (Nat.le_of_ble_eq_true rfl) dX11_guest_48 ?_
            exact ret _ _ _ _ dX11_guest_51 rfl (by unfold m_guest; (repeat' split) <;> first | (exfalso; omega) | rfl)
    · refine jr_iconst C (v := 1) dX11_guest_15 (by decide) ?_
      refine jr_goto C 20 dX11_guest_16 (by decide) ?_
      refine jr_istore C dX11_guest_20 (by decide) ?_
      refine jr_iload C dX11_guest_22 rfl ?_
      refine jr_if_ne C 52 dX11_guest_24 (by decide) (fun _ => ?_) (fun b => absurd b (by decide))
      refine jr_aload_n C dX11_guest_52 rfl ?_
      refine jr_iload_n C dX11_guest_53 rfl ?_
      refine jr_vip C [.int _] _ (ct_X11_isFilm E _ _ (σ.1 0 7) rfl) ky_X11_isFilm kv_X11_isFilm kk_M_0 km_X11_187 (by decide) rfl (Nat.le_of_ble_eq_true rfl) dX11_guest_54 ?_
      refine jr_if_ne C 67 dX11_guest_57 (by decide) (fun b57 => ?_) (fun b57 => ?_)
      · replace b57 := jb_t b57
        refine jr_aload_n C dX11_guest_67 rfl ?_
        refine jr_getr C kf_X11_31_0 dX11_guest_68 ?_
        refine jr_iload_n C dX11_guest_71 rfl ?_
        refine jr_iload_n C dX11_guest_72 rfl ?_
        refine jr_iast C ka_M_8 dX11_guest_73 (ji_in (i := f) (by omega) (by omega)) ?_
        refine jr_aload_n C dX11_guest_74 rfl ?_
        refine jr_getr C kf_X11_34_0 dX11_guest_75 ?_
        refine jr_iload_n C dX11_guest_78 rfl ?_
        refine jr_iload_n C dX11_guest_79 rfl ?_
        refine jr_iast C ka_M_9 dX11_guest_80 (ji_in (i := f) (by omega) (by omega)) ?_
        refine jr_aload_n C dX11_guest_81 rfl ?_
        refine jr_iconst C (v := 0) dX11_guest_82 (by decide) ?_
        refine jr_vip C [.int _] _ (ct_X11_told E _ _) ky_X11_told kv_X11_told kk_M_0 km_X11_173 (by decide) rfl (Nat.le_of_ble_eq_true rfl) dX11_guest_83 ?_
        exact ret _ _ _ _ dX11_guest_86 rfl (by unfold m_guest; (repeat' split) <;> first | (exfalso; omega) | rfl)
      · replace b57 := jb_f b57
        refine jr_aload_n C dX11_guest_60 rfl ?_
        refine jr_bipush C (v := -2) dX11_guest_61 (by decide) ?_
        refine jr_vip C [.int _] _ (ct_X11_told E _ _) ky_X11_told kv_X11_told kk_M_0 km_X11_173 (by decide) rfl (Nat.le_of_ble_eq_true rfl) dX11_guest_63 ?_
        exact ret _ _ _ _ dX11_guest_66 rfl (by unfold m_guest; (repeat' split) <;> first | (exfalso; omega) | rfl)
def m_bar (σ : jf_S) (f b m o : Int32) : Int32 × jf_S :=
  if ¬ (0 ≤ b.toInt ∧ b.toInt ≤ 14399) ∨ ¬ (0 ≤ m.toInt ∧ m.toInt ≤ 60) ∨ (¬ o.toInt = -1 ∧ o.toInt = f.toInt) then (-1, m_told (jf_i σ 0 0 0) (-1))
  else if ¬ (0 ≤ f.toInt ∧ f.toInt < ((σ.1 0 7)).toInt) ∨ (¬ o.toInt = -1 ∧ ¬ (0 ≤ o.toInt ∧ o.toInt < ((σ.1 0 7)).toInt)) then (-2, m_told (jf_i σ 0 0 0) (-2))
  else (0, m_told (jf_i (jf_i (jf_i (jf_i σ 0 0 0) 10 f.toNatClampNeg b) 11 f.toNatClampNeg m) 12 f.toNatClampNeg o) 0)
theorem ct_X11_bar (E : jf_E) (σ : jf_S) (f b m o : Int32) (h4 : ((σ.1 0 7)).toInt ≤ 20) : jf_I jh_M E yX11_bar cX11_bar 5 .int 2 [jf_r E 0, .int f, .int b, .int m, .int o] σ (fun r τ => (r, τ) = m_bar σ f b m o) := by
  refine jf_mkI (by decide) (Nat.le_of_ble_eq_true rfl) ?_
  intro G C ret
  refine jr_aload_n C dX11_bar_0 rfl ?_
  refine jr_iconst C (v := 0) dX11_bar_1 (by decide) ?_
  refine jr_puti C kp_X11_144_0 dX11_bar_2 ?_
  refine jr_iload_n C dX11_bar_5 rfl ?_
  refine jr_sip C [.int _] _ (ct_X11_isMinute E _ _) ky_X11_isMinute ks_X11_isMinute km_X11_183 (by decide) rfl (Nat.le_of_ble_eq_true rfl) dX11_bar_6 ?_
  refine jr_if_eq C 36 dX11_bar_9 (by decide) (fun b9 => ?_) (fun b9 => ?_)
  · replace b9 := jb_f b9
    refine jr_aload_n C dX11_bar_36 rfl ?_
    refine jr_iconst C (v := -1) dX11_bar_37 (by decide) ?_
    refine jr_vip C [.int _] _ (ct_X11_told E _ _) ky_X11_told kv_X11_told kk_M_0 km_X11_173 (by decide) rfl (Nat.le_of_ble_eq_true rfl) dX11_bar_38 ?_
    exact ret _ _ _ _ dX11_bar_41 rfl (by unfold m_bar; (repeat' split) <;> first | (exfalso; omega) | rfl)
  · replace b9 := jb_t b9
    refine jr_iload_n C dX11_bar_12 rfl ?_
    refine jr_i2l C dX11_bar_13 ?_
    refine jr_lconst C (v := 0) dX11_bar_14 (by decide) ?_
    refine jr_ldc2 C kc_X11_190 dX11_bar_15 ?_
    refine jr_sip C [.long _, .long _, .long _] _ (ct_X11_inw E _ _ _ _ 0 60 rfl rfl) ky_X11_in ks_X11_in km_X11_153 (by decide) rfl (Nat.le_of_ble_eq_true rfl) dX11_bar_18 ?_
    refine jr_if_eq C 36 dX11_bar_21 (by decide) (fun b21 => ?_) (fun b21 => ?_)
    · replace b21 := jb_f b21
      refine jr_aload_n C dX11_bar_36 rfl ?_
      refine jr_iconst C (v := -1) dX11_bar_37 (by decide) ?_
      refine jr_vip C [.int _] _ (ct_X11_told E _ _) ky_X11_told kv_X11_told kk_M_0 km_X11_173 (by decide) rfl (Nat.le_of_ble_eq_true rfl) dX11_bar_38 ?_
      exact ret _ _ _ _ dX11_bar_41 rfl (by unfold m_bar; (repeat' split) <;> first | (exfalso; omega) | rfl)
    · replace b21 := jb_t b21
      refine jr_iload C dX11_bar_24 rfl ?_
      refine jr_iconst C (v := -1) dX11_bar_26 (by decide) ?_
      refine jr_ncmp_eq C (b := -1) 42 dX11_bar_27 (by decide) rfl rfl (fun b27 => ?_) (fun b27 => ?_)
      · refine jr_aload_n C dX11_bar_42 rfl ?_
        refine jr_iload_n C dX11_bar_43 rfl ?_
        refine jr_vip C [.int _] _ (ct_X11_isFilm E _ _ (σ.1 0 7) rfl) ky_X11_isFilm kv_X11_isFilm kk_M_0 km_X11_187 (by decide) rfl (Nat.le_of_ble_eq_true rfl) dX11_bar_44 ?_
        refine jr_if_eq C 65 dX11_bar_47 (by decide) (fun b47 => ?_) (fun b47 => ?_)
        · replace b47 := jb_f b47
          refine jr_aload_n C dX11_bar_65 rfl ?_
          refine jr_bipush C (v := -2) dX11_bar_66 (by decide) ?_
          refine jr_vip C [.int _] _ (ct_X11_told E _ _) ky_X11_told kv_X11_told kk_M_0 km_X11_173 (by decide) rfl (Nat.le_of_ble_eq_true rfl) dX11_bar_68 ?_
          exact ret _ _ _ _ dX11_bar_71 rfl (by unfold m_bar; (repeat' split) <;> first | (exfalso; omega) | rfl)
        · replace b47 := jb_t b47
          refine jr_iload C dX11_bar_50 rfl ?_
          refine jr_iconst C (v := -1) dX11_bar_52 (by decide) ?_
          refine jr_ncmp_eq C (b := -1) 72 dX11_bar_53 (by decide) rfl rfl (fun b53 => ?_) (fun b53 => ?_)
          · refine jr_aload_n C dX11_bar_72 rfl ?_
            refine jr_getr C kf_X11_37_0 dX11_bar_73 ?_
            refine jr_iload_n C dX11_bar_76 rfl ?_
            refine jr_iload_n C dX11_bar_77 rfl ?_
            refine jr_iast C ka_M_10 dX11_bar_78 (ji_in (i := f) (by omega) (by omega)) ?_
            refine jr_aload_n C dX11_bar_79 rfl ?_
            refine jr_getr C kf_X11_40_0 dX11_bar_80 ?_
            refine jr_iload_n C dX11_bar_83 rfl ?_
            refine jr_iload_n C dX11_bar_84 rfl ?_
            refine jr_iast C ka_M_11 dX11_bar_85 (ji_in (i := f) (by omega) (by omega)) ?_
            refine jr_aload_n C dX11_bar_86 rfl ?_
            refine jr_getr C kf_X11_43_0 dX11_bar_87 ?_
            refine jr_iload_n C dX11_bar_90 rfl ?_
            refine jr_iload C dX11_bar_91 rfl ?_
            refine jr_iast C ka_M_12 dX11_bar_93 (ji_in (i := f) (by omega) (by omega)) ?_
            refine jr_aload_n C dX11_bar_94 rfl ?_
            refine jr_iconst C (v := 0) dX11_bar_95 (by decide) ?_
            refine jr_vip C [.int _] _ (ct_X11_told E _ _) ky_X11_told kv_X11_told kk_M_0 km_X11_173 (by decide) rfl (Nat.le_of_ble_eq_true rfl) dX11_bar_96 ?_
            exact ret _ _ _ _ dX11_bar_99 rfl (by unfold m_bar; (repeat' split) <;> first | (exfalso; omega) | rfl)
          · refine jr_aload_n C dX11_bar_56 rfl ?_
            refine jr_iload C dX11_bar_57 rfl ?_
            refine jr_vip C [.int _] _ (ct_X11_isFilm E _ _ (σ.1 0 7) rfl) ky_X11_isFilm kv_X11_isFilm kk_M_0 km_X11_187 (by decide) rfl (Nat.le_of_ble_eq_true rfl) dX11_bar_59 ?_
            refine jr_if_ne C 72 dX11_bar_62 (by decide) (fun b62 => ?_) (fun b62 => ?_)
            · replace b62 := jb_t b62
              refine jr_aload_n C dX11_bar_72 rfl ?_
              refine jr_getr C kf_X11_37_0 dX11_bar_73 ?_
              refine jr_iload_n C dX11_bar_76 rfl ?_
              refine jr_iload_n C dX11_bar_77 rfl ?_
              refine jr_iast C ka_M_10 dX11_bar_78 (ji_in (i := f) (by omega) (by omega)) ?_
              refine jr_aload_n C dX11_bar_79 rfl ?_
              refine jr_getr C kf_X11_40_0 dX11_bar_80 ?_
              refine jr_iload_n C dX11_bar_83 rfl ?_
              refine jr_iload_n C dX11_bar_84 rfl ?_
              refine jr_iast C ka_M_11 dX11_bar_85 (ji_in (i := f) (by omega) (by omega)) ?_
              refine jr_aload_n C dX11_bar_86 rfl ?_
              refine jr_getr C kf_X11_43_0 dX11_bar_87 ?_
              refine jr_iload_n C dX11_bar_90 rfl ?_
              refine jr_iload C dX11_bar_91 rfl ?_
              refine jr_iast C ka_M_12 dX11_bar_93 (ji_in (i := f) (by omega) (by omega)) ?_
              refine jr_aload_n C dX11_bar_94 rfl ?_
              refine jr_iconst C (v := 0) dX11_bar_95 (by decide) ?_
              refine jr_vip C [.int _] _ (ct_X11_told E _ _) ky_X11_told kv_X11_told kk_M_0 km_X11_173 (by decide) rfl (Nat.le_of_ble_eq_true rfl) dX11_bar_96 ?_
              exact ret _ _ _ _ dX11_bar_99 rfl (by unfold m_bar; (repeat' split) <;> first | (exfalso; omega) | rfl)
            · replace b62 := jb_f b62
              refine jr_aload_n C dX11_bar_65 rfl ?_
              refine jr_bipush C (v := -2) dX11_bar_66 (by decide) ?_
              refine jr_vip C [.int _] _ (ct_X11_told E _ _) ky_X11_told kv_X11_told kk_M_0 km_X11_173 (by decide) rfl (Nat.le_of_ble_eq_true rfl) dX11_bar_68 ?_
              exact ret _ _ _ _ dX11_bar_71 rfl (by unfold m_bar; (repeat' split) <;> first | (exfalso; omega) | rfl)
      · refine jr_iload C dX11_bar_30 rfl ?_
        refine jr_iload_n C dX11_bar_32 rfl ?_
        refine jr_ncmp_ne C 42 dX11_bar_33 (by decide) rfl rfl (fun b33 => ?_) (fun b33 => ?_)
        · refine jr_aload_n C dX11_bar_42 rfl ?_
          refine jr_iload_n C dX11_bar_43 rfl ?_
          refine jr_vip C [.int _] _ (ct_X11_isFilm E _ _ (σ.1 0 7) rfl) ky_X11_isFilm kv_X11_isFilm kk_M_0 km_X11_187 (by decide) rfl (Nat.le_of_ble_eq_true rfl) dX11_bar_44 ?_
          refine jr_if_eq C 65 dX11_bar_47 (by decide) (fun b47 => ?_) (fun b47 => ?_)
          · replace b47 := jb_f b47
            refine jr_aload_n C dX11_bar_65 rfl ?_
            refine jr_bipush C (v := -2) dX11_bar_66 (by decide) ?_
            refine jr_vip C [.int _] _ (ct_X11_told E _ _) ky_X11_told kv_X11_told kk_M_0 km_X11_173 (by decide) rfl (Nat.le_of_ble_eq_true rfl) dX11_bar_68 ?_
            exact ret _ _ _ _ dX11_bar_71 rfl (by unfold m_bar; (repeat' split) <;> first | (exfalso; omega) | rfl)
          · replace b47 := jb_t b47
            refine jr_iload C dX11_bar_50 rfl ?_
            refine jr_iconst C (v := -1) dX11_bar_52 (by decide) ?_
            refine jr_ncmp_eq C (b := -1) 72 dX11_bar_53 (by decide) rfl rfl (fun b53 => ?_) (fun b53 => ?_)
            · refine jr_aload_n C dX11_bar_72 rfl ?_
              refine jr_getr C kf_X11_37_0 dX11_bar_73 ?_
              refine jr_iload_n C dX11_bar_76 rfl ?_
              refine jr_iload_n C dX11_bar_77 rfl ?_
              refine jr_iast C ka_M_10 dX11_bar_78 (ji_in (i := f) (by omega) (by omega)) ?_
              refine jr_aload_n C dX11_bar_79 rfl ?_
              refine jr_getr C kf_X11_40_0 dX11_bar_80 ?_
              refine jr_iload_n C dX11_bar_83 rfl ?_
              refine jr_iload_n C dX11_bar_84 rfl ?_
              refine jr_iast C ka_M_11 dX11_bar_85 (ji_in (i := f) (by omega) (by omega)) ?_
              refine jr_aload_n C dX11_bar_86 rfl ?_
              refine jr_getr C kf_X11_43_0 dX11_bar_87 ?_
              refine jr_iload_n C dX11_bar_90 rfl ?_
              refine jr_iload C dX11_bar_91 rfl ?_
              refine jr_iast C ka_M_12 dX11_bar_93 (ji_in (i := f) (by omega) (by omega)) ?_
              refine jr_aload_n C dX11_bar_94 rfl ?_
              refine jr_iconst C (v := 0) dX11_bar_95 (by decide) ?_
              refine jr_vip C [.int _] _ (ct_X11_told E _ _) ky_X11_told kv_X11_told kk_M_0 km_X11_173 (by decide) rfl (Nat.le_of_ble_eq_true rfl) dX11_bar_96 ?_
              exact ret _ _ _ _ dX11_bar_99 rfl (by unfold m_bar; (repeat' split) <;> first | (exfalso; omega) | rfl)
            · refine jr_aload_n C dX11_bar_56 rfl ?_
              refine jr_iload C dX11_bar_57 rfl ?_
              refine jr_vip C [.int _] _ (ct_X11_isFilm E _ _ (σ.1 0 7) rfl) ky_X11_isFilm kv_X11_isFilm kk_M_0 km_X11_187 (by decide) rfl (Nat.le_of_ble_eq_true rfl) dX11_bar_59 ?_
              refine jr_if_ne C 72 dX11_bar_62 (by decide) (fun b62 => ?_) (fun b62 => ?_)
              · replace b62 := jb_t b62
                refine jr_aload_n C dX11_bar_72 rfl ?_
                refine jr_getr C kf_X11_37_0 dX11_bar_73 ?_
                refine jr_iload_n C dX11_bar_76 rfl ?_
                refine jr_iload_n C dX11_bar_77 rfl ?_
                refine jr_iast C ka_M_10 dX11_bar_78 (ji_in (i := f) (by omega) (by omega)) ?_
                refine jr_aload_n C dX11_bar_79 rfl ?_
                refine jr_getr C kf_X11_40_0 dX11_bar_80 ?_
                refine jr_iload_n C dX11_bar_83 rfl ?_
                refine jr_iload_n C dX11_bar_84 rfl ?_
                refine jr_iast C ka_M_11 dX11_bar_85 (ji_in (i := f) (by omega) (by omega)) ?_
                refine jr_aload_n C dX11_bar_86 rfl ?_
                refine jr_getr C kf_X11_43_0 dX11_bar_87 ?_
                refine jr_iload_n C dX11_bar_90 rfl ?_
                refine jr_iload C dX11_bar_91 rfl ?_
                refine jr_iast C ka_M_12 dX11_bar_93 (ji_in (i := f) (by omega) (by omega)) ?_
                refine jr_aload_n C dX11_bar_94 rfl ?_
                refine jr_iconst C (v := 0) dX11_bar_95 (by decide) ?_
                refine jr_vip C [.int _] _ (ct_X11_told E _ _) ky_X11_told kv_X11_told kk_M_0 km_X11_173 (by decide) rfl (Nat.le_of_ble_eq_true rfl) dX11_bar_96 ?_
                exact ret _ _ _ _ dX11_bar_99 rfl (by unfold m_bar; (repeat' split) <;> first | (exfalso; omega) | rfl)
              · replace b62 := jb_f b62
                refine jr_aload_n C dX11_bar_65 rfl ?_
                refine jr_bipush C (v := -2) dX11_bar_66 (by decide) ?_
                refine jr_vip C [.int _] _ (ct_X11_told E _ _) ky_X11_told kv_X11_told kk_M_0 km_X11_173 (by decide) rfl (Nat.le_of_ble_eq_true rfl) dX11_bar_68 ?_
                exact ret _ _ _ _ dX11_bar_71 rfl (by unfold m_bar; (repeat' split) <;> first | (exfalso; omega) | rfl)
        · refine jr_aload_n C dX11_bar_36 rfl ?_
          refine jr_iconst C (v := -1) dX11_bar_37 (by decide) ?_
          refine jr_vip C [.int _] _ (ct_X11_told E _ _) ky_X11_told kv_X11_told kk_M_0 km_X11_173 (by decide) rfl (Nat.le_of_ble_eq_true rfl) dX11_bar_38 ?_
          exact ret _ _ _ _ dX11_bar_41 rfl (by unfold m_bar; (repeat' split) <;> first | (exfalso; omega) | rfl)
def m_part (σ : jf_S) (h p : Int32) : Int32 × jf_S :=
  if ¬ ((0 ≤ h.toInt ∧ h.toInt ≤ 23) ∧ (0 ≤ p.toInt ∧ p.toInt ≤ 300)) then (-1, m_told (jf_i σ 0 0 0) (-1))
  else (0, m_told (jf_i (jf_i σ 0 0 0) 21 h.toNatClampNeg p) 0)
theorem ct_X11_part (E : jf_E) (σ : jf_S) (h p : Int32) : jf_I jh_M E yX11_part cX11_part 3 .int 1 [jf_r E 0, .int h, .int p] σ (fun r τ => (r, τ) = m_part σ h p) := by
  refine jf_mkI (by decide) (Nat.le_of_ble_eq_true rfl) ?_
  intro G C ret
  refine jr_aload_n C dX11_part_0 rfl ?_
  refine jr_iconst C (v := 0) dX11_part_1 (by decide) ?_
  refine jr_puti C kp_X11_144_0 dX11_part_2 ?_
  refine jr_iload_n C dX11_part_5 rfl ?_
  refine jr_i2l C dX11_part_6 ?_
  refine jr_lconst C (v := 0) dX11_part_7 (by decide) ?_
  refine jr_ldc2 C kc_X11_223 dX11_part_8 ?_
  refine jr_sip C [.long _, .long _, .long _] _ (ct_X11_inw E _ _ _ _ 0 23 rfl rfl) ky_X11_in ks_X11_in km_X11_153 (by decide) rfl (Nat.le_of_ble_eq_true rfl) dX11_part_11 ?_
  refine jr_if_eq C 29 dX11_part_14 (by decide) (fun b14 => ?_) (fun b14 => ?_)
  · replace b14 := jb_f b14
    refine jr_aload_n C dX11_part_29 rfl ?_
    refine jr_iconst C (v := -1) dX11_part_30 (by decide) ?_
    refine jr_vip C [.int _] _ (ct_X11_told E _ _) ky_X11_told kv_X11_told kk_M_0 km_X11_173 (by decide) rfl (Nat.le_of_ble_eq_true rfl) dX11_part_31 ?_
    exact ret _ _ _ _ dX11_part_34 rfl (by unfold m_part; (repeat' split) <;> first | (exfalso; omega) | rfl)
  · replace b14 := jb_t b14
    refine jr_iload_n C dX11_part_17 rfl ?_
    refine jr_i2l C dX11_part_18 ?_
    refine jr_lconst C (v := 0) dX11_part_19 (by decide) ?_
    refine jr_ldc2 C kc_X11_177 dX11_part_20 ?_
    refine jr_sip C [.long _, .long _, .long _] _ (ct_X11_inw E _ _ _ _ 0 300 rfl rfl) ky_X11_in ks_X11_in km_X11_153 (by decide) rfl (Nat.le_of_ble_eq_true rfl) dX11_part_23 ?_
    refine jr_if_ne C 35 dX11_part_26 (by decide) (fun b26 => ?_) (fun b26 => ?_)
    · replace b26 := jb_t b26
      refine jr_aload_n C dX11_part_35 rfl ?_
      refine jr_getr C kf_X11_71_0 dX11_part_36 ?_
      refine jr_iload_n C dX11_part_39 rfl ?_
      refine jr_iload_n C dX11_part_40 rfl ?_
      refine jr_iast C ka_M_21 dX11_part_41 (ji_in (i := h) (by omega) (by omega)) ?_
      refine jr_aload_n C dX11_part_42 rfl ?_
      refine jr_iconst C (v := 0) dX11_part_43 (by decide) ?_
      refine jr_vip C [.int _] _ (ct_X11_told E _ _) ky_X11_told kv_X11_told kk_M_0 km_X11_173 (by decide) rfl (Nat.le_of_ble_eq_true rfl) dX11_part_44 ?_
      exact ret _ _ _ _ dX11_part_47 rfl (by unfold m_part; (repeat' split) <;> first | (exfalso; omega) | rfl)
    · replace b26 := jb_f b26
      refine jr_aload_n C dX11_part_29 rfl ?_
      refine jr_iconst C (v := -1) dX11_part_30 (by decide) ?_
      refine jr_vip C [.int _] _ (ct_X11_told E _ _) ky_X11_told kv_X11_told kk_M_0 km_X11_173 (by decide) rfl (Nat.le_of_ble_eq_true rfl) dX11_part_31 ?_
      exact ret _ _ _ _ dX11_part_34 rfl (by unfold m_part; (repeat' split) <;> first | (exfalso; omega) | rfl)
def m_hour (σ : jf_S) (m : Int32) : Int32 × jf_S :=
  if ¬ (0 ≤ m.toInt ∧ m.toInt ≤ 14399) then (-1, m_told (jf_i σ 0 0 0) (-1))
  else if ((σ.1 0 27)).toInt = 10 then (-5, m_told (jf_i σ 0 0 0) (-5))
  else ((σ.1 0 27) + 1, m_told (jf_i (jf_i (jf_i σ 0 0 0) 22 ((σ.1 0 27)).toNatClampNeg m) 0 27 ((σ.1 0 27) + 1)) ((σ.1 0 27) + 1))
theorem ct_X11_hour (E : jf_E) (σ : jf_S) (m : Int32) (h0 : 0 ≤ ((σ.1 0 27)).toInt) (h4 : ((σ.1 0 27)).toInt ≤ 10) : jf_I jh_M E yX11_hour cX11_hour 2 .int 2 [jf_r E 0, .int m] σ (fun r τ => (r, τ) = m_hour σ m) := by
  refine jf_mkI (by decide) (Nat.le_of_ble_eq_true rfl) ?_
  intro G C ret
  refine jr_aload_n C dX11_hour_0 rfl ?_
  refine jr_iconst C (v := 0) dX11_hour_1 (by decide) ?_
  refine jr_puti C kp_X11_144_0 dX11_hour_2 ?_
  refine jr_iload_n C dX11_hour_5 rfl ?_
  refine jr_sip C [.int _] _ (ct_X11_isMinute E _ _) ky_X11_isMinute ks_X11_isMinute km_X11_183 (by decide) rfl (Nat.le_of_ble_eq_true rfl) dX11_hour_6 ?_
  refine jr_if_ne C 18 dX11_hour_9 (by decide) (fun b9 => ?_) (fun b9 => ?_)
  · replace b9 := jb_t b9
    refine jr_aload_n C dX11_hour_18 rfl ?_
    refine jr_getv C kf_X11_228_0 dX11_hour_19 (v := σ.1 0 27) rfl ?_
    refine jr_bipush C (v := 10) dX11_hour_22 (by decide) ?_
    refine jr_ncmp_ne C (b := 10) 34 dX11_hour_24 (by decide) rfl rfl (fun b24 => ?_) (fun b24 => ?_)
    · refine jr_aload_n C dX11_hour_34 rfl ?_
      refine jr_getr C kf_X11_74_0 dX11_hour_35 ?_
      refine jr_aload_n C dX11_hour_38 rfl ?_
      refine jr_getv C kf_X11_228_0 dX11_hour_39 (v := σ.1 0 27) rfl ?_
      refine jr_iload_n C dX11_hour_42 rfl ?_
      refine jr_iast C ka_M_22 dX11_hour_43 (ji_in (i := (σ.1 0 27)) (by omega) (by omega)) ?_
      refine jr_aload_n C dX11_hour_44 rfl ?_
      refine jr_dup C dX11_hour_45 rfl ?_
      refine jr_getv C kf_X11_228_0 dX11_hour_46 (v := σ.1 0 27) rfl ?_
      refine jr_iconst C (v := 1) dX11_hour_49 (by decide) ?_
      refine jr_iadd C dX11_hour_50 ?_
      refine jr_puti C kp_X11_228_0 dX11_hour_51 ?_
      refine jr_aload_n C dX11_hour_54 rfl ?_
      refine jr_aload_n C dX11_hour_55 rfl ?_
      refine jr_geti C kf_X11_228_0 dX11_hour_56 ?_
      refine jr_vip C [.int _] _ (ct_X11_told E _ _) ky_X11_told kv_X11_told kk_M_0 km_X11_173 (by decide) rfl (Nat.le_of_ble_eq_true rfl) dX11_hour_59 ?_
      exact ret _ _ _ _ dX11_hour_62 rfl (by unfold m_hour; (repeat' split) <;> first | (exfalso; omega) | rfl)
    · refine jr_aload_n C dX11_hour_27 rfl ?_
      refine jr_bipush C (v := -5) dX11_hour_28 (by decide) ?_
      refine jr_vip C [.int _] _ (ct_X11_told E _ _) ky_X11_told kv_X11_told kk_M_0 km_X11_173 (by decide) rfl (Nat.le_of_ble_eq_true rfl) dX11_hour_30 ?_
      exact ret _ _ _ _ dX11_hour_33 rfl (by unfold m_hour; (repeat' split) <;> first | (exfalso; omega) | rfl)
  · replace b9 := jb_f b9
    refine jr_aload_n C dX11_hour_12 rfl ?_
    refine jr_iconst C (v := -1) dX11_hour_13 (by decide) ?_
    refine jr_vip C [.int _] _ (ct_X11_told E _ _) ky_X11_told kv_X11_told kk_M_0 km_X11_173 (by decide) rfl (Nat.le_of_ble_eq_true rfl) dX11_hour_14 ?_
    exact ret _ _ _ _ dX11_hour_17 rfl (by unfold m_hour; (repeat' split) <;> first | (exfalso; omega) | rfl)
def m_doors (σ : jf_S) (m : Int32) : Int32 × jf_S :=
  if ¬ (1 ≤ m.toInt ∧ m.toInt ≤ 500) then (-1, m_told (jf_i σ 0 0 0) (-1))
  else ((σ.1 0 28), m_told (jf_i (jf_i σ 0 0 0) 0 28 m) ((σ.1 0 28)))
theorem ct_X11_doors (E : jf_E) (σ : jf_S) (m : Int32) : jf_I jh_M E yX11_doors cX11_doors 3 .int 1 [jf_r E 0, .int m] σ (fun r τ => (r, τ) = m_doors σ m) := by
  refine jf_mkI (by decide) (Nat.le_of_ble_eq_true rfl) ?_
  intro G C ret
  refine jr_aload_n C dX11_doors_0 rfl ?_
  refine jr_iconst C (v := 0) dX11_doors_1 (by decide) ?_
  refine jr_puti C kp_X11_144_0 dX11_doors_2 ?_
  refine jr_iload_n C dX11_doors_5 rfl ?_
  refine jr_i2l C dX11_doors_6 ?_
  refine jr_lconst C (v := 1) dX11_doors_7 (by decide) ?_
  refine jr_ldc2 C kc_X11_251 dX11_doors_8 ?_
  refine jr_sip C [.long _, .long _, .long _] _ (ct_X11_inw E _ _ _ _ 1 500 rfl rfl) ky_X11_in ks_X11_in km_X11_153 (by decide) rfl (Nat.le_of_ble_eq_true rfl) dX11_doors_11 ?_
  refine jr_if_ne C 23 dX11_doors_14 (by decide) (fun b14 => ?_) (fun b14 => ?_)
  · replace b14 := jb_t b14
    refine jr_aload_n C dX11_doors_23 rfl ?_
    refine jr_getv C kf_X11_77_0 dX11_doors_24 (v := σ.1 0 28) rfl ?_
    refine jr_istore_n C dX11_doors_27 (by decide) ?_
    refine jr_aload_n C dX11_doors_28 rfl ?_
    refine jr_iload_n C dX11_doors_29 rfl ?_
    refine jr_puti C kp_X11_77_0 dX11_doors_30 ?_
    refine jr_aload_n C dX11_doors_33 rfl ?_
    refine jr_iload_n C dX11_doors_34 rfl ?_
    refine jr_vip C [.int _] _ (ct_X11_told E _ _) ky_X11_told kv_X11_told kk_M_0 km_X11_173 (by decide) rfl (Nat.le_of_ble_eq_true rfl) dX11_doors_35 ?_
    exact ret _ _ _ _ dX11_doors_38 rfl (by unfold m_doors; (repeat' split) <;> first | (exfalso; omega) | rfl)
  · replace b14 := jb_f b14
    refine jr_aload_n C dX11_doors_17 rfl ?_
    refine jr_iconst C (v := -1) dX11_doors_18 (by decide) ?_
    refine jr_vip C [.int _] _ (ct_X11_told E _ _) ky_X11_told kv_X11_told kk_M_0 km_X11_173 (by decide) rfl (Nat.le_of_ble_eq_true rfl) dX11_doors_19 ?_
    exact ret _ _ _ _ dX11_doors_22 rfl (by unfold m_doors; (repeat' split) <;> first | (exfalso; omega) | rfl)
def m_juror (σ : jf_S) (a : Int32) : Int32 × jf_S :=
  if ¬ (0 ≤ a.toInt ∧ a.toInt ≤ 120) then (-1, m_told (jf_i σ 0 0 0) (-1))
  else if ((σ.1 0 35)).toInt = 10 then (-5, m_told (jf_i σ 0 0 0) (-5))
  else ((σ.1 0 35) + 1 - 1, m_told (jf_i (jf_i (jf_i σ 0 0 0) 25 ((σ.1 0 35)).toNatClampNeg a) 0 35 ((σ.1 0 35) + 1)) ((σ.1 0 35) + 1 - 1))
theorem ct_X11_juror (E : jf_E) (σ : jf_S) (a : Int32) (h0 : 0 ≤ ((σ.1 0 35)).toInt) (h4 : ((σ.1 0 35)).toInt ≤ 10) : jf_I jh_M E yX11_juror cX11_juror 2 .int 1 [jf_r E 0, .int a] σ (fun r τ => (r, τ) = m_juror σ a) := by
  refine jf_mkI (by decide) (Nat.le_of_ble_eq_true rfl) ?_
  intro G C ret
  refine jr_aload_n C dX11_juror_0 rfl ?_
  refine jr_iconst C (v := 0) dX11_juror_1 (by decide) ?_
  refine jr_puti C kp_X11_144_0 dX11_juror_2 ?_
  refine jr_iload_n C dX11_juror_5 rfl ?_
  refine jr_i2l C dX11_juror_6 ?_
  refine jr_lconst C (v := 0) dX11_juror_7 (by decide) ?_
  refine jr_ldc2 C kc_X11_169 dX11_juror_8 ?_
  refine jr_sip C [.long _, .long _, .long _] _ (ct_X11_inw E _ _ _ _ 0 120 rfl rfl) ky_X11_in ks_X11_in km_X11_153 (by decide) rfl (Nat.le_of_ble_eq_true rfl) dX11_juror_11 ?_
  refine jr_if_ne C 23 dX11_juror_14 (by decide) (fun b14 => ?_) (fun b14 => ?_)
  · replace b14 := jb_t b14
    refine jr_aload_n C dX11_juror_23 rfl ?_
    refine jr_getv C kf_X11_257_0 dX11_juror_24 (v := σ.1 0 35) rfl ?_
    refine jr_bipush C (v := 10) dX11_juror_27 (by decide) ?_
    refine jr_ncmp_ne C (b := 10) 39 dX11_juror_29 (by decide) rfl rfl (fun b29 => ?_) (fun b29 => ?_)
    · refine jr_aload_n C dX11_juror_39 rfl ?_
      refine jr_getr C kf_X11_87_0 dX11_juror_40 ?_
      refine jr_aload_n C dX11_juror_43 rfl ?_
      refine jr_getv C kf_X11_257_0 dX11_juror_44 (v := σ.1 0 35) rfl ?_
      refine jr_iload_n C dX11_juror_47 rfl ?_
      refine jr_iast C ka_M_25 dX11_juror_48 (ji_in (i := (σ.1 0 35)) (by omega) (by omega)) ?_
      refine jr_aload_n C dX11_juror_49 rfl ?_
      refine jr_dup C dX11_juror_50 rfl ?_
      refine jr_getv C kf_X11_257_0 dX11_juror_51 (v := σ.1 0 35) rfl ?_
      refine jr_iconst C (v := 1) dX11_juror_54 (by decide) ?_
      refine jr_iadd C dX11_juror_55 ?_
      refine jr_puti C kp_X11_257_0 dX11_juror_56 ?_
      refine jr_aload_n C dX11_juror_59 rfl ?_
      refine jr_aload_n C dX11_juror_60 rfl ?_
      refine jr_geti C kf_X11_257_0 dX11_juror_61 ?_
      refine jr_iconst C (v := 1) dX11_juror_64 (by decide) ?_
      refine jr_isub C dX11_juror_65 ?_
      refine jr_vip C [.int _] _ (ct_X11_told E _ _) ky_X11_told kv_X11_told kk_M_0 km_X11_173 (by decide) rfl (Nat.le_of_ble_eq_true rfl) dX11_juror_66 ?_
      exact ret _ _ _ _ dX11_juror_69 rfl (by unfold m_juror; (repeat' split) <;> first | (exfalso; omega) | rfl)
    · refine jr_aload_n C dX11_juror_32 rfl ?_
      refine jr_bipush C (v := -5) dX11_juror_33 (by decide) ?_
      refine jr_vip C [.int _] _ (ct_X11_told E _ _) ky_X11_told kv_X11_told kk_M_0 km_X11_173 (by decide) rfl (Nat.le_of_ble_eq_true rfl) dX11_juror_35 ?_
      exact ret _ _ _ _ dX11_juror_38 rfl (by unfold m_juror; (repeat' split) <;> first | (exfalso; omega) | rfl)
  · replace b14 := jb_f b14
    refine jr_aload_n C dX11_juror_17 rfl ?_
    refine jr_iconst C (v := -1) dX11_juror_18 (by decide) ?_
    refine jr_vip C [.int _] _ (ct_X11_told E _ _) ky_X11_told kv_X11_told kk_M_0 km_X11_173 (by decide) rfl (Nat.le_of_ble_eq_true rfl) dX11_juror_19 ?_
    exact ret _ _ _ _ dX11_juror_22 rfl (by unfold m_juror; (repeat' split) <;> first | (exfalso; omega) | rfl)
def m_clear (σ : jf_S) (j : Int32) : Int32 × jf_S :=
  if ¬ (0 ≤ j.toInt ∧ j.toInt < ((σ.1 0 35)).toInt) then (-2, m_told (jf_i σ 0 0 0) (-2))
  else ((σ.1 27) j.toNatClampNeg, m_told (jf_i (jf_i σ 0 0 0) 27 j.toNatClampNeg 0) ((σ.1 27) j.toNatClampNeg))
theorem ct_X11_clear (E : jf_E) (σ : jf_S) (j : Int32) (h4 : ((σ.1 0 35)).toInt ≤ 10) : jf_I jh_M E yX11_clear cX11_clear 3 .int 2 [jf_r E 0, .int j] σ (fun r τ => (r, τ) = m_clear σ j) := by
  refine jf_mkI (by decide) (Nat.le_of_ble_eq_true rfl) ?_
  intro G C ret
  refine jr_aload_n C dX11_clear_0 rfl ?_
  refine jr_iconst C (v := 0) dX11_clear_1 (by decide) ?_
  refine jr_puti C kp_X11_144_0 dX11_clear_2 ?_
  refine jr_aload_n C dX11_clear_5 rfl ?_
  refine jr_iload_n C dX11_clear_6 rfl ?_
  refine jr_vip C [.int _] _ (ct_X11_isJuror E _ _ (σ.1 0 35) rfl) ky_X11_isJuror kv_X11_isJuror kk_M_0 km_X11_260 (by decide) rfl (Nat.le_of_ble_eq_true rfl) dX11_clear_7 ?_
  refine jr_if_ne C 20 dX11_clear_10 (by decide) (fun b10 => ?_) (fun b10 => ?_)
  · replace b10 := jb_t b10
    refine jr_aload_n C dX11_clear_20 rfl ?_
    refine jr_getr C kf_X11_93_0 dX11_clear_21 ?_
    refine jr_iload_n C dX11_clear_24 rfl ?_
    refine jr_ialv C ka_M_27 dX11_clear_25 (ji_in (i := j) (by omega) (by omega)) (v := σ.1 27 _) rfl ?_
    refine jr_istore_n C dX11_clear_26 (by decide) ?_
    refine jr_aload_n C dX11_clear_27 rfl ?_
    refine jr_getr C kf_X11_93_0 dX11_clear_28 ?_
    refine jr_iload_n C dX11_clear_31 rfl ?_
    refine jr_iconst C (v := 0) dX11_clear_32 (by decide) ?_
    refine jr_iast C ka_M_27 dX11_clear_33 (ji_in (i := j) (by omega) (by omega)) ?_
    refine jr_aload_n C dX11_clear_34 rfl ?_
    refine jr_iload_n C dX11_clear_35 rfl ?_
    refine jr_vip C [.int _] _ (ct_X11_told E _ _) ky_X11_told kv_X11_told kk_M_0 km_X11_173 (by decide) rfl (Nat.le_of_ble_eq_true rfl) dX11_clear_36 ?_
    exact ret _ _ _ _ dX11_clear_39 rfl (by unfold m_clear; (repeat' split) <;> first | (exfalso; omega) | rfl)
  · replace b10 := jb_f b10
    refine jr_aload_n C dX11_clear_13 rfl ?_
    refine jr_bipush C (v := -2) dX11_clear_14 (by decide) ?_
    refine jr_vip C [.int _] _ (ct_X11_told E _ _) ky_X11_told kv_X11_told kk_M_0 km_X11_173 (by decide) rfl (Nat.le_of_ble_eq_true rfl) dX11_clear_16 ?_
    exact ret _ _ _ _ dX11_clear_19 rfl (by unfold m_clear; (repeat' split) <;> first | (exfalso; omega) | rfl)
def m_row (σ : jf_S) (s j f k : Int32) : Int32 × jf_S :=
  if ¬ ((0 ≤ s.toInt ∧ s.toInt ≤ 1) ∧ (0 ≤ k.toInt ∧ k.toInt ≤ 100000)) then (-1, m_told (jf_i σ 0 0 0) (-1))
  else if ¬ ((0 ≤ j.toInt ∧ j.toInt < ((σ.1 0 35)).toInt) ∧ (0 ≤ f.toInt ∧ f.toInt < ((σ.1 0 7)).toInt)) then (-2, m_told (jf_i σ 0 0 0) (-2))
  else if ((σ.1 0 39)).toInt = 100 then (-5, m_told (jf_i σ 0 0 0) (-5))
  else ((σ.1 0 39) + 1, m_told (jf_i (jf_i (jf_i (jf_i (jf_i (jf_i σ 0 0 0) 28 ((σ.1 0 39)).toNatClampNeg s) 29 ((σ.1 0 39)).toNatClampNeg j) 30 ((σ.1 0 39)).toNatClampNeg f) 31 ((σ.1 0 39)).toNatClampNeg k) 0 39 ((σ.1 0 39) + 1)) ((σ.1 0 39) + 1))
theorem ct_X11_row (E : jf_E) (σ : jf_S) (s j f k : Int32) (h0 : 0 ≤ ((σ.1 0 39)).toInt) (h4 : ((σ.1 0 39)).toInt ≤ 100) : jf_I jh_M E yX11_row cX11_row 5 .int 2 [jf_r E 0, .int s, .int j, .int f, .int k] σ (fun r τ => (r, τ) = m_row σ s j f k) := by
  refine jf_mkI (by decide) (Nat.le_of_ble_eq_true rfl) ?_
  intro G C ret
  refine jr_aload_n C dX11_row_0 rfl ?_
  refine jr_iconst C (v := 0) dX11_row_1 (by decide) ?_
  refine jr_puti C kp_X11_144_0 dX11_row_2 ?_
  refine jr_iload_n C dX11_row_5 rfl ?_
  refine jr_i2l C dX11_row_6 ?_
  refine jr_lconst C (v := 0) dX11_row_7 (by decide) ?_
  refine jr_lconst C (v := 1) dX11_row_8 (by decide) ?_
  refine jr_sip C [.long _, .long _, .long _] _ (ct_X11_inw E _ _ _ _ 0 1 rfl rfl) ky_X11_in ks_X11_in km_X11_153 (by decide) rfl (Nat.le_of_ble_eq_true rfl) dX11_row_9 ?_
  refine jr_if_eq C 28 dX11_row_12 (by decide) (fun b12 => ?_) (fun b12 => ?_)
  · replace b12 := jb_f b12
    refine jr_aload_n C dX11_row_28 rfl ?_
    refine jr_iconst C (v := -1) dX11_row_29 (by decide) ?_
    refine jr_vip C [.int _] _ (ct_X11_told E _ _) ky_X11_told kv_X11_told kk_M_0 km_X11_173 (by decide) rfl (Nat.le_of_ble_eq_true rfl) dX11_row_30 ?_
    exact ret _ _ _ _ dX11_row_33 rfl (by unfold m_row; (repeat' split) <;> first | (exfalso; omega) | rfl)
  · replace b12 := jb_t b12
    refine jr_iload C dX11_row_15 rfl ?_
    refine jr_i2l C dX11_row_17 ?_
    refine jr_lconst C (v := 0) dX11_row_18 (by decide) ?_
    refine jr_ldc2 C kc_X11_267 dX11_row_19 ?_
    refine jr_sip C [.long _, .long _, .long _] _ (ct_X11_inw E _ _ _ _ 0 100000 rfl rfl) ky_X11_in ks_X11_in km_X11_153 (by decide) rfl (Nat.le_of_ble_eq_true rfl) dX11_row_22 ?_
    refine jr_if_ne C 34 dX11_row_25 (by decide) (fun b25 => ?_) (fun b25 => ?_)
    · replace b25 := jb_t b25
      refine jr_aload_n C dX11_row_34 rfl ?_
      refine jr_iload_n C dX11_row_35 rfl ?_
      refine jr_vip C [.int _] _ (ct_X11_isJuror E _ _ (σ.1 0 35) rfl) ky_X11_isJuror kv_X11_isJuror kk_M_0 km_X11_260 (by decide) rfl (Nat.le_of_ble_eq_true rfl) dX11_row_36 ?_
      refine jr_if_eq C 50 dX11_row_39 (by decide) (fun b39 => ?_) (fun b39 => ?_)
      · replace b39 := jb_f b39
        refine jr_aload_n C dX11_row_50 rfl ?_
        refine jr_bipush C (v := -2) dX11_row_51 (by decide) ?_
        refine jr_vip C [.int _] _ (ct_X11_told E _ _) ky_X11_told kv_X11_told kk_M_0 km_X11_173 (by decide) rfl (Nat.le_of_ble_eq_true rfl) dX11_row_53 ?_
        exact ret _ _ _ _ dX11_row_56 rfl (by unfold m_row; (repeat' split) <;> first | (exfalso; omega) | rfl)
      · replace b39 := jb_t b39
        refine jr_aload_n C dX11_row_42 rfl ?_
        refine jr_iload_n C dX11_row_43 rfl ?_
        refine jr_vip C [.int _] _ (ct_X11_isFilm E _ _ (σ.1 0 7) rfl) ky_X11_isFilm kv_X11_isFilm kk_M_0 km_X11_187 (by decide) rfl (Nat.le_of_ble_eq_true rfl) dX11_row_44 ?_
        refine jr_if_ne C 57 dX11_row_47 (by decide) (fun b47 => ?_) (fun b47 => ?_)
        · replace b47 := jb_t b47
          refine jr_aload_n C dX11_row_57 rfl ?_
          refine jr_getv C kf_X11_269_0 dX11_row_58 (v := σ.1 0 39) rfl ?_
          refine jr_bipush C (v := 100) dX11_row_61 (by decide) ?_
          refine jr_ncmp_ne C (b := 100) 73 dX11_row_63 (by decide) rfl rfl (fun b63 => ?_) (fun b63 => ?_)
          · refine jr_aload_n C dX11_row_73 rfl ?_
            refine jr_getr C kf_X11_96_0 dX11_row_74 ?_
            refine jr_aload_n C dX11_row_77 rfl ?_
            refine jr_getv C kf_X11_269_0 dX11_row_78 (v := σ.1 0 39) rfl ?_
            refine jr_iload_n C dX11_row_81 rfl ?_
            refine jr_iast C ka_M_28 dX11_row_82 (ji_in (i := (σ.1 0 39)) (by omega) (by omega)) ?_
            refine jr_aload_n C dX11_row_83 rfl ?_
            refine jr_getr C kf_X11_99_0 dX11_row_84 ?_
            refine jr_aload_n C dX11_row_87 rfl ?_
            refine jr_getv C kf_X11_269_0 dX11_row_88 (v := σ.1 0 39) rfl ?_
            refine jr_iload_n C dX11_row_91 rfl ?_
            refine jr_iast C ka_M_29 dX11_row_92 (ji_in (i := (σ.1 0 39)) (by omega) (by omega)) ?_
            refine jr_aload_n C dX11_row_93 rfl ?_
            refine jr_getr C kf_X11_102_0 dX11_row_94 ?_
            refine jr_aload_n C dX11_row_97 rfl ?_
            refine jr_getv C kf_X11_269_0 dX11_row_98 (v := σ.1 0 39) rfl ?_
            refine jr_iload_n C dX11_row_101 rfl ?_
            refine jr_iast C ka_M_30 dX11_row_102 (ji_in (i := (σ.1 0 39)) (by omega) (by omega)) ?_
            refine jr_aload_n C dX11_row_103 rfl ?_
            refine jr_getr C kf_X11_105_0 dX11_row_104 ?_
            refine jr_aload_n C dX11_row_107 rfl ?_
            refine jr_getv C kf_X11_269_0 dX11_row_108 (v := σ.1 0 39) rfl ?_
            refine jr_iload C dX11_row_111 rfl ?_
            refine jr_iast C ka_M_31 dX11_row_113 (ji_in (i := (σ.1 0 39)) (by omega) (by omega)) ?_
            refine jr_aload_n C dX11_row_114 rfl ?_
            refine jr_dup C dX11_row_115 rfl ?_
            refine jr_getv C kf_X11_269_0 dX11_row_116 (v := σ.1 0 39) rfl ?_
            refine jr_iconst C (v := 1) dX11_row_119 (by decide) ?_
            refine jr_iadd C dX11_row_120 ?_
            refine jr_puti C kp_X11_269_0 dX11_row_121 ?_
            refine jr_aload_n C dX11_row_124 rfl ?_
            refine jr_aload_n C dX11_row_125 rfl ?_
            refine jr_geti C kf_X11_269_0 dX11_row_126 ?_
            refine jr_vip C [.int _] _ (ct_X11_told E _ _) ky_X11_told kv_X11_told kk_M_0 km_X11_173 (by decide) rfl (Nat.le_of_ble_eq_true rfl) dX11_row_129 ?_
            exact ret _ _ _ _ dX11_row_132 rfl (by unfold m_row; (repeat' split) <;> first | (exfalso; omega) | rfl)
          · refine jr_aload_n C dX11_row_66 rfl ?_
            refine jr_bipush C (v := -5) dX11_row_67 (by decide) ?_
            refine jr_vip C [.int _] _ (ct_X11_told E _ _) ky_X11_told kv_X11_told kk_M_0 km_X11_173 (by decide) rfl (Nat.le_of_ble_eq_true rfl) dX11_row_69 ?_
            exact ret _ _ _ _ dX11_row_72 rfl (by unfold m_row; (repeat' split) <;> first | (exfalso; omega) | rfl)
        · replace b47 := jb_f b47
          refine jr_aload_n C dX11_row_50 rfl ?_
          refine jr_bipush C (v := -2) dX11_row_51 (by decide) ?_
          refine jr_vip C [.int _] _ (ct_X11_told E _ _) ky_X11_told kv_X11_told kk_M_0 km_X11_173 (by decide) rfl (Nat.le_of_ble_eq_true rfl) dX11_row_53 ?_
          exact ret _ _ _ _ dX11_row_56 rfl (by unfold m_row; (repeat' split) <;> first | (exfalso; omega) | rfl)
    · replace b25 := jb_f b25
      refine jr_aload_n C dX11_row_28 rfl ?_
      refine jr_iconst C (v := -1) dX11_row_29 (by decide) ?_
      refine jr_vip C [.int _] _ (ct_X11_told E _ _) ky_X11_told kv_X11_told kk_M_0 km_X11_173 (by decide) rfl (Nat.le_of_ble_eq_true rfl) dX11_row_30 ?_
      exact ret _ _ _ _ dX11_row_33 rfl (by unfold m_row; (repeat' split) <;> first | (exfalso; omega) | rfl)
def m_delay (σ : jf_S) (s m : Int32) : Int32 × jf_S :=
  if ¬ (0 ≤ m.toInt ∧ m.toInt ≤ 300) then (-1, m_told (jf_i σ 0 0 0) (-1))
  else if ¬ (0 ≤ s.toInt ∧ s.toInt < ((σ.1 0 17)).toInt ∧ ¬ (σ.1 14) s.toNatClampNeg = 0) then (-2, m_told (jf_i σ 0 0 0) (-2))
  else (0, m_told (jf_i (jf_i σ 0 0 0) 19 s.toNatClampNeg m) 0)
theorem ct_X11_delay (E : jf_E) (σ : jf_S) (s m : Int32) (h4 : ((σ.1 0 17)).toInt ≤ 60) : jf_I jh_M E yX11_delay cX11_delay 3 .int 2 [jf_r E 0, .int s, .int m] σ (fun r τ => (r, τ) = m_delay σ s m) := by
  refine jf_mkI (by decide) (Nat.le_of_ble_eq_true rfl) ?_
  intro G C ret
  refine jr_aload_n C dX11_delay_0 rfl ?_
  refine jr_iconst C (v := 0) dX11_delay_1 (by decide) ?_
  refine jr_puti C kp_X11_144_0 dX11_delay_2 ?_
  refine jr_iload_n C dX11_delay_5 rfl ?_
  refine jr_i2l C dX11_delay_6 ?_
  refine jr_lconst C (v := 0) dX11_delay_7 (by decide) ?_
  refine jr_ldc2 C kc_X11_177 dX11_delay_8 ?_
  refine jr_sip C [.long _, .long _, .long _] _ (ct_X11_inw E _ _ _ _ 0 300 rfl rfl) ky_X11_in ks_X11_in km_X11_153 (by decide) rfl (Nat.le_of_ble_eq_true rfl) dX11_delay_11 ?_
  refine jr_if_ne C 23 dX11_delay_14 (by decide) (fun b14 => ?_) (fun b14 => ?_)
  · replace b14 := jb_t b14
    refine jr_aload_n C dX11_delay_23 rfl ?_
    refine jr_iload_n C dX11_delay_24 rfl ?_
    refine jr_vip C [.int _] _ (ct_X11_isShowing E _ _ (σ.1 0 17) (σ.1 14) rfl rfl (by omega)) ky_X11_isShowing kv_X11_isShowing kk_M_0 km_X11_204 (by decide) rfl (Nat.le_of_ble_eq_true rfl) dX11_delay_25 ?_
    refine jr_if_ne C 38 dX11_delay_28 (by decide) (fun b28 => ?_) (fun b28 => ?_)
    · replace b28 := jb_t b28
      refine jr_aload_n C dX11_delay_38 rfl ?_
      refine jr_getr C kf_X11_65_0 dX11_delay_39 ?_
      refine jr_iload_n C dX11_delay_42 rfl ?_
      refine jr_iload_n C dX11_delay_43 rfl ?_
      refine jr_iast C ka_M_19 dX11_delay_44 (ji_in (i := s) (by omega) (by omega)) ?_
      refine jr_aload_n C dX11_delay_45 rfl ?_
      refine jr_iconst C (v := 0) dX11_delay_46 (by decide) ?_
      refine jr_vip C [.int _] _ (ct_X11_told E _ _) ky_X11_told kv_X11_told kk_M_0 km_X11_173 (by decide) rfl (Nat.le_of_ble_eq_true rfl) dX11_delay_47 ?_
      exact ret _ _ _ _ dX11_delay_50 rfl (by unfold m_delay; (repeat' split) <;> first | contradiction | (exfalso; omega) | rfl)
    · replace b28 := jb_f b28
      refine jr_aload_n C dX11_delay_31 rfl ?_
      refine jr_bipush C (v := -2) dX11_delay_32 (by decide) ?_
      refine jr_vip C [.int _] _ (ct_X11_told E _ _) ky_X11_told kv_X11_told kk_M_0 km_X11_173 (by decide) rfl (Nat.le_of_ble_eq_true rfl) dX11_delay_34 ?_
      exact ret _ _ _ _ dX11_delay_37 rfl (by unfold m_delay; (repeat' split) <;> first | contradiction | (exfalso; omega) | rfl)
  · replace b14 := jb_f b14
    refine jr_aload_n C dX11_delay_17 rfl ?_
    refine jr_iconst C (v := -1) dX11_delay_18 (by decide) ?_
    refine jr_vip C [.int _] _ (ct_X11_told E _ _) ky_X11_told kv_X11_told kk_M_0 km_X11_173 (by decide) rfl (Nat.le_of_ble_eq_true rfl) dX11_delay_19 ?_
    exact ret _ _ _ _ dX11_delay_22 rfl (by unfold m_delay; (repeat' split) <;> first | contradiction | (exfalso; omega) | rfl)
def m_take (σ : jf_S) (s : Int32) : Int32 × jf_S :=
  if ¬ (0 ≤ s.toInt ∧ s.toInt < ((σ.1 0 17)).toInt ∧ ¬ (σ.1 14) s.toNatClampNeg = 0) then (-2, m_told (jf_i σ 0 0 0) (-2))
  else (0, m_told (jf_i (jf_i σ 0 0 0) 14 s.toNatClampNeg 0) 0)
theorem ct_X11_take (E : jf_E) (σ : jf_S) (s : Int32) (h4 : ((σ.1 0 17)).toInt ≤ 60) : jf_I jh_M E yX11_take cX11_take 2 .int 2 [jf_r E 0, .int s] σ (fun r τ => (r, τ) = m_take σ s) := by
  refine jf_mkI (by decide) (Nat.le_of_ble_eq_true rfl) ?_
  intro G C ret
  refine jr_aload_n C dX11_take_0 rfl ?_
  refine jr_iconst C (v := 0) dX11_take_1 (by decide) ?_
  refine jr_puti C kp_X11_144_0 dX11_take_2 ?_
  refine jr_aload_n C dX11_take_5 rfl ?_
  refine jr_iload_n C dX11_take_6 rfl ?_
  refine jr_vip C [.int _] _ (ct_X11_isShowing E _ _ (σ.1 0 17) (σ.1 14) rfl rfl (by omega)) ky_X11_isShowing kv_X11_isShowing kk_M_0 km_X11_204 (by decide) rfl (Nat.le_of_ble_eq_true rfl) dX11_take_7 ?_
  refine jr_if_ne C 20 dX11_take_10 (by decide) (fun b10 => ?_) (fun b10 => ?_)
  · replace b10 := jb_t b10
    refine jr_aload_n C dX11_take_20 rfl ?_
    refine jr_getr C kf_X11_49_0 dX11_take_21 ?_
    refine jr_iload_n C dX11_take_24 rfl ?_
    refine jr_iconst C (v := 0) dX11_take_25 (by decide) ?_
    refine jr_zast C ka_M_14 dX11_take_26 (ji_in (i := s) (by omega) (by omega)) (Or.inl rfl) ?_
    refine jr_aload_n C dX11_take_27 rfl ?_
    refine jr_iconst C (v := 0) dX11_take_28 (by decide) ?_
    refine jr_vip C [.int _] _ (ct_X11_told E _ _) ky_X11_told kv_X11_told kk_M_0 km_X11_173 (by decide) rfl (Nat.le_of_ble_eq_true rfl) dX11_take_29 ?_
    exact ret _ _ _ _ dX11_take_32 rfl (by unfold m_take; (repeat' split) <;> first | contradiction | (exfalso; omega) | rfl)
  · replace b10 := jb_f b10
    refine jr_aload_n C dX11_take_13 rfl ?_
    refine jr_bipush C (v := -2) dX11_take_14 (by decide) ?_
    refine jr_vip C [.int _] _ (ct_X11_told E _ _) ky_X11_told kv_X11_told kk_M_0 km_X11_173 (by decide) rfl (Nat.le_of_ble_eq_true rfl) dX11_take_16 ?_
    exact ret _ _ _ _ dX11_take_19 rfl (by unfold m_take; (repeat' split) <;> first | contradiction | (exfalso; omega) | rfl)
def m_come (σ : jf_S) (s m p : Int32) : Int32 × jf_S :=
  if ¬ ((-40 ≤ m.toInt ∧ m.toInt ≤ 10) ∧ (0 ≤ p.toInt ∧ p.toInt ≤ 1000)) then (-1, m_told (jf_i σ 0 0 0) (-1))
  else if ¬ (0 ≤ s.toInt ∧ s.toInt < ((σ.1 0 17)).toInt ∧ ¬ (σ.1 14) s.toNatClampNeg = 0) then (-2, m_told (jf_i σ 0 0 0) (-2))
  else (0, m_told (jf_i (jf_i σ 0 0 0) 20 (51 * s + m + 40).toNatClampNeg p) 0)
theorem ct_X11_come (E : jf_E) (σ : jf_S) (s m p : Int32) (h4 : ((σ.1 0 17)).toInt ≤ 60) : jf_I jh_M E yX11_come cX11_come 4 .int 2 [jf_r E 0, .int s, .int m, .int p] σ (fun r τ => (r, τ) = m_come σ s m p) := by
  refine jf_mkI (by decide) (Nat.le_of_ble_eq_true rfl) ?_
  intro G C ret
  refine jr_aload_n C dX11_come_0 rfl ?_
  refine jr_iconst C (v := 0) dX11_come_1 (by decide) ?_
  refine jr_puti C kp_X11_144_0 dX11_come_2 ?_
  refine jr_iload_n C dX11_come_5 rfl ?_
  refine jr_i2l C dX11_come_6 ?_
  refine jr_ldc2 C kc_X11_247 dX11_come_7 ?_
  refine jr_ldc2 C kc_X11_249 dX11_come_10 ?_
  refine jr_sip C [.long _, .long _, .long _] _ (ct_X11_inw E _ _ _ _ (-40) 10 rfl rfl) ky_X11_in ks_X11_in km_X11_153 (by decide) rfl (Nat.le_of_ble_eq_true rfl) dX11_come_13 ?_
  refine jr_if_eq C 31 dX11_come_16 (by decide) (fun b16 => ?_) (fun b16 => ?_)
  · replace b16 := jb_f b16
    refine jr_aload_n C dX11_come_31 rfl ?_
    refine jr_iconst C (v := -1) dX11_come_32 (by decide) ?_
    refine jr_vip C [.int _] _ (ct_X11_told E _ _) ky_X11_told kv_X11_told kk_M_0 km_X11_173 (by decide) rfl (Nat.le_of_ble_eq_true rfl) dX11_come_33 ?_
    exact ret _ _ _ _ dX11_come_36 rfl (by unfold m_come; (repeat' split) <;> first | contradiction | (exfalso; omega) | rfl)
  · replace b16 := jb_t b16
    refine jr_iload_n C dX11_come_19 rfl ?_
    refine jr_i2l C dX11_come_20 ?_
    refine jr_lconst C (v := 0) dX11_come_21 (by decide) ?_
    refine jr_ldc2 C kc_X11_181 dX11_come_22 ?_
    refine jr_sip C [.long _, .long _, .long _] _ (ct_X11_inw E _ _ _ _ 0 1000 rfl rfl) ky_X11_in ks_X11_in km_X11_153 (by decide) rfl (Nat.le_of_ble_eq_true rfl) dX11_come_25 ?_
    refine jr_if_ne C 37 dX11_come_28 (by decide) (fun b28 => ?_) (fun b28 => ?_)
    · replace b28 := jb_t b28
      refine jr_aload_n C dX11_come_37 rfl ?_
      refine jr_iload_n C dX11_come_38 rfl ?_
      refine jr_vip C [.int _] _ (ct_X11_isShowing E _ _ (σ.1 0 17) (σ.1 14) rfl rfl (by omega)) ky_X11_isShowing kv_X11_isShowing kk_M_0 km_X11_204 (by decide) rfl (Nat.le_of_ble_eq_true rfl) dX11_come_39 ?_
      refine jr_if_ne C 52 dX11_come_42 (by decide) (fun b42 => ?_) (fun b42 => ?_)
      · replace b42 := jb_t b42
        refine jr_aload_n C dX11_come_52 rfl ?_
        refine jr_getr C kf_X11_68_0 dX11_come_53 ?_
        refine jr_bipush C (v := 51) dX11_come_56 (by decide) ?_
        refine jr_iload_n C dX11_come_58 rfl ?_
        refine jr_imul C dX11_come_59 ?_
        refine jr_iload_n C dX11_come_60 rfl ?_
        refine jr_iadd C dX11_come_61 ?_
        refine jr_bipush C (v := 40) dX11_come_62 (by decide) ?_
        refine jr_iadd C dX11_come_64 ?_
        refine jr_iload_n C dX11_come_65 rfl ?_
        refine jr_iast C ka_M_20 dX11_come_66 (ji_lin3 51 40 rfl rfl (by omega) (by omega) (by omega)) ?_
        refine jr_aload_n C dX11_come_67 rfl ?_
        refine jr_iconst C (v := 0) dX11_come_68 (by decide) ?_
        refine jr_vip C [.int _] _ (ct_X11_told E _ _) ky_X11_told kv_X11_told kk_M_0 km_X11_173 (by decide) rfl (Nat.le_of_ble_eq_true rfl) dX11_come_69 ?_
        exact ret _ _ _ _ dX11_come_72 rfl (by unfold m_come; (repeat' split) <;> first | contradiction | (exfalso; omega) | rfl)
      · replace b42 := jb_f b42
        refine jr_aload_n C dX11_come_45 rfl ?_
        refine jr_bipush C (v := -2) dX11_come_46 (by decide) ?_
        refine jr_vip C [.int _] _ (ct_X11_told E _ _) ky_X11_told kv_X11_told kk_M_0 km_X11_173 (by decide) rfl (Nat.le_of_ble_eq_true rfl) dX11_come_48 ?_
        exact ret _ _ _ _ dX11_come_51 rfl (by unfold m_come; (repeat' split) <;> first | contradiction | (exfalso; omega) | rfl)
    · replace b28 := jb_f b28
      refine jr_aload_n C dX11_come_31 rfl ?_
      refine jr_iconst C (v := -1) dX11_come_32 (by decide) ?_
      refine jr_vip C [.int _] _ (ct_X11_told E _ _) ky_X11_told kv_X11_told kk_M_0 km_X11_173 (by decide) rfl (Nat.le_of_ble_eq_true rfl) dX11_come_33 ?_
      exact ret _ _ _ _ dX11_come_36 rfl (by unfold m_come; (repeat' split) <;> first | contradiction | (exfalso; omega) | rfl)
def m_end (σ : jf_S) (n : Int32) : Int32 × jf_S :=
  if n.toInt < 0 ∨ ((σ.1 0 58)).toInt < n.toInt then (-1, jf_i σ 0 0 0)
  else (n, jf_i (jf_i σ 0 0 0) 0 58 n)
theorem ct_X11_end (E : jf_E) (σ : jf_S) (n : Int32) : jf_I jh_M E yX11_end cX11_end 2 .int 0 [jf_r E 0, .int n] σ (fun r τ => (r, τ) = m_end σ n) := by
  refine jf_mkI (by decide) (Nat.le_of_ble_eq_true rfl) ?_
  intro G C ret
  refine jr_aload_n C dX11_end_0 rfl ?_
  refine jr_iconst C (v := 0) dX11_end_1 (by decide) ?_
  refine jr_puti C kp_X11_144_0 dX11_end_2 ?_
  refine jr_iload_n C dX11_end_5 rfl ?_
  refine jr_nif_lt C 17 dX11_end_6 (by decide) (fun b6 => ?_) (fun b6 => ?_)
  · refine jr_iconst C (v := -1) dX11_end_17 (by decide) ?_
    exact ret _ _ _ _ dX11_end_18 rfl (by unfold m_end; (repeat' split) <;> first | (exfalso; omega) | rfl)
  · refine jr_iload_n C dX11_end_9 rfl ?_
    refine jr_aload_n C dX11_end_10 rfl ?_
    refine jr_getv C kf_X11_272_0 dX11_end_11 (v := σ.1 0 58) rfl ?_
    refine jr_ncmp_le C 19 dX11_end_14 (by decide) rfl rfl (fun b14 => ?_) (fun b14 => ?_)
    · refine jr_aload_n C dX11_end_19 rfl ?_
      refine jr_iload_n C dX11_end_20 rfl ?_
      refine jr_puti C kp_X11_272_0 dX11_end_21 ?_
      refine jr_iload_n C dX11_end_24 rfl ?_
      exact ret _ _ _ _ dX11_end_25 rfl (by unfold m_end; (repeat' split) <;> first | (exfalso; omega) | rfl)
    · refine jr_iconst C (v := -1) dX11_end_17 (by decide) ?_
      exact ret _ _ _ _ dX11_end_18 rfl (by unfold m_end; (repeat' split) <;> first | (exfalso; omega) | rfl)
theorem ct_X11_status (E : jf_E) (σ : jf_S) : jf_I jh_M E yX11_status cX11_status 1 .int 0 [jf_r E 0] σ (fun r τ => (r, τ) = ((σ.1 0 1), jf_i σ 0 0 0)) := by
  refine jf_mkI (by decide) (Nat.le_of_ble_eq_true rfl) ?_
  intro G C ret
  refine jr_aload_n C dX11_status_0 rfl ?_
  refine jr_iconst C (v := 0) dX11_status_1 (by decide) ?_
  refine jr_puti C kp_X11_144_0 dX11_status_2 ?_
  refine jr_aload_n C dX11_status_5 rfl ?_
  refine jr_getv C kf_X11_147_0 dX11_status_6 (v := σ.1 0 1) rfl ?_
  exact ret _ _ _ _ dX11_status_9 rfl (rfl)
theorem ct_X11_fault (E : jf_E) (σ : jf_S) : jf_I jh_M E yX11_fault cX11_fault 1 .int 0 [jf_r E 0] σ (fun r τ => (r, τ) = ((σ.1 0 63), jf_i σ 0 0 0)) := by
  refine jf_mkI (by decide) (Nat.le_of_ble_eq_true rfl) ?_
  intro G C ret
  refine jr_aload_n C dX11_fault_0 rfl ?_
  refine jr_iconst C (v := 0) dX11_fault_1 (by decide) ?_
  refine jr_puti C kp_X11_144_0 dX11_fault_2 ?_
  refine jr_aload_n C dX11_fault_5 rfl ?_
  refine jr_getv C kf_X11_126_0 dX11_fault_6 (v := σ.1 0 63) rfl ?_
  exact ret _ _ _ _ dX11_fault_9 rfl (rfl)
def m_round (σ : jf_S) (k f : Int32) : Int32 × jf_S :=
  if ((σ.1 0 69)).toInt < 0 then (-1, jf_i σ 0 0 0)
  else if k.toInt = -1 then ((σ.1 0 69), jf_i σ 0 0 0)
  else if (0 ≤ k.toInt ∧ k.toInt < ((σ.1 0 69)).toInt) ∧ (0 ≤ f.toInt ∧ f.toInt < ((σ.1 0 7)).toInt) then ((σ.1 41) (20 * k + f).toNatClampNeg, jf_i σ 0 0 0)
  else (-1, jf_i σ 0 0 0)
theorem ct_X11_round (E : jf_E) (σ : jf_S) (k f : Int32) (h4 : ((σ.1 0 7)).toInt ≤ 20) (h5 : ((σ.1 0 69)).toInt ≤ 21) : jf_I jh_M E yX11_round cX11_round 3 .int 2 [jf_r E 0, .int k, .int f] σ (fun r τ => (r, τ) = m_round σ k f) := by
  refine jf_mkI (by decide) (Nat.le_of_ble_eq_true rfl) ?_
  intro G C ret
  refine jr_aload_n C dX11_round_0 rfl ?_
  refine jr_iconst C (v := 0) dX11_round_1 (by decide) ?_
  refine jr_puti C kp_X11_144_0 dX11_round_2 ?_
  refine jr_aload_n C dX11_round_5 rfl ?_
  refine jr_getv C kf_X11_141_0 dX11_round_6 (v := σ.1 0 69) rfl ?_
  refine jr_nif_ge C 14 dX11_round_9 (by decide) (fun b9 => ?_) (fun b9 => ?_)
  · refine jr_iload_n C dX11_round_14 rfl ?_
    refine jr_iconst C (v := -1) dX11_round_15 (by decide) ?_
    refine jr_ncmp_ne C (b := -1) 24 dX11_round_16 (by decide) rfl rfl (fun b16 => ?_) (fun b16 => ?_)
    · refine jr_iload_n C dX11_round_24 rfl ?_
      refine jr_i2l C dX11_round_25 ?_
      refine jr_lconst C (v := 0) dX11_round_26 (by decide) ?_
      refine jr_aload_n C dX11_round_27 rfl ?_
      refine jr_getv C kf_X11_141_0 dX11_round_28 (v := σ.1 0 69) rfl ?_
      refine jr_i2l C dX11_round_31 ?_
      refine jr_lconst C (v := 1) dX11_round_32 (by decide) ?_
      refine jr_lsub C dX11_round_33 ?_
      refine jr_sip C [.long _, .long _, .long _] _ (ct_X11_in E _ _ _ _) ky_X11_in ks_X11_in km_X11_153 (by decide) rfl (Nat.le_of_ble_eq_true rfl) dX11_round_34 ?_
      refine jr_if_eq C 62 dX11_round_37 (by decide) (fun b37 => ?_) (fun b37 => ?_)
      · replace b37 := jb_f b37
        have b37 : _ := b37; rw [jl_w, jl_m1, jl_0] at b37
        refine jr_iconst C (v := -1) dX11_round_62 (by decide) ?_
        exact ret _ _ _ _ dX11_round_63 rfl (by unfold m_round; (repeat' split) <;> first | (exfalso; omega) | rfl)
      · replace b37 := jb_t b37
        have b37 : _ := b37; rw [jl_w, jl_m1, jl_0] at b37
        refine jr_aload_n C dX11_round_40 rfl ?_
        refine jr_iload_n C dX11_round_41 rfl ?_
        refine jr_vip C [.int _] _ (ct_X11_isFilm E _ _ (σ.1 0 7) rfl) ky_X11_isFilm kv_X11_isFilm kk_M_0 km_X11_187 (by decide) rfl (Nat.le_of_ble_eq_true rfl) dX11_round_42 ?_
        refine jr_if_eq C 62 dX11_round_45 (by decide) (fun b45 => ?_) (fun b45 => ?_)
        · replace b45 := jb_f b45
          refine jr_iconst C (v := -1) dX11_round_62 (by decide) ?_
          exact ret _ _ _ _ dX11_round_63 rfl (by unfold m_round; (repeat' split) <;> first | (exfalso; omega) | rfl)
        · replace b45 := jb_t b45
          refine jr_aload_n C dX11_round_48 rfl ?_
          refine jr_getr C kf_X11_138_0 dX11_round_49 ?_
          refine jr_bipush C (v := 20) dX11_round_52 (by decide) ?_
          refine jr_iload_n C dX11_round_54 rfl ?_
          refine jr_imul C dX11_round_55 ?_
          refine jr_iload_n C dX11_round_56 rfl ?_
          refine jr_iadd C dX11_round_57 ?_
          refine jr_ialv C ka_M_41 dX11_round_58 (ji_lin 20 20 rfl (by omega) (by omega) (by omega) (by omega)) (v := σ.1 41 _) rfl ?_
          refine jr_goto C 63 dX11_round_59 (by decide) ?_
          exact ret _ _ _ _ dX11_round_63 rfl (by unfold m_round; (repeat' split) <;> first | (exfalso; omega) | rfl)
    · refine jr_aload_n C dX11_round_19 rfl ?_
      refine jr_getv C kf_X11_141_0 dX11_round_20 (v := σ.1 0 69) rfl ?_
      exact ret _ _ _ _ dX11_round_23 rfl (by unfold m_round; (repeat' split) <;> first | (exfalso; omega) | rfl)
  · refine jr_iconst C (v := -1) dX11_round_12 (by decide) ?_
    exact ret _ _ _ _ dX11_round_13 rfl (by unfold m_round; (repeat' split) <;> first | (exfalso; omega) | rfl)

