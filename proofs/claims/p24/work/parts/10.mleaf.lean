/-! the reference: leaves -/
def m_told (σ : jf_S) (v : Int32) : jf_S := jf_i σ 0 1 (if v < 0 then v else 0)
theorem ct_X11_in (E : jf_E) (σ : jf_S) (v low high : Int64) : jf_I jh_M E yX11_in cX11_in 6 .boolean 0 [.long v, .long low, .long high] σ (fun r τ => r = jb (low.toInt ≤ v.toInt ∧ v.toInt ≤ high.toInt) ∧ τ = σ) := by
  refine jf_mkI (by decide) (Nat.le_of_ble_eq_true rfl) ?_
  intro G C ret
  refine jr_lload_n C dX11_in_0 rfl ?_
  refine jr_lload_n C dX11_in_1 rfl ?_
  refine jr_lcmp C dX11_in_2 ?_
  refine jr_if_lt C 17 dX11_in_3 (by decide) (fun b3 => ?_) (fun b3 => ?_)
  · refine jr_iconst C (v := 0) dX11_in_17 (by decide) ?_
    exact ret _ _ _ _ dX11_in_18 (rfl) (⟨jb_ff (fun h => by have := jl_lt.mp b3; omega), rfl⟩)
  · have h1 : low.toInt ≤ v.toInt := Int.not_lt.mp (fun h => b3 (jl_lt.mpr h))
    refine jr_lload_n C dX11_in_6 rfl ?_
    refine jr_lload C dX11_in_7 rfl ?_
    refine jr_lcmp C dX11_in_9 ?_
    refine jr_if_gt C 17 dX11_in_10 (by decide) (fun b10 => ?_) (fun b10 => ?_)
    · refine jr_iconst C (v := 0) dX11_in_17 (by decide) ?_
      exact ret _ _ _ _ dX11_in_18 (rfl) (⟨jb_ff (fun h => by have := jl_gt.mp b10; omega), rfl⟩)
    · have h2 : v.toInt ≤ high.toInt := Int.not_lt.mp (fun h => b10 (jl_gt.mpr h))
      refine jr_iconst C (v := 1) dX11_in_13 (by decide) ?_
      refine jr_goto C 18 dX11_in_14 (by decide) ?_
      exact ret _ _ _ _ dX11_in_18 (rfl) (⟨jb_tt ⟨h1, h2⟩, rfl⟩)
/-- an int between two numbers -/
theorem ct_X11_inw (E : jf_E) (σ : jf_S) (x : Int64) (low high : Int64) (a b : Int) (ha : low.toInt = a) (hb : high.toInt = b) {v : Int32} (hx : x = v.toInt64 := by rfl) : jf_I jh_M E yX11_in cX11_in 6 .boolean 0 [.long x, .long low, .long high] σ (fun r τ => r = jb (a ≤ v.toInt ∧ v.toInt ≤ b) ∧ τ = σ) := by
  subst ha; subst hb; subst hx
  have h := ct_X11_in E σ v.toInt64 low high
  rw [show jb (low.toInt ≤ v.toInt64.toInt ∧ v.toInt64.toInt ≤ high.toInt) = jb (low.toInt ≤ v.toInt ∧ v.toInt ≤ high.toInt) from jb_iff (by rw [jl_w])] at h
  exact h
theorem ct_X11_told (E : jf_E) (σ : jf_S) (v : Int32) : jf_I jh_M E yX11_told cX11_told 2 .int 0 [jf_r E 0, .int v] σ (fun r τ => r = v ∧ τ = m_told σ v) := by
  refine jf_mkI (by decide) (Nat.le_of_ble_eq_true rfl) ?_
  intro G C ret
  refine jr_aload_n C dX11_told_0 rfl ?_
  refine jr_iload_n C dX11_told_1 rfl ?_
  refine jr_if_ge C 9 dX11_told_2 (by decide) (fun b2 => ?_) (fun b2 => ?_)
  · refine jr_iconst C (v := 0) dX11_told_9 (by decide) ?_
    refine jr_puti C kp_X11_147_0 dX11_told_10 ?_
    refine jr_iload_n C dX11_told_13 rfl ?_
    exact ret _ _ _ _ dX11_told_14 rfl (⟨rfl, by rw [m_told, if_neg (fun h => by rw [Int32.lt_iff_toInt_lt] at h; rw [Int32.le_iff_toInt_le] at b2; omega)]⟩)
  · refine jr_iload_n C dX11_told_5 rfl ?_
    refine jr_goto C 10 dX11_told_6 (by decide) ?_
    refine jr_puti C kp_X11_147_0 dX11_told_10 ?_
    refine jr_iload_n C dX11_told_13 rfl ?_
    exact ret _ _ _ _ dX11_told_14 rfl (⟨rfl, by rw [m_told, if_pos (Int32.not_le.mp b2)]⟩)
theorem ct_X11_isHall (E : jf_E) (σ : jf_S) (h : Int32) (n : Int32) (hn : (σ.1 0 2) = n) : jf_I jh_M E yX11_isHall cX11_isHall 2 .boolean 1 [jf_r E 0, .int h] σ (fun r τ => r = jb (0 ≤ h.toInt ∧ h.toInt < n.toInt) ∧ τ = σ) := by
  subst hn
  refine jf_mkI (by decide) (Nat.le_of_ble_eq_true rfl) ?_
  intro G C ret
  refine jr_iload_n C dX11_isHall_0 rfl ?_
  refine jr_i2l C dX11_isHall_1 ?_
  refine jr_lconst C (v := 0) dX11_isHall_2 (by decide) ?_
  refine jr_aload_n C dX11_isHall_3 rfl ?_
  refine jr_geti C kf_X11_150_0 dX11_isHall_4 ?_
  refine jr_i2l C dX11_isHall_7 ?_
  refine jr_lconst C (v := 1) dX11_isHall_8 (by decide) ?_
  refine jr_lsub C dX11_isHall_9 ?_
  refine jr_sip C [.long _, .long _, .long _] _ (ct_X11_in E _ _ _ _) ky_X11_in ks_X11_in km_X11_153 (by decide) rfl (Nat.le_of_ble_eq_true rfl) dX11_isHall_10 ?_
  exact ret _ _ _ _ dX11_isHall_13 (jb_n) (⟨jb_iff (by rw [jl_w, jl_m1]; show 0 ≤ _ ∧ _ ↔ _; omega), rfl⟩)
theorem ct_X11_isMinute (E : jf_E) (σ : jf_S) (h : Int32) : jf_I jh_M E yX11_isMinute cX11_isMinute 1 .boolean 1 [.int h] σ (fun r τ => r = jb (0 ≤ h.toInt ∧ h.toInt ≤ 14399) ∧ τ = σ) := by
  refine jf_mkI (by decide) (Nat.le_of_ble_eq_true rfl) ?_
  intro G C ret
  refine jr_iload_n C dX11_isMinute_0 rfl ?_
  refine jr_i2l C dX11_isMinute_1 ?_
  refine jr_lconst C (v := 0) dX11_isMinute_2 (by decide) ?_
  refine jr_ldc2 C kc_X11_163 dX11_isMinute_3 ?_
  refine jr_sip C [.long _, .long _, .long _] _ (ct_X11_inw E _ _ _ _ 0 14399 rfl rfl) ky_X11_in ks_X11_in km_X11_153 (by decide) rfl (Nat.le_of_ble_eq_true rfl) dX11_isMinute_6 ?_
  exact ret _ _ _ _ dX11_isMinute_9 (jb_n) (⟨rfl, rfl⟩)
theorem ct_X11_isShowing (E : jf_E) (σ : jf_S) (h : Int32) (n : Int32) (a : Nat → Int32) (hn : (σ.1 0 17) = n) (ha : (σ.1 14) = a) (he : n.toInt ≤ 60) : jf_I jh_M E yX11_isShowing cX11_isShowing 2 .boolean 1 [jf_r E 0, .int h] σ (fun r τ => r = jb (0 ≤ h.toInt ∧ h.toInt < n.toInt ∧ ¬ a h.toNatClampNeg = 0) ∧ τ = σ) := by
  subst hn; subst ha
  refine jf_mkI (by decide) (Nat.le_of_ble_eq_true rfl) ?_
  intro G C ret
  refine jr_iload_n C dX11_isShowing_0 rfl ?_
  refine jr_i2l C dX11_isShowing_1 ?_
  refine jr_lconst C (v := 0) dX11_isShowing_2 (by decide) ?_
  refine jr_aload_n C dX11_isShowing_3 rfl ?_
  refine jr_geti C kf_X11_160_0 dX11_isShowing_4 ?_
  refine jr_i2l C dX11_isShowing_7 ?_
  refine jr_lconst C (v := 1) dX11_isShowing_8 (by decide) ?_
  refine jr_lsub C dX11_isShowing_9 ?_
  refine jr_sip C [.long _, .long _, .long _] _ (ct_X11_in E _ _ _ _) ky_X11_in ks_X11_in km_X11_153 (by decide) rfl (Nat.le_of_ble_eq_true rfl) dX11_isShowing_10 ?_
  refine jr_if_eq C 29 dX11_isShowing_13 (by decide) (fun b13 => ?_) (fun b13 => ?_)
  · refine jr_iconst C (v := 0) dX11_isShowing_29 (by decide) ?_
    exact ret _ _ _ _ dX11_isShowing_30 (rfl) (⟨jb_ff (fun q => jb_f b13 (by rw [jl_w, jl_m1]; show 0 ≤ _ ∧ _; omega)), rfl⟩)
  · have h1 : 0 ≤ h.toInt ∧ h.toInt < ((σ.1 0 17)).toInt := by
      have := jb_t b13
      rw [jl_w, jl_m1] at this
      exact ⟨this.1, by omega⟩
    refine jr_aload_n C dX11_isShowing_16 rfl ?_
    refine jr_getr C kf_X11_49_0 dX11_isShowing_17 ?_
    refine jr_iload_n C dX11_isShowing_20 rfl ?_
    refine jr_zald C ka_M_14 dX11_isShowing_21 (ji_in h1.1 (by omega)) ?_
    refine jr_if_eq C 29 dX11_isShowing_22 (by decide) (fun b22 => ?_) (fun b22 => ?_)
    · refine jr_iconst C (v := 0) dX11_isShowing_29 (by decide) ?_
      exact ret _ _ _ _ dX11_isShowing_30 (rfl) (⟨jb_ff (fun q => q.2.2 b22), rfl⟩)
    · refine jr_iconst C (v := 1) dX11_isShowing_25 (by decide) ?_
      refine jr_goto C 30 dX11_isShowing_26 (by decide) ?_
      exact ret _ _ _ _ dX11_isShowing_30 (rfl) (⟨jb_tt ⟨h1.1, h1.2, b22⟩, rfl⟩)
theorem ct_X11_isFilm (E : jf_E) (σ : jf_S) (h : Int32) (n : Int32) (hn : (σ.1 0 7) = n) : jf_I jh_M E yX11_isFilm cX11_isFilm 2 .boolean 1 [jf_r E 0, .int h] σ (fun r τ => r = jb (0 ≤ h.toInt ∧ h.toInt < n.toInt) ∧ τ = σ) := by
  subst hn
  refine jf_mkI (by decide) (Nat.le_of_ble_eq_true rfl) ?_
  intro G C ret
  refine jr_iload_n C dX11_isFilm_0 rfl ?_
  refine jr_i2l C dX11_isFilm_1 ?_
  refine jr_lconst C (v := 0) dX11_isFilm_2 (by decide) ?_
  refine jr_aload_n C dX11_isFilm_3 rfl ?_
  refine jr_geti C kf_X11_157_0 dX11_isFilm_4 ?_
  refine jr_i2l C dX11_isFilm_7 ?_
  refine jr_lconst C (v := 1) dX11_isFilm_8 (by decide) ?_
  refine jr_lsub C dX11_isFilm_9 ?_
  refine jr_sip C [.long _, .long _, .long _] _ (ct_X11_in E _ _ _ _) ky_X11_in ks_X11_in km_X11_153 (by decide) rfl (Nat.le_of_ble_eq_true rfl) dX11_isFilm_10 ?_
  exact ret _ _ _ _ dX11_isFilm_13 (jb_n) (⟨jb_iff (by rw [jl_w, jl_m1]; show 0 ≤ _ ∧ _ ↔ _; omega), rfl⟩)
theorem ct_X11_isJuror (E : jf_E) (σ : jf_S) (h : Int32) (n : Int32) (hn : (σ.1 0 35) = n) : jf_I jh_M E yX11_isJuror cX11_isJuror 2 .boolean 1 [jf_r E 0, .int h] σ (fun r τ => r = jb (0 ≤ h.toInt ∧ h.toInt < n.toInt) ∧ τ = σ) := by
  subst hn
  refine jf_mkI (by decide) (Nat.le_of_ble_eq_true rfl) ?_
  intro G C ret
  refine jr_iload_n C dX11_isJuror_0 rfl ?_
  refine jr_i2l C dX11_isJuror_1 ?_
  refine jr_lconst C (v := 0) dX11_isJuror_2 (by decide) ?_
  refine jr_aload_n C dX11_isJuror_3 rfl ?_
  refine jr_geti C kf_X11_257_0 dX11_isJuror_4 ?_
  refine jr_i2l C dX11_isJuror_7 ?_
  refine jr_lconst C (v := 1) dX11_isJuror_8 (by decide) ?_
  refine jr_lsub C dX11_isJuror_9 ?_
  refine jr_sip C [.long _, .long _, .long _] _ (ct_X11_in E _ _ _ _) ky_X11_in ks_X11_in km_X11_153 (by decide) rfl (Nat.le_of_ble_eq_true rfl) dX11_isJuror_10 ?_
  exact ret _ _ _ _ dX11_isJuror_13 (jb_n) (⟨jb_iff (by rw [jl_w, jl_m1]; show 0 ≤ _ ∧ _ ↔ _; omega), rfl⟩)

