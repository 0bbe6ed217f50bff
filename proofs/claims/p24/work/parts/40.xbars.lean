/-! the class: showings, safe -/
/-- showings as they must be for the walks: numbers within their rows -/
def xI (σ : jf_S) : Prop := (0 ≤ ((σ.1 3 8)).toInt ∧ ((σ.1 3 8)).toInt ≤ 60) ∧ (∀ j, 0 ≤ ((σ.1 12) j).toInt ∧ ((σ.1 12) j).toInt ≤ 4) ∧ (∀ j, 0 ≤ ((σ.1 25) j).toInt ∧ ((σ.1 25) j).toInt ≤ 19) ∧ (∀ j, 0 ≤ ((σ.1 26) j).toInt ∧ ((σ.1 26) j).toInt ≤ 3) ∧ (∀ j, 0 ≤ ((σ.1 27) j).toInt ∧ ((σ.1 27) j).toInt ≤ 14399)
theorem xI_way {σ : jf_S} (h : xI σ) (i j : Nat) : vp_in ((σ.1 12) i * 5 + (σ.1 12) j) 25 := by
  have h1 := h.2.1 i
  have h2 := h.2.1 j
  exact ji_linr 5 rfl (by omega) (by omega) (by omega)
theorem xI_film {σ : jf_S} (h : xI σ) (j : Nat) : 0 ≤ ((σ.1 25) j).toInt ∧ ((σ.1 25) j).toInt < 20 := ⟨(h.2.2.1 j).1, by have := (h.2.2.1 j).2; omega⟩
theorem xI_hall {σ : jf_S} (h : xI σ) (j : Nat) : 0 ≤ ((σ.1 26) j).toInt ∧ ((σ.1 26) j).toInt < 4 := ⟨(h.2.2.2.1 j).1, by have := (h.2.2.2.1 j).2; omega⟩
theorem ct_X3_wayBetween (E : jf_E) (σ : jf_S) (h o : Int32) (hI : xI σ) (h0 : 0 ≤ h.toInt ∧ h.toInt < 4) (o0 : 0 ≤ o.toInt ∧ o.toInt < 4) : jf_I jh_X E yX3_wayBetween cX3_wayBetween 3 .int 0 [jf_r E 1, .int h, .int o] σ (fun r τ => r = (σ.1 16) ((σ.1 12) h.toNatClampNeg * 5 + (σ.1 12) o.toNatClampNeg).toNatClampNeg ∧ τ = σ) := by
  refine jf_mkI (by decide) (Nat.le_of_ble_eq_true rfl) ?_
  intro G C ret
  refine jr_aload_n C dX3_wayBetween_0 rfl ?_
  refine jr_getr C kf_X3_24_1 dX3_wayBetween_1 ?_
  refine jr_aload_n C dX3_wayBetween_4 rfl ?_
  refine jr_getr C kf_X3_9_1 dX3_wayBetween_5 ?_
  refine jr_iload_n C dX3_wayBetween_8 rfl ?_
  refine jr_ialv C ka_X_12 dX3_wayBetween_9 (ji_in h0.1 h0.2) (v := σ.1 12 _) rfl ?_
  refine jr_iconst C (v := 5) dX3_wayBetween_10 (by decide) ?_
  refine jr_imul C dX3_wayBetween_11 ?_
  refine jr_aload_n C dX3_wayBetween_12 rfl ?_
  refine jr_getr C kf_X3_9_1 dX3_wayBetween_13 ?_
  refine jr_iload_n C dX3_wayBetween_16 rfl ?_
  refine jr_ialv C ka_X_12 dX3_wayBetween_17 (ji_in o0.1 o0.2) (v := σ.1 12 _) rfl ?_
  refine jr_iadd C dX3_wayBetween_18 ?_
  refine jr_ialv C ka_X_16 dX3_wayBetween_19 (xI_way hI _ _) (v := σ.1 16 _) rfl ?_
  exact ret _ _ _ _ dX3_wayBetween_20 rfl (⟨rfl, rfl⟩)
theorem ct_X3_inOneTown (E : jf_E) (σ : jf_S) (h o : Int32) (h0 : 0 ≤ h.toInt ∧ h.toInt < 4) (o0 : 0 ≤ o.toInt ∧ o.toInt < 4) : jf_I jh_X E yX3_inOneTown cX3_inOneTown 3 .boolean 0 [jf_r E 1, .int h, .int o] σ (fun r τ => r = jb (((σ.1 12) h.toNatClampNeg).toInt = ((σ.1 12) o.toNatClampNeg).toInt) ∧ τ = σ) := by
  refine jf_mkI (by decide) (Nat.le_of_ble_eq_true rfl) ?_
  intro G C ret
  refine jr_aload_n C dX3_inOneTown_0 rfl ?_
  refine jr_getr C kf_X3_9_1 dX3_inOneTown_1 ?_
  refine jr_iload_n C dX3_inOneTown_4 rfl ?_
  refine jr_ialv C ka_X_12 dX3_inOneTown_5 (ji_in h0.1 h0.2) (v := σ.1 12 _) rfl ?_
  refine jr_aload_n C dX3_inOneTown_6 rfl ?_
  refine jr_getr C kf_X3_9_1 dX3_inOneTown_7 ?_
  refine jr_iload_n C dX3_inOneTown_10 rfl ?_
  refine jr_ialv C ka_X_12 dX3_inOneTown_11 (ji_in o0.1 o0.2) (v := σ.1 12 _) rfl ?_
  refine jr_ncmp_ne C 19 dX3_inOneTown_12 (by decide) rfl rfl (fun b12 => ?_) (fun b12 => ?_)
  · refine jr_iconst C (v := 0) dX3_inOneTown_19 (by decide) ?_
    exact ret _ _ _ _ dX3_inOneTown_20 (rfl) (⟨by first | exact jb_tt (by omega) | exact jb_ff (by omega), rfl⟩)
  · refine jr_iconst C (v := 1) dX3_inOneTown_15 (by decide) ?_
    refine jr_goto C 20 dX3_inOneTown_16 (by decide) ?_
    exact ret _ _ _ _ dX3_inOneTown_20 (rfl) (⟨by first | exact jb_tt (by omega) | exact jb_ff (by omega), rfl⟩)
theorem ct_X8_runsWithin (E : jf_E) (σ : jf_S) (s a b : Int32) (h0 : 0 ≤ s.toInt ∧ s.toInt < 60) : jf_I jh_X E yX8_runsWithin cX8_runsWithin 4 .boolean 0 [jf_r E 3, .int s, .int a, .int b] σ (fun r τ => r = jb (((σ.1 27) s.toNatClampNeg).toInt < b.toInt ∧ a.toInt < ((σ.1 28) s.toNatClampNeg).toInt) ∧ τ = σ) := by
  refine jf_mkI (by decide) (Nat.le_of_ble_eq_true rfl) ?_
  intro G C ret
  refine jr_aload_n C dX8_runsWithin_0 rfl ?_
  refine jr_getr C kf_X8_18_3 dX8_runsWithin_1 ?_
  refine jr_iload_n C dX8_runsWithin_4 rfl ?_
  refine jr_ialv C ka_X_27 dX8_runsWithin_5 (ji_in h0.1 h0.2) (v := σ.1 27 _) rfl ?_
  refine jr_iload_n C dX8_runsWithin_6 rfl ?_
  refine jr_ncmp_ge C 24 dX8_runsWithin_7 (by decide) rfl rfl (fun b7 => ?_) (fun b7 => ?_)
  · refine jr_iconst C (v := 0) dX8_runsWithin_24 (by decide) ?_
    exact ret _ _ _ _ dX8_runsWithin_25 (rfl) (⟨by first | exact jb_tt ⟨by omega, by omega⟩ | exact jb_ff (fun h => by omega), rfl⟩)
  · refine jr_aload_n C dX8_runsWithin_10 rfl ?_
    refine jr_getr C kf_X8_21_3 dX8_runsWithin_11 ?_
    refine jr_iload_n C dX8_runsWithin_14 rfl ?_
    refine jr_ialv C ka_X_28 dX8_runsWithin_15 (ji_in h0.1 h0.2) (v := σ.1 28 _) rfl ?_
    refine jr_iload_n C dX8_runsWithin_16 rfl ?_
    refine jr_ncmp_le C 24 dX8_runsWithin_17 (by decide) rfl rfl (fun b17 => ?_) (fun b17 => ?_)
    · refine jr_iconst C (v := 0) dX8_runsWithin_24 (by decide) ?_
      exact ret _ _ _ _ dX8_runsWithin_25 (rfl) (⟨by first | exact jb_tt ⟨by omega, by omega⟩ | exact jb_ff (fun h => by omega), rfl⟩)
    · refine jr_iconst C (v := 1) dX8_runsWithin_20 (by decide) ?_
      refine jr_goto C 25 dX8_runsWithin_21 (by decide) ?_
      exact ret _ _ _ _ dX8_runsWithin_25 (rfl) (⟨by first | exact jb_tt ⟨by omega, by omega⟩ | exact jb_ff (fun h => by omega), rfl⟩)
theorem ct_X2_guestStays (E : jf_E) (σ : jf_S) (f a b : Int32) (h0 : 0 ≤ f.toInt ∧ f.toInt < 20) : jf_I jh_X E yX2_guestStays cX2_guestStays 4 .boolean 0 [jf_r E 2, .int f, .int a, .int b] σ (fun r τ => r = jb (¬ ((σ.1 20) f.toNatClampNeg).toInt = -1 ∧ ((σ.1 20) f.toNatClampNeg).toInt ≤ a.toInt ∧ b.toInt ≤ ((σ.1 21) f.toNatClampNeg).toInt) ∧ τ = σ) := by
  refine jf_mkI (by decide) (Nat.le_of_ble_eq_true rfl) ?_
  intro G C ret
  refine jr_aload_n C dX2_guestStays_0 rfl ?_
  refine jr_getr C kf_X2_21_2 dX2_guestStays_1 ?_
  refine jr_iload_n C dX2_guestStays_4 rfl ?_
  refine jr_ialv C ka_X_20 dX2_guestStays_5 (ji_in h0.1 h0.2) (v := σ.1 20 _) rfl ?_
  refine jr_iconst C (v := -1) dX2_guestStays_6 (by decide) ?_
  refine jr_ncmp_eq C (b := -1) 34 dX2_guestStays_7 (by decide) rfl rfl (fun b7 => ?_) (fun b7 => ?_)
  · refine jr_iconst C (v := 0) dX2_guestStays_34 (by decide) ?_
    exact ret _ _ _ _ dX2_guestStays_35 (rfl) (⟨by first | exact jb_tt ⟨by omega, by omega, by omega⟩ | exact jb_ff (fun h => by omega), rfl⟩)
  · refine jr_aload_n C dX2_guestStays_10 rfl ?_
    refine jr_getr C kf_X2_21_2 dX2_guestStays_11 ?_
    refine jr_iload_n C dX2_guestStays_14 rfl ?_
    refine jr_ialv C ka_X_20 dX2_guestStays_15 (ji_in h0.1 h0.2) (v := σ.1 20 _) rfl ?_
    refine jr_iload_n C dX2_guestStays_16 rfl ?_
    refine jr_ncmp_gt C 34 dX2_guestStays_17 (by decide) rfl rfl (fun b17 => ?_) (fun b17 => ?_)
    · refine jr_iconst C (v := 0) dX2_guestStays_34 (by decide) ?_
      exact ret _ _ _ _ dX2_guestStays_35 (rfl) (⟨by first | exact jb_tt ⟨by omega, by omega, by omega⟩ | exact jb_ff (fun h => by omega), rfl⟩)
    · refine jr_aload_n C dX2_guestStays_20 rfl ?_
      refine jr_getr C kf_X2_24_2 dX2_guestStays_21 ?_
      refine jr_iload_n C dX2_guestStays_24 rfl ?_
      refine jr_ialv C ka_X_21 dX2_guestStays_25 (ji_in h0.1 h0.2) (v := σ.1 21 _) rfl ?_
      refine jr_iload_n C dX2_guestStays_26 rfl ?_
      refine jr_ncmp_lt C 34 dX2_guestStays_27 (by decide) rfl rfl (fun b27 => ?_) (fun b27 => ?_)
      · refine jr_iconst C (v := 0) dX2_guestStays_34 (by decide) ?_
        exact ret _ _ _ _ dX2_guestStays_35 (rfl) (⟨by first | exact jb_tt ⟨by omega, by omega, by omega⟩ | exact jb_ff (fun h => by omega), rfl⟩)
      · refine jr_iconst C (v := 1) dX2_guestStays_30 (by decide) ?_
        refine jr_goto C 35 dX2_guestStays_31 (by decide) ?_
        exact ret _ _ _ _ dX2_guestStays_35 (rfl) (⟨by first | exact jb_tt ⟨by omega, by omega, by omega⟩ | exact jb_ff (fun h => by omega), rfl⟩)
theorem ct_X2_isBarredAtMost (E : jf_E) (σ : jf_S) (f : Int32) (h0 : 0 ≤ f.toInt ∧ f.toInt < 20) : jf_I jh_X E yX2_isBarredAtMost cX2_isBarredAtMost 2 .boolean 0 [jf_r E 2, .int f] σ (fun r τ => r = jb (¬ ((σ.1 23) f.toNatClampNeg).toInt = 60) ∧ τ = σ) := by
  refine jf_mkI (by decide) (Nat.le_of_ble_eq_true rfl) ?_
  intro G C ret
  refine jr_aload_n C dX2_isBarredAtMost_0 rfl ?_
  refine jr_getr C kf_X2_30_2 dX2_isBarredAtMost_1 ?_
  refine jr_iload_n C dX2_isBarredAtMost_4 rfl ?_
  refine jr_ialv C ka_X_23 dX2_isBarredAtMost_5 (ji_in h0.1 h0.2) (v := σ.1 23 _) rfl ?_
  refine jr_bipush C (v := 60) dX2_isBarredAtMost_6 (by decide) ?_
  refine jr_ncmp_eq C (b := 60) 15 dX2_isBarredAtMost_8 (by decide) rfl rfl (fun b8 => ?_) (fun b8 => ?_)
  · refine jr_iconst C (v := 0) dX2_isBarredAtMost_15 (by decide) ?_
    exact ret _ _ _ _ dX2_isBarredAtMost_16 (rfl) (⟨by first | exact jb_tt (by omega) | exact jb_ff (by omega), rfl⟩)
  · refine jr_iconst C (v := 1) dX2_isBarredAtMost_11 (by decide) ?_
    refine jr_goto C 16 dX2_isBarredAtMost_12 (by decide) ?_
    exact ret _ _ _ _ dX2_isBarredAtMost_16 (rfl) (⟨by first | exact jb_tt (by omega) | exact jb_ff (by omega), rfl⟩)
theorem ct_X2_barOneAnother (E : jf_E) (σ : jf_S) (f o : Int32) (h0 : 0 ≤ f.toInt ∧ f.toInt < 20) (o0 : 0 ≤ o.toInt ∧ o.toInt < 20) : jf_I jh_X E yX2_barOneAnother cX2_barOneAnother 3 .boolean 0 [jf_r E 2, .int f, .int o] σ (fun r τ => r = jb (((σ.1 24) f.toNatClampNeg).toInt = o.toInt ∨ ((σ.1 24) o.toNatClampNeg).toInt = f.toInt) ∧ τ = σ) := by
  refine jf_mkI (by decide) (Nat.le_of_ble_eq_true rfl) ?_
  intro G C ret
  refine jr_aload_n C dX2_barOneAnother_0 rfl ?_
  refine jr_getr C kf_X2_33_2 dX2_barOneAnother_1 ?_
  refine jr_iload_n C dX2_barOneAnother_4 rfl ?_
  refine jr_ialv C ka_X_24 dX2_barOneAnother_5 (ji_in h0.1 h0.2) (v := σ.1 24 _) rfl ?_
  refine jr_iload_n C dX2_barOneAnother_6 rfl ?_
  refine jr_ncmp_eq C 20 dX2_barOneAnother_7 (by decide) rfl rfl (fun b7 => ?_) (fun b7 => ?_)
  · refine jr_iconst C (v := 1) dX2_barOneAnother_20 (by decide) ?_
    refine jr_goto C 25 dX2_barOneAnother_21 (by decide) ?_
    exact ret _ _ _ _ dX2_barOneAnother_25 (rfl) (⟨by first | exact jb_tt (by omega) | exact jb_ff (by omega), rfl⟩)
  · refine jr_aload_n C dX2_barOneAnother_10 rfl ?_
    refine jr_getr C kf_X2_33_2 dX2_barOneAnother_11 ?_
    refine jr_iload_n C dX2_barOneAnother_14 rfl ?_
    refine jr_ialv C ka_X_24 dX2_barOneAnother_15 (ji_in o0.1 o0.2) (v := σ.1 24 _) rfl ?_
    refine jr_iload_n C dX2_barOneAnother_16 rfl ?_
    refine jr_ncmp_ne C 24 dX2_barOneAnother_17 (by decide) rfl rfl (fun b17 => ?_) (fun b17 => ?_)
    · refine jr_iconst C (v := 0) dX2_barOneAnother_24 (by decide) ?_
      exact ret _ _ _ _ dX2_barOneAnother_25 (rfl) (⟨by first | exact jb_tt (by omega) | exact jb_ff (by omega), rfl⟩)
    · refine jr_iconst C (v := 1) dX2_barOneAnother_20 (by decide) ?_
      refine jr_goto C 25 dX2_barOneAnother_21 (by decide) ?_
      exact ret _ _ _ _ dX2_barOneAnother_25 (rfl) (⟨by first | exact jb_tt (by omega) | exact jb_ff (by omega), rfl⟩)
theorem ct_X1_isLateHour (E : jf_E) (σ : jf_S) (b : Int32) : jf_I jh_X E yX1_isLateHour cX1_isLateHour 2 .boolean 0 [.int b] σ (fun r τ => r = jb (1320 ≤ (b - b / 1440 * 1440).toInt ∨ (b - b / 1440 * 1440).toInt < 120) ∧ τ = σ) := by
  refine jf_mkI (by decide) (Nat.le_of_ble_eq_true rfl) ?_
  intro G C ret
  refine jr_iload_n C dX1_isLateHour_0 rfl ?_
  refine jr_sipush C (v := 1440) dX1_isLateHour_1 (by decide) ?_
  refine jr_irem C dX1_isLateHour_4 (by decide) ?_
  refine jr_istore_n C dX1_isLateHour_5 (by decide) ?_
  refine jr_iload_n C dX1_isLateHour_6 rfl ?_
  refine jr_sipush C (v := 1320) dX1_isLateHour_7 (by decide) ?_
  refine jr_ncmp_ge C (b := 1320) 19 dX1_isLateHour_10 (by decide) rfl rfl (fun b10 => ?_) (fun b10 => ?_)
  · refine jr_iconst C (v := 1) dX1_isLateHour_19 (by decide) ?_
    refine jr_goto C 24 dX1_isLateHour_20 (by decide) ?_
    exact ret _ _ _ _ dX1_isLateHour_24 (rfl) (⟨by first | exact jb_tt (by omega) | exact jb_ff (by omega), rfl⟩)
  · refine jr_iload_n C dX1_isLateHour_13 rfl ?_
    refine jr_bipush C (v := 120) dX1_isLateHour_14 (by decide) ?_
    refine jr_ncmp_ge C (b := 120) 23 dX1_isLateHour_16 (by decide) rfl rfl (fun b16 => ?_) (fun b16 => ?_)
    · refine jr_iconst C (v := 0) dX1_isLateHour_23 (by decide) ?_
      exact ret _ _ _ _ dX1_isLateHour_24 (rfl) (⟨by first | exact jb_tt (by omega) | exact jb_ff (by omega), rfl⟩)
    · refine jr_iconst C (v := 1) dX1_isLateHour_19 (by decide) ?_
      refine jr_goto C 24 dX1_isLateHour_20 (by decide) ?_
      exact ret _ _ _ _ dX1_isLateHour_24 (rfl) (⟨by first | exact jb_tt (by omega) | exact jb_ff (by omega), rfl⟩)
theorem ct_X1_isHallTaken (E : jf_E) (σ : jf_S) (h b e x : Int32) (hI : xI σ) (h0 : 0 ≤ h.toInt ∧ h.toInt < 4) : jf_I jh_X E yX1_isHallTaken cX1_isHallTaken 7 .boolean 0 [jf_r E 4, .int h, .int b, .int e, .int x] σ (fun r τ => (r = 0 ∨ r = 1) ∧ σ = τ) := by
  refine jf_mkI (by decide) (Nat.le_of_ble_eq_true rfl) ?_
  intro G C ret
  have hE := hI.1
  have lp : ∀ (m : Nat) (c o : Int32), 0 ≤ o.toInt → o.toInt ≤ ((σ.1 3 8)).toInt → ((σ.1 3 8)).toInt - o.toInt < m → jf_X jh_X E G 7 14 [(0, jf_r E 4), (1, .int h), (2, .int b), (3, .int e), (4, .int x), (5, .int c), (6, .int o)] [] σ := by
    intro m
    induction m with
    | zero => intro c o g1 g2 g3; exfalso; omega
    | succ m ih =>
      intro c o g1 g2 g3
      have e1 := ji_inc (k := o) (by omega)
      refine jr_iload C dX1_isHallTaken_14 rfl ?_
      refine jr_aload_n C dX1_isHallTaken_16 rfl ?_
      refine jr_getr C kf_X1_19_4 dX1_isHallTaken_17 ?_
      refine jr_getv C kf_X1_72_3 dX1_isHallTaken_20 (v := σ.1 3 8) rfl ?_
      refine jr_ncmp_ge C 102 dX1_isHallTaken_23 (by decide) rfl rfl (fun b23 => ?_) (fun b23 => ?_)
      · refine jr_iconst C (v := 0) dX1_isHallTaken_102 (by decide) ?_
        exact ret _ _ _ _ dX1_isHallTaken_103 (rfl) (⟨by decide, rfl⟩)
      · refine jr_iload C dX1_isHallTaken_26 rfl ?_
        refine jr_iload C dX1_isHallTaken_28 rfl ?_
        refine jr_ncmp_eq C 96 dX1_isHallTaken_30 (by decide) rfl rfl (fun b30 => ?_) (fun b30 => ?_)
        · refine jr_iinc C _ dX1_isHallTaken_96 rfl rfl (by decide) ?_
          refine jr_goto C 14 dX1_isHallTaken_99 (by decide) ?_
          exact jr_sub [(0, jf_r E 4), (1, .int h), (2, .int b), (3, .int e), (4, .int x), (5, .int _), (6, .int _)] rfl (ih _ _ (by omega) (by omega) (by omega))
        · refine jr_aload_n C dX1_isHallTaken_33 rfl ?_
          refine jr_getr C kf_X1_19_4 dX1_isHallTaken_34 ?_
          refine jr_getr C kf_X1_78_3 dX1_isHallTaken_37 ?_
          refine jr_iload C dX1_isHallTaken_40 rfl ?_
          refine jr_zalv C ka_X_31 dX1_isHallTaken_42 (ji_in (i := o) (by omega) (by omega)) (v := σ.1 31 _) rfl ?_
          refine jr_nif_eq C 96 dX1_isHallTaken_43 (by decide) (fun b43 => ?_) (fun b43 => ?_)
          · refine jr_iinc C _ dX1_isHallTaken_96 rfl rfl (by decide) ?_
            refine jr_goto C 14 dX1_isHallTaken_99 (by decide) ?_
            exact jr_sub [(0, jf_r E 4), (1, .int h), (2, .int b), (3, .int e), (4, .int x), (5, .int _), (6, .int _)] rfl (ih _ _ (by omega) (by omega) (by omega))
          · refine jr_aload_n C dX1_isHallTaken_46 rfl ?_
            refine jr_getr C kf_X1_19_4 dX1_isHallTaken_47 ?_
            refine jr_getr C kf_X1_82_3 dX1_isHallTaken_50 ?_
            refine jr_iload C dX1_isHallTaken_53 rfl ?_
            refine jr_ialv C ka_X_26 dX1_isHallTaken_55 (ji_in (i := o) (by omega) (by omega)) (v := σ.1 26 _) rfl ?_
            refine jr_iload_n C dX1_isHallTaken_56 rfl ?_
            refine jr_ncmp_ne C 96 dX1_isHallTaken_57 (by decide) rfl rfl (fun b57 => ?_) (fun b57 => ?_)
            · refine jr_iinc C _ dX1_isHallTaken_96 rfl rfl (by decide) ?_
              refine jr_goto C 14 dX1_isHallTaken_99 (by decide) ?_
              exact jr_sub [(0, jf_r E 4), (1, .int h), (2, .int b), (3, .int e), (4, .int x), (5, .int _), (6, .int _)] rfl (ih _ _ (by omega) (by omega) (by omega))
            · refine jr_aload_n C dX1_isHallTaken_60 rfl ?_
              refine jr_getr C kf_X1_19_4 dX1_isHallTaken_61 ?_
              refine jr_getr C kf_X1_85_3 dX1_isHallTaken_64 ?_
              refine jr_iload C dX1_isHallTaken_67 rfl ?_
              refine jr_ialv C ka_X_27 dX1_isHallTaken_69 (ji_in (i := o) (by omega) (by omega)) (v := σ.1 27 _) rfl ?_
              refine jr_iload_n C dX1_isHallTaken_70 rfl ?_
              refine jr_iload C dX1_isHallTaken_71 rfl ?_
              refine jr_iadd C dX1_isHallTaken_73 ?_
              refine jr_ncmp_ge C 96 dX1_isHallTaken_74 (by decide) rfl rfl (fun b74 => ?_) (fun b74 => ?_)
              · refine jr_iinc C _ dX1_isHallTaken_96 rfl rfl (by decide) ?_
                refine jr_goto C 14 dX1_isHallTaken_99 (by decide) ?_
                exact jr_sub [(0, jf_r E 4), (1, .int h), (2, .int b), (3, .int e), (4, .int x), (5, .int _), (6, .int _)] rfl (ih _ _ (by omega) (by omega) (by omega))
              · refine jr_aload_n C dX1_isHallTaken_77 rfl ?_
                refine jr_getr C kf_X1_19_4 dX1_isHallTaken_78 ?_
                refine jr_getr C kf_X1_88_3 dX1_isHallTaken_81 ?_
                refine jr_iload C dX1_isHallTaken_84 rfl ?_
                refine jr_ialv C ka_X_28 dX1_isHallTaken_86 (ji_in (i := o) (by omega) (by omega)) (v := σ.1 28 _) rfl ?_
                refine jr_iload C dX1_isHallTaken_87 rfl ?_
                refine jr_iadd C dX1_isHallTaken_89 ?_
                refine jr_iload_n C dX1_isHallTaken_90 rfl ?_
                refine jr_ncmp_le C 96 dX1_isHallTaken_91 (by decide) rfl rfl (fun b91 => ?_) (fun b91 => ?_)
                · refine jr_iinc C _ dX1_isHallTaken_96 rfl rfl (by decide) ?_
                  refine jr_goto C 14 dX1_isHallTaken_99 (by decide) ?_
                  exact jr_sub [(0, jf_r E 4), (1, .int h), (2, .int b), (3, .int e), (4, .int x), (5, .int _), (6, .int _)] rfl (ih _ _ (by omega) (by omega) (by omega))
                · refine jr_iconst C (v := 1) dX1_isHallTaken_94 (by decide) ?_
                  exact ret _ _ _ _ dX1_isHallTaken_95 (rfl) (⟨by decide, rfl⟩)
  refine jr_aload_n C dX1_isHallTaken_0 rfl ?_
  refine jr_getr C kf_X1_9_4 dX1_isHallTaken_1 ?_
  refine jr_getr C kf_X1_69_1 dX1_isHallTaken_4 ?_
  refine jr_iload_n C dX1_isHallTaken_7 rfl ?_
  refine jr_ialv C ka_X_14 dX1_isHallTaken_8 (ji_in h0.1 h0.2) (v := σ.1 14 _) rfl ?_
  refine jr_istore C dX1_isHallTaken_9 (by decide) ?_
  refine jr_iconst C (v := 0) dX1_isHallTaken_11 (by decide) ?_
  refine jr_istore C dX1_isHallTaken_12 (by decide) ?_
  exact jr_sub [(0, jf_r E 4), (1, .int h), (2, .int b), (3, .int e), (4, .int x), (5, .int _), (6, .int _)] rfl (lp 61 _ _ (by decide) hE.1 (by show _ - 0 < _; omega))
theorem ct_X1_isPrintAway (E : jf_E) (σ : jf_S) (f h b e x : Int32) (hI : xI σ) (h0 : 0 ≤ h.toInt ∧ h.toInt < 4) : jf_I jh_X E yX1_isPrintAway cX1_isPrintAway 10 .boolean 1 [jf_r E 4, .int f, .int h, .int b, .int e, .int x] σ (fun r τ => (r = 0 ∨ r = 1) ∧ σ = τ) := by
  refine jf_mkI (by decide) (Nat.le_of_ble_eq_true rfl) ?_
  intro G C ret
  have hE := hI.1
  have lp : ∀ (m : Nat) (o : Int32), 0 ≤ o.toInt → o.toInt ≤ ((σ.1 3 8)).toInt → ((σ.1 3 8)).toInt - o.toInt < m → jf_X jh_X E G 10 3 [(0, jf_r E 4), (1, .int f), (2, .int h), (3, .int b), (4, .int e), (5, .int x), (6, .int o)] [] σ := by
    intro m
    induction m with
    | zero => intro o g1 g2 g3; exfalso; omega
    | succ m ih =>
      intro o g1 g2 g3
      have e1 := ji_inc (k := o) (by omega)
      refine jr_iload C dX1_isPrintAway_3 rfl ?_
      refine jr_aload_n C dX1_isPrintAway_5 rfl ?_
      refine jr_getr C kf_X1_19_4 dX1_isPrintAway_6 ?_
      refine jr_getv C kf_X1_72_3 dX1_isPrintAway_9 (v := σ.1 3 8) rfl ?_
      refine jr_ncmp_ge C 167 dX1_isPrintAway_12 (by decide) rfl rfl (fun b12 => ?_) (fun b12 => ?_)
      · refine jr_iconst C (v := 0) dX1_isPrintAway_167 (by decide) ?_
        exact ret _ _ _ _ dX1_isPrintAway_168 (rfl) (⟨by decide, rfl⟩)
      · refine jr_iload C dX1_isPrintAway_15 rfl ?_
        refine jr_iload C dX1_isPrintAway_17 rfl ?_
        refine jr_ncmp_eq C 161 dX1_isPrintAway_19 (by decide) rfl rfl (fun b19 => ?_) (fun b19 => ?_)
        · refine jr_iinc C _ dX1_isPrintAway_161 rfl rfl (by decide) ?_
          refine jr_goto C 3 dX1_isPrintAway_164 (by decide) ?_
          exact jr_sub [(0, jf_r E 4), (1, .int f), (2, .int h), (3, .int b), (4, .int e), (5, .int x), (6, .int _)] rfl (ih _ (by omega) (by omega) (by omega))
        · refine jr_aload_n C dX1_isPrintAway_22 rfl ?_
          refine jr_getr C kf_X1_19_4 dX1_isPrintAway_23 ?_
          refine jr_getr C kf_X1_78_3 dX1_isPrintAway_26 ?_
          refine jr_iload C dX1_isPrintAway_29 rfl ?_
          refine jr_zalv C ka_X_31 dX1_isPrintAway_31 (ji_in (i := o) (by omega) (by omega)) (v := σ.1 31 _) rfl ?_
          refine jr_nif_eq C 161 dX1_isPrintAway_32 (by decide) (fun b32 => ?_) (fun b32 => ?_)
          · refine jr_iinc C _ dX1_isPrintAway_161 rfl rfl (by decide) ?_
            refine jr_goto C 3 dX1_isPrintAway_164 (by decide) ?_
            exact jr_sub [(0, jf_r E 4), (1, .int f), (2, .int h), (3, .int b), (4, .int e), (5, .int x), (6, .int _)] rfl (ih _ (by omega) (by omega) (by omega))
          · refine jr_aload_n C dX1_isPrintAway_35 rfl ?_
            refine jr_getr C kf_X1_19_4 dX1_isPrintAway_36 ?_
            refine jr_getr C kf_X1_91_3 dX1_isPrintAway_39 ?_
            refine jr_iload C dX1_isPrintAway_42 rfl ?_
            refine jr_ialv C ka_X_25 dX1_isPrintAway_44 (ji_in (i := o) (by omega) (by omega)) (v := σ.1 25 _) rfl ?_
            refine jr_iload_n C dX1_isPrintAway_45 rfl ?_
            refine jr_ncmp_eq C 52 dX1_isPrintAway_46 (by decide) rfl rfl (fun b46 => ?_) (fun b46 => ?_)
            · refine jr_aload_n C dX1_isPrintAway_52 rfl ?_
              refine jr_getr C kf_X1_9_4 dX1_isPrintAway_53 ?_
              refine jr_iload_n C dX1_isPrintAway_56 rfl ?_
              refine jr_aload_n C dX1_isPrintAway_57 rfl ?_
              refine jr_getr C kf_X1_19_4 dX1_isPrintAway_58 ?_
              refine jr_getr C kf_X1_82_3 dX1_isPrintAway_61 ?_
              refine jr_iload C dX1_isPrintAway_64 rfl ?_
              refine jr_ialv C ka_X_26 dX1_isPrintAway_66 (ji_in (i := o) (by omega) (by omega)) (v := σ.1 26 _) rfl ?_
              refine jr_vip C [.int _, .int _] _ (ct_X3_wayBetween E _ _ _ hI h0 (xI_hall hI _)) ky_X3_wayBetween kv_X3_wayBetween kk_X_1 km_X1_94 (by decide) rfl (Nat.le_of_ble_eq_true rfl) dX1_isPrintAway_67 ?_
              refine jr_istore C dX1_isPrintAway_70 (by decide) ?_
              refine jr_iload_n C dX1_isPrintAway_72 rfl ?_
              refine jr_aload_n C dX1_isPrintAway_73 rfl ?_
              refine jr_getr C kf_X1_19_4 dX1_isPrintAway_74 ?_
              refine jr_getr C kf_X1_85_3 dX1_isPrintAway_77 ?_
              refine jr_iload C dX1_isPrintAway_80 rfl ?_
              refine jr_ialv C ka_X_27 dX1_isPrintAway_82 (ji_in (i := o) (by omega) (by omega)) (v := σ.1 27 _) rfl ?_
              refine jr_ncmp_le C 107 dX1_isPrintAway_83 (by decide) rfl rfl (fun b83 => ?_) (fun b83 => ?_)
              · refine jr_iconst C (v := 0) dX1_isPrintAway_107 (by decide) ?_
                refine jr_istore C dX1_isPrintAway_108 (by decide) ?_
                refine jr_iload_n C dX1_isPrintAway_110 rfl ?_
                refine jr_aload_n C dX1_isPrintAway_111 rfl ?_
                refine jr_getr C kf_X1_19_4 dX1_isPrintAway_112 ?_
                refine jr_getr C kf_X1_85_3 dX1_isPrintAway_115 ?_
                refine jr_iload C dX1_isPrintAway_118 rfl ?_
                refine jr_ialv C ka_X_27 dX1_isPrintAway_120 (ji_in (i := o) (by omega) (by omega)) (v := σ.1 27 _) rfl ?_
                refine jr_ncmp_ge C 146 dX1_isPrintAway_121 (by decide) rfl rfl (fun b121 => ?_) (fun b121 => ?_)
                · refine jr_iconst C (v := 0) dX1_isPrintAway_146 (by decide) ?_
                  refine jr_istore C dX1_isPrintAway_147 (by decide) ?_
                  refine jr_iload C dX1_isPrintAway_149 rfl ?_
                  refine jr_if_ne C 161 dX1_isPrintAway_151 (by decide) (fun b => absurd b (by decide)) (fun _ => ?_)
                  refine jr_iload C dX1_isPrintAway_154 rfl ?_
                  refine jr_if_ne C 161 dX1_isPrintAway_156 (by decide) (fun b => absurd b (by decide)) (fun _ => ?_)
                  refine jr_iconst C (v := 1) dX1_isPrintAway_159 (by decide) ?_
                  exact ret _ _ _ _ dX1_isPrintAway_160 (rfl) (⟨by decide, rfl⟩)
                · refine jr_aload_n C dX1_isPrintAway_124 rfl ?_
                  refine jr_getr C kf_X1_19_4 dX1_isPrintAway_125 ?_
                  refine jr_getr C kf_X1_85_3 dX1_isPrintAway_128 ?_
                  refine jr_iload C dX1_isPrintAway_131 rfl ?_
                  refine jr_ialv C ka_X_27 dX1_isPrintAway_133 (ji_in (i := o) (by omega) (by omega)) (v := σ.1 27 _) rfl ?_
                  refine jr_iload C dX1_isPrintAway_134 rfl ?_
                  refine jr_iload C dX1_isPrintAway_136 rfl ?_
                  refine jr_iadd C dX1_isPrintAway_138 ?_
                  refine jr_ncmp_lt C 146 dX1_isPrintAway_139 (by decide) rfl rfl (fun b139 => ?_) (fun b139 => ?_)
                  · refine jr_iconst C (v := 0) dX1_isPrintAway_146 (by decide) ?_
                    refine jr_istore C dX1_isPrintAway_147 (by decide) ?_
                    refine jr_iload C dX1_isPrintAway_149 rfl ?_
                    refine jr_if_ne C 161 dX1_isPrintAway_151 (by decide) (fun b => absurd b (by decide)) (fun _ => ?_)
                    refine jr_iload C dX1_isPrintAway_154 rfl ?_
                    refine jr_if_ne C 161 dX1_isPrintAway_156 (by decide) (fun b => absurd b (by decide)) (fun _ => ?_)
                    refine jr_iconst C (v := 1) dX1_isPrintAway_159 (by decide) ?_
                    exact ret _ _ _ _ dX1_isPrintAway_160 (rfl) (⟨by decide, rfl⟩)
                  · refine jr_iconst C (v := 1) dX1_isPrintAway_142 (by decide) ?_
                    refine jr_goto C 147 dX1_isPrintAway_143 (by decide) ?_
                    refine jr_istore C dX1_isPrintAway_147 (by decide) ?_
                    refine jr_iload C dX1_isPrintAway_149 rfl ?_
                    refine jr_if_ne C 161 dX1_isPrintAway_151 (by decide) (fun b => absurd b (by decide)) (fun _ => ?_)
                    refine jr_iload C dX1_isPrintAway_154 rfl ?_
                    refine jr_if_ne C 161 dX1_isPrintAway_156 (by decide) (fun _ => ?_) (fun b => absurd b (by decide))
                    refine jr_iinc C _ dX1_isPrintAway_161 rfl rfl (by decide) ?_
                    refine jr_goto C 3 dX1_isPrintAway_164 (by decide) ?_
                    exact jr_sub [(0, jf_r E 4), (1, .int f), (2, .int h), (3, .int b), (4, .int e), (5, .int x), (6, .int _)] rfl (ih _ (by omega) (by omega) (by omega))
              · refine jr_iload_n C dX1_isPrintAway_86 rfl ?_
                refine jr_aload_n C dX1_isPrintAway_87 rfl ?_
                refine jr_getr C kf_X1_19_4 dX1_isPrintAway_88 ?_
                refine jr_getr C kf_X1_88_3 dX1_isPrintAway_91 ?_
                refine jr_iload C dX1_isPrintAway_94 rfl ?_
                refine jr_ialv C ka_X_28 dX1_isPrintAway_96 (ji_in (i := o) (by omega) (by omega)) (v := σ.1 28 _) rfl ?_
                refine jr_iload C dX1_isPrintAway_97 rfl ?_
                refine jr_iadd C dX1_isPrintAway_99 ?_
                refine jr_ncmp_lt C 107 dX1_isPrintAway_100 (by decide) rfl rfl (fun b100 => ?_) (fun b100 => ?_)
                · refine jr_iconst C (v := 0) dX1_isPrintAway_107 (by decide) ?_
                  refine jr_istore C dX1_isPrintAway_108 (by decide) ?_
                  refine jr_iload_n C dX1_isPrintAway_110 rfl ?_
                  refine jr_aload_n C dX1_isPrintAway_111 rfl ?_
                  refine jr_getr C kf_X1_19_4 dX1_isPrintAway_112 ?_
                  refine jr_getr C kf_X1_85_3 dX1_isPrintAway_115 ?_
                  refine jr_iload C dX1_isPrintAway_118 rfl ?_
                  refine jr_ialv C ka_X_27 dX1_isPrintAway_120 (ji_in (i := o) (by omega) (by omega)) (v := σ.1 27 _) rfl ?_
                  refine jr_ncmp_ge C 146 dX1_isPrintAway_121 (by decide) rfl rfl (fun b121 => ?_) (fun b121 => ?_)
                  · refine jr_iconst C (v := 0) dX1_isPrintAway_146 (by decide) ?_
                    refine jr_istore C dX1_isPrintAway_147 (by decide) ?_
                    refine jr_iload C dX1_isPrintAway_149 rfl ?_
                    refine jr_if_ne C 161 dX1_isPrintAway_151 (by decide) (fun b => absurd b (by decide)) (fun _ => ?_)
                    refine jr_iload C dX1_isPrintAway_154 rfl ?_
                    refine jr_if_ne C 161 dX1_isPrintAway_156 (by decide) (fun b => absurd b (by decide)) (fun _ => ?_)
                    refine jr_iconst C (v := 1) dX1_isPrintAway_159 (by decide) ?_
                    exact ret _ _ _ _ dX1_isPrintAway_160 (rfl) (⟨by decide, rfl⟩)
                  · refine jr_aload_n C dX1_isPrintAway_124 rfl ?_
                    refine jr_getr C kf_X1_19_4 dX1_isPrintAway_125 ?_
                    refine jr_getr C kf_X1_85_3 dX1_isPrintAway_128 ?_
                    refine jr_iload C dX1_isPrintAway_131 rfl ?_
                    refine jr_ialv C ka_X_27 dX1_isPrintAway_133 (ji_in (i := o) (by omega) (by omega)) (v := σ.1 27 _) rfl ?_
                    refine jr_iload C dX1_isPrintAway_134 rfl ?_
                    refine jr_iload C dX1_isPrintAway_136 rfl ?_
                    refine jr_iadd C dX1_isPrintAway_138 ?_
                    refine jr_ncmp_lt C 146 dX1_isPrintAway_139 (by decide) rfl rfl (fun b139 => ?_) (fun b139 => ?_)
                    · refine jr_iconst C (v := 0) dX1_isPrintAway_146 (by decide) ?_
                      refine jr_istore C dX1_isPrintAway_147 (by decide) ?_
                      refine jr_iload C dX1_isPrintAway_149 rfl ?_
                      refine jr_if_ne C 161 dX1_isPrintAway_151 (by decide) (fun b => absurd b (by decide)) (fun _ => ?_)
                      refine jr_iload C dX1_isPrintAway_154 rfl ?_
                      refine jr_if_ne C 161 dX1_isPrintAway_156 (by decide) (fun b => absurd b (by decide)) (fun _ => ?_)
                      refine jr_iconst C (v := 1) dX1_isPrintAway_159 (by decide) ?_
                      exact ret _ _ _ _ dX1_isPrintAway_160 (rfl) (⟨by decide, rfl⟩)
                    · refine jr_iconst C (v := 1) dX1_isPrintAway_142 (by decide) ?_
                      refine jr_goto C 147 dX1_isPrintAway_143 (by decide) ?_
                      refine jr_istore C dX1_isPrintAway_147 (by decide) ?_
                      refine jr_iload C dX1_isPrintAway_149 rfl ?_
                      refine jr_if_ne C 161 dX1_isPrintAway_151 (by decide) (fun b => absurd b (by decide)) (fun _ => ?_)
                      refine jr_iload C dX1_isPrintAway_154 rfl ?_
                      refine jr_if_ne C 161 dX1_isPrintAway_156 (by decide) (fun _ => ?_) (fun b => absurd b (by decide))
                      refine jr_iinc C _ dX1_isPrintAway_161 rfl rfl (by decide) ?_
                      refine jr_goto C 3 dX1_isPrintAway_164 (by decide) ?_
                      exact jr_sub [(0, jf_r E 4), (1, .int f), (2, .int h), (3, .int b), (4, .int e), (5, .int x), (6, .int _)] rfl (ih _ (by omega) (by omega) (by omega))
                · refine jr_iconst C (v := 1) dX1_isPrintAway_103 (by decide) ?_
                  refine jr_goto C 108 dX1_isPrintAway_104 (by decide) ?_
                  refine jr_istore C dX1_isPrintAway_108 (by decide) ?_
                  refine jr_iload_n C dX1_isPrintAway_110 rfl ?_
                  refine jr_aload_n C dX1_isPrintAway_111 rfl ?_
                  refine jr_getr C kf_X1_19_4 dX1_isPrintAway_112 ?_
                  refine jr_getr C kf_X1_85_3 dX1_isPrintAway_115 ?_
                  refine jr_iload C dX1_isPrintAway_118 rfl ?_
                  refine jr_ialv C ka_X_27 dX1_isPrintAway_120 (ji_in (i := o) (by omega) (by omega)) (v := σ.1 27 _) rfl ?_
                  refine jr_ncmp_ge C 146 dX1_isPrintAway_121 (by decide) rfl rfl (fun b121 => ?_) (fun b121 => ?_)
                  · refine jr_iconst C (v := 0) dX1_isPrintAway_146 (by decide) ?_
                    refine jr_istore C dX1_isPrintAway_147 (by decide) ?_
                    refine jr_iload C dX1_isPrintAway_149 rfl ?_
                    refine jr_if_ne C 161 dX1_isPrintAway_151 (by decide) (fun _ => ?_) (fun b => absurd b (by decide))
                    refine jr_iinc C _ dX1_isPrintAway_161 rfl rfl (by decide) ?_
                    refine jr_goto C 3 dX1_isPrintAway_164 (by decide) ?_
                    exact jr_sub [(0, jf_r E 4), (1, .int f), (2, .int h), (3, .int b), (4, .int e), (5, .int x), (6, .int _)] rfl (ih _ (by omega) (by omega) (by omega))
                  · refine jr_aload_n C dX1_isPrintAway_124 rfl ?_
                    refine jr_getr C kf_X1_19_4 dX1_isPrintAway_125 ?_
                    refine jr_getr C kf_X1_85_3 dX1_isPrintAway_128 ?_
                    refine jr_iload C dX1_isPrintAway_131 rfl ?_
                    refine jr_ialv C ka_X_27 dX1_isPrintAway_133 (ji_in (i := o) (by omega) (by omega)) (v := σ.1 27 _) rfl ?_
                    refine jr_iload C dX1_isPrintAway_134 rfl ?_
                    refine jr_iload C dX1_isPrintAway_136 rfl ?_
                    refine jr_iadd C dX1_isPrintAway_138 ?_
                    refine jr_ncmp_lt C 146 dX1_isPrintAway_139 (by decide) rfl rfl (fun b139 => ?_) (fun b139 => ?_)
                    · refine jr_iconst C (v := 0) dX1_isPrintAway_146 (by decide) ?_
                      refine jr_istore C dX1_isPrintAway_147 (by decide) ?_
                      refine jr_iload C dX1_isPrintAway_149 rfl ?_
                      refine jr_if_ne C 161 dX1_isPrintAway_151 (by decide) (fun _ => ?_) (fun b => absurd b (by decide))
                      refine jr_iinc C _ dX1_isPrintAway_161 rfl rfl (by decide) ?_
                      refine jr_goto C 3 dX1_isPrintAway_164 (by decide) ?_
                      exact jr_sub [(0, jf_r E 4), (1, .int f), (2, .int h), (3, .int b), (4, .int e), (5, .int x), (6, .int _)] rfl (ih _ (by omega) (by omega) (by omega))
                    · refine jr_iconst C (v := 1) dX1_isPrintAway_142 (by decide) ?_
                      refine jr_goto C 147 dX1_isPrintAway_143 (by decide) ?_
                      refine jr_istore C dX1_isPrintAway_147 (by decide) ?_
                      refine jr_iload C dX1_isPrintAway_149 rfl ?_
                      refine jr_if_ne C 161 dX1_isPrintAway_151 (by decide) (fun _ => ?_) (fun b => absurd b (by decide))
                      refine jr_iinc C _ dX1_isPrintAway_161 rfl rfl (by decide) ?_
                      refine jr_goto C 3 dX1_isPrintAway_164 (by decide) ?_
                      exact jr_sub [(0, jf_r E 4), (1, .int f), (2, .int h), (3, .int b), (4, .int e), (5, .int x), (6, .int _)] rfl (ih _ (by omega) (by omega) (by omega))
            · refine jr_goto C 161 dX1_isPrintAway_49 (by decide) ?_
              refine jr_iinc C _ dX1_isPrintAway_161 rfl rfl (by decide) ?_
              refine jr_goto C 3 dX1_isPrintAway_164 (by decide) ?_
              exact jr_sub [(0, jf_r E 4), (1, .int f), (2, .int h), (3, .int b), (4, .int e), (5, .int x), (6, .int _)] rfl (ih _ (by omega) (by omega) (by omega))
  refine jr_iconst C (v := 0) dX1_isPrintAway_0 (by decide) ?_
  refine jr_istore C dX1_isPrintAway_1 (by decide) ?_
  exact jr_sub [(0, jf_r E 4), (1, .int f), (2, .int h), (3, .int b), (4, .int e), (5, .int x), (6, .int _)] rfl (lp 61 _ (by decide) hE.1 (by show _ - 0 < _; omega))
theorem ct_X1_manyOf (E : jf_E) (σ : jf_S) (f x : Int32) (hI : xI σ) : jf_I jh_X E yX1_manyOf cX1_manyOf 5 .int 0 [jf_r E 4, .int f, .int x] σ (fun r τ => σ = τ) := by
  refine jf_mkI (by decide) (Nat.le_of_ble_eq_true rfl) ?_
  intro G C ret
  have hE := hI.1
  have lp : ∀ (m : Nat) (n o : Int32), 0 ≤ o.toInt → o.toInt ≤ ((σ.1 3 8)).toInt → ((σ.1 3 8)).toInt - o.toInt < m → jf_X jh_X E G 5 5 [(0, jf_r E 4), (1, .int f), (2, .int x), (3, .int n), (4, .int o)] [] σ := by
    intro m
    induction m with
    | zero => intro n o g1 g2 g3; exfalso; omega
    | succ m ih =>
      intro n o g1 g2 g3
      have e1 := ji_inc (k := o) (by omega)
      refine jr_iload C dX1_manyOf_5 rfl ?_
      refine jr_aload_n C dX1_manyOf_7 rfl ?_
      refine jr_getr C kf_X1_19_4 dX1_manyOf_8 ?_
      refine jr_getv C kf_X1_72_3 dX1_manyOf_11 (v := σ.1 3 8) rfl ?_
      refine jr_ncmp_ge C 59 dX1_manyOf_14 (by decide) rfl rfl (fun b14 => ?_) (fun b14 => ?_)
      · refine jr_iload_n C dX1_manyOf_59 rfl ?_
        exact ret _ _ _ _ dX1_manyOf_60 rfl (rfl)
      · refine jr_iload C dX1_manyOf_17 rfl ?_
        refine jr_iload_n C dX1_manyOf_19 rfl ?_
        refine jr_ncmp_eq C 53 dX1_manyOf_20 (by decide) rfl rfl (fun b20 => ?_) (fun b20 => ?_)
        · refine jr_iinc C _ dX1_manyOf_53 rfl rfl (by decide) ?_
          refine jr_goto C 5 dX1_manyOf_56 (by decide) ?_
          exact jr_sub [(0, jf_r E 4), (1, .int f), (2, .int x), (3, .int _), (4, .int _)] rfl (ih _ _ (by omega) (by omega) (by omega))
        · refine jr_aload_n C dX1_manyOf_23 rfl ?_
          refine jr_getr C kf_X1_19_4 dX1_manyOf_24 ?_
          refine jr_getr C kf_X1_78_3 dX1_manyOf_27 ?_
          refine jr_iload C dX1_manyOf_30 rfl ?_
          refine jr_zalv C ka_X_31 dX1_manyOf_32 (ji_in (i := o) (by omega) (by omega)) (v := σ.1 31 _) rfl ?_
          refine jr_nif_eq C 53 dX1_manyOf_33 (by decide) (fun b33 => ?_) (fun b33 => ?_)
          · refine jr_iinc C _ dX1_manyOf_53 rfl rfl (by decide) ?_
            refine jr_goto C 5 dX1_manyOf_56 (by decide) ?_
            exact jr_sub [(0, jf_r E 4), (1, .int f), (2, .int x), (3, .int _), (4, .int _)] rfl (ih _ _ (by omega) (by omega) (by omega))
          · refine jr_aload_n C dX1_manyOf_36 rfl ?_
            refine jr_getr C kf_X1_19_4 dX1_manyOf_37 ?_
            refine jr_getr C kf_X1_91_3 dX1_manyOf_40 ?_
            refine jr_iload C dX1_manyOf_43 rfl ?_
            refine jr_ialv C ka_X_25 dX1_manyOf_45 (ji_in (i := o) (by omega) (by omega)) (v := σ.1 25 _) rfl ?_
            refine jr_iload_n C dX1_manyOf_46 rfl ?_
            refine jr_ncmp_ne C 53 dX1_manyOf_47 (by decide) rfl rfl (fun b47 => ?_) (fun b47 => ?_)
            · refine jr_iinc C _ dX1_manyOf_53 rfl rfl (by decide) ?_
              refine jr_goto C 5 dX1_manyOf_56 (by decide) ?_
              exact jr_sub [(0, jf_r E 4), (1, .int f), (2, .int x), (3, .int _), (4, .int _)] rfl (ih _ _ (by omega) (by omega) (by omega))
            · refine jr_iinc C _ dX1_manyOf_50 rfl rfl (by decide) ?_
              refine jr_iinc C _ dX1_manyOf_53 rfl rfl (by decide) ?_
              refine jr_goto C 5 dX1_manyOf_56 (by decide) ?_
              exact jr_sub [(0, jf_r E 4), (1, .int f), (2, .int x), (3, .int _), (4, .int _)] rfl (ih _ _ (by omega) (by omega) (by omega))
  refine jr_iconst C (v := 0) dX1_manyOf_0 (by decide) ?_
  refine jr_istore_n C dX1_manyOf_1 (by decide) ?_
  refine jr_iconst C (v := 0) dX1_manyOf_2 (by decide) ?_
  refine jr_istore C dX1_manyOf_3 (by decide) ?_
  exact jr_sub [(0, jf_r E 4), (1, .int f), (2, .int x), (3, .int _), (4, .int _)] rfl (lp 61 _ _ (by decide) hE.1 (by show _ - 0 < _; omega))
theorem ct_X1_isBesideBarred (E : jf_E) (σ : jf_S) (f h b e x : Int32) (hI : xI σ) (f0 : 0 ≤ f.toInt ∧ f.toInt < 20) (h0 : 0 ≤ h.toInt ∧ h.toInt < 4) : jf_I jh_X E yX1_isBesideBarred cX1_isBesideBarred 7 .boolean 1 [jf_r E 4, .int f, .int h, .int b, .int e, .int x] σ (fun r τ => (r = 0 ∨ r = 1) ∧ σ = τ) := by
  refine jf_mkI (by decide) (Nat.le_of_ble_eq_true rfl) ?_
  intro G C ret
  have hE := hI.1
  have lp : ∀ (m : Nat) (o : Int32), 0 ≤ o.toInt → o.toInt ≤ ((σ.1 3 8)).toInt → ((σ.1 3 8)).toInt - o.toInt < m → jf_X jh_X E G 7 3 [(0, jf_r E 4), (1, .int f), (2, .int h), (3, .int b), (4, .int e), (5, .int x), (6, .int o)] [] σ := by
    intro m
    induction m with
    | zero => intro o g1 g2 g3; exfalso; omega
    | succ m ih =>
      intro o g1 g2 g3
      have e1 := ji_inc (k := o) (by omega)
      refine jr_iload C dX1_isBesideBarred_3 rfl ?_
      refine jr_aload_n C dX1_isBesideBarred_5 rfl ?_
      refine jr_getr C kf_X1_19_4 dX1_isBesideBarred_6 ?_
      refine jr_getv C kf_X1_72_3 dX1_isBesideBarred_9 (v := σ.1 3 8) rfl ?_
      refine jr_ncmp_ge C 100 dX1_isBesideBarred_12 (by decide) rfl rfl (fun b12 => ?_) (fun b12 => ?_)
      · refine jr_iconst C (v := 0) dX1_isBesideBarred_100 (by decide) ?_
        exact ret _ _ _ _ dX1_isBesideBarred_101 (rfl) (⟨by decide, rfl⟩)
      · refine jr_iload C dX1_isBesideBarred_15 rfl ?_
        refine jr_iload C dX1_isBesideBarred_17 rfl ?_
        refine jr_ncmp_eq C 94 dX1_isBesideBarred_19 (by decide) rfl rfl (fun b19 => ?_) (fun b19 => ?_)
        · refine jr_iinc C _ dX1_isBesideBarred_94 rfl rfl (by decide) ?_
          refine jr_goto C 3 dX1_isBesideBarred_97 (by decide) ?_
          exact jr_sub [(0, jf_r E 4), (1, .int f), (2, .int h), (3, .int b), (4, .int e), (5, .int x), (6, .int _)] rfl (ih _ (by omega) (by omega) (by omega))
        · refine jr_aload_n C dX1_isBesideBarred_22 rfl ?_
          refine jr_getr C kf_X1_19_4 dX1_isBesideBarred_23 ?_
          refine jr_getr C kf_X1_78_3 dX1_isBesideBarred_26 ?_
          refine jr_iload C dX1_isBesideBarred_29 rfl ?_
          refine jr_zalv C ka_X_31 dX1_isBesideBarred_31 (ji_in (i := o) (by omega) (by omega)) (v := σ.1 31 _) rfl ?_
          refine jr_nif_eq C 94 dX1_isBesideBarred_32 (by decide) (fun b32 => ?_) (fun b32 => ?_)
          · refine jr_iinc C _ dX1_isBesideBarred_94 rfl rfl (by decide) ?_
            refine jr_goto C 3 dX1_isBesideBarred_97 (by decide) ?_
            exact jr_sub [(0, jf_r E 4), (1, .int f), (2, .int h), (3, .int b), (4, .int e), (5, .int x), (6, .int _)] rfl (ih _ (by omega) (by omega) (by omega))
          · refine jr_aload_n C dX1_isBesideBarred_35 rfl ?_
            refine jr_getr C kf_X1_15_4 dX1_isBesideBarred_36 ?_
            refine jr_iload_n C dX1_isBesideBarred_39 rfl ?_
            refine jr_aload_n C dX1_isBesideBarred_40 rfl ?_
            refine jr_getr C kf_X1_19_4 dX1_isBesideBarred_41 ?_
            refine jr_getr C kf_X1_91_3 dX1_isBesideBarred_44 ?_
            refine jr_iload C dX1_isBesideBarred_47 rfl ?_
            refine jr_ialv C ka_X_25 dX1_isBesideBarred_49 (ji_in (i := o) (by omega) (by omega)) (v := σ.1 25 _) rfl ?_
            refine jr_vip C [.int _, .int _] _ (ct_X2_barOneAnother E _ _ _ f0 (xI_film hI _)) ky_X2_barOneAnother kv_X2_barOneAnother kk_X_2 km_X1_97 (by decide) rfl (Nat.le_of_ble_eq_true rfl) dX1_isBesideBarred_50 ?_
            refine jr_if_eq C 94 dX1_isBesideBarred_53 (by decide) (fun b53 => ?_) (fun b53 => ?_)
            · replace b53 := jb_f b53
              refine jr_iinc C _ dX1_isBesideBarred_94 rfl rfl (by decide) ?_
              refine jr_goto C 3 dX1_isBesideBarred_97 (by decide) ?_
              exact jr_sub [(0, jf_r E 4), (1, .int f), (2, .int h), (3, .int b), (4, .int e), (5, .int x), (6, .int _)] rfl (ih _ (by omega) (by omega) (by omega))
            · replace b53 := jb_t b53
              refine jr_aload_n C dX1_isBesideBarred_56 rfl ?_
              refine jr_getr C kf_X1_9_4 dX1_isBesideBarred_57 ?_
              refine jr_iload_n C dX1_isBesideBarred_60 rfl ?_
              refine jr_aload_n C dX1_isBesideBarred_61 rfl ?_
              refine jr_getr C kf_X1_19_4 dX1_isBesideBarred_62 ?_
              refine jr_getr C kf_X1_82_3 dX1_isBesideBarred_65 ?_
              refine jr_iload C dX1_isBesideBarred_68 rfl ?_
              refine jr_ialv C ka_X_26 dX1_isBesideBarred_70 (ji_in (i := o) (by omega) (by omega)) (v := σ.1 26 _) rfl ?_
              refine jr_vip C [.int _, .int _] _ (ct_X3_inOneTown E _ _ _ h0 (xI_hall hI _)) ky_X3_inOneTown kv_X3_inOneTown kk_X_1 km_X1_101 (by decide) rfl (Nat.le_of_ble_eq_true rfl) dX1_isBesideBarred_71 ?_
              refine jr_if_eq C 94 dX1_isBesideBarred_74 (by decide) (fun b74 => ?_) (fun b74 => ?_)
              · replace b74 := jb_f b74
                refine jr_iinc C _ dX1_isBesideBarred_94 rfl rfl (by decide) ?_
                refine jr_goto C 3 dX1_isBesideBarred_97 (by decide) ?_
                exact jr_sub [(0, jf_r E 4), (1, .int f), (2, .int h), (3, .int b), (4, .int e), (5, .int x), (6, .int _)] rfl (ih _ (by omega) (by omega) (by omega))
              · replace b74 := jb_t b74
                refine jr_aload_n C dX1_isBesideBarred_77 rfl ?_
                refine jr_getr C kf_X1_19_4 dX1_isBesideBarred_78 ?_
                refine jr_iload C dX1_isBesideBarred_81 rfl ?_
                refine jr_iload_n C dX1_isBesideBarred_83 rfl ?_
                refine jr_iload C dX1_isBesideBarred_84 rfl ?_
                refine jr_vip C [.int _, .int _, .int _] _ (ct_X8_runsWithin E _ _ _ _ ⟨by omega, by omega⟩) ky_X8_runsWithin kv_X8_runsWithin kk_X_3 km_X1_104 (by decide) rfl (Nat.le_of_ble_eq_true rfl) dX1_isBesideBarred_86 ?_
                refine jr_if_eq C 94 dX1_isBesideBarred_89 (by decide) (fun b89 => ?_) (fun b89 => ?_)
                · replace b89 := jb_f b89
                  refine jr_iinc C _ dX1_isBesideBarred_94 rfl rfl (by decide) ?_
                  refine jr_goto C 3 dX1_isBesideBarred_97 (by decide) ?_
                  exact jr_sub [(0, jf_r E 4), (1, .int f), (2, .int h), (3, .int b), (4, .int e), (5, .int x), (6, .int _)] rfl (ih _ (by omega) (by omega) (by omega))
                · replace b89 := jb_t b89
                  refine jr_iconst C (v := 1) dX1_isBesideBarred_92 (by decide) ?_
                  exact ret _ _ _ _ dX1_isBesideBarred_93 (rfl) (⟨by decide, rfl⟩)
  refine jr_iconst C (v := 0) dX1_isBesideBarred_0 (by decide) ?_
  refine jr_istore C dX1_isBesideBarred_1 (by decide) ?_
  exact jr_sub [(0, jf_r E 4), (1, .int f), (2, .int h), (3, .int b), (4, .int e), (5, .int x), (6, .int _)] rfl (lp 61 _ (by decide) hE.1 (by show _ - 0 < _; omega))
theorem ct_X1_reason (E : jf_E) (σ : jf_S) (f h b s x : Int32) (hI : xI σ) (f0 : 0 ≤ f.toInt ∧ f.toInt < 20) (h0 : 0 ≤ h.toInt ∧ h.toInt < 4) : jf_I jh_X E yX1_reason cX1_reason 7 .int 2 [jf_r E 4, .int f, .int h, .int b, .int s, .int x] σ (fun r τ => (0 ≤ r.toInt ∧ r.toInt ≤ 9) ∧ σ = τ) := by
  refine jf_mkI (by decide) (Nat.le_of_ble_eq_true rfl) ?_
  intro G C ret
  refine jr_iload_n C dX1_reason_0 rfl ?_
  refine jr_aload_n C dX1_reason_1 rfl ?_
  refine jr_getr C kf_X1_15_4 dX1_reason_2 ?_
  refine jr_getr C kf_X1_23_2 dX1_reason_5 ?_
  refine jr_iload_n C dX1_reason_8 rfl ?_
  refine jr_ialv C ka_X_17 dX1_reason_9 (ji_in f0.1 f0.2) (v := σ.1 17 _) rfl ?_
  refine jr_iadd C dX1_reason_10 ?_
  refine jr_istore C dX1_reason_11 (by decide) ?_
  refine jr_iload C dX1_reason_13 rfl ?_
  refine jr_sipush C (v := 14400) dX1_reason_15 (by decide) ?_
  refine jr_ncmp_le C (b := 14400) 23 dX1_reason_18 (by decide) rfl rfl (fun b18 => ?_) (fun b18 => ?_)
  · refine jr_aload_n C dX1_reason_23 rfl ?_
    refine jr_getr C kf_X1_9_4 dX1_reason_24 ?_
    refine jr_getr C kf_X1_29_1 dX1_reason_27 ?_
    refine jr_iload_n C dX1_reason_30 rfl ?_
    refine jr_ialv C ka_X_15 dX1_reason_31 (ji_in h0.1 h0.2) (v := σ.1 15 _) rfl ?_
    refine jr_aload_n C dX1_reason_32 rfl ?_
    refine jr_getr C kf_X1_15_4 dX1_reason_33 ?_
    refine jr_getr C kf_X1_34_2 dX1_reason_36 ?_
    refine jr_iload_n C dX1_reason_39 rfl ?_
    refine jr_ialv C ka_X_18 dX1_reason_40 (ji_in f0.1 f0.2) (v := σ.1 18 _) rfl ?_
    refine jr_ishr C dX1_reason_41 ?_
    refine jr_iconst C (v := 1) dX1_reason_42 (by decide) ?_
    refine jr_iand C dX1_reason_43 ?_
    refine jr_nif_ne C 49 dX1_reason_44 (by decide) (fun b44 => ?_) (fun b44 => ?_)
    · refine jr_aload_n C dX1_reason_49 rfl ?_
      refine jr_iload_n C dX1_reason_50 rfl ?_
      refine jr_iload_n C dX1_reason_51 rfl ?_
      refine jr_iload C dX1_reason_52 rfl ?_
      refine jr_iload C dX1_reason_54 rfl ?_
      refine jr_vi C [.int _, .int _, .int _, .int _] _ (ct_X1_isHallTaken E _ _ _ _ _ hI h0) ky_X1_isHallTaken kv_X1_isHallTaken kk_X_4 km_X1_37 (by decide) rfl (Nat.le_of_ble_eq_true rfl) dX1_reason_56 (fun r56 τ56 h56 => ?_)
      obtain ⟨-, rfl⟩ := h56
      refine jr_nif_eq C 64 dX1_reason_59 (by decide) (fun b59 => ?_) (fun b59 => ?_)
      · refine jr_aload_n C dX1_reason_64 rfl ?_
        refine jr_iload_n C dX1_reason_65 rfl ?_
        refine jr_iload_n C dX1_reason_66 rfl ?_
        refine jr_iload_n C dX1_reason_67 rfl ?_
        refine jr_iload C dX1_reason_68 rfl ?_
        refine jr_iload C dX1_reason_70 rfl ?_
        refine jr_vi C [.int _, .int _, .int _, .int _, .int _] _ (ct_X1_isPrintAway E _ _ _ _ _ _ hI h0) ky_X1_isPrintAway kv_X1_isPrintAway kk_X_4 km_X1_41 (by decide) rfl (Nat.le_of_ble_eq_true rfl) dX1_reason_72 (fun r72 τ72 h72 => ?_)
        obtain ⟨-, rfl⟩ := h72
        refine jr_nif_eq C 80 dX1_reason_75 (by decide) (fun b75 => ?_) (fun b75 => ?_)
        · refine jr_iload C dX1_reason_80 rfl ?_
          refine jr_iconst C (v := 1) dX1_reason_82 (by decide) ?_
          refine jr_ncmp_ne C (b := 1) 102 dX1_reason_83 (by decide) rfl rfl (fun b83 => ?_) (fun b83 => ?_)
          · refine jr_iload C dX1_reason_102 rfl ?_
            refine jr_iconst C (v := 2) dX1_reason_104 (by decide) ?_
            refine jr_ncmp_ne C (b := 2) 118 dX1_reason_105 (by decide) rfl rfl (fun b105 => ?_) (fun b105 => ?_)
            · refine jr_iload_n C dX1_reason_118 rfl ?_
              refine jr_aload_n C dX1_reason_119 rfl ?_
              refine jr_getr C kf_X1_15_4 dX1_reason_120 ?_
              refine jr_getr C kf_X1_53_2 dX1_reason_123 ?_
              refine jr_iload_n C dX1_reason_126 rfl ?_
              refine jr_ialv C ka_X_22 dX1_reason_127 (ji_in f0.1 f0.2) (v := σ.1 22 _) rfl ?_
              refine jr_ncmp_ge C 134 dX1_reason_128 (by decide) rfl rfl (fun b128 => ?_) (fun b128 => ?_)
              · refine jr_aload_n C dX1_reason_134 rfl ?_
                refine jr_getr C kf_X1_15_4 dX1_reason_135 ?_
                refine jr_iload_n C dX1_reason_138 rfl ?_
                refine jr_vip C [.int _] _ (ct_X2_isBarredAtMost E _ _ f0) ky_X2_isBarredAtMost kv_X2_isBarredAtMost kk_X_2 km_X1_56 (by decide) rfl (Nat.le_of_ble_eq_true rfl) dX1_reason_139 ?_
                refine jr_if_eq C 167 dX1_reason_142 (by decide) (fun b142 => ?_) (fun b142 => ?_)
                · replace b142 := jb_f b142
                  refine jr_aload_n C dX1_reason_167 rfl ?_
                  refine jr_iload_n C dX1_reason_168 rfl ?_
                  refine jr_iload_n C dX1_reason_169 rfl ?_
                  refine jr_iload_n C dX1_reason_170 rfl ?_
                  refine jr_iload C dX1_reason_171 rfl ?_
                  refine jr_iload C dX1_reason_173 rfl ?_
                  refine jr_vi C [.int _, .int _, .int _, .int _, .int _] _ (ct_X1_isBesideBarred E _ _ _ _ _ _ hI f0 h0) ky_X1_isBesideBarred kv_X1_isBesideBarred kk_X_4 km_X1_66 (by decide) rfl (Nat.le_of_ble_eq_true rfl) dX1_reason_175 (fun r175 τ175 h175 => ?_)
                  obtain ⟨-, rfl⟩ := h175
                  refine jr_nif_eq C 186 dX1_reason_178 (by decide) (fun b178 => ?_) (fun b178 => ?_)
                  · refine jr_iconst C (v := 0) dX1_reason_186 (by decide) ?_
                    exact ret _ _ _ _ dX1_reason_187 rfl (⟨by decide, rfl⟩)
                  · refine jr_bipush C (v := 9) dX1_reason_181 (by decide) ?_
                    refine jr_goto C 187 dX1_reason_183 (by decide) ?_
                    exact ret _ _ _ _ dX1_reason_187 rfl (⟨by decide, rfl⟩)
                · replace b142 := jb_t b142
                  refine jr_aload_n C dX1_reason_145 rfl ?_
                  refine jr_iload_n C dX1_reason_146 rfl ?_
                  refine jr_iload C dX1_reason_147 rfl ?_
                  refine jr_vi C [.int _, .int _] _ (ct_X1_manyOf E _ _ _ hI) ky_X1_manyOf kv_X1_manyOf kk_X_4 km_X1_59 (by decide) rfl (Nat.le_of_ble_eq_true rfl) dX1_reason_149 (fun r149 τ149 h149 => ?_)
                  subst h149
                  refine jr_aload_n C dX1_reason_152 rfl ?_
                  refine jr_getr C kf_X1_15_4 dX1_reason_153 ?_
                  refine jr_getr C kf_X1_63_2 dX1_reason_156 ?_
                  refine jr_iload_n C dX1_reason_159 rfl ?_
                  refine jr_ialv C ka_X_23 dX1_reason_160 (ji_in f0.1 f0.2) (v := σ.1 23 _) rfl ?_
                  refine jr_ncmp_lt C 167 dX1_reason_161 (by decide) rfl rfl (fun b161 => ?_) (fun b161 => ?_)
                  · refine jr_aload_n C dX1_reason_167 rfl ?_
                    refine jr_iload_n C dX1_reason_168 rfl ?_
                    refine jr_iload_n C dX1_reason_169 rfl ?_
                    refine jr_iload_n C dX1_reason_170 rfl ?_
                    refine jr_iload C dX1_reason_171 rfl ?_
                    refine jr_iload C dX1_reason_173 rfl ?_
                    refine jr_vi C [.int _, .int _, .int _, .int _, .int _] _ (ct_X1_isBesideBarred E _ _ _ _ _ _ hI f0 h0) ky_X1_isBesideBarred kv_X1_isBesideBarred kk_X_4 km_X1_66 (by decide) rfl (Nat.le_of_ble_eq_true rfl) dX1_reason_175 (fun r175 τ175 h175 => ?_)
                    obtain ⟨-, rfl⟩ := h175
                    refine jr_nif_eq C 186 dX1_reason_178 (by decide) (fun b178 => ?_) (fun b178 => ?_)
                    · refine jr_iconst C (v := 0) dX1_reason_186 (by decide) ?_
                      exact ret _ _ _ _ dX1_reason_187 rfl (⟨by decide, rfl⟩)
                    · refine jr_bipush C (v := 9) dX1_reason_181 (by decide) ?_
                      refine jr_goto C 187 dX1_reason_183 (by decide) ?_
                      exact ret _ _ _ _ dX1_reason_187 rfl (⟨by decide, rfl⟩)
                  · refine jr_bipush C (v := 8) dX1_reason_164 (by decide) ?_
                    exact ret _ _ _ _ dX1_reason_166 rfl (⟨by decide, rfl⟩)
              · refine jr_bipush C (v := 7) dX1_reason_131 (by decide) ?_
                exact ret _ _ _ _ dX1_reason_133 rfl (⟨by decide, rfl⟩)
            · refine jr_iload_n C dX1_reason_108 rfl ?_
              refine jr_sip C [.int _] _ (ct_X1_isLateHour E _ _) ky_X1_isLateHour ks_X1_isLateHour km_X1_49 (by decide) rfl (Nat.le_of_ble_eq_true rfl) dX1_reason_109 ?_
              refine jr_if_ne C 118 dX1_reason_112 (by decide) (fun b112 => ?_) (fun b112 => ?_)
              · replace b112 := jb_t b112
                refine jr_iload_n C dX1_reason_118 rfl ?_
                refine jr_aload_n C dX1_reason_119 rfl ?_
                refine jr_getr C kf_X1_15_4 dX1_reason_120 ?_
                refine jr_getr C kf_X1_53_2 dX1_reason_123 ?_
                refine jr_iload_n C dX1_reason_126 rfl ?_
                refine jr_ialv C ka_X_22 dX1_reason_127 (ji_in f0.1 f0.2) (v := σ.1 22 _) rfl ?_
                refine jr_ncmp_ge C 134 dX1_reason_128 (by decide) rfl rfl (fun b128 => ?_) (fun b128 => ?_)
                · refine jr_aload_n C dX1_reason_134 rfl ?_
                  refine jr_getr C kf_X1_15_4 dX1_reason_135 ?_
                  refine jr_iload_n C dX1_reason_138 rfl ?_
                  refine jr_vip C [.int _] _ (ct_X2_isBarredAtMost E _ _ f0) ky_X2_isBarredAtMost kv_X2_isBarredAtMost kk_X_2 km_X1_56 (by decide) rfl (Nat.le_of_ble_eq_true rfl) dX1_reason_139 ?_
                  refine jr_if_eq C 167 dX1_reason_142 (by decide) (fun b142 => ?_) (fun b142 => ?_)
                  · replace b142 := jb_f b142
                    refine jr_aload_n C dX1_reason_167 rfl ?_
                    refine jr_iload_n C dX1_reason_168 rfl ?_
                    refine jr_iload_n C dX1_reason_169 rfl ?_
                    refine jr_iload_n C dX1_reason_170 rfl ?_
                    refine jr_iload C dX1_reason_171 rfl ?_
                    refine jr_iload C dX1_reason_173 rfl ?_
                    refine jr_vi C [.int _, .int _, .int _, .int _, .int _] _ (ct_X1_isBesideBarred E _ _ _ _ _ _ hI f0 h0) ky_X1_isBesideBarred kv_X1_isBesideBarred kk_X_4 km_X1_66 (by decide) rfl (Nat.le_of_ble_eq_true rfl) dX1_reason_175 (fun r175 τ175 h175 => ?_)
                    obtain ⟨-, rfl⟩ := h175
                    refine jr_nif_eq C 186 dX1_reason_178 (by decide) (fun b178 => ?_) (fun b178 => ?_)
                    · refine jr_iconst C (v := 0) dX1_reason_186 (by decide) ?_
                      exact ret _ _ _ _ dX1_reason_187 rfl (⟨by decide, rfl⟩)
                    · refine jr_bipush C (v := 9) dX1_reason_181 (by decide) ?_
                      refine jr_goto C 187 dX1_reason_183 (by decide) ?_
                      exact ret _ _ _ _ dX1_reason_187 rfl (⟨by decide, rfl⟩)
                  · replace b142 := jb_t b142
                    refine jr_aload_n C dX1_reason_145 rfl ?_
                    refine jr_iload_n C dX1_reason_146 rfl ?_
                    refine jr_iload C dX1_reason_147 rfl ?_
                    refine jr_vi C [.int _, .int _] _ (ct_X1_manyOf E _ _ _ hI) ky_X1_manyOf kv_X1_manyOf kk_X_4 km_X1_59 (by decide) rfl (Nat.le_of_ble_eq_true rfl) dX1_reason_149 (fun r149 τ149 h149 => ?_)
                    subst h149
                    refine jr_aload_n C dX1_reason_152 rfl ?_
                    refine jr_getr C kf_X1_15_4 dX1_reason_153 ?_
                    refine jr_getr C kf_X1_63_2 dX1_reason_156 ?_
                    refine jr_iload_n C dX1_reason_159 rfl ?_
                    refine jr_ialv C ka_X_23 dX1_reason_160 (ji_in f0.1 f0.2) (v := σ.1 23 _) rfl ?_
                    refine jr_ncmp_lt C 167 dX1_reason_161 (by decide) rfl rfl (fun b161 => ?_) (fun b161 => ?_)
                    · refine jr_aload_n C dX1_reason_167 rfl ?_
                      refine jr_iload_n C dX1_reason_168 rfl ?_
                      refine jr_iload_n C dX1_reason_169 rfl ?_
                      refine jr_iload_n C dX1_reason_170 rfl ?_
                      refine jr_iload C dX1_reason_171 rfl ?_
                      refine jr_iload C dX1_reason_173 rfl ?_
                      refine jr_vi C [.int _, .int _, .int _, .int _, .int _] _ (ct_X1_isBesideBarred E _ _ _ _ _ _ hI f0 h0) ky_X1_isBesideBarred kv_X1_isBesideBarred kk_X_4 km_X1_66 (by decide) rfl (Nat.le_of_ble_eq_true rfl) dX1_reason_175 (fun r175 τ175 h175 => ?_)
                      obtain ⟨-, rfl⟩ := h175
                      refine jr_nif_eq C 186 dX1_reason_178 (by decide) (fun b178 => ?_) (fun b178 => ?_)
                      · refine jr_iconst C (v := 0) dX1_reason_186 (by decide) ?_
                        exact ret _ _ _ _ dX1_reason_187 rfl (⟨by decide, rfl⟩)
                      · refine jr_bipush C (v := 9) dX1_reason_181 (by decide) ?_
                        refine jr_goto C 187 dX1_reason_183 (by decide) ?_
                        exact ret _ _ _ _ dX1_reason_187 rfl (⟨by decide, rfl⟩)
                    · refine jr_bipush C (v := 8) dX1_reason_164 (by decide) ?_
                      exact ret _ _ _ _ dX1_reason_166 rfl (⟨by decide, rfl⟩)
                · refine jr_bipush C (v := 7) dX1_reason_131 (by decide) ?_
                  exact ret _ _ _ _ dX1_reason_133 rfl (⟨by decide, rfl⟩)
              · replace b112 := jb_f b112
                refine jr_bipush C (v := 6) dX1_reason_115 (by decide) ?_
                exact ret _ _ _ _ dX1_reason_117 rfl (⟨by decide, rfl⟩)
          · refine jr_aload_n C dX1_reason_86 rfl ?_
            refine jr_getr C kf_X1_15_4 dX1_reason_87 ?_
            refine jr_iload_n C dX1_reason_90 rfl ?_
            refine jr_iload_n C dX1_reason_91 rfl ?_
            refine jr_iload C dX1_reason_92 rfl ?_
            refine jr_vip C [.int _, .int _, .int _] _ (ct_X2_guestStays E _ _ _ _ f0) ky_X2_guestStays kv_X2_guestStays kk_X_2 km_X1_45 (by decide) rfl (Nat.le_of_ble_eq_true rfl) dX1_reason_94 ?_
            refine jr_if_ne C 102 dX1_reason_97 (by decide) (fun b97 => ?_) (fun b97 => ?_)
            · replace b97 := jb_t b97
              refine jr_iload C dX1_reason_102 rfl ?_
              refine jr_iconst C (v := 2) dX1_reason_104 (by decide) ?_
              refine jr_ncmp_ne C (b := 2) 118 dX1_reason_105 (by decide) rfl rfl (fun b105 => ?_) (fun b105 => ?_)
              · refine jr_iload_n C dX1_reason_118 rfl ?_
                refine jr_aload_n C dX1_reason_119 rfl ?_
                refine jr_getr C kf_X1_15_4 dX1_reason_120 ?_
                refine jr_getr C kf_X1_53_2 dX1_reason_123 ?_
                refine jr_iload_n C dX1_reason_126 rfl ?_
                refine jr_ialv C ka_X_22 dX1_reason_127 (ji_in f0.1 f0.2) (v := σ.1 22 _) rfl ?_
                refine jr_ncmp_ge C 134 dX1_reason_128 (by decide) rfl rfl (fun b128 => ?_) (fun b128 => ?_)
                · refine jr_aload_n C dX1_reason_134 rfl ?_
                  refine jr_getr C kf_X1_15_4 dX1_reason_135 ?_
                  refine jr_iload_n C dX1_reason_138 rfl ?_
                  refine jr_vip C [.int _] _ (ct_X2_isBarredAtMost E _ _ f0) ky_X2_isBarredAtMost kv_X2_isBarredAtMost kk_X_2 km_X1_56 (by decide) rfl (Nat.le_of_ble_eq_true rfl) dX1_reason_139 ?_
                  refine jr_if_eq C 167 dX1_reason_142 (by decide) (fun b142 => ?_) (fun b142 => ?_)
                  · replace b142 := jb_f b142
                    refine jr_aload_n C dX1_reason_167 rfl ?_
                    refine jr_iload_n C dX1_reason_168 rfl ?_
                    refine jr_iload_n C dX1_reason_169 rfl ?_
                    refine jr_iload_n C dX1_reason_170 rfl ?_
                    refine jr_iload C dX1_reason_171 rfl ?_
                    refine jr_iload C dX1_reason_173 rfl ?_
                    refine jr_vi C [.int _, .int _, .int _, .int _, .int _] _ (ct_X1_isBesideBarred E _ _ _ _ _ _ hI f0 h0) ky_X1_isBesideBarred kv_X1_isBesideBarred kk_X_4 km_X1_66 (by decide) rfl (Nat.le_of_ble_eq_true rfl) dX1_reason_175 (fun r175 τ175 h175 => ?_)
                    obtain ⟨-, rfl⟩ := h175
                    refine jr_nif_eq C 186 dX1_reason_178 (by decide) (fun b178 => ?_) (fun b178 => ?_)
                    · refine jr_iconst C (v := 0) dX1_reason_186 (by decide) ?_
                      exact ret _ _ _ _ dX1_reason_187 rfl (⟨by decide, rfl⟩)
                    · refine jr_bipush C (v := 9) dX1_reason_181 (by decide) ?_
                      refine jr_goto C 187 dX1_reason_183 (by decide) ?_
                      exact ret _ _ _ _ dX1_reason_187 rfl (⟨by decide, rfl⟩)
                  · replace b142 := jb_t b142
                    refine jr_aload_n C dX1_reason_145 rfl ?_
                    refine jr_iload_n C dX1_reason_146 rfl ?_
                    refine jr_iload C dX1_reason_147 rfl ?_
                    refine jr_vi C [.int _, .int _] _ (ct_X1_manyOf E _ _ _ hI) ky_X1_manyOf kv_X1_manyOf kk_X_4 km_X1_59 (by decide) rfl (Nat.le_of_ble_eq_true rfl) dX1_reason_149 (fun r149 τ149 h149 => ?_)
                    subst h149
                    refine jr_aload_n C dX1_reason_152 rfl ?_
                    refine jr_getr C kf_X1_15_4 dX1_reason_153 ?_
                    refine jr_getr C kf_X1_63_2 dX1_reason_156 ?_
                    refine jr_iload_n C dX1_reason_159 rfl ?_
                    refine jr_ialv C ka_X_23 dX1_reason_160 (ji_in f0.1 f0.2) (v := σ.1 23 _) rfl ?_
                    refine jr_ncmp_lt C 167 dX1_reason_161 (by decide) rfl rfl (fun b161 => ?_) (fun b161 => ?_)
                    · refine jr_aload_n C dX1_reason_167 rfl ?_
                      refine jr_iload_n C dX1_reason_168 rfl ?_
                      refine jr_iload_n C dX1_reason_169 rfl ?_
                      refine jr_iload_n C dX1_reason_170 rfl ?_
                      refine jr_iload C dX1_reason_171 rfl ?_
                      refine jr_iload C dX1_reason_173 rfl ?_
                      refine jr_vi C [.int _, .int _, .int _, .int _, .int _] _ (ct_X1_isBesideBarred E _ _ _ _ _ _ hI f0 h0) ky_X1_isBesideBarred kv_X1_isBesideBarred kk_X_4 km_X1_66 (by decide) rfl (Nat.le_of_ble_eq_true rfl) dX1_reason_175 (fun r175 τ175 h175 => ?_)
                      obtain ⟨-, rfl⟩ := h175
                      refine jr_nif_eq C 186 dX1_reason_178 (by decide) (fun b178 => ?_) (fun b178 => ?_)
                      · refine jr_iconst C (v := 0) dX1_reason_186 (by decide) ?_
                        exact ret _ _ _ _ dX1_reason_187 rfl (⟨by decide, rfl⟩)
                      · refine jr_bipush C (v := 9) dX1_reason_181 (by decide) ?_
                        refine jr_goto C 187 dX1_reason_183 (by decide) ?_
                        exact ret _ _ _ _ dX1_reason_187 rfl (⟨by decide, rfl⟩)
                    · refine jr_bipush C (v := 8) dX1_reason_164 (by decide) ?_
                      exact ret _ _ _ _ dX1_reason_166 rfl (⟨by decide, rfl⟩)
                · refine jr_bipush C (v := 7) dX1_reason_131 (by decide) ?_
                  exact ret _ _ _ _ dX1_reason_133 rfl (⟨by decide, rfl⟩)
              · refine jr_iload_n C dX1_reason_108 rfl ?_
                refine jr_sip C [.int _] _ (ct_X1_isLateHour E _ _) ky_X1_isLateHour ks_X1_isLateHour km_X1_49 (by decide) rfl (Nat.le_of_ble_eq_true rfl) dX1_reason_109 ?_
                refine jr_if_ne C 118 dX1_reason_112 (by decide) (fun b112 => ?_) (fun b112 => ?_)
                · replace b112 := jb_t b112
                  refine jr_iload_n C dX1_reason_118 rfl ?_
                  refine jr_aload_n C dX1_reason_119 rfl ?_
                  refine jr_getr C kf_X1_15_4 dX1_reason_120 ?_
                  refine jr_getr C kf_X1_53_2 dX1_reason_123 ?_
                  refine jr_iload_n C dX1_reason_126 rfl ?_
                  refine jr_ialv C ka_X_22 dX1_reason_127 (ji_in f0.1 f0.2) (v := σ.1 22 _) rfl ?_
                  refine jr_ncmp_ge C 134 dX1_reason_128 (by decide) rfl rfl (fun b128 => ?_) (fun b128 => ?_)
                  · refine jr_aload_n C dX1_reason_134 rfl ?_
                    refine jr_getr C kf_X1_15_4 dX1_reason_135 ?_
                    refine jr_iload_n C dX1_reason_138 rfl ?_
                    refine jr_vip C [.int _] _ (ct_X2_isBarredAtMost E _ _ f0) ky_X2_isBarredAtMost kv_X2_isBarredAtMost kk_X_2 km_X1_56 (by decide) rfl (Nat.le_of_ble_eq_true rfl) dX1_reason_139 ?_
                    refine jr_if_eq C 167 dX1_reason_142 (by decide) (fun b142 => ?_) (fun b142 => ?_)
                    · replace b142 := jb_f b142
                      refine jr_aload_n C dX1_reason_167 rfl ?_
                      refine jr_iload_n C dX1_reason_168 rfl ?_
                      refine jr_iload_n C dX1_reason_169 rfl ?_
                      refine jr_iload_n C dX1_reason_170 rfl ?_
                      refine jr_iload C dX1_reason_171 rfl ?_
                      refine jr_iload C dX1_reason_173 rfl ?_
                      refine jr_vi C [.int _, .int _, .int _, .int _, .int _] _ (ct_X1_isBesideBarred E _ _ _ _ _ _ hI f0 h0) ky_X1_isBesideBarred kv_X1_isBesideBarred kk_X_4 km_X1_66 (by decide) rfl (Nat.le_of_ble_eq_true rfl) dX1_reason_175 (fun r175 τ175 h175 => ?_)
                      obtain ⟨-, rfl⟩ := h175
                      refine jr_nif_eq C 186 dX1_reason_178 (by decide) (fun b178 => ?_) (fun b178 => ?_)
                      · refine jr_iconst C (v := 0) dX1_reason_186 (by decide) ?_
                        exact ret _ _ _ _ dX1_reason_187 rfl (⟨by decide, rfl⟩)
                      · refine jr_bipush C (v := 9) dX1_reason_181 (by decide) ?_
                        refine jr_goto C 187 dX1_reason_183 (by decide) ?_
                        exact ret _ _ _ _ dX1_reason_187 rfl (⟨by decide, rfl⟩)
                    · replace b142 := jb_t b142
                      refine jr_aload_n C dX1_reason_145 rfl ?_
                      refine jr_iload_n C dX1_reason_146 rfl ?_
                      refine jr_iload C dX1_reason_147 rfl ?_
                      refine jr_vi C [.int _, .int _] _ (ct_X1_manyOf E _ _ _ hI) ky_X1_manyOf kv_X1_manyOf kk_X_4 km_X1_59 (by decide) rfl (Nat.le_of_ble_eq_true rfl) dX1_reason_149 (fun r149 τ149 h149 => ?_)
                      subst h149
                      refine jr_aload_n C dX1_reason_152 rfl ?_
                      refine jr_getr C kf_X1_15_4 dX1_reason_153 ?_
                      refine jr_getr C kf_X1_63_2 dX1_reason_156 ?_
                      refine jr_iload_n C dX1_reason_159 rfl ?_
                      refine jr_ialv C ka_X_23 dX1_reason_160 (ji_in f0.1 f0.2) (v := σ.1 23 _) rfl ?_
                      refine jr_ncmp_lt C 167 dX1_reason_161 (by decide) rfl rfl (fun b161 => ?_) (fun b161 => ?_)
                      · refine jr_aload_n C dX1_reason_167 rfl ?_
                        refine jr_iload_n C dX1_reason_168 rfl ?_
                        refine jr_iload_n C dX1_reason_169 rfl ?_
                        refine jr_iload_n C dX1_reason_170 rfl ?_
                        refine jr_iload C dX1_reason_171 rfl ?_
                        refine jr_iload C dX1_reason_173 rfl ?_
                        refine jr_vi C [.int _, .int _, .int _, .int _, .int _] _ (ct_X1_isBesideBarred E _ _ _ _ _ _ hI f0 h0) ky_X1_isBesideBarred kv_X1_isBesideBarred kk_X_4 km_X1_66 (by decide) rfl (Nat.le_of_ble_eq_true rfl) dX1_reason_175 (fun r175 τ175 h175 => ?_)
                        obtain ⟨-, rfl⟩ := h175
                        refine jr_nif_eq C 186 dX1_reason_178 (by decide) (fun b178 => ?_) (fun b178 => ?_)
                        · refine jr_iconst C (v := 0) dX1_reason_186 (by decide) ?_
                          exact ret _ _ _ _ dX1_reason_187 rfl (⟨by decide, rfl⟩)
                        · refine jr_bipush C (v := 9) dX1_reason_181 (by decide) ?_
                          refine jr_goto C 187 dX1_reason_183 (by decide) ?_
                          exact ret _ _ _ _ dX1_reason_187 rfl (⟨by decide, rfl⟩)
                      · refine jr_bipush C (v := 8) dX1_reason_164 (by decide) ?_
                        exact ret _ _ _ _ dX1_reason_166 rfl (⟨by decide, rfl⟩)
                  · refine jr_bipush C (v := 7) dX1_reason_131 (by decide) ?_
                    exact ret _ _ _ _ dX1_reason_133 rfl (⟨by decide, rfl⟩)
                · replace b112 := jb_f b112
                  refine jr_bipush C (v := 6) dX1_reason_115 (by decide) ?_
                  exact ret _ _ _ _ dX1_reason_117 rfl (⟨by decide, rfl⟩)
            · replace b97 := jb_f b97
              refine jr_iconst C (v := 5) dX1_reason_100 (by decide) ?_
              exact ret _ _ _ _ dX1_reason_101 rfl (⟨by decide, rfl⟩)
        · refine jr_iconst C (v := 4) dX1_reason_78 (by decide) ?_
          exact ret _ _ _ _ dX1_reason_79 rfl (⟨by decide, rfl⟩)
      · refine jr_iconst C (v := 3) dX1_reason_62 (by decide) ?_
        exact ret _ _ _ _ dX1_reason_63 rfl (⟨by decide, rfl⟩)
    · refine jr_iconst C (v := 2) dX1_reason_47 (by decide) ?_
      exact ret _ _ _ _ dX1_reason_48 rfl (⟨by decide, rfl⟩)
  · refine jr_iconst C (v := 1) dX1_reason_21 (by decide) ?_
    exact ret _ _ _ _ dX1_reason_22 rfl (⟨by decide, rfl⟩)

