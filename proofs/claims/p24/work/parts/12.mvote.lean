/-! the reference: votes, tape, counts -/
/-- a film is among a juror's votes (v: the votes' cells, n: how many) -/
def sp_has (v : Nat → Int32) (n : Int32) (j : Nat) (f : Int32) : Bool := jx_any (fun k => v (5 * j + k) == f) n.toNatClampNeg
theorem ct_X11_placeOf (E : jf_E) (σ : jf_S) (j f : Int32) (h0 : 0 ≤ j.toInt) (h1 : j.toInt < 10) (h2 : 0 ≤ ((σ.1 27) j.toNatClampNeg).toInt) (h3 : ((σ.1 27) j.toNatClampNeg).toInt ≤ 5) : jf_I jh_M E yX11_placeOf cX11_placeOf 4 .int 0 [jf_r E 0, .int j, .int f] σ (fun r τ => (0 ≤ r.toInt ↔ sp_has ((σ.1 26)) ((σ.1 27) j.toNatClampNeg) j.toNatClampNeg f = true) ∧ σ = τ) := by
  refine jf_mkI (by decide) (Nat.le_of_ble_eq_true rfl) ?_
  intro G C ret
  have loop : ∀ (n : Nat) (k : Int32), k.toInt < n → -1 ≤ k.toInt → k.toInt < ((σ.1 27) j.toNatClampNeg).toInt → (∀ i : Nat, k.toInt < i → i < ((σ.1 27) j.toNatClampNeg).toNatClampNeg → ¬ (σ.1 26) (5 * j.toNatClampNeg + i) = f) → jf_X jh_M E G 4 9 [(0, jf_r E 0), (1, .int j), (2, .int f), (3, .int k)] [] σ := by
    intro n
    induction n with
    | zero =>
      intro k g1 g2 g3 g4
      refine jr_iload_n C dX11_placeOf_9 rfl ?_
      refine jr_nif_lt C 33 dX11_placeOf_10 (by decide) (fun b10 => ?_) (fun b10 => (by exfalso; omega))
      refine jr_iload_n C dX11_placeOf_33 rfl ?_
      exact ret _ _ _ _ dX11_placeOf_34 rfl (⟨⟨fun q => by exfalso; omega, fun q => by obtain ⟨i, q1, q2⟩ := jx_any_iff.mp q; exact absurd (by simpa using q2) (g4 i (by omega) q1)⟩, rfl⟩)
    | succ n ih =>
      intro k g1 g2 g3 g4
      refine jr_iload_n C dX11_placeOf_9 rfl ?_
      refine jr_nif_lt C 33 dX11_placeOf_10 (by decide) (fun b10 => ?_) (fun b10 => ?_)
      · refine jr_iload_n C dX11_placeOf_33 rfl ?_
        exact ret _ _ _ _ dX11_placeOf_34 rfl (⟨⟨fun q => by exfalso; omega, fun q => by obtain ⟨i, q1, q2⟩ := jx_any_iff.mp q; exact absurd (by simpa using q2) (g4 i (by omega) q1)⟩, rfl⟩)
      · have e1 : (5 * j + k).toInt = 5 * j.toInt + k.toInt := ji_lini rfl (by omega) (by omega)
        have e2 : (5 * j + k).toNatClampNeg = 5 * j.toNatClampNeg + k.toNatClampNeg := ji_cl (by rw [e1, Int.natCast_add, Int.natCast_mul, ji_tn h0, ji_tn (by omega)]; rfl)
        refine jr_aload_n C dX11_placeOf_13 rfl ?_
        refine jr_getr C kf_X11_90_0 dX11_placeOf_14 ?_
        refine jr_iconst C (v := 5) dX11_placeOf_17 (by decide) ?_
        refine jr_iload_n C dX11_placeOf_18 rfl ?_
        refine jr_imul C dX11_placeOf_19 ?_
        refine jr_iload_n C dX11_placeOf_20 rfl ?_
        refine jr_iadd C dX11_placeOf_21 ?_
        refine jr_iald C ka_M_26 dX11_placeOf_22 (ji_in (by omega) (by omega)) ?_
        refine jr_iload_n C dX11_placeOf_23 rfl ?_
        refine jr_icmp_eq C 33 dX11_placeOf_24 (by decide) (fun b24 => ?_) (fun b24 => ?_)
        · refine jr_iload_n C dX11_placeOf_33 rfl ?_
          exact ret _ _ _ _ dX11_placeOf_34 rfl (⟨⟨fun _ => jx_any_iff.mpr ⟨k.toNatClampNeg, by have := ji_tn (x := k) (by omega); have := ji_tn h2; omega, by rw [e2] at b24; simpa using b24⟩, fun _ => by omega⟩, rfl⟩)
        · refine jr_iinc C _ dX11_placeOf_27 rfl rfl (by decide) ?_
          refine jr_goto C 9 dX11_placeOf_30 (by decide) ?_
          refine jr_sub [(0, jf_r E 0), (1, .int j), (2, .int f), (3, .int (k + Int32.ofInt (-1)))] rfl ?_
          have e3 := ji_dec (k := k) (by omega)
          refine ih _ (by omega) (by omega) (by omega) (fun i q1 q2 => ?_)
          rcases Int.lt_or_eq_of_le (show k.toInt ≤ i by omega) with q | q
          · exact g4 i q q2
          · rw [e2, show k.toNatClampNeg = i from ji_cl q] at b24
            exact b24
  have e1 := ji_dec1 (k := (σ.1 27) j.toNatClampNeg) (by omega)
  refine jr_aload_n C dX11_placeOf_0 rfl ?_
  refine jr_getr C kf_X11_93_0 dX11_placeOf_1 ?_
  refine jr_iload_n C dX11_placeOf_4 rfl ?_
  refine jr_iald C ka_M_27 dX11_placeOf_5 (ji_in h0 h1) ?_
  refine jr_iconst C (v := 1) dX11_placeOf_6 (by decide) ?_
  refine jr_isub C dX11_placeOf_7 ?_
  refine jr_istore_n C dX11_placeOf_8 (by decide) ?_
  refine jr_sub [(0, jf_r E 0), (1, .int j), (2, .int f), (3, .int ((σ.1 27) j.toNatClampNeg - 1))] rfl ?_
  exact loop 6 _ (by omega) (by omega) (by omega) (fun i q1 q2 => by have := ji_tn h2; omega)
def m_vote (σ : jf_S) (j f : Int32) : Int32 × jf_S :=
  if ¬ ((0 ≤ j.toInt ∧ j.toInt < ((σ.1 0 35)).toInt) ∧ (0 ≤ f.toInt ∧ f.toInt < ((σ.1 0 7)).toInt)) then (-2, m_told (jf_i σ 0 0 0) (-2))
  else if sp_has ((σ.1 26)) ((σ.1 27) j.toNatClampNeg) j.toNatClampNeg f = true then (-4, m_told (jf_i σ 0 0 0) (-4))
  else if ((σ.1 27) j.toNatClampNeg).toInt = 5 then (-5, m_told (jf_i σ 0 0 0) (-5))
  else ((σ.1 27) j.toNatClampNeg + 1, m_told (jf_i (jf_i (jf_i σ 0 0 0) 26 (5 * j + (σ.1 27) j.toNatClampNeg).toNatClampNeg f) 27 j.toNatClampNeg ((σ.1 27) j.toNatClampNeg + 1)) ((σ.1 27) j.toNatClampNeg + 1))
theorem ct_X11_vote (E : jf_E) (σ : jf_S) (j f : Int32) (h1 : ((σ.1 0 35)).toInt ≤ 10) (h2 : ∀ i, 0 ≤ ((σ.1 27) i).toInt ∧ ((σ.1 27) i).toInt ≤ 5) : jf_I jh_M E yX11_vote cX11_vote 3 .int 2 [jf_r E 0, .int j, .int f] σ (fun r τ => (r, τ) = m_vote σ j f) := by
  refine jf_mkI (by decide) (Nat.le_of_ble_eq_true rfl) ?_
  intro G C ret
  have h3 := h2 j.toNatClampNeg
  refine jr_aload_n C dX11_vote_0 rfl ?_
  refine jr_iconst C (v := 0) dX11_vote_1 (by decide) ?_
  refine jr_puti C kp_X11_144_0 dX11_vote_2 ?_
  refine jr_aload_n C dX11_vote_5 rfl ?_
  refine jr_iload_n C dX11_vote_6 rfl ?_
  refine jr_vip C [.int _] _ (ct_X11_isJuror E _ _ (σ.1 0 35) rfl) ky_X11_isJuror kv_X11_isJuror kk_M_0 km_X11_260 (by decide) rfl (Nat.le_of_ble_eq_true rfl) dX11_vote_7 ?_
  refine jr_if_eq C 21 dX11_vote_10 (by decide) (fun b10 => ?_) (fun b10 => ?_)
  · replace b10 := jb_f b10
    refine jr_aload_n C dX11_vote_21 rfl ?_
    refine jr_bipush C (v := -2) dX11_vote_22 (by decide) ?_
    refine jr_vip C [.int _] _ (ct_X11_told E _ _) ky_X11_told kv_X11_told kk_M_0 km_X11_173 (by decide) rfl (Nat.le_of_ble_eq_true rfl) dX11_vote_24 ?_
    exact ret _ _ _ _ dX11_vote_27 rfl (by unfold m_vote; (repeat' split) <;> first | (exfalso; omega) | rfl)
  · replace b10 := jb_t b10
    refine jr_aload_n C dX11_vote_13 rfl ?_
    refine jr_iload_n C dX11_vote_14 rfl ?_
    refine jr_vip C [.int _] _ (ct_X11_isFilm E _ _ (σ.1 0 7) rfl) ky_X11_isFilm kv_X11_isFilm kk_M_0 km_X11_187 (by decide) rfl (Nat.le_of_ble_eq_true rfl) dX11_vote_15 ?_
    refine jr_if_ne C 28 dX11_vote_18 (by decide) (fun b18 => ?_) (fun b18 => ?_)
    · replace b18 := jb_t b18
      refine jr_aload_n C dX11_vote_28 rfl ?_
      refine jr_iload_n C dX11_vote_29 rfl ?_
      refine jr_iload_n C dX11_vote_30 rfl ?_
      refine jr_vi C [.int _, .int _] _ (ct_X11_placeOf E _ _ _ (by omega) (by omega) h3.1 h3.2) ky_X11_placeOf kv_X11_placeOf kk_M_0 km_X11_263 (by decide) rfl (Nat.le_of_ble_eq_true rfl) dX11_vote_31 (fun r31 τ31 h31 => ?_)
      obtain ⟨g31, rfl⟩ := h31; have h31 : 0 ≤ r31.toInt ↔ sp_has ((σ.1 26)) ((σ.1 27) j.toNatClampNeg) j.toNatClampNeg f = true := g31; clear g31
      refine jr_nif_lt C 44 dX11_vote_34 (by decide) (fun b34 => ?_) (fun b34 => ?_)
      · refine jr_aload_n C dX11_vote_44 rfl ?_
        refine jr_getr C kf_X11_93_0 dX11_vote_45 ?_
        refine jr_iload_n C dX11_vote_48 rfl ?_
        refine jr_ialv C ka_M_27 dX11_vote_49 (ji_in (i := j) (by omega) (by omega)) (v := σ.1 27 _) rfl ?_
        refine jr_iconst C (v := 5) dX11_vote_50 (by decide) ?_
        refine jr_ncmp_ne C (b := 5) 61 dX11_vote_51 (by decide) rfl rfl (fun b51 => ?_) (fun b51 => ?_)
        · refine jr_aload_n C dX11_vote_61 rfl ?_
          refine jr_getr C kf_X11_90_0 dX11_vote_62 ?_
          refine jr_iconst C (v := 5) dX11_vote_65 (by decide) ?_
          refine jr_iload_n C dX11_vote_66 rfl ?_
          refine jr_imul C dX11_vote_67 ?_
          refine jr_aload_n C dX11_vote_68 rfl ?_
          refine jr_getr C kf_X11_93_0 dX11_vote_69 ?_
          refine jr_iload_n C dX11_vote_72 rfl ?_
          refine jr_ialv C ka_M_27 dX11_vote_73 (ji_in (i := j) (by omega) (by omega)) (v := σ.1 27 _) rfl ?_
          refine jr_iadd C dX11_vote_74 ?_
          refine jr_iload_n C dX11_vote_75 rfl ?_
          refine jr_iast C ka_M_26 dX11_vote_76 (ji_lin 5 5 rfl (by omega) (by omega) (by omega) (by omega)) ?_
          refine jr_aload_n C dX11_vote_77 rfl ?_
          refine jr_getr C kf_X11_93_0 dX11_vote_78 ?_
          refine jr_iload_n C dX11_vote_81 rfl ?_
          refine jr_dup2 C dX11_vote_82 rfl rfl ?_
          refine jr_ialv C ka_M_27 dX11_vote_83 (ji_in (i := j) (by omega) (by omega)) (v := σ.1 27 _) rfl ?_
          refine jr_iconst C (v := 1) dX11_vote_84 (by decide) ?_
          refine jr_iadd C dX11_vote_85 ?_
          refine jr_iast C ka_M_27 dX11_vote_86 (ji_in (i := j) (by omega) (by omega)) ?_
          refine jr_aload_n C dX11_vote_87 rfl ?_
          refine jr_aload_n C dX11_vote_88 rfl ?_
          refine jr_getr C kf_X11_93_0 dX11_vote_89 ?_
          refine jr_iload_n C dX11_vote_92 rfl ?_
          refine jr_iald C ka_M_27 dX11_vote_93 (ji_in (i := j) (by omega) (by omega)) ?_
          refine jr_vip C [.int _] _ (ct_X11_told E _ _) ky_X11_told kv_X11_told kk_M_0 km_X11_173 (by decide) rfl (Nat.le_of_ble_eq_true rfl) dX11_vote_94 ?_
          exact ret _ _ _ _ dX11_vote_97 rfl (by unfold m_vote; (repeat' split) <;> first | (exfalso; omega) | (exfalso; have := h31.mpr (by assumption); omega) | (exfalso; have := h31.mp (by omega); contradiction) | rfl | (simp [jf_i]; done))
        · refine jr_aload_n C dX11_vote_54 rfl ?_
          refine jr_bipush C (v := -5) dX11_vote_55 (by decide) ?_
          refine jr_vip C [.int _] _ (ct_X11_told E _ _) ky_X11_told kv_X11_told kk_M_0 km_X11_173 (by decide) rfl (Nat.le_of_ble_eq_true rfl) dX11_vote_57 ?_
          exact ret _ _ _ _ dX11_vote_60 rfl (by unfold m_vote; (repeat' split) <;> first | (exfalso; omega) | (exfalso; have := h31.mpr (by assumption); omega) | (exfalso; have := h31.mp (by omega); contradiction) | rfl | (simp [jf_i]; done))
      · refine jr_aload_n C dX11_vote_37 rfl ?_
        refine jr_bipush C (v := -4) dX11_vote_38 (by decide) ?_
        refine jr_vip C [.int _] _ (ct_X11_told E _ _) ky_X11_told kv_X11_told kk_M_0 km_X11_173 (by decide) rfl (Nat.le_of_ble_eq_true rfl) dX11_vote_40 ?_
        exact ret _ _ _ _ dX11_vote_43 rfl (by unfold m_vote; (repeat' split) <;> first | (exfalso; omega) | (exfalso; have := h31.mpr (by assumption); omega) | (exfalso; have := h31.mp (by omega); contradiction) | rfl | (simp [jf_i]; done))
    · replace b18 := jb_f b18
      refine jr_aload_n C dX11_vote_21 rfl ?_
      refine jr_bipush C (v := -2) dX11_vote_22 (by decide) ?_
      refine jr_vip C [.int _] _ (ct_X11_told E _ _) ky_X11_told kv_X11_told kk_M_0 km_X11_173 (by decide) rfl (Nat.le_of_ble_eq_true rfl) dX11_vote_24 ?_
      exact ret _ _ _ _ dX11_vote_27 rfl (by unfold m_vote; (repeat' split) <;> first | (exfalso; omega) | rfl)
/-- four bytes come behind the tape -/
def m_four (σ : jf_S) (v : Int32) : jf_S :=
  jf_i (jf_i (jf_i (jf_i (jf_i (jf_i (jf_i (jf_i σ 37 ((σ.1 0 58)).toNatClampNeg (v >>> (24 &&& 31) &&& 255)) 0 58 ((σ.1 0 58) + 1)) 37 ((σ.1 0 58) + 1).toNatClampNeg (v >>> (16 &&& 31) &&& 255)) 0 58 ((σ.1 0 58) + 1 + 1)) 37 ((σ.1 0 58) + 1 + 1).toNatClampNeg (v >>> (8 &&& 31) &&& 255)) 0 58 ((σ.1 0 58) + 1 + 1 + 1)) 37 ((σ.1 0 58) + 1 + 1 + 1).toNatClampNeg (v >>> (0 &&& 31) &&& 255)) 0 58 ((σ.1 0 58) + 1 + 1 + 1 + 1)
theorem ct_X11_four (E : jf_E) (σ : jf_S) (v : Int32) (h0 : 0 ≤ ((σ.1 0 58)).toInt) (h1 : ((σ.1 0 58)).toInt ≤ 296) : jf_V jh_M E yX11_four cX11_four 3 0 [jf_r E 0, .int v] σ (fun τ => τ = m_four σ v) := by
  refine jf_mkV (by decide) (Nat.le_of_ble_eq_true rfl) ?_
  intro G C ret
  have e1 := ji_inc1 (k := (σ.1 0 58)) (by omega)
  have e2 := ji_inc1 (k := (σ.1 0 58) + 1) (by omega)
  have e3 := ji_inc1 (k := (σ.1 0 58) + 1 + 1) (by omega)
  refine jr_bipush C (v := 24) dX11_four_0 (by decide) ?_
  refine jr_istore_n C dX11_four_2 (by decide) ?_
  refine jr_iload_n C dX11_four_3 rfl ?_
  refine jr_if_lt C 39 dX11_four_4 (by decide) (fun b => absurd b (by decide)) (fun _ => ?_)
  refine jr_aload_n C dX11_four_7 rfl ?_
  refine jr_getr C kf_X11_123_0 dX11_four_8 ?_
  refine jr_aload_n C dX11_four_11 rfl ?_
  refine jr_geti C kf_X11_272_0 dX11_four_12 ?_
  refine jr_iload_n C dX11_four_15 rfl ?_
  refine jr_iload_n C dX11_four_16 rfl ?_
  refine jr_ishr C dX11_four_17 ?_
  refine jr_sipush C (v := 255) dX11_four_18 (by decide) ?_
  refine jr_iand C dX11_four_21 ?_
  refine jr_iast C ka_M_37 dX11_four_22 (ji_in (i := (σ.1 0 58)) (by omega) (by omega)) ?_
  refine jr_aload_n C dX11_four_23 rfl ?_
  refine jr_dup C dX11_four_24 rfl ?_
  refine jr_geti C kf_X11_272_0 dX11_four_25 ?_
  refine jr_iconst C (v := 1) dX11_four_28 (by decide) ?_
  refine jr_iadd C dX11_four_29 ?_
  refine jr_puti C kp_X11_272_0 dX11_four_30 ?_
  refine jr_iinc C _ dX11_four_33 rfl rfl (by decide) ?_
  refine jr_goto C 3 dX11_four_36 (by decide) ?_
  refine jr_iload_n C dX11_four_3 rfl ?_
  refine jr_if_lt C 39 dX11_four_4 (by decide) (fun b => absurd b (by decide)) (fun _ => ?_)
  refine jr_aload_n C dX11_four_7 rfl ?_
  refine jr_getr C kf_X11_123_0 dX11_four_8 ?_
  refine jr_aload_n C dX11_four_11 rfl ?_
  refine jr_geti C kf_X11_272_0 dX11_four_12 ?_
  refine jr_iload_n C dX11_four_15 rfl ?_
  refine jr_iload_n C dX11_four_16 rfl ?_
  refine jr_ishr C dX11_four_17 ?_
  refine jr_sipush C (v := 255) dX11_four_18 (by decide) ?_
  refine jr_iand C dX11_four_21 ?_
  refine jr_iast C ka_M_37 dX11_four_22 (ji_in (i := (σ.1 0 58) + 1) (by omega) (by omega)) ?_
  refine jr_aload_n C dX11_four_23 rfl ?_
  refine jr_dup C dX11_four_24 rfl ?_
  refine jr_geti C kf_X11_272_0 dX11_four_25 ?_
  refine jr_iconst C (v := 1) dX11_four_28 (by decide) ?_
  refine jr_iadd C dX11_four_29 ?_
  refine jr_puti C kp_X11_272_0 dX11_four_30 ?_
  refine jr_iinc C _ dX11_four_33 rfl rfl (by decide) ?_
  refine jr_goto C 3 dX11_four_36 (by decide) ?_
  refine jr_iload_n C dX11_four_3 rfl ?_
  refine jr_if_lt C 39 dX11_four_4 (by decide) (fun b => absurd b (by decide)) (fun _ => ?_)
  refine jr_aload_n C dX11_four_7 rfl ?_
  refine jr_getr C kf_X11_123_0 dX11_four_8 ?_
  refine jr_aload_n C dX11_four_11 rfl ?_
  refine jr_geti C kf_X11_272_0 dX11_four_12 ?_
  refine jr_iload_n C dX11_four_15 rfl ?_
  refine jr_iload_n C dX11_four_16 rfl ?_
  refine jr_ishr C dX11_four_17 ?_
  refine jr_sipush C (v := 255) dX11_four_18 (by decide) ?_
  refine jr_iand C dX11_four_21 ?_
  refine jr_iast C ka_M_37 dX11_four_22 (ji_in (i := (σ.1 0 58) + 1 + 1) (by omega) (by omega)) ?_
  refine jr_aload_n C dX11_four_23 rfl ?_
  refine jr_dup C dX11_four_24 rfl ?_
  refine jr_geti C kf_X11_272_0 dX11_four_25 ?_
  refine jr_iconst C (v := 1) dX11_four_28 (by decide) ?_
  refine jr_iadd C dX11_four_29 ?_
  refine jr_puti C kp_X11_272_0 dX11_four_30 ?_
  refine jr_iinc C _ dX11_four_33 rfl rfl (by decide) ?_
  refine jr_goto C 3 dX11_four_36 (by decide) ?_
  refine jr_iload_n C dX11_four_3 rfl ?_
  refine jr_if_lt C 39 dX11_four_4 (by decide) (fun b => absurd b (by decide)) (fun _ => ?_)
  refine jr_aload_n C dX11_four_7 rfl ?_
  refine jr_getr C kf_X11_123_0 dX11_four_8 ?_
  refine jr_aload_n C dX11_four_11 rfl ?_
  refine jr_geti C kf_X11_272_0 dX11_four_12 ?_
  refine jr_iload_n C dX11_four_15 rfl ?_
  refine jr_iload_n C dX11_four_16 rfl ?_
  refine jr_ishr C dX11_four_17 ?_
  refine jr_sipush C (v := 255) dX11_four_18 (by decide) ?_
  refine jr_iand C dX11_four_21 ?_
  refine jr_iast C ka_M_37 dX11_four_22 (ji_in (i := (σ.1 0 58) + 1 + 1 + 1) (by omega) (by omega)) ?_
  refine jr_aload_n C dX11_four_23 rfl ?_
  refine jr_dup C dX11_four_24 rfl ?_
  refine jr_geti C kf_X11_272_0 dX11_four_25 ?_
  refine jr_iconst C (v := 1) dX11_four_28 (by decide) ?_
  refine jr_iadd C dX11_four_29 ?_
  refine jr_puti C kp_X11_272_0 dX11_four_30 ?_
  refine jr_iinc C _ dX11_four_33 rfl rfl (by decide) ?_
  refine jr_goto C 3 dX11_four_36 (by decide) ?_
  refine jr_iload_n C dX11_four_3 rfl ?_
  refine jr_if_lt C 39 dX11_four_4 (by decide) (fun _ => ?_) (fun b => absurd b (by decide))
  exact ret _ _ _ dX11_four_39 (rfl)
theorem m_four_t (σ : jf_S) (v : Int32) (h1 : ((σ.1 0 58)).toInt ≤ 296) : (((m_four σ v).1 0 58)).toInt = ((σ.1 0 58)).toInt + 4 := by
  have := fb_rng ((σ.1 0 58))
  have e1 := ji_inc1 (k := (σ.1 0 58)) (by omega)
  have e2 := ji_inc1 (k := (σ.1 0 58) + 1) (by omega)
  have e3 := ji_inc1 (k := (σ.1 0 58) + 1 + 1) (by omega)
  have e4 := ji_inc1 (k := (σ.1 0 58) + 1 + 1 + 1) (by omega)
  show ((σ.1 0 58) + 1 + 1 + 1 + 1).toInt = _
  omega
def m_feed (σ : jf_S) (a b c d e : Int32) : Int32 × jf_S :=
  if ((σ.1 0 58)).toInt + 20 ≤ 300 then (((m_four (m_four (m_four (m_four (m_four (jf_i σ 0 0 0) a) b) c) d) e).1 0 58), m_four (m_four (m_four (m_four (m_four (jf_i σ 0 0 0) a) b) c) d) e)
  else (-1, jf_i σ 0 0 0)
theorem ct_X11_feed (E : jf_E) (σ : jf_S) (a b c d e : Int32) (h0 : 0 ≤ ((σ.1 0 58)).toInt) (h1 : ((σ.1 0 58)).toInt ≤ 300) : jf_I jh_M E yX11_feed cX11_feed 6 .int 1 [jf_r E 0, .int a, .int b, .int c, .int d, .int e] σ (fun r τ => (r, τ) = m_feed σ a b c d e) := by
  refine jf_mkI (by decide) (Nat.le_of_ble_eq_true rfl) ?_
  intro G C ret
  have e0 : ((σ.1 0 58) + 20).toInt = ((σ.1 0 58)).toInt + 20 := fb_addI (y := 20) (by show _ ≤ ((σ.1 0 58)).toInt + 20; omega) (by show ((σ.1 0 58)).toInt + 20 < _; omega)
  refine jr_aload_n C dX11_feed_0 rfl ?_
  refine jr_iconst C (v := 0) dX11_feed_1 (by decide) ?_
  refine jr_puti C kp_X11_144_0 dX11_feed_2 ?_
  refine jr_aload_n C dX11_feed_5 rfl ?_
  refine jr_geti C kf_X11_272_0 dX11_feed_6 ?_
  refine jr_bipush C (v := 20) dX11_feed_9 (by decide) ?_
  refine jr_iadd C dX11_feed_11 ?_
  refine jr_sipush C (v := 300) dX11_feed_12 (by decide) ?_
  refine jr_ncmp_le C (a := ((σ.1 0 58)).toInt + 20) (b := 300) 20 dX11_feed_15 (by decide) e0 rfl (fun b15 => ?_) (fun b15 => ?_)
  · have t0 : (((jf_i σ 0 0 0).1 0 58)).toInt = ((σ.1 0 58)).toInt := rfl
    have t1 := m_four_t (jf_i σ 0 0 0) a (by omega)
    have t2 := m_four_t (m_four (jf_i σ 0 0 0) a) b (by omega)
    have t3 := m_four_t (m_four (m_four (jf_i σ 0 0 0) a) b) c (by omega)
    have t4 := m_four_t (m_four (m_four (m_four (jf_i σ 0 0 0) a) b) c) d (by omega)
    refine jr_aload_n C dX11_feed_20 rfl ?_
    refine jr_iload_n C dX11_feed_21 rfl ?_
    refine jr_vvp C [.int _] _ (ct_X11_four E _ _ (by omega) (by omega)) ky_X11_four kv_X11_four kk_M_0 km_X11_275 (by decide) rfl (Nat.le_of_ble_eq_true rfl) dX11_feed_22 ?_
    refine jr_aload_n C dX11_feed_25 rfl ?_
    refine jr_iload_n C dX11_feed_26 rfl ?_
    refine jr_vvp C [.int _] _ (ct_X11_four E _ _ (by omega) (by omega)) ky_X11_four kv_X11_four kk_M_0 km_X11_275 (by decide) rfl (Nat.le_of_ble_eq_true rfl) dX11_feed_27 ?_
    refine jr_aload_n C dX11_feed_30 rfl ?_
    refine jr_iload_n C dX11_feed_31 rfl ?_
    refine jr_vvp C [.int _] _ (ct_X11_four E _ _ (by omega) (by omega)) ky_X11_four kv_X11_four kk_M_0 km_X11_275 (by decide) rfl (Nat.le_of_ble_eq_true rfl) dX11_feed_32 ?_
    refine jr_aload_n C dX11_feed_35 rfl ?_
    refine jr_iload C dX11_feed_36 rfl ?_
    refine jr_vvp C [.int _] _ (ct_X11_four E _ _ (by omega) (by omega)) ky_X11_four kv_X11_four kk_M_0 km_X11_275 (by decide) rfl (Nat.le_of_ble_eq_true rfl) dX11_feed_38 ?_
    refine jr_aload_n C dX11_feed_41 rfl ?_
    refine jr_iload C dX11_feed_42 rfl ?_
    refine jr_vvp C [.int _] _ (ct_X11_four E _ _ (by omega) (by omega)) ky_X11_four kv_X11_four kk_M_0 km_X11_275 (by decide) rfl (Nat.le_of_ble_eq_true rfl) dX11_feed_44 ?_
    refine jr_aload_n C dX11_feed_47 rfl ?_
    refine jr_geti C kf_X11_272_0 dX11_feed_48 ?_
    exact ret _ _ _ _ dX11_feed_51 rfl (by rw [m_feed, if_pos b15])
  · refine jr_iconst C (v := -1) dX11_feed_18 (by decide) ?_
    exact ret _ _ _ _ dX11_feed_19 rfl (by rw [m_feed, if_neg b15])

