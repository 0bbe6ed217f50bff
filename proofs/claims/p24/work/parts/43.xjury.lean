/-! the class: votes exactly; rows, rules: safe -/
theorem ji_linri {c a b : Int32} {n : Int} (hc : c.toInt = n) (h1 : -1000000 ≤ a.toInt * n ∧ a.toInt * n < 1000000) (h2 : -1000000 ≤ b.toInt ∧ b.toInt ≤ 1000000) : (a * c + b).toInt = a.toInt * n + b.toInt := by
  have e1 : (a * c).toInt = a.toInt * n := by rw [fb_mulI, hc] <;> (rw [hc]; omega)
  rw [fb_addI, e1] <;> (rw [e1]; omega)
theorem ji_v5 {j k : Int32} (j0 : 0 ≤ j.toInt ∧ j.toInt < 10) (k0 : 0 ≤ k.toInt ∧ k.toInt < 5) : (j * 5 + k).toNatClampNeg = 5 * j.toNatClampNeg + k.toNatClampNeg := by
  have e := ji_linri (c := 5) (a := j) (b := k) (n := 5) rfl (by omega) (by omega)
  exact ji_cl (by rw [e, Int.natCast_add, Int.natCast_mul, ji_tn j0.1, ji_tn k0.1, Int.mul_comm]; rfl)
theorem x_vfstep {v : Nat → Int32} {j f o : Int32} (j0 : 0 ≤ j.toInt ∧ j.toInt < 10) (g1 : 0 ≤ o.toInt) (ho : o.toInt < 5) (x1 : ∀ i : Nat, i < o.toNatClampNeg → ¬ v (5 * j.toNatClampNeg + i) = f) (b : ¬ (v (j * 5 + o).toNatClampNeg).toInt = f.toInt) : ∀ i : Nat, i < (o + Int32.ofInt 1).toNatClampNeg → ¬ v (5 * j.toNatClampNeg + i) = f := by
  intro i hi
  have e1 := ji_inc (k := o) (by omega)
  have t1 := ji_tn g1
  have t2 := ji_tn (x := o + Int32.ofInt 1) (by omega)
  rcases Nat.lt_or_ge i o.toNatClampNeg with q | q
  · exact x1 i q
  · rw [show i = o.toNatClampNeg by omega, ← ji_v5 j0 ⟨g1, ho⟩]
    exact fun h => b (congrArg Int32.toInt h)
theorem ct_X4_votesFor (E : jf_E) (σ : jf_S) (j f : Int32) (j0 : 0 ≤ j.toInt ∧ j.toInt < 10) (hv : 0 ≤ ((σ.1 41) j.toNatClampNeg).toInt ∧ ((σ.1 41) j.toNatClampNeg).toInt ≤ 5) : jf_I jh_X E yX4_votesFor cX4_votesFor 4 .boolean 0 [jf_r E 7, .int j, .int f] σ (fun r τ => r = jb (sp_has ((σ.1 42)) ((σ.1 41) j.toNatClampNeg) j.toNatClampNeg f = true) ∧ τ = σ) := by
  refine jf_mkI (by decide) (Nat.le_of_ble_eq_true rfl) ?_
  intro G C ret
  have lp : ∀ (m : Nat) (o : Int32), 0 ≤ o.toInt → o.toInt ≤ ((σ.1 41) j.toNatClampNeg).toInt → ((σ.1 41) j.toNatClampNeg).toInt - o.toInt < m → (∀ i : Nat, i < o.toNatClampNeg → ¬ (σ.1 42) (5 * j.toNatClampNeg + i) = f) → jf_X jh_X E G 4 2 [(0, jf_r E 7), (1, .int j), (2, .int f), (3, .int o)] [] σ := by
    intro m
    induction m with
    | zero => intro o g1 g2 g3 x1; exfalso; omega
    | succ m ih =>
      intro o g1 g2 g3 x1
      have e1 := ji_inc (k := o) (by omega)
      refine jr_iload_n C dX4_votesFor_2 rfl ?_
      refine jr_aload_n C dX4_votesFor_3 rfl ?_
      refine jr_getr C kf_X4_15_7 dX4_votesFor_4 ?_
      refine jr_iload_n C dX4_votesFor_7 rfl ?_
      refine jr_ialv C ka_X_41 dX4_votesFor_8 (ji_in j0.1 j0.2) (v := σ.1 41 _) rfl ?_
      refine jr_ncmp_ge C 34 dX4_votesFor_9 (by decide) rfl rfl (fun b9 => ?_) (fun b9 => ?_)
      · refine jr_iconst C (v := 0) dX4_votesFor_34 (by decide) ?_
        exact ret _ _ _ _ dX4_votesFor_35 (rfl) (⟨jb_ff (fun q => by obtain ⟨i, q1, q2⟩ := jx_any_iff.mp q; exact absurd (by simpa using q2) (x1 i (by have := ji_tn g1; have := ji_tn hv.1; omega))), rfl⟩)
      · refine jr_aload_n C dX4_votesFor_12 rfl ?_
        refine jr_getr C kf_X4_18_7 dX4_votesFor_13 ?_
        refine jr_iload_n C dX4_votesFor_16 rfl ?_
        refine jr_iconst C (v := 5) dX4_votesFor_17 (by decide) ?_
        refine jr_imul C dX4_votesFor_18 ?_
        refine jr_iload_n C dX4_votesFor_19 rfl ?_
        refine jr_iadd C dX4_votesFor_20 ?_
        refine jr_ialv C ka_X_42 dX4_votesFor_21 (ji_linr 5 rfl (by omega) (by omega) (by omega)) (v := σ.1 42 _) rfl ?_
        refine jr_iload_n C dX4_votesFor_22 rfl ?_
        refine jr_ncmp_ne C 28 dX4_votesFor_23 (by decide) rfl rfl (fun b23 => ?_) (fun b23 => ?_)
        · refine jr_iinc C _ dX4_votesFor_28 rfl rfl (by decide) ?_
          refine jr_goto C 2 dX4_votesFor_31 (by decide) ?_
          exact jr_sub [(0, jf_r E 7), (1, .int j), (2, .int f), (3, .int _)] rfl (ih _ (by omega) (by omega) (by omega) (x_vfstep j0 g1 (by omega) x1 b23))
        · refine jr_iconst C (v := 1) dX4_votesFor_26 (by decide) ?_
          exact ret _ _ _ _ dX4_votesFor_27 (rfl) (⟨jb_tt (jx_any_iff.mpr ⟨o.toNatClampNeg, by have := ji_tn g1; have := ji_tn hv.1; omega, by rw [← ji_v5 j0 ⟨g1, by omega⟩]; simpa using Int32.toInt_inj.mp b23⟩), rfl⟩)
  refine jr_iconst C (v := 0) dX4_votesFor_0 (by decide) ?_
  refine jr_istore_n C dX4_votesFor_1 (by decide) ?_
  exact jr_sub [(0, jf_r E 7), (1, .int j), (2, .int f), (3, .int _)] rfl (lp 6 _ (by decide) hv.1 (by show _ - (0 : Int) < _; omega) (fun i hi => absurd hi (Nat.not_lt_zero i)))
def x_vadd (σ : jf_S) (j f : Int32) : Int32 × jf_S :=
  if sp_has ((σ.1 42)) ((σ.1 41) j.toNatClampNeg) j.toNatClampNeg f = true then (-4, σ)
  else if 5 ≤ ((σ.1 41) j.toNatClampNeg).toInt then (-5, σ)
  else ((σ.1 41) j.toNatClampNeg + 1, jf_i (jf_i σ 42 (j * 5 + (σ.1 41) j.toNatClampNeg).toNatClampNeg f) 41 j.toNatClampNeg ((σ.1 41) j.toNatClampNeg + 1))
theorem ct_X4_addVote (E : jf_E) (σ : jf_S) (j f : Int32) (j0 : 0 ≤ j.toInt ∧ j.toInt < 10) (hv : 0 ≤ ((σ.1 41) j.toNatClampNeg).toInt ∧ ((σ.1 41) j.toNatClampNeg).toInt ≤ 5) : jf_I jh_X E yX4_addVote cX4_addVote 3 .int 1 [jf_r E 7, .int j, .int f] σ (fun r τ => r = (x_vadd σ j f).1 ∧ τ = (x_vadd σ j f).2) := by
  refine jf_mkI (by decide) (Nat.le_of_ble_eq_true rfl) ?_
  intro G C ret
  refine jr_aload_n C dX4_addVote_0 rfl ?_
  refine jr_iload_n C dX4_addVote_1 rfl ?_
  refine jr_iload_n C dX4_addVote_2 rfl ?_
  refine jr_vip C [.int _, .int _] _ (ct_X4_votesFor E _ _ _ j0 hv) ky_X4_votesFor kv_X4_votesFor kk_X_7 km_X4_40 (by decide) rfl (Nat.le_of_ble_eq_true rfl) dX4_addVote_3 ?_
  refine jr_if_eq C 12 dX4_addVote_6 (by decide) (fun b6 => ?_) (fun b6 => ?_)
  · replace b6 := jb_f b6
    refine jr_aload_n C dX4_addVote_12 rfl ?_
    refine jr_getr C kf_X4_15_7 dX4_addVote_13 ?_
    refine jr_iload_n C dX4_addVote_16 rfl ?_
    refine jr_ialv C ka_X_41 dX4_addVote_17 (ji_in j0.1 j0.2) (v := σ.1 41 _) rfl ?_
    refine jr_iconst C (v := 5) dX4_addVote_18 (by decide) ?_
    refine jr_ncmp_lt C (b := 5) 25 dX4_addVote_19 (by decide) rfl rfl (fun b19 => ?_) (fun b19 => ?_)
    · refine jr_aload_n C dX4_addVote_25 rfl ?_
      refine jr_getr C kf_X4_18_7 dX4_addVote_26 ?_
      refine jr_iload_n C dX4_addVote_29 rfl ?_
      refine jr_iconst C (v := 5) dX4_addVote_30 (by decide) ?_
      refine jr_imul C dX4_addVote_31 ?_
      refine jr_aload_n C dX4_addVote_32 rfl ?_
      refine jr_getr C kf_X4_15_7 dX4_addVote_33 ?_
      refine jr_iload_n C dX4_addVote_36 rfl ?_
      refine jr_ialv C ka_X_41 dX4_addVote_37 (ji_in j0.1 j0.2) (v := σ.1 41 _) rfl ?_
      refine jr_iadd C dX4_addVote_38 ?_
      refine jr_iload_n C dX4_addVote_39 rfl ?_
      refine jr_iast C ka_X_42 dX4_addVote_40 (ji_linr 5 rfl (by omega) (by omega) (by omega)) ?_
      refine jr_aload_n C dX4_addVote_41 rfl ?_
      refine jr_getr C kf_X4_15_7 dX4_addVote_42 ?_
      refine jr_iload_n C dX4_addVote_45 rfl ?_
      refine jr_dup2 C dX4_addVote_46 rfl rfl ?_
      refine jr_ialv C ka_X_41 dX4_addVote_47 (ji_in j0.1 j0.2) (v := σ.1 41 _) rfl ?_
      refine jr_iconst C (v := 1) dX4_addVote_48 (by decide) ?_
      refine jr_iadd C dX4_addVote_49 ?_
      refine jr_iast C ka_X_41 dX4_addVote_50 (ji_in j0.1 j0.2) ?_
      refine jr_aload_n C dX4_addVote_51 rfl ?_
      refine jr_getr C kf_X4_15_7 dX4_addVote_52 ?_
      refine jr_iload_n C dX4_addVote_55 rfl ?_
      refine jr_iald C ka_X_41 dX4_addVote_56 (ji_in j0.1 j0.2) ?_
      exact ret _ _ _ _ dX4_addVote_57 rfl (by unfold x_vadd; (repeat' split) <;> first | contradiction | (exfalso; omega) | exact ⟨rfl, rfl⟩ | exact ⟨by simp [jf_i], rfl⟩)
    · refine jr_bipush C (v := -5) dX4_addVote_22 (by decide) ?_
      exact ret _ _ _ _ dX4_addVote_24 rfl (by unfold x_vadd; (repeat' split) <;> first | contradiction | (exfalso; omega) | exact ⟨rfl, rfl⟩ | exact ⟨by simp [jf_i], rfl⟩)
  · replace b6 := jb_t b6
    refine jr_bipush C (v := -4) dX4_addVote_9 (by decide) ?_
    exact ret _ _ _ _ dX4_addVote_11 rfl (by unfold x_vadd; (repeat' split) <;> first | contradiction | (exfalso; omega) | exact ⟨rfl, rfl⟩ | exact ⟨by simp [jf_i], rfl⟩)
def x_vote (σ : jf_S) (j f : Int32) : Int32 × jf_S :=
  if ¬ ((0 ≤ j.toInt ∧ j.toInt < ((σ.1 7 7)).toInt) ∧ (0 ≤ f.toInt ∧ f.toInt < ((σ.1 2 8)).toInt)) then (-2, x_told σ (-2))
  else ((x_vadd σ j f).1, x_told (x_vadd σ j f).2 (x_vadd σ j f).1)
theorem ct_X10_vote (E : jf_E) (σ : jf_S) (j f : Int32) (h1 : ((σ.1 7 7)).toInt ≤ 10) (h2 : ∀ i, 0 ≤ ((σ.1 41) i).toInt ∧ ((σ.1 41) i).toInt ≤ 5) : jf_I jh_X E yX10_vote cX10_vote 3 .int 2 [jf_r E 0, .int j, .int f] σ (fun r τ => (r, τ) = x_vote σ j f) := by
  refine jf_mkI (by decide) (Nat.le_of_ble_eq_true rfl) ?_
  intro G C ret
  refine jr_aload_n C dX10_vote_0 rfl ?_
  refine jr_getr C kf_X10_58_0 dX10_vote_1 ?_
  refine jr_iload_n C dX10_vote_4 rfl ?_
  refine jr_vip C [.int _] _ (ct_X4_has E _ _ (σ.1 7 7) rfl) ky_X4_has kv_X4_has kk_X_7 km_X10_204 (by decide) rfl (Nat.le_of_ble_eq_true rfl) dX10_vote_5 ?_
  refine jr_if_eq C 22 dX10_vote_8 (by decide) (fun b8 => ?_) (fun b8 => ?_)
  · replace b8 := jb_f b8
    refine jr_aload_n C dX10_vote_22 rfl ?_
    refine jr_bipush C (v := -2) dX10_vote_23 (by decide) ?_
    refine jr_vip C [.int _] _ (ct_X10_told E _ _) ky_X10_told kv_X10_told kk_X_0 km_X10_97 (by decide) rfl (Nat.le_of_ble_eq_true rfl) dX10_vote_25 ?_
    exact ret _ _ _ _ dX10_vote_28 rfl (by unfold x_vote; (repeat' split) <;> first | (exfalso; omega) | rfl)
  · replace b8 := jb_t b8
    refine jr_aload_n C dX10_vote_11 rfl ?_
    refine jr_getr C kf_X10_19_0 dX10_vote_12 ?_
    refine jr_iload_n C dX10_vote_15 rfl ?_
    refine jr_vip C [.int _] _ (ct_X2_has E _ _ (σ.1 2 8) rfl) ky_X2_has kv_X2_has kk_X_2 km_X10_115 (by decide) rfl (Nat.le_of_ble_eq_true rfl) dX10_vote_16 ?_
    refine jr_if_ne C 29 dX10_vote_19 (by decide) (fun b19 => ?_) (fun b19 => ?_)
    · replace b19 := jb_t b19
      refine jr_aload_n C dX10_vote_29 rfl ?_
      refine jr_aload_n C dX10_vote_30 rfl ?_
      refine jr_getr C kf_X10_58_0 dX10_vote_31 ?_
      refine jr_iload_n C dX10_vote_34 rfl ?_
      refine jr_iload_n C dX10_vote_35 rfl ?_
      refine jr_vip C [.int _, .int _] _ (ct_X4_addVote E _ _ _ ⟨by omega, by omega⟩ (h2 _)) ky_X4_addVote kv_X4_addVote kk_X_7 km_X10_205 (by decide) rfl (Nat.le_of_ble_eq_true rfl) dX10_vote_36 ?_
      refine jr_vip C [.int _] _ (ct_X10_told E _ _) ky_X10_told kv_X10_told kk_X_0 km_X10_97 (by decide) rfl (Nat.le_of_ble_eq_true rfl) dX10_vote_39 ?_
      exact ret _ _ _ _ dX10_vote_42 rfl (by unfold x_vote; (repeat' split) <;> first | (exfalso; omega) | rfl)
    · replace b19 := jb_f b19
      refine jr_aload_n C dX10_vote_22 rfl ?_
      refine jr_bipush C (v := -2) dX10_vote_23 (by decide) ?_
      refine jr_vip C [.int _] _ (ct_X10_told E _ _) ky_X10_told kv_X10_told kk_X_0 km_X10_97 (by decide) rfl (Nat.le_of_ble_eq_true rfl) dX10_vote_25 ?_
      exact ret _ _ _ _ dX10_vote_28 rfl (by unfold x_vote; (repeat' split) <;> first | (exfalso; omega) | rfl)
theorem ct_X4_hasRow (E : jf_E) (σ : jf_S) (s j f k : Int32) (hr : 0 ≤ ((σ.1 7 8)).toInt ∧ ((σ.1 7 8)).toInt ≤ 100) : jf_I jh_X E yX4_hasRow cX4_hasRow 6 .boolean 0 [jf_r E 7, .int s, .int j, .int f, .int k] σ (fun r τ => (r = 0 ∨ r = 1) ∧ σ = τ) := by
  refine jf_mkI (by decide) (Nat.le_of_ble_eq_true rfl) ?_
  intro G C ret
  have lp : ∀ (m : Nat) (o : Int32), 0 ≤ o.toInt → o.toInt ≤ ((σ.1 7 8)).toInt → ((σ.1 7 8)).toInt - o.toInt < m → jf_X jh_X E G 6 3 [(0, jf_r E 7), (1, .int s), (2, .int j), (3, .int f), (4, .int k), (5, .int o)] [] σ := by
    intro m
    induction m with
    | zero => intro o g1 g2 g3; exfalso; omega
    | succ m ih =>
      intro o g1 g2 g3
      have e1 := ji_inc (k := o) (by omega)
      refine jr_iload C dX4_hasRow_3 rfl ?_
      refine jr_aload_n C dX4_hasRow_5 rfl ?_
      refine jr_getv C kf_X4_37_7 dX4_hasRow_6 (v := σ.1 7 8) rfl ?_
      refine jr_ncmp_ge C 65 dX4_hasRow_9 (by decide) rfl rfl (fun b9 => ?_) (fun b9 => ?_)
      · refine jr_iconst C (v := 0) dX4_hasRow_65 (by decide) ?_
        exact ret _ _ _ _ dX4_hasRow_66 (rfl) (⟨by decide, rfl⟩)
      · refine jr_aload_n C dX4_hasRow_12 rfl ?_
        refine jr_getr C kf_X4_21_7 dX4_hasRow_13 ?_
        refine jr_iload C dX4_hasRow_16 rfl ?_
        refine jr_ialv C ka_X_43 dX4_hasRow_18 (ji_in (i := o) (by omega) (by omega)) (v := σ.1 43 _) rfl ?_
        refine jr_iload_n C dX4_hasRow_19 rfl ?_
        refine jr_ncmp_ne C 59 dX4_hasRow_20 (by decide) rfl rfl (fun b20 => ?_) (fun b20 => ?_)
        · refine jr_iinc C _ dX4_hasRow_59 rfl rfl (by decide) ?_
          refine jr_goto C 3 dX4_hasRow_62 (by decide) ?_
          exact jr_sub [(0, jf_r E 7), (1, .int s), (2, .int j), (3, .int f), (4, .int k), (5, .int _)] rfl (ih _ (by omega) (by omega) (by omega))
        · refine jr_aload_n C dX4_hasRow_23 rfl ?_
          refine jr_getr C kf_X4_24_7 dX4_hasRow_24 ?_
          refine jr_iload C dX4_hasRow_27 rfl ?_
          refine jr_ialv C ka_X_44 dX4_hasRow_29 (ji_in (i := o) (by omega) (by omega)) (v := σ.1 44 _) rfl ?_
          refine jr_iload_n C dX4_hasRow_30 rfl ?_
          refine jr_ncmp_ne C 59 dX4_hasRow_31 (by decide) rfl rfl (fun b31 => ?_) (fun b31 => ?_)
          · refine jr_iinc C _ dX4_hasRow_59 rfl rfl (by decide) ?_
            refine jr_goto C 3 dX4_hasRow_62 (by decide) ?_
            exact jr_sub [(0, jf_r E 7), (1, .int s), (2, .int j), (3, .int f), (4, .int k), (5, .int _)] rfl (ih _ (by omega) (by omega) (by omega))
          · refine jr_aload_n C dX4_hasRow_34 rfl ?_
            refine jr_getr C kf_X4_27_7 dX4_hasRow_35 ?_
            refine jr_iload C dX4_hasRow_38 rfl ?_
            refine jr_ialv C ka_X_45 dX4_hasRow_40 (ji_in (i := o) (by omega) (by omega)) (v := σ.1 45 _) rfl ?_
            refine jr_iload_n C dX4_hasRow_41 rfl ?_
            refine jr_ncmp_ne C 59 dX4_hasRow_42 (by decide) rfl rfl (fun b42 => ?_) (fun b42 => ?_)
            · refine jr_iinc C _ dX4_hasRow_59 rfl rfl (by decide) ?_
              refine jr_goto C 3 dX4_hasRow_62 (by decide) ?_
              exact jr_sub [(0, jf_r E 7), (1, .int s), (2, .int j), (3, .int f), (4, .int k), (5, .int _)] rfl (ih _ (by omega) (by omega) (by omega))
            · refine jr_aload_n C dX4_hasRow_45 rfl ?_
              refine jr_getr C kf_X4_30_7 dX4_hasRow_46 ?_
              refine jr_iload C dX4_hasRow_49 rfl ?_
              refine jr_ialv C ka_X_46 dX4_hasRow_51 (ji_in (i := o) (by omega) (by omega)) (v := σ.1 46 _) rfl ?_
              refine jr_iload C dX4_hasRow_52 rfl ?_
              refine jr_ncmp_gt C 59 dX4_hasRow_54 (by decide) rfl rfl (fun b54 => ?_) (fun b54 => ?_)
              · refine jr_iinc C _ dX4_hasRow_59 rfl rfl (by decide) ?_
                refine jr_goto C 3 dX4_hasRow_62 (by decide) ?_
                exact jr_sub [(0, jf_r E 7), (1, .int s), (2, .int j), (3, .int f), (4, .int k), (5, .int _)] rfl (ih _ (by omega) (by omega) (by omega))
              · refine jr_iconst C (v := 1) dX4_hasRow_57 (by decide) ?_
                exact ret _ _ _ _ dX4_hasRow_58 (rfl) (⟨by decide, rfl⟩)
  refine jr_iconst C (v := 0) dX4_hasRow_0 (by decide) ?_
  refine jr_istore C dX4_hasRow_1 (by decide) ?_
  exact jr_sub [(0, jf_r E 7), (1, .int s), (2, .int j), (3, .int f), (4, .int k), (5, .int _)] rfl (lp 101 _ (by decide) hr.1 (by show _ - (0 : Int) < _; omega))
theorem ct_X7_pointsAt (E : jf_E) (σ : jf_S) (p : Int32) (hn : 0 ≤ ((σ.1 8 4)).toInt ∧ ((σ.1 8 4)).toInt ≤ 5) : jf_I jh_X E yX7_pointsAt cX7_pointsAt 2 .int 0 [jf_r E 8, .int p] σ (fun r τ => r = (if 0 ≤ p.toInt ∧ p.toInt < ((σ.1 8 4)).toInt then (σ.1 48) p.toNatClampNeg else 0) ∧ τ = σ) := by
  refine jf_mkI (by decide) (Nat.le_of_ble_eq_true rfl) ?_
  intro G C ret
  refine jr_iload_n C dX7_pointsAt_0 rfl ?_
  refine jr_nif_lt C 21 dX7_pointsAt_1 (by decide) (fun b1 => ?_) (fun b1 => ?_)
  · refine jr_iconst C (v := 0) dX7_pointsAt_21 (by decide) ?_
    exact ret _ _ _ _ dX7_pointsAt_22 rfl (⟨by split <;> first | (exfalso; omega) | rfl, rfl⟩)
  · refine jr_iload_n C dX7_pointsAt_4 rfl ?_
    refine jr_aload_n C dX7_pointsAt_5 rfl ?_
    refine jr_getv C kf_X7_24_8 dX7_pointsAt_6 (v := σ.1 8 4) rfl ?_
    refine jr_ncmp_ge C 21 dX7_pointsAt_9 (by decide) rfl rfl (fun b9 => ?_) (fun b9 => ?_)
    · refine jr_iconst C (v := 0) dX7_pointsAt_21 (by decide) ?_
      exact ret _ _ _ _ dX7_pointsAt_22 rfl (⟨by split <;> first | (exfalso; omega) | rfl, rfl⟩)
    · refine jr_aload_n C dX7_pointsAt_12 rfl ?_
      refine jr_getr C kf_X7_13_8 dX7_pointsAt_13 ?_
      refine jr_iload_n C dX7_pointsAt_16 rfl ?_
      refine jr_ialv C ka_X_48 dX7_pointsAt_17 (ji_in (i := p) (by omega) (by omega)) (v := σ.1 48 _) rfl ?_
      refine jr_goto C 22 dX7_pointsAt_18 (by decide) ?_
      exact ret _ _ _ _ dX7_pointsAt_22 rfl (⟨by split <;> first | (exfalso; omega) | rfl, rfl⟩)
theorem ct_X7_holds (E : jf_E) (σ : jf_S) (a b c : Int32) (hn : 0 ≤ ((σ.1 8 3)).toInt ∧ ((σ.1 8 3)).toInt ≤ 300) : jf_I jh_X E yX7_holds cX7_holds 12 .boolean 0 [jf_r E 8, .int a, .int b, .int c] σ (fun r τ => (r = 0 ∨ r = 1) ∧ σ = τ) := by
  refine jf_mkI (by decide) (Nat.le_of_ble_eq_true rfl) ?_
  intro G C ret
  have lp : ∀ (m : Nat) (p : Int64) (o : Int32), 0 ≤ o.toInt → o.toInt ≤ ((σ.1 8 3)).toInt → ((σ.1 8 3)).toInt - o.toInt < m → jf_X jh_X E G 12 6 [(0, jf_r E 8), (1, .int a), (2, .int b), (3, .int c), (4, .long p), (6, .int o)] [] σ := by
    intro m
    induction m with
    | zero => intro p o g1 g2 g3; exfalso; omega
    | succ m ih =>
      intro p o g1 g2 g3
      have e1 := ji_inc (k := o) (by omega)
      refine jr_iload C dX7_holds_6 rfl ?_
      refine jr_aload_n C dX7_holds_8 rfl ?_
      refine jr_getv C kf_X7_20_8 dX7_holds_9 (v := σ.1 8 3) rfl ?_
      refine jr_ncmp_ge C 149 dX7_holds_12 (by decide) rfl rfl (fun b12 => ?_) (fun b12 => ?_)
      · refine jr_lload C dX7_holds_149 rfl ?_
        refine jr_lconst C (v := 1) dX7_holds_151 (by decide) ?_
        refine jr_land C dX7_holds_152 ?_
        refine jr_lconst C (v := 1) dX7_holds_153 (by decide) ?_
        refine jr_lcmp C dX7_holds_154 ?_
        refine jr_nif_ne C 162 dX7_holds_155 (by decide) (fun b155 => ?_) (fun b155 => ?_)
        · refine jr_iconst C (v := 0) dX7_holds_162 (by decide) ?_
          exact ret _ _ _ _ dX7_holds_163 (rfl) (⟨by decide, rfl⟩)
        · refine jr_iconst C (v := 1) dX7_holds_158 (by decide) ?_
          refine jr_goto C 163 dX7_holds_159 (by decide) ?_
          exact ret _ _ _ _ dX7_holds_163 (rfl) (⟨by decide, rfl⟩)
      · refine jr_aload_n C dX7_holds_15 rfl ?_
        refine jr_getr C kf_X7_9_8 dX7_holds_16 ?_
        refine jr_iload C dX7_holds_19 rfl ?_
        refine jr_ialv C ka_X_47 dX7_holds_21 (ji_in (i := o) (by omega) (by omega)) (v := σ.1 47 _) rfl ?_
        refine jr_istore C dX7_holds_22 (by decide) ?_
        refine jr_iload C dX7_holds_24 rfl ?_
        refine jr_iconst C (v := 2) dX7_holds_26 (by decide) ?_
        refine jr_ncmp_ne C (b := 2) 39 dX7_holds_27 (by decide) rfl rfl (fun b27 => ?_) (fun b27 => ?_)
        · refine jr_iload C dX7_holds_39 rfl ?_
          refine jr_iconst C (v := 3) dX7_holds_41 (by decide) ?_
          refine jr_ncmp_eq C (b := 3) 51 dX7_holds_42 (by decide) rfl rfl (fun b42 => ?_) (fun b42 => ?_)
          · refine jr_lload C dX7_holds_51 rfl ?_
            refine jr_lconst C (v := 1) dX7_holds_53 (by decide) ?_
            refine jr_land C dX7_holds_54 ?_
            refine jr_lstore C dX7_holds_55 (by decide) ?_
            refine jr_lload C dX7_holds_57 rfl ?_
            refine jr_iconst C (v := 1) dX7_holds_59 (by decide) ?_
            refine jr_lshr C dX7_holds_60 ?_
            refine jr_lstore C dX7_holds_61 (by decide) ?_
            refine jr_iload C dX7_holds_63 rfl ?_
            refine jr_iconst C (v := 3) dX7_holds_65 (by decide) ?_
            refine jr_ncmp_ne C (b := 3) 81 dX7_holds_66 (by decide) rfl rfl (fun b66 => ?_) (fun b66 => ?_)
            · refine jr_lload C dX7_holds_81 rfl ?_
              refine jr_lload C dX7_holds_83 rfl ?_
              refine jr_lor C dX7_holds_85 ?_
              refine jr_lstore C dX7_holds_86 (by decide) ?_
              refine jr_goto C 143 dX7_holds_88 (by decide) ?_
              refine jr_iinc C _ dX7_holds_143 rfl rfl (by decide) ?_
              refine jr_goto C 6 dX7_holds_146 (by decide) ?_
              exact jr_sub [(0, jf_r E 8), (1, .int a), (2, .int b), (3, .int c), (4, .long _), (6, .int _)] rfl (ih _ _ (by omega) (by omega) (by omega))
            · refine jr_lload C dX7_holds_69 rfl ?_
              refine jr_lload C dX7_holds_71 rfl ?_
              refine jr_ldc2 C kc_X7_36 dX7_holds_73 ?_
              refine jr_lor C dX7_holds_76 ?_
              refine jr_land C dX7_holds_77 ?_
              refine jr_goto C 86 dX7_holds_78 (by decide) ?_
              refine jr_lstore C dX7_holds_86 (by decide) ?_
              refine jr_goto C 143 dX7_holds_88 (by decide) ?_
              refine jr_iinc C _ dX7_holds_143 rfl rfl (by decide) ?_
              refine jr_goto C 6 dX7_holds_146 (by decide) ?_
              exact jr_sub [(0, jf_r E 8), (1, .int a), (2, .int b), (3, .int c), (4, .long _), (6, .int _)] rfl (ih _ _ (by omega) (by omega) (by omega))
          · refine jr_iload C dX7_holds_45 rfl ?_
            refine jr_iconst C (v := 4) dX7_holds_47 (by decide) ?_
            refine jr_ncmp_ne C (b := 4) 91 dX7_holds_48 (by decide) rfl rfl (fun b48 => ?_) (fun b48 => ?_)
            · refine jr_iload C dX7_holds_91 rfl ?_
              refine jr_nif_ne C 100 dX7_holds_93 (by decide) (fun b93 => ?_) (fun b93 => ?_)
              · refine jr_iload C dX7_holds_100 rfl ?_
                refine jr_iconst C (v := 1) dX7_holds_102 (by decide) ?_
                refine jr_ncmp_ne C (b := 1) 110 dX7_holds_103 (by decide) rfl rfl (fun b103 => ?_) (fun b103 => ?_)
                · refine jr_iload_n C dX7_holds_110 rfl ?_
                  refine jr_iload C dX7_holds_111 rfl ?_
                  refine jr_iconst C (v := 5) dX7_holds_113 (by decide) ?_
                  refine jr_isub C dX7_holds_114 ?_
                  refine jr_ncmp_lt C 122 dX7_holds_115 (by decide) rfl rfl (fun b115 => ?_) (fun b115 => ?_)
                  · refine jr_iconst C (v := 0) dX7_holds_122 (by decide) ?_
                    refine jr_istore C dX7_holds_123 (by decide) ?_
                    refine jr_lload C dX7_holds_125 rfl ?_
                    refine jr_iconst C (v := 1) dX7_holds_127 (by decide) ?_
                    refine jr_lshl C dX7_holds_128 ?_
                    refine jr_iload C dX7_holds_129 rfl ?_
                    refine jr_if_eq C 138 dX7_holds_131 (by decide) (fun _ => ?_) (fun b => absurd b (by decide))
                    refine jr_iconst C (v := 0) dX7_holds_138 (by decide) ?_
                    refine jr_i2l C dX7_holds_139 ?_
                    refine jr_lor C dX7_holds_140 ?_
                    refine jr_lstore C dX7_holds_141 (by decide) ?_
                    refine jr_iinc C _ dX7_holds_143 rfl rfl (by decide) ?_
                    refine jr_goto C 6 dX7_holds_146 (by decide) ?_
                    exact jr_sub [(0, jf_r E 8), (1, .int a), (2, .int b), (3, .int c), (4, .long _), (6, .int _)] rfl (ih _ _ (by omega) (by omega) (by omega))
                  · refine jr_iconst C (v := 1) dX7_holds_118 (by decide) ?_
                    refine jr_goto C 123 dX7_holds_119 (by decide) ?_
                    refine jr_istore C dX7_holds_123 (by decide) ?_
                    refine jr_lload C dX7_holds_125 rfl ?_
                    refine jr_iconst C (v := 1) dX7_holds_127 (by decide) ?_
                    refine jr_lshl C dX7_holds_128 ?_
                    refine jr_iload C dX7_holds_129 rfl ?_
                    refine jr_if_eq C 138 dX7_holds_131 (by decide) (fun b => absurd b (by decide)) (fun _ => ?_)
                    refine jr_iconst C (v := 1) dX7_holds_134 (by decide) ?_
                    refine jr_goto C 139 dX7_holds_135 (by decide) ?_
                    refine jr_i2l C dX7_holds_139 ?_
                    refine jr_lor C dX7_holds_140 ?_
                    refine jr_lstore C dX7_holds_141 (by decide) ?_
                    refine jr_iinc C _ dX7_holds_143 rfl rfl (by decide) ?_
                    refine jr_goto C 6 dX7_holds_146 (by decide) ?_
                    exact jr_sub [(0, jf_r E 8), (1, .int a), (2, .int b), (3, .int c), (4, .long _), (6, .int _)] rfl (ih _ _ (by omega) (by omega) (by omega))
                · refine jr_iload_n C dX7_holds_106 rfl ?_
                  refine jr_goto C 123 dX7_holds_107 (by decide) ?_
                  refine jr_istore C dX7_holds_123 (by decide) ?_
                  refine jr_lload C dX7_holds_125 rfl ?_
                  refine jr_iconst C (v := 1) dX7_holds_127 (by decide) ?_
                  refine jr_lshl C dX7_holds_128 ?_
                  refine jr_iload C dX7_holds_129 rfl ?_
                  refine jr_nif_eq C 138 dX7_holds_131 (by decide) (fun b131 => ?_) (fun b131 => ?_)
                  · refine jr_iconst C (v := 0) dX7_holds_138 (by decide) ?_
                    refine jr_i2l C dX7_holds_139 ?_
                    refine jr_lor C dX7_holds_140 ?_
                    refine jr_lstore C dX7_holds_141 (by decide) ?_
                    refine jr_iinc C _ dX7_holds_143 rfl rfl (by decide) ?_
                    refine jr_goto C 6 dX7_holds_146 (by decide) ?_
                    exact jr_sub [(0, jf_r E 8), (1, .int a), (2, .int b), (3, .int c), (4, .long _), (6, .int _)] rfl (ih _ _ (by omega) (by omega) (by omega))
                  · refine jr_iconst C (v := 1) dX7_holds_134 (by decide) ?_
                    refine jr_goto C 139 dX7_holds_135 (by decide) ?_
                    refine jr_i2l C dX7_holds_139 ?_
                    refine jr_lor C dX7_holds_140 ?_
                    refine jr_lstore C dX7_holds_141 (by decide) ?_
                    refine jr_iinc C _ dX7_holds_143 rfl rfl (by decide) ?_
                    refine jr_goto C 6 dX7_holds_146 (by decide) ?_
                    exact jr_sub [(0, jf_r E 8), (1, .int a), (2, .int b), (3, .int c), (4, .long _), (6, .int _)] rfl (ih _ _ (by omega) (by omega) (by omega))
              · refine jr_iload_n C dX7_holds_96 rfl ?_
                refine jr_goto C 123 dX7_holds_97 (by decide) ?_
                refine jr_istore C dX7_holds_123 (by decide) ?_
                refine jr_lload C dX7_holds_125 rfl ?_
                refine jr_iconst C (v := 1) dX7_holds_127 (by decide) ?_
                refine jr_lshl C dX7_holds_128 ?_
                refine jr_iload C dX7_holds_129 rfl ?_
                refine jr_nif_eq C 138 dX7_holds_131 (by decide) (fun b131 => ?_) (fun b131 => ?_)
                · refine jr_iconst C (v := 0) dX7_holds_138 (by decide) ?_
                  refine jr_i2l C dX7_holds_139 ?_
                  refine jr_lor C dX7_holds_140 ?_
                  refine jr_lstore C dX7_holds_141 (by decide) ?_
                  refine jr_iinc C _ dX7_holds_143 rfl rfl (by decide) ?_
                  refine jr_goto C 6 dX7_holds_146 (by decide) ?_
                  exact jr_sub [(0, jf_r E 8), (1, .int a), (2, .int b), (3, .int c), (4, .long _), (6, .int _)] rfl (ih _ _ (by omega) (by omega) (by omega))
                · refine jr_iconst C (v := 1) dX7_holds_134 (by decide) ?_
                  refine jr_goto C 139 dX7_holds_135 (by decide) ?_
                  refine jr_i2l C dX7_holds_139 ?_
                  refine jr_lor C dX7_holds_140 ?_
                  refine jr_lstore C dX7_holds_141 (by decide) ?_
                  refine jr_iinc C _ dX7_holds_143 rfl rfl (by decide) ?_
                  refine jr_goto C 6 dX7_holds_146 (by decide) ?_
                  exact jr_sub [(0, jf_r E 8), (1, .int a), (2, .int b), (3, .int c), (4, .long _), (6, .int _)] rfl (ih _ _ (by omega) (by omega) (by omega))
            · refine jr_lload C dX7_holds_51 rfl ?_
              refine jr_lconst C (v := 1) dX7_holds_53 (by decide) ?_
              refine jr_land C dX7_holds_54 ?_
              refine jr_lstore C dX7_holds_55 (by decide) ?_
              refine jr_lload C dX7_holds_57 rfl ?_
              refine jr_iconst C (v := 1) dX7_holds_59 (by decide) ?_
              refine jr_lshr C dX7_holds_60 ?_
              refine jr_lstore C dX7_holds_61 (by decide) ?_
              refine jr_iload C dX7_holds_63 rfl ?_
              refine jr_iconst C (v := 3) dX7_holds_65 (by decide) ?_
              refine jr_ncmp_ne C (b := 3) 81 dX7_holds_66 (by decide) rfl rfl (fun b66 => ?_) (fun b66 => ?_)
              · refine jr_lload C dX7_holds_81 rfl ?_
                refine jr_lload C dX7_holds_83 rfl ?_
                refine jr_lor C dX7_holds_85 ?_
                refine jr_lstore C dX7_holds_86 (by decide) ?_
                refine jr_goto C 143 dX7_holds_88 (by decide) ?_
                refine jr_iinc C _ dX7_holds_143 rfl rfl (by decide) ?_
                refine jr_goto C 6 dX7_holds_146 (by decide) ?_
                exact jr_sub [(0, jf_r E 8), (1, .int a), (2, .int b), (3, .int c), (4, .long _), (6, .int _)] rfl (ih _ _ (by omega) (by omega) (by omega))
              · refine jr_lload C dX7_holds_69 rfl ?_
                refine jr_lload C dX7_holds_71 rfl ?_
                refine jr_ldc2 C kc_X7_36 dX7_holds_73 ?_
                refine jr_lor C dX7_holds_76 ?_
                refine jr_land C dX7_holds_77 ?_
                refine jr_goto C 86 dX7_holds_78 (by decide) ?_
                refine jr_lstore C dX7_holds_86 (by decide) ?_
                refine jr_goto C 143 dX7_holds_88 (by decide) ?_
                refine jr_iinc C _ dX7_holds_143 rfl rfl (by decide) ?_
                refine jr_goto C 6 dX7_holds_146 (by decide) ?_
                exact jr_sub [(0, jf_r E 8), (1, .int a), (2, .int b), (3, .int c), (4, .long _), (6, .int _)] rfl (ih _ _ (by omega) (by omega) (by omega))
        · refine jr_lload C dX7_holds_30 rfl ?_
          refine jr_lconst C (v := 1) dX7_holds_32 (by decide) ?_
          refine jr_lxor C dX7_holds_33 ?_
          refine jr_lstore C dX7_holds_34 (by decide) ?_
          refine jr_goto C 143 dX7_holds_36 (by decide) ?_
          refine jr_iinc C _ dX7_holds_143 rfl rfl (by decide) ?_
          refine jr_goto C 6 dX7_holds_146 (by decide) ?_
          exact jr_sub [(0, jf_r E 8), (1, .int a), (2, .int b), (3, .int c), (4, .long _), (6, .int _)] rfl (ih _ _ (by omega) (by omega) (by omega))
  refine jr_lconst C (v := 0) dX7_holds_0 (by decide) ?_
  refine jr_lstore C dX7_holds_1 (by decide) ?_
  refine jr_iconst C (v := 0) dX7_holds_3 (by decide) ?_
  refine jr_istore C dX7_holds_4 (by decide) ?_
  exact jr_sub [(0, jf_r E 8), (1, .int a), (2, .int b), (3, .int c), (4, .long 0), (6, .int 0)] rfl (lp 301 _ _ (by decide) hn.1 (by show _ - (0 : Int) < _; omega))
theorem ct_X4_passes (E : jf_E) (σ : jf_S) (j f k : Int32) (hr : 0 ≤ ((σ.1 7 8)).toInt ∧ ((σ.1 7 8)).toInt ≤ 100) (hn : 0 ≤ ((σ.1 8 3)).toInt ∧ ((σ.1 8 3)).toInt ≤ 300) (j0 : 0 ≤ j.toInt ∧ j.toInt < 10) : jf_I jh_X E yX4_passes cX4_passes 5 .boolean 1 [jf_r E 7, jf_r E 8, .int j, .int f, .int k] σ (fun r τ => (r = 0 ∨ r = 1) ∧ σ = τ) := by
  refine jf_mkI (by decide) (Nat.le_of_ble_eq_true rfl) ?_
  intro G C ret
  refine jr_aload_n C dX4_passes_0 rfl ?_
  refine jr_aload_n C dX4_passes_1 rfl ?_
  refine jr_iconst C (v := 0) dX4_passes_2 (by decide) ?_
  refine jr_iload_n C dX4_passes_3 rfl ?_
  refine jr_iload_n C dX4_passes_4 rfl ?_
  refine jr_iload C dX4_passes_5 rfl ?_
  refine jr_vi C [.int _, .int _, .int _, .int _] _ (ct_X4_hasRow E _ _ _ _ _ hr) ky_X4_hasRow kv_X4_hasRow kk_X_7 km_X4_44 (by decide) rfl (Nat.le_of_ble_eq_true rfl) dX4_passes_7 (fun r7 τ7 h7 => ?_)
  obtain ⟨-, rfl⟩ := h7
  refine jr_aload_n C dX4_passes_10 rfl ?_
  refine jr_iconst C (v := 1) dX4_passes_11 (by decide) ?_
  refine jr_iload_n C dX4_passes_12 rfl ?_
  refine jr_iload_n C dX4_passes_13 rfl ?_
  refine jr_iload C dX4_passes_14 rfl ?_
  refine jr_vi C [.int _, .int _, .int _, .int _] _ (ct_X4_hasRow E _ _ _ _ _ hr) ky_X4_hasRow kv_X4_hasRow kk_X_7 km_X4_44 (by decide) rfl (Nat.le_of_ble_eq_true rfl) dX4_passes_16 (fun r16 τ16 h16 => ?_)
  obtain ⟨-, rfl⟩ := h16
  refine jr_aload_n C dX4_passes_19 rfl ?_
  refine jr_getr C kf_X4_9_7 dX4_passes_20 ?_
  refine jr_iload_n C dX4_passes_23 rfl ?_
  refine jr_ialv C ka_X_40 dX4_passes_24 (ji_in j0.1 j0.2) (v := σ.1 40 _) rfl ?_
  refine jr_vi C [.int _, .int _, .int _] _ (ct_X7_holds E _ _ _ _ hn) ky_X7_holds kv_X7_holds kk_X_8 km_X4_48 (by decide) rfl (Nat.le_of_ble_eq_true rfl) dX4_passes_25 (fun r25 τ25 h25 => ?_)
  exact ret _ _ _ _ dX4_passes_28 (by rcases h25.1 with rfl | rfl <;> rfl) (h25)
theorem ct_X10_counts (E : jf_E) (σ : jf_S) (j f k : Int32) (hr : 0 ≤ ((σ.1 7 8)).toInt ∧ ((σ.1 7 8)).toInt ≤ 100) (hn : 0 ≤ ((σ.1 8 3)).toInt ∧ ((σ.1 8 3)).toInt ≤ 300) (hj : ((σ.1 7 7)).toInt ≤ 10) (hv : ∀ i, 0 ≤ ((σ.1 41) i).toInt ∧ ((σ.1 41) i).toInt ≤ 5) : jf_I jh_X E yX10_counts cX10_counts 4 .int 2 [jf_r E 0, .int j, .int f, .int k] σ (fun r τ => σ = τ) := by
  refine jf_mkI (by decide) (Nat.le_of_ble_eq_true rfl) ?_
  intro G C ret
  refine jr_iload_n C dX10_counts_0 rfl ?_
  refine jr_sip C [.int _] _ (ct_X10_isKnown E _ _) ky_X10_isKnown ks_X10_isKnown km_X10_212 (by decide) rfl (Nat.le_of_ble_eq_true rfl) dX10_counts_1 ?_
  refine jr_if_ne C 9 dX10_counts_4 (by decide) (fun b4 => ?_) (fun b4 => ?_)
  · replace b4 := jb_t b4
    refine jr_aload_n C dX10_counts_9 rfl ?_
    refine jr_getr C kf_X10_58_0 dX10_counts_10 ?_
    refine jr_iload_n C dX10_counts_13 rfl ?_
    refine jr_vip C [.int _] _ (ct_X4_has E _ _ (σ.1 7 7) rfl) ky_X4_has kv_X4_has kk_X_7 km_X10_204 (by decide) rfl (Nat.le_of_ble_eq_true rfl) dX10_counts_14 ?_
    refine jr_if_eq C 31 dX10_counts_17 (by decide) (fun b17 => ?_) (fun b17 => ?_)
    · replace b17 := jb_f b17
      refine jr_bipush C (v := -2) dX10_counts_31 (by decide) ?_
      exact ret _ _ _ _ dX10_counts_33 rfl (rfl)
    · replace b17 := jb_t b17
      refine jr_aload_n C dX10_counts_20 rfl ?_
      refine jr_getr C kf_X10_19_0 dX10_counts_21 ?_
      refine jr_iload_n C dX10_counts_24 rfl ?_
      refine jr_vip C [.int _] _ (ct_X2_has E _ _ (σ.1 2 8) rfl) ky_X2_has kv_X2_has kk_X_2 km_X10_115 (by decide) rfl (Nat.le_of_ble_eq_true rfl) dX10_counts_25 ?_
      refine jr_if_ne C 34 dX10_counts_28 (by decide) (fun b28 => ?_) (fun b28 => ?_)
      · replace b28 := jb_t b28
        refine jr_aload_n C dX10_counts_34 rfl ?_
        refine jr_getr C kf_X10_65_0 dX10_counts_35 ?_
        refine jr_getv C kf_X10_242_8 dX10_counts_38 (v := σ.1 8 2) rfl ?_
        refine jr_nif_ne C 47 dX10_counts_41 (by decide) (fun b41 => ?_) (fun b41 => ?_)
        · refine jr_aload_n C dX10_counts_47 rfl ?_
          refine jr_getr C kf_X10_58_0 dX10_counts_48 ?_
          refine jr_iload_n C dX10_counts_51 rfl ?_
          refine jr_iload_n C dX10_counts_52 rfl ?_
          refine jr_vip C [.int _, .int _] _ (ct_X4_votesFor E _ _ _ ⟨by omega, by omega⟩ (hv _)) ky_X4_votesFor kv_X4_votesFor kk_X_7 km_X10_246 (by decide) rfl (Nat.le_of_ble_eq_true rfl) dX10_counts_53 ?_
          refine jr_if_eq C 80 dX10_counts_56 (by decide) (fun b56 => ?_) (fun b56 => ?_)
          · replace b56 := jb_f b56
            refine jr_iconst C (v := 0) dX10_counts_80 (by decide) ?_
            exact ret _ _ _ _ dX10_counts_81 rfl (rfl)
          · replace b56 := jb_t b56
            refine jr_aload_n C dX10_counts_59 rfl ?_
            refine jr_getr C kf_X10_58_0 dX10_counts_60 ?_
            refine jr_aload_n C dX10_counts_63 rfl ?_
            refine jr_getr C kf_X10_65_0 dX10_counts_64 ?_
            refine jr_iload_n C dX10_counts_67 rfl ?_
            refine jr_iload_n C dX10_counts_68 rfl ?_
            refine jr_iload_n C dX10_counts_69 rfl ?_
            refine jr_vi C [_, .int _, .int _, .int _] _ (ct_X4_passes E _ _ _ _ hr hn ⟨by omega, by omega⟩) ky_X4_passes kv_X4_passes kk_X_7 km_X10_250 (by decide) rfl (Nat.le_of_ble_eq_true rfl) dX10_counts_70 (fun r70 τ70 h70 => ?_)
            obtain ⟨-, rfl⟩ := h70
            refine jr_nif_eq C 80 dX10_counts_73 (by decide) (fun b73 => ?_) (fun b73 => ?_)
            · refine jr_iconst C (v := 0) dX10_counts_80 (by decide) ?_
              exact ret _ _ _ _ dX10_counts_81 rfl (rfl)
            · refine jr_iconst C (v := 1) dX10_counts_76 (by decide) ?_
              refine jr_goto C 81 dX10_counts_77 (by decide) ?_
              exact ret _ _ _ _ dX10_counts_81 rfl (rfl)
        · refine jr_bipush C (v := -6) dX10_counts_44 (by decide) ?_
          exact ret _ _ _ _ dX10_counts_46 rfl (rfl)
      · replace b28 := jb_f b28
        refine jr_bipush C (v := -2) dX10_counts_31 (by decide) ?_
        exact ret _ _ _ _ dX10_counts_33 rfl (rfl)
  · replace b4 := jb_f b4
    refine jr_iconst C (v := -1) dX10_counts_7 (by decide) ?_
    exact ret _ _ _ _ dX10_counts_8 rfl (rfl)

