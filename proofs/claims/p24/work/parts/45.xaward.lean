/-! the class: the award, safe -/
def xC (σ : jf_S) : Prop := (∀ i, 0 ≤ ((σ.1 50) i).toInt ∧ ((σ.1 50) i).toInt < 20) ∧ (∀ i, 0 ≤ ((σ.1 51) i).toInt ∧ ((σ.1 51) i).toInt ≤ 5)
def xV (σ : jf_S) : Prop := (0 ≤ ((σ.1 7 7)).toInt ∧ ((σ.1 7 7)).toInt ≤ 10) ∧ (∀ i, 0 ≤ ((σ.1 41) i).toInt ∧ ((σ.1 41) i).toInt ≤ 5) ∧ (∀ i, 0 ≤ ((σ.1 42) i).toInt ∧ ((σ.1 42) i).toInt < 20) ∧ (0 ≤ ((σ.1 7 8)).toInt ∧ ((σ.1 7 8)).toInt ≤ 100)
def xR (σ : jf_S) : Prop := (0 ≤ ((σ.1 8 3)).toInt ∧ ((σ.1 8 3)).toInt ≤ 300) ∧ (0 ≤ ((σ.1 8 4)).toInt ∧ ((σ.1 8 4)).toInt ≤ 5)
def xS_a (σ τ : jf_S) : Prop := τ.2 = σ.2 ∧ (∀ k, k ≠ 10 → (k < 50 ∨ 54 < k) → τ.1 k = σ.1 k) ∧ (∀ j, j ≠ 8 → τ.1 10 j = σ.1 10 j)
theorem xS_a_r (σ : jf_S) : xS_a σ σ := ⟨rfl, fun _ _ _ => rfl, fun _ _ => rfl⟩
theorem xS_a_t {σ τ υ : jf_S} (h : xS_a σ τ) (g : xS_a τ υ) : xS_a σ υ := ⟨g.1.trans h.1, fun k a b => (g.2.1 k a b).trans (h.2.1 k a b), fun j a => (g.2.2 j a).trans (h.2.2 j a)⟩
theorem xS_a_i {σ τ : jf_S} (h : xS_a σ τ) {k j : Nat} {v : Int32} (hk : 50 ≤ k ∧ k ≤ 54) : xS_a σ (jf_i τ k j v) := by
  refine ⟨h.1, fun i a b => ?_, fun i a => ?_⟩
  · rw [jf_i_o i (by omega)]; exact h.2.1 i a b
  · rw [jf_i_o 10 (by omega)]; exact h.2.2 i a
theorem xS_a_10 {σ τ : jf_S} (h : xS_a σ τ) {v : Int32} : xS_a σ (jf_i τ 10 8 v) := by
  refine ⟨h.1, fun i a b => ?_, fun i a => ?_⟩
  · rw [jf_i_o i a]; exact h.2.1 i a b
  · rw [jf_i_at]; unfold upd; rw [if_neg a]; exact h.2.2 i a
theorem xS_a_V {σ τ : jf_S} (h : xS_a σ τ) (hV : xV σ) : xV τ := by
  unfold xV
  rw [h.2.1 7 (by decide) (by decide), h.2.1 41 (by decide) (by decide), h.2.1 42 (by decide) (by decide)]
  exact hV
theorem xS_a_R {σ τ : jf_S} (h : xS_a σ τ) (hR : xR σ) : xR τ := by
  unfold xR
  rw [h.2.1 8 (by decide) (by decide)]
  exact hR
theorem xC_o {τ : jf_S} (h : xC τ) {k j : Nat} {v : Int32} (hk : k ≠ 50 ∧ k ≠ 51) : xC (jf_i τ k j v) := by
  refine ⟨fun i => ?_, fun i => ?_⟩
  · show 0 ≤ ((jf_i τ k j v).1 50 i).toInt ∧ ((jf_i τ k j v).1 50 i).toInt < 20
    rw [jf_i_o 50 (by omega)]; exact h.1 i
  · show 0 ≤ ((jf_i τ k j v).1 51 i).toInt ∧ ((jf_i τ k j v).1 51 i).toInt ≤ 5
    rw [jf_i_o 51 (by omega)]; exact h.2 i
theorem xC_50 {τ : jf_S} (h : xC τ) {j : Nat} {v : Int32} (hv : 0 ≤ v.toInt ∧ v.toInt < 20) : xC (jf_i τ 50 j v) := by
  refine ⟨fun i => ?_, fun i => ?_⟩
  · show 0 ≤ ((jf_i τ 50 j v).1 50 i).toInt ∧ ((jf_i τ 50 j v).1 50 i).toInt < 20
    rw [jf_i_at]; unfold upd; split
    · exact hv
    · exact h.1 i
  · show 0 ≤ ((jf_i τ 50 j v).1 51 i).toInt ∧ ((jf_i τ 50 j v).1 51 i).toInt ≤ 5
    rw [jf_i_o 51 (by decide)]; exact h.2 i
theorem xC_51 {τ : jf_S} (h : xC τ) {j : Nat} {v : Int32} (hv : 0 ≤ v.toInt ∧ v.toInt ≤ 5) : xC (jf_i τ 51 j v) := by
  refine ⟨fun i => ?_, fun i => ?_⟩
  · show 0 ≤ ((jf_i τ 51 j v).1 50 i).toInt ∧ ((jf_i τ 51 j v).1 50 i).toInt < 20
    rw [jf_i_o 50 (by decide)]; exact h.1 i
  · show 0 ≤ ((jf_i τ 51 j v).1 51 i).toInt ∧ ((jf_i τ 51 j v).1 51 i).toInt ≤ 5
    rw [jf_i_at]; unfold upd; split
    · exact hv
    · exact h.2 i
theorem ct_X0_isAhead (E : jf_E) (σ : jf_S) (k f o : Int32) (k0 : 0 ≤ k.toInt ∧ k.toInt < 20) (f0 : 0 ≤ f.toInt ∧ f.toInt < 20) (o0 : 0 ≤ o.toInt ∧ o.toInt < 20) : jf_I jh_X E yX0_isAhead cX0_isAhead 6 .boolean 0 [jf_r E 10, .int k, .int f, .int o] σ (fun r τ => (r = 0 ∨ r = 1) ∧ σ = τ) := by
  refine jf_mkI (by decide) (Nat.le_of_ble_eq_true rfl) ?_
  intro G C ret
  refine jr_aload_n C dX0_isAhead_0 rfl ?_
  refine jr_getr C kf_X0_25_10 dX0_isAhead_1 ?_
  refine jr_iload_n C dX0_isAhead_4 rfl ?_
  refine jr_bipush C (v := 20) dX0_isAhead_5 (by decide) ?_
  refine jr_imul C dX0_isAhead_7 ?_
  refine jr_iload_n C dX0_isAhead_8 rfl ?_
  refine jr_iadd C dX0_isAhead_9 ?_
  refine jr_ialv C ka_X_54 dX0_isAhead_10 (ji_linr 20 rfl (by omega) (by omega) (by omega)) (v := σ.1 54 _) rfl ?_
  refine jr_istore C dX0_isAhead_11 (by decide) ?_
  refine jr_aload_n C dX0_isAhead_13 rfl ?_
  refine jr_getr C kf_X0_25_10 dX0_isAhead_14 ?_
  refine jr_iload_n C dX0_isAhead_17 rfl ?_
  refine jr_bipush C (v := 20) dX0_isAhead_18 (by decide) ?_
  refine jr_imul C dX0_isAhead_20 ?_
  refine jr_iload_n C dX0_isAhead_21 rfl ?_
  refine jr_iadd C dX0_isAhead_22 ?_
  refine jr_ialv C ka_X_54 dX0_isAhead_23 (ji_linr 20 rfl (by omega) (by omega) (by omega)) (v := σ.1 54 _) rfl ?_
  refine jr_istore C dX0_isAhead_24 (by decide) ?_
  refine jr_iload C dX0_isAhead_26 rfl ?_
  refine jr_iload C dX0_isAhead_28 rfl ?_
  refine jr_ncmp_eq C 46 dX0_isAhead_30 (by decide) rfl rfl (fun b30 => ?_) (fun b30 => ?_)
  · refine jr_aload_n C dX0_isAhead_46 rfl ?_
    refine jr_getr C kf_X0_40_10 dX0_isAhead_47 ?_
    refine jr_getv C kf_X0_95_8 dX0_isAhead_50 (v := σ.1 8 5) rfl ?_
    refine jr_iconst C (v := 1) dX0_isAhead_53 (by decide) ?_
    refine jr_ncmp_ne C (b := 1) 105 dX0_isAhead_54 (by decide) rfl rfl (fun b54 => ?_) (fun b54 => ?_)
    · refine jr_aload_n C dX0_isAhead_105 rfl ?_
      refine jr_getr C kf_X0_40_10 dX0_isAhead_106 ?_
      refine jr_getv C kf_X0_95_8 dX0_isAhead_109 (v := σ.1 8 5) rfl ?_
      refine jr_iconst C (v := 2) dX0_isAhead_112 (by decide) ?_
      refine jr_ncmp_ne C (b := 2) 152 dX0_isAhead_113 (by decide) rfl rfl (fun b113 => ?_) (fun b113 => ?_)
      · refine jr_iload_n C dX0_isAhead_152 rfl ?_
        refine jr_iload_n C dX0_isAhead_153 rfl ?_
        refine jr_ncmp_ge C 161 dX0_isAhead_154 (by decide) rfl rfl (fun b154 => ?_) (fun b154 => ?_)
        · refine jr_iconst C (v := 0) dX0_isAhead_161 (by decide) ?_
          exact ret _ _ _ _ dX0_isAhead_162 (rfl) (⟨by decide, rfl⟩)
        · refine jr_iconst C (v := 1) dX0_isAhead_157 (by decide) ?_
          refine jr_goto C 162 dX0_isAhead_158 (by decide) ?_
          exact ret _ _ _ _ dX0_isAhead_162 (rfl) (⟨by decide, rfl⟩)
      · refine jr_aload_n C dX0_isAhead_116 rfl ?_
        refine jr_getr C kf_X0_18_10 dX0_isAhead_117 ?_
        refine jr_iload_n C dX0_isAhead_120 rfl ?_
        refine jr_ialv C ka_X_52 dX0_isAhead_121 (ji_in f0.1 f0.2) (v := σ.1 52 _) rfl ?_
        refine jr_aload_n C dX0_isAhead_122 rfl ?_
        refine jr_getr C kf_X0_18_10 dX0_isAhead_123 ?_
        refine jr_iload_n C dX0_isAhead_126 rfl ?_
        refine jr_ialv C ka_X_52 dX0_isAhead_127 (ji_in o0.1 o0.2) (v := σ.1 52 _) rfl ?_
        refine jr_ncmp_eq C 152 dX0_isAhead_128 (by decide) rfl rfl (fun b128 => ?_) (fun b128 => ?_)
        · refine jr_iload_n C dX0_isAhead_152 rfl ?_
          refine jr_iload_n C dX0_isAhead_153 rfl ?_
          refine jr_ncmp_ge C 161 dX0_isAhead_154 (by decide) rfl rfl (fun b154 => ?_) (fun b154 => ?_)
          · refine jr_iconst C (v := 0) dX0_isAhead_161 (by decide) ?_
            exact ret _ _ _ _ dX0_isAhead_162 (rfl) (⟨by decide, rfl⟩)
          · refine jr_iconst C (v := 1) dX0_isAhead_157 (by decide) ?_
            refine jr_goto C 162 dX0_isAhead_158 (by decide) ?_
            exact ret _ _ _ _ dX0_isAhead_162 (rfl) (⟨by decide, rfl⟩)
        · refine jr_aload_n C dX0_isAhead_131 rfl ?_
          refine jr_getr C kf_X0_18_10 dX0_isAhead_132 ?_
          refine jr_iload_n C dX0_isAhead_135 rfl ?_
          refine jr_ialv C ka_X_52 dX0_isAhead_136 (ji_in f0.1 f0.2) (v := σ.1 52 _) rfl ?_
          refine jr_aload_n C dX0_isAhead_137 rfl ?_
          refine jr_getr C kf_X0_18_10 dX0_isAhead_138 ?_
          refine jr_iload_n C dX0_isAhead_141 rfl ?_
          refine jr_ialv C ka_X_52 dX0_isAhead_142 (ji_in o0.1 o0.2) (v := σ.1 52 _) rfl ?_
          refine jr_ncmp_le C 150 dX0_isAhead_143 (by decide) rfl rfl (fun b143 => ?_) (fun b143 => ?_)
          · refine jr_iconst C (v := 0) dX0_isAhead_150 (by decide) ?_
            exact ret _ _ _ _ dX0_isAhead_151 (rfl) (⟨by decide, rfl⟩)
          · refine jr_iconst C (v := 1) dX0_isAhead_146 (by decide) ?_
            refine jr_goto C 151 dX0_isAhead_147 (by decide) ?_
            exact ret _ _ _ _ dX0_isAhead_151 (rfl) (⟨by decide, rfl⟩)
    · refine jr_aload_n C dX0_isAhead_57 rfl ?_
      refine jr_getr C kf_X0_32_10 dX0_isAhead_58 ?_
      refine jr_getr C kf_X0_98_2 dX0_isAhead_61 ?_
      refine jr_iload_n C dX0_isAhead_64 rfl ?_
      refine jr_ialv C ka_X_19 dX0_isAhead_65 (ji_in f0.1 f0.2) (v := σ.1 19 _) rfl ?_
      refine jr_aload_n C dX0_isAhead_66 rfl ?_
      refine jr_getr C kf_X0_32_10 dX0_isAhead_67 ?_
      refine jr_getr C kf_X0_98_2 dX0_isAhead_70 ?_
      refine jr_iload_n C dX0_isAhead_73 rfl ?_
      refine jr_ialv C ka_X_19 dX0_isAhead_74 (ji_in o0.1 o0.2) (v := σ.1 19 _) rfl ?_
      refine jr_ncmp_eq C 105 dX0_isAhead_75 (by decide) rfl rfl (fun b75 => ?_) (fun b75 => ?_)
      · refine jr_aload_n C dX0_isAhead_105 rfl ?_
        refine jr_getr C kf_X0_40_10 dX0_isAhead_106 ?_
        refine jr_getv C kf_X0_95_8 dX0_isAhead_109 (v := σ.1 8 5) rfl ?_
        refine jr_iconst C (v := 2) dX0_isAhead_112 (by decide) ?_
        refine jr_ncmp_ne C (b := 2) 152 dX0_isAhead_113 (by decide) rfl rfl (fun b113 => ?_) (fun b113 => ?_)
        · refine jr_iload_n C dX0_isAhead_152 rfl ?_
          refine jr_iload_n C dX0_isAhead_153 rfl ?_
          refine jr_ncmp_ge C 161 dX0_isAhead_154 (by decide) rfl rfl (fun b154 => ?_) (fun b154 => ?_)
          · refine jr_iconst C (v := 0) dX0_isAhead_161 (by decide) ?_
            exact ret _ _ _ _ dX0_isAhead_162 (rfl) (⟨by decide, rfl⟩)
          · refine jr_iconst C (v := 1) dX0_isAhead_157 (by decide) ?_
            refine jr_goto C 162 dX0_isAhead_158 (by decide) ?_
            exact ret _ _ _ _ dX0_isAhead_162 (rfl) (⟨by decide, rfl⟩)
        · refine jr_aload_n C dX0_isAhead_116 rfl ?_
          refine jr_getr C kf_X0_18_10 dX0_isAhead_117 ?_
          refine jr_iload_n C dX0_isAhead_120 rfl ?_
          refine jr_ialv C ka_X_52 dX0_isAhead_121 (ji_in f0.1 f0.2) (v := σ.1 52 _) rfl ?_
          refine jr_aload_n C dX0_isAhead_122 rfl ?_
          refine jr_getr C kf_X0_18_10 dX0_isAhead_123 ?_
          refine jr_iload_n C dX0_isAhead_126 rfl ?_
          refine jr_ialv C ka_X_52 dX0_isAhead_127 (ji_in o0.1 o0.2) (v := σ.1 52 _) rfl ?_
          refine jr_ncmp_eq C 152 dX0_isAhead_128 (by decide) rfl rfl (fun b128 => ?_) (fun b128 => ?_)
          · refine jr_iload_n C dX0_isAhead_152 rfl ?_
            refine jr_iload_n C dX0_isAhead_153 rfl ?_
            refine jr_ncmp_ge C 161 dX0_isAhead_154 (by decide) rfl rfl (fun b154 => ?_) (fun b154 => ?_)
            · refine jr_iconst C (v := 0) dX0_isAhead_161 (by decide) ?_
              exact ret _ _ _ _ dX0_isAhead_162 (rfl) (⟨by decide, rfl⟩)
            · refine jr_iconst C (v := 1) dX0_isAhead_157 (by decide) ?_
              refine jr_goto C 162 dX0_isAhead_158 (by decide) ?_
              exact ret _ _ _ _ dX0_isAhead_162 (rfl) (⟨by decide, rfl⟩)
          · refine jr_aload_n C dX0_isAhead_131 rfl ?_
            refine jr_getr C kf_X0_18_10 dX0_isAhead_132 ?_
            refine jr_iload_n C dX0_isAhead_135 rfl ?_
            refine jr_ialv C ka_X_52 dX0_isAhead_136 (ji_in f0.1 f0.2) (v := σ.1 52 _) rfl ?_
            refine jr_aload_n C dX0_isAhead_137 rfl ?_
            refine jr_getr C kf_X0_18_10 dX0_isAhead_138 ?_
            refine jr_iload_n C dX0_isAhead_141 rfl ?_
            refine jr_ialv C ka_X_52 dX0_isAhead_142 (ji_in o0.1 o0.2) (v := σ.1 52 _) rfl ?_
            refine jr_ncmp_le C 150 dX0_isAhead_143 (by decide) rfl rfl (fun b143 => ?_) (fun b143 => ?_)
            · refine jr_iconst C (v := 0) dX0_isAhead_150 (by decide) ?_
              exact ret _ _ _ _ dX0_isAhead_151 (rfl) (⟨by decide, rfl⟩)
            · refine jr_iconst C (v := 1) dX0_isAhead_146 (by decide) ?_
              refine jr_goto C 151 dX0_isAhead_147 (by decide) ?_
              exact ret _ _ _ _ dX0_isAhead_151 (rfl) (⟨by decide, rfl⟩)
      · refine jr_aload_n C dX0_isAhead_78 rfl ?_
        refine jr_getr C kf_X0_32_10 dX0_isAhead_79 ?_
        refine jr_getr C kf_X0_98_2 dX0_isAhead_82 ?_
        refine jr_iload_n C dX0_isAhead_85 rfl ?_
        refine jr_ialv C ka_X_19 dX0_isAhead_86 (ji_in f0.1 f0.2) (v := σ.1 19 _) rfl ?_
        refine jr_aload_n C dX0_isAhead_87 rfl ?_
        refine jr_getr C kf_X0_32_10 dX0_isAhead_88 ?_
        refine jr_getr C kf_X0_98_2 dX0_isAhead_91 ?_
        refine jr_iload_n C dX0_isAhead_94 rfl ?_
        refine jr_ialv C ka_X_19 dX0_isAhead_95 (ji_in o0.1 o0.2) (v := σ.1 19 _) rfl ?_
        refine jr_ncmp_le C 103 dX0_isAhead_96 (by decide) rfl rfl (fun b96 => ?_) (fun b96 => ?_)
        · refine jr_iconst C (v := 0) dX0_isAhead_103 (by decide) ?_
          exact ret _ _ _ _ dX0_isAhead_104 (rfl) (⟨by decide, rfl⟩)
        · refine jr_iconst C (v := 1) dX0_isAhead_99 (by decide) ?_
          refine jr_goto C 104 dX0_isAhead_100 (by decide) ?_
          exact ret _ _ _ _ dX0_isAhead_104 (rfl) (⟨by decide, rfl⟩)
  · refine jr_iload C dX0_isAhead_33 rfl ?_
    refine jr_iload C dX0_isAhead_35 rfl ?_
    refine jr_ncmp_le C 44 dX0_isAhead_37 (by decide) rfl rfl (fun b37 => ?_) (fun b37 => ?_)
    · refine jr_iconst C (v := 0) dX0_isAhead_44 (by decide) ?_
      exact ret _ _ _ _ dX0_isAhead_45 (rfl) (⟨by decide, rfl⟩)
    · refine jr_iconst C (v := 1) dX0_isAhead_40 (by decide) ?_
      refine jr_goto C 45 dX0_isAhead_41 (by decide) ?_
      exact ret _ _ _ _ dX0_isAhead_45 (rfl) (⟨by decide, rfl⟩)
theorem ct_X0_openRound (E : jf_E) (σ : jf_S) (k : Int32) (hC : xC σ) (k0 : 0 ≤ k.toInt ∧ k.toInt < 20) : jf_V jh_X E yX0_openRound cX0_openRound 3 0 [jf_r E 10, .int k] σ (fun τ => xS_a σ τ ∧ xC τ) := by
  refine jf_mkV (by decide) (Nat.le_of_ble_eq_true rfl) ?_
  intro G C ret
  have lp : ∀ (m : Nat) (τ : jf_S) (o : Int32), xS_a σ τ ∧ xC τ → 0 ≤ o.toInt → o.toInt ≤ (20 : Int) → (20 : Int) - o.toInt < m → jf_X jh_X E G 3 2 [(0, jf_r E 10), (1, .int k), (2, .int o)] [] τ := by
    intro m
    induction m with
    | zero => intro τ o z g1 g2 g3; exfalso; omega
    | succ m ih =>
      intro τ o z g1 g2 g3
      have e1 := ji_inc (k := o) (by omega)
      refine jr_iload_n C dX0_openRound_2 rfl ?_
      refine jr_bipush C (v := 20) dX0_openRound_3 (by decide) ?_
      refine jr_ncmp_ge C (b := 20) 39 dX0_openRound_5 (by decide) rfl rfl (fun b5 => ?_) (fun b5 => ?_)
      · exact ret _ _ _ dX0_openRound_39 (z)
      · refine jr_aload_n C dX0_openRound_8 rfl ?_
        refine jr_getr C kf_X0_25_10 dX0_openRound_9 ?_
        refine jr_iload_n C dX0_openRound_12 rfl ?_
        refine jr_bipush C (v := 20) dX0_openRound_13 (by decide) ?_
        refine jr_imul C dX0_openRound_15 ?_
        refine jr_iload_n C dX0_openRound_16 rfl ?_
        refine jr_iadd C dX0_openRound_17 ?_
        refine jr_aload_n C dX0_openRound_18 rfl ?_
        refine jr_getr C kf_X0_21_10 dX0_openRound_19 ?_
        refine jr_iload_n C dX0_openRound_22 rfl ?_
        refine jr_zalv C ka_X_53 dX0_openRound_23 (ji_in (i := o) (by omega) (by omega)) (v := τ.1 53 _) rfl ?_
        refine jr_nif_eq C 31 dX0_openRound_24 (by decide) (fun b24 => ?_) (fun b24 => ?_)
        · refine jr_iconst C (v := -1) dX0_openRound_31 (by decide) ?_
          refine jr_iast C ka_X_54 dX0_openRound_32 (ji_linr 20 rfl (by omega) (by omega) (by omega)) ?_
          refine jr_iinc C _ dX0_openRound_33 rfl rfl (by decide) ?_
          refine jr_goto C 2 dX0_openRound_36 (by decide) ?_
          exact jr_sub [(0, jf_r E 10), (1, .int k), (2, .int _)] rfl (ih _ _ ⟨xS_a_i z.1 (by decide), xC_o z.2 (by decide)⟩ (by omega) (by omega) (by omega))
        · refine jr_iconst C (v := 0) dX0_openRound_27 (by decide) ?_
          refine jr_goto C 32 dX0_openRound_28 (by decide) ?_
          refine jr_iast C ka_X_54 dX0_openRound_32 (ji_linr 20 rfl (by omega) (by omega) (by omega)) ?_
          refine jr_iinc C _ dX0_openRound_33 rfl rfl (by decide) ?_
          refine jr_goto C 2 dX0_openRound_36 (by decide) ?_
          exact jr_sub [(0, jf_r E 10), (1, .int k), (2, .int _)] rfl (ih _ _ ⟨xS_a_i z.1 (by decide), xC_o z.2 (by decide)⟩ (by omega) (by omega) (by omega))
  refine jr_iconst C (v := 0) dX0_openRound_0 (by decide) ?_
  refine jr_istore_n C dX0_openRound_1 (by decide) ?_
  exact jr_sub [(0, jf_r E 10), (1, .int k), (2, .int _)] rfl (lp 21 _ _ ⟨xS_a_r σ, hC⟩ (by decide) (by decide) (by decide))
theorem ct_X0_foremost (E : jf_E) (σ : jf_S) (k : Int32) (k0 : 0 ≤ k.toInt ∧ k.toInt < 20) : jf_I jh_X E yX0_foremost cX0_foremost 4 .int 1 [jf_r E 10, .int k] σ (fun r τ => (-1 ≤ r.toInt ∧ r.toInt < 20) ∧ σ = τ) := by
  refine jf_mkI (by decide) (Nat.le_of_ble_eq_true rfl) ?_
  intro G C ret
  have lp : ∀ (m : Nat) (b o : Int32), 0 ≤ o.toInt → o.toInt ≤ (20 : Int) → (20 : Int) - o.toInt < m → (-1 ≤ b.toInt ∧ b.toInt < 20) → jf_X jh_X E G 4 4 [(0, jf_r E 10), (1, .int k), (2, .int b), (3, .int o)] [] σ := by
    intro m
    induction m with
    | zero => intro b o g1 g2 g3 x1; exfalso; omega
    | succ m ih =>
      intro b o g1 g2 g3 x1
      have e1 := ji_inc (k := o) (by omega)
      refine jr_iload_n C dX0_foremost_4 rfl ?_
      refine jr_bipush C (v := 20) dX0_foremost_5 (by decide) ?_
      refine jr_ncmp_ge C (b := 20) 42 dX0_foremost_7 (by decide) rfl rfl (fun b7 => ?_) (fun b7 => ?_)
      · refine jr_iload_n C dX0_foremost_42 rfl ?_
        exact ret _ _ _ _ dX0_foremost_43 rfl (⟨x1, rfl⟩)
      · refine jr_aload_n C dX0_foremost_10 rfl ?_
        refine jr_getr C kf_X0_21_10 dX0_foremost_11 ?_
        refine jr_iload_n C dX0_foremost_14 rfl ?_
        refine jr_zalv C ka_X_53 dX0_foremost_15 (ji_in (i := o) (by omega) (by omega)) (v := σ.1 53 _) rfl ?_
        refine jr_nif_eq C 36 dX0_foremost_16 (by decide) (fun b16 => ?_) (fun b16 => ?_)
        · refine jr_iinc C _ dX0_foremost_36 rfl rfl (by decide) ?_
          refine jr_goto C 4 dX0_foremost_39 (by decide) ?_
          exact jr_sub [(0, jf_r E 10), (1, .int k), (2, .int _), (3, .int _)] rfl (ih _ _ (by omega) (by omega) (by omega) (by first | exact x1 | exact ⟨by omega, by omega⟩))
        · refine jr_iload_n C dX0_foremost_19 rfl ?_
          refine jr_iconst C (v := -1) dX0_foremost_20 (by decide) ?_
          refine jr_ncmp_eq C (b := -1) 34 dX0_foremost_21 (by decide) rfl rfl (fun b21 => ?_) (fun b21 => ?_)
          · refine jr_iload_n C dX0_foremost_34 rfl ?_
            refine jr_istore_n C dX0_foremost_35 (by decide) ?_
            refine jr_iinc C _ dX0_foremost_36 rfl rfl (by decide) ?_
            refine jr_goto C 4 dX0_foremost_39 (by decide) ?_
            exact jr_sub [(0, jf_r E 10), (1, .int k), (2, .int _), (3, .int _)] rfl (ih _ _ (by omega) (by omega) (by omega) (by first | exact x1 | exact ⟨by omega, by omega⟩))
          · refine jr_aload_n C dX0_foremost_24 rfl ?_
            refine jr_iload_n C dX0_foremost_25 rfl ?_
            refine jr_iload_n C dX0_foremost_26 rfl ?_
            refine jr_iload_n C dX0_foremost_27 rfl ?_
            refine jr_vi C [.int _, .int _, .int _] _ (ct_X0_isAhead E _ _ _ _ k0 ⟨by omega, by omega⟩ ⟨by omega, by omega⟩) ky_X0_isAhead kv_X0_isAhead kk_X_10 km_X0_91 (by decide) rfl (Nat.le_of_ble_eq_true rfl) dX0_foremost_28 (fun r28 τ28 h28 => ?_)
            obtain ⟨-, rfl⟩ := h28
            refine jr_nif_eq C 36 dX0_foremost_31 (by decide) (fun b31 => ?_) (fun b31 => ?_)
            · refine jr_iinc C _ dX0_foremost_36 rfl rfl (by decide) ?_
              refine jr_goto C 4 dX0_foremost_39 (by decide) ?_
              exact jr_sub [(0, jf_r E 10), (1, .int k), (2, .int _), (3, .int _)] rfl (ih _ _ (by omega) (by omega) (by omega) (by first | exact x1 | exact ⟨by omega, by omega⟩))
            · refine jr_iload_n C dX0_foremost_34 rfl ?_
              refine jr_istore_n C dX0_foremost_35 (by decide) ?_
              refine jr_iinc C _ dX0_foremost_36 rfl rfl (by decide) ?_
              refine jr_goto C 4 dX0_foremost_39 (by decide) ?_
              exact jr_sub [(0, jf_r E 10), (1, .int k), (2, .int _), (3, .int _)] rfl (ih _ _ (by omega) (by omega) (by omega) (by first | exact x1 | exact ⟨by omega, by omega⟩))
  refine jr_iconst C (v := -1) dX0_foremost_0 (by decide) ?_
  refine jr_istore_n C dX0_foremost_1 (by decide) ?_
  refine jr_iconst C (v := 0) dX0_foremost_2 (by decide) ?_
  refine jr_istore_n C dX0_foremost_3 (by decide) ?_
  exact jr_sub [(0, jf_r E 10), (1, .int k), (2, .int _), (3, .int _)] rfl (lp 21 _ _ (by decide) (by decide) (by decide) (by decide))
theorem ct_X0_putOutHindmost (E : jf_E) (σ : jf_S) (k : Int32) (hC : xC σ) (k0 : 0 ≤ k.toInt ∧ k.toInt < 20) : jf_V jh_X E yX0_putOutHindmost cX0_putOutHindmost 4 1 [jf_r E 10, .int k] σ (fun τ => xS_a σ τ ∧ xC τ) := by
  refine jf_mkV (by decide) (Nat.le_of_ble_eq_true rfl) ?_
  intro G C ret
  have lp : ∀ (m : Nat) (b o : Int32), 0 ≤ o.toInt → o.toInt ≤ (20 : Int) → (20 : Int) - o.toInt < m → (-1 ≤ b.toInt ∧ b.toInt < 20) → jf_X jh_X E G 4 4 [(0, jf_r E 10), (1, .int k), (2, .int b), (3, .int o)] [] σ := by
    intro m
    induction m with
    | zero => intro b o g1 g2 g3 x1; exfalso; omega
    | succ m ih =>
      intro b o g1 g2 g3 x1
      have e1 := ji_inc (k := o) (by omega)
      refine jr_iload_n C dX0_putOutHindmost_4 rfl ?_
      refine jr_bipush C (v := 20) dX0_putOutHindmost_5 (by decide) ?_
      refine jr_ncmp_ge C (b := 20) 42 dX0_putOutHindmost_7 (by decide) rfl rfl (fun b7 => ?_) (fun b7 => ?_)
      · refine jr_iload_n C dX0_putOutHindmost_42 rfl ?_
        refine jr_iconst C (v := -1) dX0_putOutHindmost_43 (by decide) ?_
        refine jr_ncmp_eq C (b := -1) 54 dX0_putOutHindmost_44 (by decide) rfl rfl (fun b44 => ?_) (fun b44 => ?_)
        · refine ret _ _ _ dX0_putOutHindmost_54 ?_
          first | exact ⟨xS_a_r σ, hC⟩ | exact ⟨xS_a_i (xS_a_r σ) (by decide), xC_o hC (by decide)⟩
        · refine jr_aload_n C dX0_putOutHindmost_47 rfl ?_
          refine jr_getr C kf_X0_21_10 dX0_putOutHindmost_48 ?_
          refine jr_iload_n C dX0_putOutHindmost_51 rfl ?_
          refine jr_iconst C (v := 0) dX0_putOutHindmost_52 (by decide) ?_
          refine jr_zast C ka_X_53 dX0_putOutHindmost_53 (ji_in (i := b) (by omega) (by omega)) (Or.inl rfl) ?_
          refine ret _ _ _ dX0_putOutHindmost_54 ?_
          first | exact ⟨xS_a_r σ, hC⟩ | exact ⟨xS_a_i (xS_a_r σ) (by decide), xC_o hC (by decide)⟩
      · refine jr_aload_n C dX0_putOutHindmost_10 rfl ?_
        refine jr_getr C kf_X0_21_10 dX0_putOutHindmost_11 ?_
        refine jr_iload_n C dX0_putOutHindmost_14 rfl ?_
        refine jr_zalv C ka_X_53 dX0_putOutHindmost_15 (ji_in (i := o) (by omega) (by omega)) (v := σ.1 53 _) rfl ?_
        refine jr_nif_eq C 36 dX0_putOutHindmost_16 (by decide) (fun b16 => ?_) (fun b16 => ?_)
        · refine jr_iinc C _ dX0_putOutHindmost_36 rfl rfl (by decide) ?_
          refine jr_goto C 4 dX0_putOutHindmost_39 (by decide) ?_
          exact jr_sub [(0, jf_r E 10), (1, .int k), (2, .int _), (3, .int _)] rfl (ih _ _ (by omega) (by omega) (by omega) (by first | exact x1 | exact ⟨by omega, by omega⟩))
        · refine jr_iload_n C dX0_putOutHindmost_19 rfl ?_
          refine jr_iconst C (v := -1) dX0_putOutHindmost_20 (by decide) ?_
          refine jr_ncmp_eq C (b := -1) 34 dX0_putOutHindmost_21 (by decide) rfl rfl (fun b21 => ?_) (fun b21 => ?_)
          · refine jr_iload_n C dX0_putOutHindmost_34 rfl ?_
            refine jr_istore_n C dX0_putOutHindmost_35 (by decide) ?_
            refine jr_iinc C _ dX0_putOutHindmost_36 rfl rfl (by decide) ?_
            refine jr_goto C 4 dX0_putOutHindmost_39 (by decide) ?_
            exact jr_sub [(0, jf_r E 10), (1, .int k), (2, .int _), (3, .int _)] rfl (ih _ _ (by omega) (by omega) (by omega) (by first | exact x1 | exact ⟨by omega, by omega⟩))
          · refine jr_aload_n C dX0_putOutHindmost_24 rfl ?_
            refine jr_iload_n C dX0_putOutHindmost_25 rfl ?_
            refine jr_iload_n C dX0_putOutHindmost_26 rfl ?_
            refine jr_iload_n C dX0_putOutHindmost_27 rfl ?_
            refine jr_vi C [.int _, .int _, .int _] _ (ct_X0_isAhead E _ _ _ _ k0 ⟨by omega, by omega⟩ ⟨by omega, by omega⟩) ky_X0_isAhead kv_X0_isAhead kk_X_10 km_X0_91 (by decide) rfl (Nat.le_of_ble_eq_true rfl) dX0_putOutHindmost_28 (fun r28 τ28 h28 => ?_)
            obtain ⟨-, rfl⟩ := h28
            refine jr_nif_eq C 36 dX0_putOutHindmost_31 (by decide) (fun b31 => ?_) (fun b31 => ?_)
            · refine jr_iinc C _ dX0_putOutHindmost_36 rfl rfl (by decide) ?_
              refine jr_goto C 4 dX0_putOutHindmost_39 (by decide) ?_
              exact jr_sub [(0, jf_r E 10), (1, .int k), (2, .int _), (3, .int _)] rfl (ih _ _ (by omega) (by omega) (by omega) (by first | exact x1 | exact ⟨by omega, by omega⟩))
            · refine jr_iload_n C dX0_putOutHindmost_34 rfl ?_
              refine jr_istore_n C dX0_putOutHindmost_35 (by decide) ?_
              refine jr_iinc C _ dX0_putOutHindmost_36 rfl rfl (by decide) ?_
              refine jr_goto C 4 dX0_putOutHindmost_39 (by decide) ?_
              exact jr_sub [(0, jf_r E 10), (1, .int k), (2, .int _), (3, .int _)] rfl (ih _ _ (by omega) (by omega) (by omega) (by first | exact x1 | exact ⟨by omega, by omega⟩))
  refine jr_iconst C (v := -1) dX0_putOutHindmost_0 (by decide) ?_
  refine jr_istore_n C dX0_putOutHindmost_1 (by decide) ?_
  refine jr_iconst C (v := 0) dX0_putOutHindmost_2 (by decide) ?_
  refine jr_istore_n C dX0_putOutHindmost_3 (by decide) ?_
  exact jr_sub [(0, jf_r E 10), (1, .int k), (2, .int _), (3, .int _)] rfl (lp 21 _ _ (by decide) (by decide) (by decide) (by decide))
theorem ct_X0_giveFirsts (E : jf_E) (σ : jf_S) (k : Int32) (hC : xC σ) (hV : xV σ) (k0 : 0 ≤ k.toInt ∧ k.toInt < 20) : jf_I jh_X E yX0_giveFirsts cX0_giveFirsts 6 .int 0 [jf_r E 10, .int k] σ (fun r τ => xS_a σ τ ∧ xC τ) := by
  refine jf_mkI (by decide) (Nat.le_of_ble_eq_true rfl) ?_
  intro G C ret
  have hJ := hV.1
  have l18 : ∀ (m : Nat) (τ : jf_S) (n j i : Int32), xS_a σ τ ∧ xC τ → 0 ≤ i.toInt → i.toInt ≤ (5 : Int) → (5 : Int) - i.toInt < m → (0 ≤ j.toInt ∧ j.toInt < 10) → (∀ (υ : jf_S) (a : Int32), xS_a σ υ ∧ xC υ → jf_X jh_X E G 6 4 [(0, jf_r E 10), (1, .int k), (2, .int a), (3, .int (j + Int32.ofInt 1))] [] υ) → jf_X jh_X E G 6 18 [(0, jf_r E 10), (1, .int k), (2, .int n), (3, .int j), (4, .int i)] [] τ := by
    intro m
    induction m with
    | zero => intro τ n j i z g1 g2 g3 x1 x2; exfalso; omega
    | succ m ih =>
      intro τ n j i z g1 g2 g3 x1 x2
      have e1 := ji_inc (k := i) (by omega)
      have c5 := z.2.2 j.toNatClampNeg
      refine jr_iload C dX0_giveFirsts_18 rfl ?_
      refine jr_aload_n C dX0_giveFirsts_20 rfl ?_
      refine jr_getr C kf_X0_15_10 dX0_giveFirsts_21 ?_
      refine jr_iload_n C dX0_giveFirsts_24 rfl ?_
      refine jr_ialv C ka_X_51 dX0_giveFirsts_25 (ji_in x1.1 x1.2) (v := τ.1 51 _) rfl ?_
      refine jr_ncmp_ge C 80 dX0_giveFirsts_26 (by decide) rfl rfl (fun b26 => ?_) (fun b26 => ?_)
      · refine jr_iinc C _ dX0_giveFirsts_80 rfl rfl (by decide) ?_
        refine jr_goto C 4 dX0_giveFirsts_83 (by decide) ?_
        first | exact jr_sub [(0, jf_r E 10), (1, .int k), (2, .int _), (3, .int (j + Int32.ofInt 1))] rfl (x2 _ _ z) | exact jr_sub [(0, jf_r E 10), (1, .int k), (2, .int _), (3, .int (j + Int32.ofInt 1))] rfl (x2 _ _ ⟨xS_a_i z.1 (by decide), xC_o z.2 (by decide)⟩)
      · refine jr_aload_n C dX0_giveFirsts_29 rfl ?_
        refine jr_getr C kf_X0_9_10 dX0_giveFirsts_30 ?_
        refine jr_iload_n C dX0_giveFirsts_33 rfl ?_
        refine jr_iconst C (v := 5) dX0_giveFirsts_34 (by decide) ?_
        refine jr_imul C dX0_giveFirsts_35 ?_
        refine jr_iload C dX0_giveFirsts_36 rfl ?_
        refine jr_iadd C dX0_giveFirsts_38 ?_
        refine jr_ialv C ka_X_50 dX0_giveFirsts_39 (ji_linr 5 rfl (by omega) (by omega) (by omega)) (v := τ.1 50 _) rfl ?_
        refine jr_istore C dX0_giveFirsts_40 (by decide) ?_
        refine jr_aload_n C dX0_giveFirsts_42 rfl ?_
        refine jr_getr C kf_X0_21_10 dX0_giveFirsts_43 ?_
        refine jr_iload C dX0_giveFirsts_46 rfl ?_
        refine jr_zalv C ka_X_53 dX0_giveFirsts_48 (ji_in (z.2.1 _).1 (z.2.1 _).2) (v := τ.1 53 _) rfl ?_
        refine jr_nif_eq C 74 dX0_giveFirsts_49 (by decide) (fun b49 => ?_) (fun b49 => ?_)
        · refine jr_iinc C _ dX0_giveFirsts_74 rfl rfl (by decide) ?_
          refine jr_goto C 18 dX0_giveFirsts_77 (by decide) ?_
          exact jr_sub [(0, jf_r E 10), (1, .int k), (2, .int _), (3, .int _), (4, .int _)] rfl (ih _ _ _ _ z (by omega) (by omega) (by omega) x1 x2)
        · refine jr_aload_n C dX0_giveFirsts_52 rfl ?_
          refine jr_getr C kf_X0_25_10 dX0_giveFirsts_53 ?_
          refine jr_iload_n C dX0_giveFirsts_56 rfl ?_
          refine jr_bipush C (v := 20) dX0_giveFirsts_57 (by decide) ?_
          refine jr_imul C dX0_giveFirsts_59 ?_
          refine jr_iload C dX0_giveFirsts_60 rfl ?_
          refine jr_iadd C dX0_giveFirsts_62 ?_
          refine jr_dup2 C dX0_giveFirsts_63 rfl rfl ?_
          refine jr_ialv C ka_X_54 dX0_giveFirsts_64 (ji_linr 20 rfl (by have := z.2.1 (j * 5 + i).toNatClampNeg; omega) (by have := z.2.1 (j * 5 + i).toNatClampNeg; omega) (by omega)) (v := τ.1 54 _) rfl ?_
          refine jr_iconst C (v := 1) dX0_giveFirsts_65 (by decide) ?_
          refine jr_iadd C dX0_giveFirsts_66 ?_
          refine jr_iast C ka_X_54 dX0_giveFirsts_67 (ji_linr 20 rfl (by have := z.2.1 (j * 5 + i).toNatClampNeg; omega) (by have := z.2.1 (j * 5 + i).toNatClampNeg; omega) (by omega)) ?_
          refine jr_iinc C _ dX0_giveFirsts_68 rfl rfl (by decide) ?_
          refine jr_goto C 80 dX0_giveFirsts_71 (by decide) ?_
          refine jr_iinc C _ dX0_giveFirsts_80 rfl rfl (by decide) ?_
          refine jr_goto C 4 dX0_giveFirsts_83 (by decide) ?_
          first | exact jr_sub [(0, jf_r E 10), (1, .int k), (2, .int _), (3, .int (j + Int32.ofInt 1))] rfl (x2 _ _ z) | exact jr_sub [(0, jf_r E 10), (1, .int k), (2, .int _), (3, .int (j + Int32.ofInt 1))] rfl (x2 _ _ ⟨xS_a_i z.1 (by decide), xC_o z.2 (by decide)⟩)
  have lp : ∀ (m : Nat) (τ : jf_S) (n o : Int32), xS_a σ τ ∧ xC τ → 0 ≤ o.toInt → o.toInt ≤ ((σ.1 7 7)).toInt → ((σ.1 7 7)).toInt - o.toInt < m → jf_X jh_X E G 6 4 [(0, jf_r E 10), (1, .int k), (2, .int n), (3, .int o)] [] τ := by
    intro m
    induction m with
    | zero => intro τ n o z g1 g2 g3; exfalso; omega
    | succ m ih =>
      intro τ n o z g1 g2 g3
      have e1 := ji_inc (k := o) (by omega)
      have c1 : ((τ.1 7 7)).toInt = ((σ.1 7 7)).toInt := by rw [z.1.2.1 7 (by decide) (by decide)]
      refine jr_iload_n C dX0_giveFirsts_4 rfl ?_
      refine jr_aload_n C dX0_giveFirsts_5 rfl ?_
      refine jr_getr C kf_X0_36_10 dX0_giveFirsts_6 ?_
      refine jr_getv C kf_X0_60_7 dX0_giveFirsts_9 (v := τ.1 7 7) rfl ?_
      refine jr_ncmp_ge C 86 dX0_giveFirsts_12 (by decide) rfl rfl (fun b12 => ?_) (fun b12 => ?_)
      · refine jr_iload_n C dX0_giveFirsts_86 rfl ?_
        exact ret _ _ _ _ dX0_giveFirsts_87 rfl (z)
      · refine jr_iconst C (v := 0) dX0_giveFirsts_15 (by decide) ?_
        refine jr_istore C dX0_giveFirsts_16 (by decide) ?_
        exact jr_sub [(0, jf_r E 10), (1, .int k), (2, .int n), (3, .int o), (4, .int 0)] rfl (l18 6 _ _ _ _ z (by decide) (by decide) (by decide) ⟨by omega, by omega⟩ (fun υ a hz => ih _ _ _ hz (by omega) (by omega) (by omega)))
  refine jr_iconst C (v := 0) dX0_giveFirsts_0 (by decide) ?_
  refine jr_istore_n C dX0_giveFirsts_1 (by decide) ?_
  refine jr_iconst C (v := 0) dX0_giveFirsts_2 (by decide) ?_
  refine jr_istore_n C dX0_giveFirsts_3 (by decide) ?_
  exact jr_sub [(0, jf_r E 10), (1, .int k), (2, .int _), (3, .int _)] rfl (lp 11 _ _ _ ⟨xS_a_r σ, hC⟩ (by decide) hJ.1 (by show _ - (0 : Int) < _; omega))

