/-! the class: ahead, foremost, hindmost, a round, exactly -/
theorem x_ix20 {k f : Int32} (k0 : 0 ≤ k.toInt ∧ k.toInt < 20) (f0 : 0 ≤ f.toInt ∧ f.toInt < 20) : (k * 20 + f).toNatClampNeg = 20 * k.toNatClampNeg + f.toNatClampNeg := by
  have e := ji_linri (c := 20) (a := k) (b := f) (n := 20) rfl (by omega) (by omega)
  have t1 := ji_tn k0.1
  have t2 := ji_tn f0.1
  exact ji_cl (by rw [e]; omega)
/-- the class's ties, as the reference names them -/
def q_it (t : Int32) : Int32 := if t.toInt = 1 then 0 else if t.toInt = 2 then 2 else 1
theorem q_it_0 {t : Int32} : (q_it t).toInt = 0 ↔ t.toInt = 1 := by
  unfold q_it
  split
  · exact ⟨fun _ => by assumption, fun _ => rfl⟩
  · split
    · exact ⟨fun h => absurd h (by decide), fun h => by contradiction⟩
    · exact ⟨fun h => absurd h (by decide), fun h => by contradiction⟩
theorem q_it_2 {t : Int32} : (q_it t).toInt = 2 ↔ t.toInt = 2 := by
  unfold q_it
  split
  · exact ⟨fun h => absurd h (by decide), fun h => by omega⟩
  · split
    · exact ⟨fun _ => by assumption, fun _ => rfl⟩
    · exact ⟨fun h => absurd h (by decide), fun h => by contradiction⟩
def x_A (σ : jf_S) : Nat → Nat → Bool := w_ah (q_it ((σ.1 8 5))) ((σ.1 19)) (w_cut ((σ.1 52)))
theorem ct_X0_isAhead3 (E : jf_E) (σ : jf_S) (k f o : Int32) (k0 : 0 ≤ k.toInt ∧ k.toInt < 20) (f0 : 0 ≤ f.toInt ∧ f.toInt < 20) (o0 : 0 ≤ o.toInt ∧ o.toInt < 20) : jf_I jh_X E yX0_isAhead cX0_isAhead 6 .boolean 0 [jf_r E 10, .int k, .int f, .int o] σ (fun r τ => r = jb (w_bt (x_A σ) (w_row ((σ.1 54)) k.toNatClampNeg) f.toNatClampNeg o.toNatClampNeg = true) ∧ τ = σ) := by
  refine jf_mkI (by decide) (Nat.le_of_ble_eq_true rfl) ?_
  intro G C ret
  have tf := ji_tn f0.1
  have to := ji_tn o0.1
  have ff : w_cut ((σ.1 52)) f.toNatClampNeg = (σ.1 52) f.toNatClampNeg := w_cut_lt (by omega)
  have fo : w_cut ((σ.1 52)) o.toNatClampNeg = (σ.1 52) o.toNatClampNeg := w_cut_lt (by omega)
  have rf : w_row ((σ.1 54)) k.toNatClampNeg f.toNatClampNeg = (σ.1 54) (k * 20 + f).toNatClampNeg := by rw [x_ix20 k0 f0]; exact w_row_lt (by omega)
  have ro : w_row ((σ.1 54)) k.toNatClampNeg o.toNatClampNeg = (σ.1 54) (k * 20 + o).toNatClampNeg := by rw [x_ix20 k0 o0]; exact w_row_lt (by omega)
  have t0 := q_it_0 (t := (σ.1 8 5))
  have t2 := q_it_2 (t := (σ.1 8 5))
  refine jr_aload_n C dX0_isAhead_0 rfl ?_
  refine jr_getr C kf_X0_25_10 dX0_isAhead_1 ?_
  refine jr_iload_n C dX0_isAhead_4 rfl ?_
  refine jr_bipush C (v := 20) dX0_isAhead_5 (by decide) ?_
  refine jr_imul C dX0_isAhead_7 ?_
  refine jr_iload_n C dX0_isAhead_8 rfl ?_
  refine jr_iadd C dX0_isAhead_9 ?_
  refine jr_ialv C ka_X_54 dX0_isAhead_10 (ji_linr 20 rfl (by omega) (by omega) (by omega)) (v := σ.1 54 _) rfl ?_
  refine jr_istore C dX0_isAhead_11 (by decide) ?_
  refine jr_aload_n C dX0_isAhead_13 rfl ?_
  refine jr_getr C kf_X0_25_10 dX0_isAhead_14 ?_
  refine jr_iload_n C dX0_isAhead_17 rfl ?_
  refine jr_bipush C (v := 20) dX0_isAhead_18 (by decide) ?_
  refine jr_imul C dX0_isAhead_20 ?_
  refine jr_iload_n C dX0_isAhead_21 rfl ?_
  refine jr_iadd C dX0_isAhead_22 ?_
  refine jr_ialv C ka_X_54 dX0_isAhead_23 (ji_linr 20 rfl (by omega) (by omega) (by omega)) (v := σ.1 54 _) rfl ?_
  refine jr_istore C dX0_isAhead_24 (by decide) ?_
  refine jr_iload C dX0_isAhead_26 rfl ?_
  refine jr_iload C dX0_isAhead_28 rfl ?_
  refine jr_ncmp_eq C 46 dX0_isAhead_30 (by decide) rfl rfl (fun b30 => ?_) (fun b30 => ?_)
  · refine jr_aload_n C dX0_isAhead_46 rfl ?_
    refine jr_getr C kf_X0_40_10 dX0_isAhead_47 ?_
    refine jr_getv C kf_X0_95_8 dX0_isAhead_50 (v := σ.1 8 5) rfl ?_
    refine jr_iconst C (v := 1) dX0_isAhead_53 (by decide) ?_
    refine jr_ncmp_ne C (b := 1) 105 dX0_isAhead_54 (by decide) rfl rfl (fun b54 => ?_) (fun b54 => ?_)
    · refine jr_aload_n C dX0_isAhead_105 rfl ?_
      refine jr_getr C kf_X0_40_10 dX0_isAhead_106 ?_
      refine jr_getv C kf_X0_95_8 dX0_isAhead_109 (v := σ.1 8 5) rfl ?_
      refine jr_iconst C (v := 2) dX0_isAhead_112 (by decide) ?_
      refine jr_ncmp_ne C (b := 2) 152 dX0_isAhead_113 (by decide) rfl rfl (fun b113 => ?_) (fun b113 => ?_)
      · refine jr_iload_n C dX0_isAhead_152 rfl ?_
        refine jr_iload_n C dX0_isAhead_153 rfl ?_
        refine jr_ncmp_ge C 161 dX0_isAhead_154 (by decide) rfl rfl (fun b154 => ?_) (fun b154 => ?_)
        · refine jr_iconst C (v := 0) dX0_isAhead_161 (by decide) ?_
          exact ret _ _ _ _ dX0_isAhead_162 (rfl) ((by first | exact ⟨jb_tt (by unfold w_bt x_A w_ah; rw [rf, ro, ff, fo]; (repeat' split) <;> first | (exfalso; omega) | exact decide_eq_true (by omega)), rfl⟩ | exact ⟨jb_ff (by unfold w_bt x_A w_ah; rw [rf, ro, ff, fo]; (repeat' split) <;> first | (exfalso; omega) | (intro q; have := of_decide_eq_true q; omega)), rfl⟩))
        · refine jr_iconst C (v := 1) dX0_isAhead_157 (by decide) ?_
          refine jr_goto C 162 dX0_isAhead_158 (by decide) ?_
          exact ret _ _ _ _ dX0_isAhead_162 (rfl) ((by first | exact ⟨jb_tt (by unfold w_bt x_A w_ah; rw [rf, ro, ff, fo]; (repeat' split) <;> first | (exfalso; omega) | exact decide_eq_true (by omega)), rfl⟩ | exact ⟨jb_ff (by unfold w_bt x_A w_ah; rw [rf, ro, ff, fo]; (repeat' split) <;> first | (exfalso; omega) | (intro q; have := of_decide_eq_true q; omega)), rfl⟩))
      · refine jr_aload_n C dX0_isAhead_116 rfl ?_
        refine jr_getr C kf_X0_18_10 dX0_isAhead_117 ?_
        refine jr_iload_n C dX0_isAhead_120 rfl ?_
        refine jr_ialv C ka_X_52 dX0_isAhead_121 (ji_in f0.1 f0.2) (v := σ.1 52 _) rfl ?_
        refine jr_aload_n C dX0_isAhead_122 rfl ?_
        refine jr_getr C kf_X0_18_10 dX0_isAhead_123 ?_
        refine jr_iload_n C dX0_isAhead_126 rfl ?_
        refine jr_ialv C ka_X_52 dX0_isAhead_127 (ji_in o0.1 o0.2) (v := σ.1 52 _) rfl ?_
        refine jr_ncmp_eq C 152 dX0_isAhead_128 (by decide) rfl rfl (fun b128 => ?_) (fun b128 => ?_)
        · refine jr_iload_n C dX0_isAhead_152 rfl ?_
          refine jr_iload_n C dX0_isAhead_153 rfl ?_
          refine jr_ncmp_ge C 161 dX0_isAhead_154 (by decide) rfl rfl (fun b154 => ?_) (fun b154 => ?_)
          · refine jr_iconst C (v := 0) dX0_isAhead_161 (by decide) ?_
            exact ret _ _ _ _ dX0_isAhead_162 (rfl) ((by first | exact ⟨jb_tt (by unfold w_bt x_A w_ah; rw [rf, ro, ff, fo]; (repeat' split) <;> first | (exfalso; omega) | exact decide_eq_true (by omega)), rfl⟩ | exact ⟨jb_ff (by unfold w_bt x_A w_ah; rw [rf, ro, ff, fo]; (repeat' split) <;> first | (exfalso; omega) | (intro q; have := of_decide_eq_true q; omega)), rfl⟩))
          · refine jr_iconst C (v := 1) dX0_isAhead_157 (by decide) ?_
            refine jr_goto C 162 dX0_isAhead_158 (by decide) ?_
            exact ret _ _ _ _ dX0_isAhead_162 (rfl) ((by first | exact ⟨jb_tt (by unfold w_bt x_A w_ah; rw [rf, ro, ff, fo]; (repeat' split) <;> first | (exfalso; omega) | exact decide_eq_true (by omega)), rfl⟩ | exact ⟨jb_ff (by unfold w_bt x_A w_ah; rw [rf, ro, ff, fo]; (repeat' split) <;> first | (exfalso; omega) | (intro q; have := of_decide_eq_true q; omega)), rfl⟩))
        · refine jr_aload_n C dX0_isAhead_131 rfl ?_
          refine jr_getr C kf_X0_18_10 dX0_isAhead_132 ?_
          refine jr_iload_n C dX0_isAhead_135 rfl ?_
          refine jr_ialv C ka_X_52 dX0_isAhead_136 (ji_in f0.1 f0.2) (v := σ.1 52 _) rfl ?_
          refine jr_aload_n C dX0_isAhead_137 rfl ?_
          refine jr_getr C kf_X0_18_10 dX0_isAhead_138 ?_
          refine jr_iload_n C dX0_isAhead_141 rfl ?_
          refine jr_ialv C ka_X_52 dX0_isAhead_142 (ji_in o0.1 o0.2) (v := σ.1 52 _) rfl ?_
          refine jr_ncmp_le C 150 dX0_isAhead_143 (by decide) rfl rfl (fun b143 => ?_) (fun b143 => ?_)
          · refine jr_iconst C (v := 0) dX0_isAhead_150 (by decide) ?_
            exact ret _ _ _ _ dX0_isAhead_151 (rfl) ((by first | exact ⟨jb_tt (by unfold w_bt x_A w_ah; rw [rf, ro, ff, fo]; (repeat' split) <;> first | (exfalso; omega) | exact decide_eq_true (by omega)), rfl⟩ | exact ⟨jb_ff (by unfold w_bt x_A w_ah; rw [rf, ro, ff, fo]; (repeat' split) <;> first | (exfalso; omega) | (intro q; have := of_decide_eq_true q; omega)), rfl⟩))
          · refine jr_iconst C (v := 1) dX0_isAhead_146 (by decide) ?_
            refine jr_goto C 151 dX0_isAhead_147 (by decide) ?_
            exact ret _ _ _ _ dX0_isAhead_151 (rfl) ((by first | exact ⟨jb_tt (by unfold w_bt x_A w_ah; rw [rf, ro, ff, fo]; (repeat' split) <;> first | (exfalso; omega) | exact decide_eq_true (by omega)), rfl⟩ | exact ⟨jb_ff (by unfold w_bt x_A w_ah; rw [rf, ro, ff, fo]; (repeat' split) <;> first | (exfalso; omega) | (intro q; have := of_decide_eq_true q; omega)), rfl⟩))
    · refine jr_aload_n C dX0_isAhead_57 rfl ?_
      refine jr_getr C kf_X0_32_10 dX0_isAhead_58 ?_
      refine jr_getr C kf_X0_98_2 dX0_isAhead_61 ?_
      refine jr_iload_n C dX0_isAhead_64 rfl ?_
      refine jr_ialv C ka_X_19 dX0_isAhead_65 (ji_in f0.1 f0.2) (v := σ.1 19 _) rfl ?_
      refine jr_aload_n C dX0_isAhead_66 rfl ?_
      refine jr_getr C kf_X0_32_10 dX0_isAhead_67 ?_
      refine jr_getr C kf_X0_98_2 dX0_isAhead_70 ?_
      refine jr_iload_n C dX0_isAhead_73 rfl ?_
      refine jr_ialv C ka_X_19 dX0_isAhead_74 (ji_in o0.1 o0.2) (v := σ.1 19 _) rfl ?_
      refine jr_ncmp_eq C 105 dX0_isAhead_75 (by decide) rfl rfl (fun b75 => ?_) (fun b75 => ?_)
      · refine jr_aload_n C dX0_isAhead_105 rfl ?_
        refine jr_getr C kf_X0_40_10 dX0_isAhead_106 ?_
        refine jr_getv C kf_X0_95_8 dX0_isAhead_109 (v := σ.1 8 5) rfl ?_
        refine jr_iconst C (v := 2) dX0_isAhead_112 (by decide) ?_
        refine jr_ncmp_ne C (b := 2) 152 dX0_isAhead_113 (by decide) rfl rfl (fun b113 => ?_) (fun b113 => ?_)
        · refine jr_iload_n C dX0_isAhead_152 rfl ?_
          refine jr_iload_n C dX0_isAhead_153 rfl ?_
          refine jr_ncmp_ge C 161 dX0_isAhead_154 (by decide) rfl rfl (fun b154 => ?_) (fun b154 => ?_)
          · refine jr_iconst C (v := 0) dX0_isAhead_161 (by decide) ?_
            exact ret _ _ _ _ dX0_isAhead_162 (rfl) ((by first | exact ⟨jb_tt (by unfold w_bt x_A w_ah; rw [rf, ro, ff, fo]; (repeat' split) <;> first | (exfalso; omega) | exact decide_eq_true (by omega)), rfl⟩ | exact ⟨jb_ff (by unfold w_bt x_A w_ah; rw [rf, ro, ff, fo]; (repeat' split) <;> first | (exfalso; omega) | (intro q; have := of_decide_eq_true q; omega)), rfl⟩))
          · refine jr_iconst C (v := 1) dX0_isAhead_157 (by decide) ?_
            refine jr_goto C 162 dX0_isAhead_158 (by decide) ?_
            exact ret _ _ _ _ dX0_isAhead_162 (rfl) ((by first | exact ⟨jb_tt (by unfold w_bt x_A w_ah; rw [rf, ro, ff, fo]; (repeat' split) <;> first | (exfalso; omega) | exact decide_eq_true (by omega)), rfl⟩ | exact ⟨jb_ff (by unfold w_bt x_A w_ah; rw [rf, ro, ff, fo]; (repeat' split) <;> first | (exfalso; omega) | (intro q; have := of_decide_eq_true q; omega)), rfl⟩))
        · refine jr_aload_n C dX0_isAhead_116 rfl ?_
          refine jr_getr C kf_X0_18_10 dX0_isAhead_117 ?_
          refine jr_iload_n C dX0_isAhead_120 rfl ?_
          refine jr_ialv C ka_X_52 dX0_isAhead_121 (ji_in f0.1 f0.2) (v := σ.1 52 _) rfl ?_
          refine jr_aload_n C dX0_isAhead_122 rfl ?_
          refine jr_getr C kf_X0_18_10 dX0_isAhead_123 ?_
          refine jr_iload_n C dX0_isAhead_126 rfl ?_
          refine jr_ialv C ka_X_52 dX0_isAhead_127 (ji_in o0.1 o0.2) (v := σ.1 52 _) rfl ?_
          refine jr_ncmp_eq C 152 dX0_isAhead_128 (by decide) rfl rfl (fun b128 => ?_) (fun b128 => ?_)
          · refine jr_iload_n C dX0_isAhead_152 rfl ?_
            refine jr_iload_n C dX0_isAhead_153 rfl ?_
            refine jr_ncmp_ge C 161 dX0_isAhead_154 (by decide) rfl rfl (fun b154 => ?_) (fun b154 => ?_)
            · refine jr_iconst C (v := 0) dX0_isAhead_161 (by decide) ?_
              exact ret _ _ _ _ dX0_isAhead_162 (rfl) ((by first | exact ⟨jb_tt (by unfold w_bt x_A w_ah; rw [rf, ro, ff, fo]; (repeat' split) <;> first | (exfalso; omega) | exact decide_eq_true (by omega)), rfl⟩ | exact ⟨jb_ff (by unfold w_bt x_A w_ah; rw [rf, ro, ff, fo]; (repeat' split) <;> first | (exfalso; omega) | (intro q; have := of_decide_eq_true q; omega)), rfl⟩))
            · refine jr_iconst C (v := 1) dX0_isAhead_157 (by decide) ?_
              refine jr_goto C 162 dX0_isAhead_158 (by decide) ?_
              exact ret _ _ _ _ dX0_isAhead_162 (rfl) ((by first | exact ⟨jb_tt (by unfold w_bt x_A w_ah; rw [rf, ro, ff, fo]; (repeat' split) <;> first | (exfalso; omega) | exact decide_eq_true (by omega)), rfl⟩ | exact ⟨jb_ff (by unfold w_bt x_A w_ah; rw [rf, ro, ff, fo]; (repeat' split) <;> first | (exfalso; omega) | (intro q; have := of_decide_eq_true q; omega)), rfl⟩))
          · refine jr_aload_n C dX0_isAhead_131 rfl ?_
            refine jr_getr C kf_X0_18_10 dX0_isAhead_132 ?_
            refine jr_iload_n C dX0_isAhead_135 rfl ?_
            refine jr_ialv C ka_X_52 dX0_isAhead_136 (ji_in f0.1 f0.2) (v := σ.1 52 _) rfl ?_
            refine jr_aload_n C dX0_isAhead_137 rfl ?_
            refine jr_getr C kf_X0_18_10 dX0_isAhead_138 ?_
            refine jr_iload_n C dX0_isAhead_141 rfl ?_
            refine jr_ialv C ka_X_52 dX0_isAhead_142 (ji_in o0.1 o0.2) (v := σ.1 52 _) rfl ?_
            refine jr_ncmp_le C 150 dX0_isAhead_143 (by decide) rfl rfl (fun b143 => ?_) (fun b143 => ?_)
            · refine jr_iconst C (v := 0) dX0_isAhead_150 (by decide) ?_
              exact ret _ _ _ _ dX0_isAhead_151 (rfl) ((by first | exact ⟨jb_tt (by unfold w_bt x_A w_ah; rw [rf, ro, ff, fo]; (repeat' split) <;> first | (exfalso; omega) | exact decide_eq_true (by omega)), rfl⟩ | exact ⟨jb_ff (by unfold w_bt x_A w_ah; rw [rf, ro, ff, fo]; (repeat' split) <;> first | (exfalso; omega) | (intro q; have := of_decide_eq_true q; omega)), rfl⟩))
            · refine jr_iconst C (v := 1) dX0_isAhead_146 (by decide) ?_
              refine jr_goto C 151 dX0_isAhead_147 (by decide) ?_
              exact ret _ _ _ _ dX0_isAhead_151 (rfl) ((by first | exact ⟨jb_tt (by unfold w_bt x_A w_ah; rw [rf, ro, ff, fo]; (repeat' split) <;> first | (exfalso; omega) | exact decide_eq_true (by omega)), rfl⟩ | exact ⟨jb_ff (by unfold w_bt x_A w_ah; rw [rf, ro, ff, fo]; (repeat' split) <;> first | (exfalso; omega) | (intro q; have := of_decide_eq_true q; omega)), rfl⟩))
      · refine jr_aload_n C dX0_isAhead_78 rfl ?_
        refine jr_getr C kf_X0_32_10 dX0_isAhead_79 ?_
        refine jr_getr C kf_X0_98_2 dX0_isAhead_82 ?_
        refine jr_iload_n C dX0_isAhead_85 rfl ?_
        refine jr_ialv C ka_X_19 dX0_isAhead_86 (ji_in f0.1 f0.2) (v := σ.1 19 _) rfl ?_
        refine jr_aload_n C dX0_isAhead_87 rfl ?_
        refine jr_getr C kf_X0_32_10 dX0_isAhead_88 ?_
        refine jr_getr C kf_X0_98_2 dX0_isAhead_91 ?_
        refine jr_iload_n C dX0_isAhead_94 rfl ?_
        refine jr_ialv C ka_X_19 dX0_isAhead_95 (ji_in o0.1 o0.2) (v := σ.1 19 _) rfl ?_
        refine jr_ncmp_le C 103 dX0_isAhead_96 (by decide) rfl rfl (fun b96 => ?_) (fun b96 => ?_)
        · refine jr_iconst C (v := 0) dX0_isAhead_103 (by decide) ?_
          exact ret _ _ _ _ dX0_isAhead_104 (rfl) ((by first | exact ⟨jb_tt (by unfold w_bt x_A w_ah; rw [rf, ro, ff, fo]; (repeat' split) <;> first | (exfalso; omega) | exact decide_eq_true (by omega)), rfl⟩ | exact ⟨jb_ff (by unfold w_bt x_A w_ah; rw [rf, ro, ff, fo]; (repeat' split) <;> first | (exfalso; omega) | (intro q; have := of_decide_eq_true q; omega)), rfl⟩))
        · refine jr_iconst C (v := 1) dX0_isAhead_99 (by decide) ?_
          refine jr_goto C 104 dX0_isAhead_100 (by decide) ?_
          exact ret _ _ _ _ dX0_isAhead_104 (rfl) ((by first | exact ⟨jb_tt (by unfold w_bt x_A w_ah; rw [rf, ro, ff, fo]; (repeat' split) <;> first | (exfalso; omega) | exact decide_eq_true (by omega)), rfl⟩ | exact ⟨jb_ff (by unfold w_bt x_A w_ah; rw [rf, ro, ff, fo]; (repeat' split) <;> first | (exfalso; omega) | (intro q; have := of_decide_eq_true q; omega)), rfl⟩))
  · refine jr_iload C dX0_isAhead_33 rfl ?_
    refine jr_iload C dX0_isAhead_35 rfl ?_
    refine jr_ncmp_le C 44 dX0_isAhead_37 (by decide) rfl rfl (fun b37 => ?_) (fun b37 => ?_)
    · refine jr_iconst C (v := 0) dX0_isAhead_44 (by decide) ?_
      exact ret _ _ _ _ dX0_isAhead_45 (rfl) ((by first | exact ⟨jb_tt (by unfold w_bt x_A w_ah; rw [rf, ro, ff, fo]; (repeat' split) <;> first | (exfalso; omega) | exact decide_eq_true (by omega)), rfl⟩ | exact ⟨jb_ff (by unfold w_bt x_A w_ah; rw [rf, ro, ff, fo]; (repeat' split) <;> first | (exfalso; omega) | (intro q; have := of_decide_eq_true q; omega)), rfl⟩))
    · refine jr_iconst C (v := 1) dX0_isAhead_40 (by decide) ?_
      refine jr_goto C 45 dX0_isAhead_41 (by decide) ?_
      exact ret _ _ _ _ dX0_isAhead_45 (rfl) ((by first | exact ⟨jb_tt (by unfold w_bt x_A w_ah; rw [rf, ro, ff, fo]; (repeat' split) <;> first | (exfalso; omega) | exact decide_eq_true (by omega)), rfl⟩ | exact ⟨jb_ff (by unfold w_bt x_A w_ah; rw [rf, ro, ff, fo]; (repeat' split) <;> first | (exfalso; omega) | (intro q; have := of_decide_eq_true q; omega)), rfl⟩))
/-- who is in has a sum -/
def x_rn (σ : jf_S) (k : Nat) : Prop := ∀ f, f < 20 → (((σ.1 53) f).toInt = 0 ↔ (w_row ((σ.1 54)) k f).toInt = -1)
theorem w_fore_s1 {A : Nat → Nat → Bool} {S : Nat → Int32} {n : Nat} (h : ¬ (S n).toInt = -1) (g : w_fore A S n < 0 ∨ w_bt A S n (w_fore A S n).toNat = true) : w_fore A S (n + 1) = (n : Int) := by rw [w_fore_e, if_neg h, if_pos g]
theorem w_fore_s0 {A : Nat → Nat → Bool} {S : Nat → Int32} {n : Nat} (h : ¬ (S n).toInt = -1) (g : ¬ (w_fore A S n < 0 ∨ w_bt A S n (w_fore A S n).toNat = true)) : w_fore A S (n + 1) = w_fore A S n := by rw [w_fore_e, if_neg h, if_neg g]
theorem w_hind_s1 {A : Nat → Nat → Bool} {S : Nat → Int32} {n : Nat} (h : ¬ (S n).toInt = -1) (g : w_hind A S n < 0 ∨ w_bt A S (w_hind A S n).toNat n = true) : w_hind A S (n + 1) = (n : Int) := by rw [w_hind_e, if_neg h, if_pos g]
theorem w_hind_s0 {A : Nat → Nat → Bool} {S : Nat → Int32} {n : Nat} (h : ¬ (S n).toInt = -1) (g : ¬ (w_hind A S n < 0 ∨ w_bt A S (w_hind A S n).toNat n = true)) : w_hind A S (n + 1) = w_hind A S n := by rw [w_hind_e, if_neg h, if_neg g]
theorem w_fore_b {A : Nat → Nat → Bool} {S : Nat → Int32} (n : Nat) : -1 ≤ w_fore A S n ∧ w_fore A S n < n := by
  rcases w_fore_r (A := A) (S := S) n with ⟨a, -⟩ | ⟨a, b, -⟩ <;> omega
theorem w_hind_b {A : Nat → Nat → Bool} {S : Nat → Int32} (n : Nat) : -1 ≤ w_hind A S n ∧ w_hind A S n < n := by
  rcases w_hind_r (A := A) (S := S) n with ⟨a, -⟩ | ⟨a, b, -⟩ <;> omega
theorem ct_X0_foremost3 (E : jf_E) (σ : jf_S) (k : Int32) (k0 : 0 ≤ k.toInt ∧ k.toInt < 20) (hS : x_rn σ k.toNatClampNeg) : jf_I jh_X E yX0_foremost cX0_foremost 4 .int 1 [jf_r E 10, .int k] σ (fun r τ => r.toInt = w_fore (x_A σ) (w_row ((σ.1 54)) k.toNatClampNeg) 20 ∧ σ = τ) := by
  refine jf_mkI (by decide) (Nat.le_of_ble_eq_true rfl) ?_
  intro G C ret
  have lp : ∀ (m : Nat) (b o : Int32), 0 ≤ o.toInt → o.toInt ≤ (20 : Int) → (20 : Int) - o.toInt < m → (b.toInt = w_fore (x_A σ) (w_row ((σ.1 54)) k.toNatClampNeg) o.toNatClampNeg) → jf_X jh_X E G 4 4 [(0, jf_r E 10), (1, .int k), (2, .int b), (3, .int o)] [] σ := by
    intro m
    induction m with
    | zero => intro b o g1 g2 g3 x1; exfalso; omega
    | succ m ih =>
      intro b o g1 g2 g3 x1
      have e1 := ji_inc (k := o) (by omega)
      have to := ji_tn g1
      have e2 : (o + Int32.ofInt 1).toNatClampNeg = o.toNatClampNeg + 1 := ji_cl (by omega)
      have bb := w_fore_b (A := x_A σ) (S := w_row ((σ.1 54)) k.toNatClampNeg) o.toNatClampNeg
      have tb : 0 ≤ b.toInt → b.toNatClampNeg = (w_fore (x_A σ) (w_row ((σ.1 54)) k.toNatClampNeg) o.toNatClampNeg).toNat := fun _ => congrArg Int.toNat x1
      refine jr_iload_n C dX0_foremost_4 rfl ?_
      refine jr_bipush C (v := 20) dX0_foremost_5 (by decide) ?_
      refine jr_ncmp_ge C (b := 20) 42 dX0_foremost_7 (by decide) rfl rfl (fun b7 => ?_) (fun b7 => ?_)
      · refine jr_iload_n C dX0_foremost_42 rfl ?_
        exact ret _ _ _ _ dX0_foremost_43 rfl (⟨by rw [x1, show o.toNatClampNeg = 20 by omega], rfl⟩)
      · refine jr_aload_n C dX0_foremost_10 rfl ?_
        refine jr_getr C kf_X0_21_10 dX0_foremost_11 ?_
        refine jr_iload_n C dX0_foremost_14 rfl ?_
        refine jr_zalv C ka_X_53 dX0_foremost_15 (ji_in (i := o) (by omega) (by omega)) (v := σ.1 53 _) rfl ?_
        refine jr_nif_eq C 36 dX0_foremost_16 (by decide) (fun b16 => ?_) (fun b16 => ?_)
        · refine jr_iinc C _ dX0_foremost_36 rfl rfl (by decide) ?_
          refine jr_goto C 4 dX0_foremost_39 (by decide) ?_
          exact jr_sub [(0, jf_r E 10), (1, .int k), (2, .int _), (3, .int _)] rfl (ih _ _ (by omega) (by omega) (by omega) (by rw [e2]; first | (have h9 : ((σ.1 53) o.toNatClampNeg).toInt = 0 := b16; rw [w_fore_e, if_pos ((hS _ (by omega)).mp h9)]; exact x1) | (have h9 : ¬ w_bt (x_A σ) (w_row ((σ.1 54)) k.toNatClampNeg) o.toNatClampNeg b.toNatClampNeg = true := b31; rw [w_fore_s0 (fun q => b16 ((hS _ (by omega)).mpr q)) (fun q => q.elim (fun q => by omega) (fun q => h9 (by rw [tb (by omega)]; exact q)))]; exact x1) | (rw [w_fore_s1 (fun q => b16 ((hS _ (by omega)).mpr q)) (by first | exact Or.inl (by omega) | exact Or.inr (by rw [← tb (by omega)]; exact b31))]; exact to.symm)))
        · refine jr_iload_n C dX0_foremost_19 rfl ?_
          refine jr_iconst C (v := -1) dX0_foremost_20 (by decide) ?_
          refine jr_ncmp_eq C (b := -1) 34 dX0_foremost_21 (by decide) rfl rfl (fun b21 => ?_) (fun b21 => ?_)
          · refine jr_iload_n C dX0_foremost_34 rfl ?_
            refine jr_istore_n C dX0_foremost_35 (by decide) ?_
            refine jr_iinc C _ dX0_foremost_36 rfl rfl (by decide) ?_
            refine jr_goto C 4 dX0_foremost_39 (by decide) ?_
            exact jr_sub [(0, jf_r E 10), (1, .int k), (2, .int _), (3, .int _)] rfl (ih _ _ (by omega) (by omega) (by omega) (by rw [e2]; first | (have h9 : ((σ.1 53) o.toNatClampNeg).toInt = 0 := b16; rw [w_fore_e, if_pos ((hS _ (by omega)).mp h9)]; exact x1) | (have h9 : ¬ w_bt (x_A σ) (w_row ((σ.1 54)) k.toNatClampNeg) o.toNatClampNeg b.toNatClampNeg = true := b31; rw [w_fore_s0 (fun q => b16 ((hS _ (by omega)).mpr q)) (fun q => q.elim (fun q => by omega) (fun q => h9 (by rw [tb (by omega)]; exact q)))]; exact x1) | (rw [w_fore_s1 (fun q => b16 ((hS _ (by omega)).mpr q)) (by first | exact Or.inl (by omega) | exact Or.inr (by rw [← tb (by omega)]; exact b31))]; exact to.symm)))
          · refine jr_aload_n C dX0_foremost_24 rfl ?_
            refine jr_iload_n C dX0_foremost_25 rfl ?_
            refine jr_iload_n C dX0_foremost_26 rfl ?_
            refine jr_iload_n C dX0_foremost_27 rfl ?_
            refine jr_vip C [.int _, .int _, .int _] _ (ct_X0_isAhead3 E _ _ _ _ k0 ⟨by omega, by omega⟩ ⟨by omega, by omega⟩) ky_X0_isAhead kv_X0_isAhead kk_X_10 km_X0_91 (by decide) rfl (Nat.le_of_ble_eq_true rfl) dX0_foremost_28 ?_
            refine jr_if_eq C 36 dX0_foremost_31 (by decide) (fun b31 => ?_) (fun b31 => ?_)
            · replace b31 := jb_f b31
              refine jr_iinc C _ dX0_foremost_36 rfl rfl (by decide) ?_
              refine jr_goto C 4 dX0_foremost_39 (by decide) ?_
              exact jr_sub [(0, jf_r E 10), (1, .int k), (2, .int _), (3, .int _)] rfl (ih _ _ (by omega) (by omega) (by omega) (by rw [e2]; first | (have h9 : ((σ.1 53) o.toNatClampNeg).toInt = 0 := b16; rw [w_fore_e, if_pos ((hS _ (by omega)).mp h9)]; exact x1) | (have h9 : ¬ w_bt (x_A σ) (w_row ((σ.1 54)) k.toNatClampNeg) o.toNatClampNeg b.toNatClampNeg = true := b31; rw [w_fore_s0 (fun q => b16 ((hS _ (by omega)).mpr q)) (fun q => q.elim (fun q => by omega) (fun q => h9 (by rw [tb (by omega)]; exact q)))]; exact x1) | (rw [w_fore_s1 (fun q => b16 ((hS _ (by omega)).mpr q)) (by first | exact Or.inl (by omega) | exact Or.inr (by rw [← tb (by omega)]; exact b31))]; exact to.symm)))
            · replace b31 := jb_t b31
              refine jr_iload_n C dX0_foremost_34 rfl ?_
              refine jr_istore_n C dX0_foremost_35 (by decide) ?_
              refine jr_iinc C _ dX0_foremost_36 rfl rfl (by decide) ?_
              refine jr_goto C 4 dX0_foremost_39 (by decide) ?_
              exact jr_sub [(0, jf_r E 10), (1, .int k), (2, .int _), (3, .int _)] rfl (ih _ _ (by omega) (by omega) (by omega) (by rw [e2]; first | (have h9 : ((σ.1 53) o.toNatClampNeg).toInt = 0 := b16; rw [w_fore_e, if_pos ((hS _ (by omega)).mp h9)]; exact x1) | (have h9 : ¬ w_bt (x_A σ) (w_row ((σ.1 54)) k.toNatClampNeg) o.toNatClampNeg b.toNatClampNeg = true := b31; rw [w_fore_s0 (fun q => b16 ((hS _ (by omega)).mpr q)) (fun q => q.elim (fun q => by omega) (fun q => h9 (by rw [tb (by omega)]; exact q)))]; exact x1) | (rw [w_fore_s1 (fun q => b16 ((hS _ (by omega)).mpr q)) (by first | exact Or.inl (by omega) | exact Or.inr (by rw [← tb (by omega)]; exact b31))]; exact to.symm)))
  refine jr_iconst C (v := -1) dX0_foremost_0 (by decide) ?_
  refine jr_istore_n C dX0_foremost_1 (by decide) ?_
  refine jr_iconst C (v := 0) dX0_foremost_2 (by decide) ?_
  refine jr_istore_n C dX0_foremost_3 (by decide) ?_
  exact jr_sub [(0, jf_r E 10), (1, .int k), (2, .int _), (3, .int _)] rfl (lp 21 _ _ (by decide) (by decide) (by decide) rfl)
/-- the hindmost out -/
def x_po (σ : jf_S) (k : Nat) : jf_S := if w_hind (x_A σ) (w_row ((σ.1 54)) k) 20 < 0 then σ else jf_i σ 53 (w_hind (x_A σ) (w_row ((σ.1 54)) k) 20).toNat 0
theorem ct_X0_putOutHindmost3 (E : jf_E) (σ : jf_S) (k : Int32) (hC : xC σ) (k0 : 0 ≤ k.toInt ∧ k.toInt < 20) (hS : x_rn σ k.toNatClampNeg) : jf_V jh_X E yX0_putOutHindmost cX0_putOutHindmost 4 1 [jf_r E 10, .int k] σ (fun τ => (xS_a σ τ ∧ xC τ) ∧ τ = x_po σ k.toNatClampNeg) := by
  refine jf_mkV (by decide) (Nat.le_of_ble_eq_true rfl) ?_
  intro G C ret
  have lp : ∀ (m : Nat) (b o : Int32), 0 ≤ o.toInt → o.toInt ≤ (20 : Int) → (20 : Int) - o.toInt < m → (b.toInt = w_hind (x_A σ) (w_row ((σ.1 54)) k.toNatClampNeg) o.toNatClampNeg) → jf_X jh_X E G 4 4 [(0, jf_r E 10), (1, .int k), (2, .int b), (3, .int o)] [] σ := by
    intro m
    induction m with
    | zero => intro b o g1 g2 g3 x1; exfalso; omega
    | succ m ih =>
      intro b o g1 g2 g3 x1
      have e1 := ji_inc (k := o) (by omega)
      have to := ji_tn g1
      have e2 : (o + Int32.ofInt 1).toNatClampNeg = o.toNatClampNeg + 1 := ji_cl (by omega)
      have bb := w_hind_b (A := x_A σ) (S := w_row ((σ.1 54)) k.toNatClampNeg) o.toNatClampNeg
      have tb : 0 ≤ b.toInt → b.toNatClampNeg = (w_hind (x_A σ) (w_row ((σ.1 54)) k.toNatClampNeg) o.toNatClampNeg).toNat := fun _ => congrArg Int.toNat x1
      have fin : 20 ≤ o.toInt → b.toInt = w_hind (x_A σ) (w_row ((σ.1 54)) k.toNatClampNeg) 20 := fun h => by rw [x1, show o.toNatClampNeg = 20 by omega]
      have po0 : 20 ≤ o.toInt → b.toInt = -1 → σ = x_po σ k.toNatClampNeg := fun h q => (if_pos (by rw [← fin h]; omega)).symm
      have po1 : 20 ≤ o.toInt → ¬ b.toInt = -1 → jf_i σ 53 b.toNatClampNeg 0 = x_po σ k.toNatClampNeg := fun h q => by unfold x_po; rw [if_neg (by rw [← fin h]; omega), ← show b.toNatClampNeg = (w_hind (x_A σ) (w_row ((σ.1 54)) k.toNatClampNeg) 20).toNat from congrArg Int.toNat (fin h)]
      refine jr_iload_n C dX0_putOutHindmost_4 rfl ?_
      refine jr_bipush C (v := 20) dX0_putOutHindmost_5 (by decide) ?_
      refine jr_ncmp_ge C (b := 20) 42 dX0_putOutHindmost_7 (by decide) rfl rfl (fun b7 => ?_) (fun b7 => ?_)
      · refine jr_iload_n C dX0_putOutHindmost_42 rfl ?_
        refine jr_iconst C (v := -1) dX0_putOutHindmost_43 (by decide) ?_
        refine jr_ncmp_eq C (b := -1) 54 dX0_putOutHindmost_44 (by decide) rfl rfl (fun b44 => ?_) (fun b44 => ?_)
        · exact ret _ _ _ dX0_putOutHindmost_54 ((by first | exact ⟨⟨xS_a_r σ, hC⟩, po0 (by omega) b44⟩ | exact ⟨⟨xS_a_i (xS_a_r σ) (by decide), xC_o hC (by decide)⟩, po1 (by omega) b44⟩))
        · refine jr_aload_n C dX0_putOutHindmost_47 rfl ?_
          refine jr_getr C kf_X0_21_10 dX0_putOutHindmost_48 ?_
          refine jr_iload_n C dX0_putOutHindmost_51 rfl ?_
          refine jr_iconst C (v := 0) dX0_putOutHindmost_52 (by decide) ?_
          refine jr_zast C ka_X_53 dX0_putOutHindmost_53 (ji_in (i := b) (by omega) (by omega)) (Or.inl rfl) ?_
          exact ret _ _ _ dX0_putOutHindmost_54 ((by first | exact ⟨⟨xS_a_r σ, hC⟩, po0 (by omega) b44⟩ | exact ⟨⟨xS_a_i (xS_a_r σ) (by decide), xC_o hC (by decide)⟩, po1 (by omega) b44⟩))
      · refine jr_aload_n C dX0_putOutHindmost_10 rfl ?_
        refine jr_getr C kf_X0_21_10 dX0_putOutHindmost_11 ?_
        refine jr_iload_n C dX0_putOutHindmost_14 rfl ?_
        refine jr_zalv C ka_X_53 dX0_putOutHindmost_15 (ji_in (i := o) (by omega) (by omega)) (v := σ.1 53 _) rfl ?_
        refine jr_nif_eq C 36 dX0_putOutHindmost_16 (by decide) (fun b16 => ?_) (fun b16 => ?_)
        · refine jr_iinc C _ dX0_putOutHindmost_36 rfl rfl (by decide) ?_
          refine jr_goto C 4 dX0_putOutHindmost_39 (by decide) ?_
          exact jr_sub [(0, jf_r E 10), (1, .int k), (2, .int _), (3, .int _)] rfl (ih _ _ (by omega) (by omega) (by omega) (by rw [e2]; first | (have h9 : ((σ.1 53) o.toNatClampNeg).toInt = 0 := b16; rw [w_hind_e, if_pos ((hS _ (by omega)).mp h9)]; exact x1) | (have h9 : ¬ w_bt (x_A σ) (w_row ((σ.1 54)) k.toNatClampNeg) b.toNatClampNeg o.toNatClampNeg = true := b31; rw [w_hind_s0 (fun q => b16 ((hS _ (by omega)).mpr q)) (fun q => q.elim (fun q => by omega) (fun q => h9 (by rw [tb (by omega)]; exact q)))]; exact x1) | (rw [w_hind_s1 (fun q => b16 ((hS _ (by omega)).mpr q)) (by first | exact Or.inl (by omega) | exact Or.inr (by rw [← tb (by omega)]; exact b31))]; exact to.symm)))
        · refine jr_iload_n C dX0_putOutHindmost_19 rfl ?_
          refine jr_iconst C (v := -1) dX0_putOutHindmost_20 (by decide) ?_
          refine jr_ncmp_eq C (b := -1) 34 dX0_putOutHindmost_21 (by decide) rfl rfl (fun b21 => ?_) (fun b21 => ?_)
          · refine jr_iload_n C dX0_putOutHindmost_34 rfl ?_
            refine jr_istore_n C dX0_putOutHindmost_35 (by decide) ?_
            refine jr_iinc C _ dX0_putOutHindmost_36 rfl rfl (by decide) ?_
            refine jr_goto C 4 dX0_putOutHindmost_39 (by decide) ?_
            exact jr_sub [(0, jf_r E 10), (1, .int k), (2, .int _), (3, .int _)] rfl (ih _ _ (by omega) (by omega) (by omega) (by rw [e2]; first | (have h9 : ((σ.1 53) o.toNatClampNeg).toInt = 0 := b16; rw [w_hind_e, if_pos ((hS _ (by omega)).mp h9)]; exact x1) | (have h9 : ¬ w_bt (x_A σ) (w_row ((σ.1 54)) k.toNatClampNeg) b.toNatClampNeg o.toNatClampNeg = true := b31; rw [w_hind_s0 (fun q => b16 ((hS _ (by omega)).mpr q)) (fun q => q.elim (fun q => by omega) (fun q => h9 (by rw [tb (by omega)]; exact q)))]; exact x1) | (rw [w_hind_s1 (fun q => b16 ((hS _ (by omega)).mpr q)) (by first | exact Or.inl (by omega) | exact Or.inr (by rw [← tb (by omega)]; exact b31))]; exact to.symm)))
          · refine jr_aload_n C dX0_putOutHindmost_24 rfl ?_
            refine jr_iload_n C dX0_putOutHindmost_25 rfl ?_
            refine jr_iload_n C dX0_putOutHindmost_26 rfl ?_
            refine jr_iload_n C dX0_putOutHindmost_27 rfl ?_
            refine jr_vip C [.int _, .int _, .int _] _ (ct_X0_isAhead3 E _ _ _ _ k0 ⟨by omega, by omega⟩ ⟨by omega, by omega⟩) ky_X0_isAhead kv_X0_isAhead kk_X_10 km_X0_91 (by decide) rfl (Nat.le_of_ble_eq_true rfl) dX0_putOutHindmost_28 ?_
            refine jr_if_eq C 36 dX0_putOutHindmost_31 (by decide) (fun b31 => ?_) (fun b31 => ?_)
            · replace b31 := jb_f b31
              refine jr_iinc C _ dX0_putOutHindmost_36 rfl rfl (by decide) ?_
              refine jr_goto C 4 dX0_putOutHindmost_39 (by decide) ?_
              exact jr_sub [(0, jf_r E 10), (1, .int k), (2, .int _), (3, .int _)] rfl (ih _ _ (by omega) (by omega) (by omega) (by rw [e2]; first | (have h9 : ((σ.1 53) o.toNatClampNeg).toInt = 0 := b16; rw [w_hind_e, if_pos ((hS _ (by omega)).mp h9)]; exact x1) | (have h9 : ¬ w_bt (x_A σ) (w_row ((σ.1 54)) k.toNatClampNeg) b.toNatClampNeg o.toNatClampNeg = true := b31; rw [w_hind_s0 (fun q => b16 ((hS _ (by omega)).mpr q)) (fun q => q.elim (fun q => by omega) (fun q => h9 (by rw [tb (by omega)]; exact q)))]; exact x1) | (rw [w_hind_s1 (fun q => b16 ((hS _ (by omega)).mpr q)) (by first | exact Or.inl (by omega) | exact Or.inr (by rw [← tb (by omega)]; exact b31))]; exact to.symm)))
            · replace b31 := jb_t b31
              refine jr_iload_n C dX0_putOutHindmost_34 rfl ?_
              refine jr_istore_n C dX0_putOutHindmost_35 (by decide) ?_
              refine jr_iinc C _ dX0_putOutHindmost_36 rfl rfl (by decide) ?_
              refine jr_goto C 4 dX0_putOutHindmost_39 (by decide) ?_
              exact jr_sub [(0, jf_r E 10), (1, .int k), (2, .int _), (3, .int _)] rfl (ih _ _ (by omega) (by omega) (by omega) (by rw [e2]; first | (have h9 : ((σ.1 53) o.toNatClampNeg).toInt = 0 := b16; rw [w_hind_e, if_pos ((hS _ (by omega)).mp h9)]; exact x1) | (have h9 : ¬ w_bt (x_A σ) (w_row ((σ.1 54)) k.toNatClampNeg) b.toNatClampNeg o.toNatClampNeg = true := b31; rw [w_hind_s0 (fun q => b16 ((hS _ (by omega)).mpr q)) (fun q => q.elim (fun q => by omega) (fun q => h9 (by rw [tb (by omega)]; exact q)))]; exact x1) | (rw [w_hind_s1 (fun q => b16 ((hS _ (by omega)).mpr q)) (by first | exact Or.inl (by omega) | exact Or.inr (by rw [← tb (by omega)]; exact b31))]; exact to.symm)))
  refine jr_iconst C (v := -1) dX0_putOutHindmost_0 (by decide) ?_
  refine jr_istore_n C dX0_putOutHindmost_1 (by decide) ?_
  refine jr_iconst C (v := 0) dX0_putOutHindmost_2 (by decide) ?_
  refine jr_istore_n C dX0_putOutHindmost_3 (by decide) ?_
  exact jr_sub [(0, jf_r E 10), (1, .int k), (2, .int _), (3, .int _)] rfl (lp 21 _ _ (by decide) (by decide) (by decide) rfl)
/-- a round begun -/
def x_oq (σ τ : jf_S) (K o : Nat) : Prop := (∀ f, f < o → (τ.1 54) (20 * K + f) = if ((σ.1 53) f).toInt = 0 then -1 else 0) ∧ (∀ q, q ≠ K → w_row ((τ.1 54)) q = w_row ((σ.1 54)) q) ∧ (∀ c, c ≠ 54 → τ.1 c = σ.1 c)
theorem x_oq_s {σ τ : jf_S} {K o N : Nat} {v : Int32} (h : x_oq σ τ K o) (hN : N = 20 * K + o) (ho : o < 20) (hv : v = if ((σ.1 53) o).toInt = 0 then -1 else 0) : x_oq σ (jf_i τ 54 N v) K (o + 1) := by
  subst hN
  refine ⟨fun f hf => ?_, fun q hq => ?_, fun c hc => (jf_i_o c hc).trans (h.2.2 c hc)⟩
  · by_cases e : f = o
    · subst e; rw [jf_i_same]; exact hv
    · rw [jf_i_ne (by omega)]; exact h.1 f (by omega)
  · rw [jf_i_at, w_row_o (by omega)]; exact h.2.1 q hq
theorem x_oq_e {σ τ : jf_S} {K : Nat} (h : x_oq σ τ K 20) : w_row ((τ.1 54)) K = w_s0 (w_cut ((σ.1 53))) := by
  rw [w_s0_cut]
  exact w_cut_eq (fun f hf => h.1 f hf)
theorem ct_X0_openRound3 (E : jf_E) (σ : jf_S) (k : Int32) (hC : xC σ) (k0 : 0 ≤ k.toInt ∧ k.toInt < 20) : jf_V jh_X E yX0_openRound cX0_openRound 3 0 [jf_r E 10, .int k] σ (fun τ => xS_a σ τ ∧ xC τ ∧ x_oq σ τ k.toNatClampNeg 20) := by
  refine jf_mkV (by decide) (Nat.le_of_ble_eq_true rfl) ?_
  intro G C ret
  have lp : ∀ (m : Nat) (τ : jf_S) (o : Int32), xS_a σ τ ∧ xC τ ∧ x_oq σ τ k.toNatClampNeg o.toNatClampNeg → 0 ≤ o.toInt → o.toInt ≤ (20 : Int) → (20 : Int) - o.toInt < m → jf_X jh_X E G 3 2 [(0, jf_r E 10), (1, .int k), (2, .int o)] [] τ := by
    intro m
    induction m with
    | zero => intro τ o z g1 g2 g3; exfalso; omega
    | succ m ih =>
      intro τ o z g1 g2 g3
      have e1 := ji_inc (k := o) (by omega)
      have eo := ji_tn g1
      have e2 : (o + Int32.ofInt 1).toNatClampNeg = o.toNatClampNeg + 1 := ji_cl (by omega)
      have c53 : (τ.1 53) = (σ.1 53) := z.2.2.2.2 53 (by decide)
      refine jr_iload_n C dX0_openRound_2 rfl ?_
      refine jr_bipush C (v := 20) dX0_openRound_3 (by decide) ?_
      refine jr_ncmp_ge C (b := 20) 39 dX0_openRound_5 (by decide) rfl rfl (fun b5 => ?_) (fun b5 => ?_)
      · exact ret _ _ _ dX0_openRound_39 (⟨z.1, z.2.1, by have h20 : o.toNatClampNeg = 20 := (by omega); have h := z.2.2; rw [h20] at h; exact h⟩)
      · refine jr_aload_n C dX0_openRound_8 rfl ?_
        refine jr_getr C kf_X0_25_10 dX0_openRound_9 ?_
        refine jr_iload_n C dX0_openRound_12 rfl ?_
        refine jr_bipush C (v := 20) dX0_openRound_13 (by decide) ?_
        refine jr_imul C dX0_openRound_15 ?_
        refine jr_iload_n C dX0_openRound_16 rfl ?_
        refine jr_iadd C dX0_openRound_17 ?_
        refine jr_aload_n C dX0_openRound_18 rfl ?_
        refine jr_getr C kf_X0_21_10 dX0_openRound_19 ?_
        refine jr_iload_n C dX0_openRound_22 rfl ?_
        refine jr_zalv C ka_X_53 dX0_openRound_23 (ji_in (i := o) (by omega) (by omega)) (v := τ.1 53 _) rfl ?_
        refine jr_nif_eq C 31 dX0_openRound_24 (by decide) (fun b24 => ?_) (fun b24 => ?_)
        · refine jr_iconst C (v := -1) dX0_openRound_31 (by decide) ?_
          refine jr_iast C ka_X_54 dX0_openRound_32 (ji_linr 20 rfl (by omega) (by omega) (by omega)) ?_
          refine jr_iinc C _ dX0_openRound_33 rfl rfl (by decide) ?_
          refine jr_goto C 2 dX0_openRound_36 (by decide) ?_
          exact jr_sub [(0, jf_r E 10), (1, .int k), (2, .int _)] rfl (ih _ _ ⟨xS_a_i z.1 (by decide), xC_o z.2.1 (by decide), by (rw [e2]; refine x_oq_s z.2.2 (x_ix20 k0 ⟨g1, by omega⟩) (by omega) ?_; rw [← c53]; first | exact (if_pos b24).symm | exact (if_neg b24).symm)⟩ (by omega) (by omega) (by omega))
        · refine jr_iconst C (v := 0) dX0_openRound_27 (by decide) ?_
          refine jr_goto C 32 dX0_openRound_28 (by decide) ?_
          refine jr_iast C ka_X_54 dX0_openRound_32 (ji_linr 20 rfl (by omega) (by omega) (by omega)) ?_
          refine jr_iinc C _ dX0_openRound_33 rfl rfl (by decide) ?_
          refine jr_goto C 2 dX0_openRound_36 (by decide) ?_
          exact jr_sub [(0, jf_r E 10), (1, .int k), (2, .int _)] rfl (ih _ _ ⟨xS_a_i z.1 (by decide), xC_o z.2.1 (by decide), by (rw [e2]; refine x_oq_s z.2.2 (x_ix20 k0 ⟨g1, by omega⟩) (by omega) ?_; rw [← c53]; first | exact (if_pos b24).symm | exact (if_neg b24).symm)⟩ (by omega) (by omega) (by omega))
  refine jr_iconst C (v := 0) dX0_openRound_0 (by decide) ?_
  refine jr_istore_n C dX0_openRound_1 (by decide) ?_
  exact jr_sub [(0, jf_r E 10), (1, .int k), (2, .int _)] rfl (lp 21 _ _ ⟨xS_a_r σ, hC, fun f hf => absurd hf (Nat.not_lt_zero f), fun q _ => rfl, fun _ _ => rfl⟩ (by decide) (by decide) (by decide))
/-- within a round, behind j jurors -/
def x_gv (σ τ : jf_S) (C : Nat → List Int32) (K : Nat) (n : Int32) (j : Nat) : Prop := w_row ((τ.1 54)) K = (w_gv (w_cut ((σ.1 53))) C j).1 ∧ n = (w_gv (w_cut ((σ.1 53))) C j).2 ∧ (∀ q, q ≠ K → w_row ((τ.1 54)) q = w_row ((σ.1 54)) q) ∧ (∀ c, c ≠ 54 → τ.1 c = σ.1 c)
theorem x_gv_none {σ τ : jf_S} {C : Nat → List Int32} {K j : Nat} {n : Int32} (h : x_gv σ τ C K n j) (e : w_fr (w_cut ((σ.1 53))) (C j) = none) : x_gv σ τ C K n (j + 1) := by
  have s : w_gv (w_cut ((σ.1 53))) C (j + 1) = w_gv (w_cut ((σ.1 53))) C j := by
    show w_g1 _ (w_fr (w_cut ((σ.1 53))) (C j)) = _
    rw [e]; rfl
  unfold x_gv
  rw [s]; exact h
theorem x_gv_give {σ τ : jf_S} {C : Nat → List Int32} {K j N : Nat} {n x v : Int32} (h : x_gv σ τ C K n j) (e : w_fr (w_cut ((σ.1 53))) (C j) = some x) (hx : x.toNatClampNeg < 20) (hN : N = 20 * K + x.toNatClampNeg) (hv : v = (τ.1 54) N + 1) : x_gv σ (jf_i τ 54 N v) C K (n + Int32.ofInt 1) (j + 1) := by
  have s : w_gv (w_cut ((σ.1 53))) C (j + 1) = w_g1 (w_gv (w_cut ((σ.1 53))) C j) (some x) := by
    show w_g1 _ (w_fr (w_cut ((σ.1 53))) (C j)) = _
    rw [e]
  unfold x_gv
  rw [s]
  refine ⟨?_, ?_, fun q hq => ?_, fun c hc => (jf_i_o c hc).trans (h.2.2.2 c hc)⟩
  · show _ = upd (w_gv (w_cut ((σ.1 53))) C j).1 x.toNatClampNeg ((w_gv (w_cut ((σ.1 53))) C j).1 x.toNatClampNeg + 1)
    rw [jf_i_at, w_row_upd hx hN, ← h.1, w_row_lt hx, hv, hN]
  · show _ = (w_gv (w_cut ((σ.1 53))) C j).2 + 1
    rw [← h.2.1]; rfl
  · rw [jf_i_at, w_row_o (by omega)]; exact h.2.2.1 q hq
theorem ct_X0_giveFirsts3 (E : jf_E) (σ : jf_S) (k : Int32) (D : Nat → List Int32) (hC : xC σ) (hV : xV σ) (hc : x_cd σ D ((σ.1 7 7)).toNatClampNeg) (k0 : 0 ≤ k.toInt ∧ k.toInt < 20) (hS : w_row ((σ.1 54)) k.toNatClampNeg = w_s0 (w_cut ((σ.1 53)))) : jf_I jh_X E yX0_giveFirsts cX0_giveFirsts 6 .int 0 [jf_r E 10, .int k] σ (fun r τ => xS_a σ τ ∧ xC τ ∧ x_gv σ τ D k.toNatClampNeg r ((σ.1 7 7)).toNatClampNeg) := by
  refine jf_mkI (by decide) (Nat.le_of_ble_eq_true rfl) ?_
  intro G C ret
  have hJ := hV.1
  have tJ := ji_tn hJ.1
  have l18 : ∀ (m : Nat) (τ : jf_S) (n j i : Int32), (xS_a σ τ ∧ xC τ ∧ x_gv σ τ D k.toNatClampNeg n j.toNatClampNeg) → 0 ≤ i.toInt → i.toInt ≤ (5 : Int) → (5 : Int) - i.toInt < m → (0 ≤ j.toInt ∧ j.toInt < 10) → (∀ (υ : jf_S) (a : Int32), xS_a σ υ ∧ xC υ ∧ x_gv σ υ D k.toNatClampNeg a (j.toNatClampNeg + 1) → jf_X jh_X E G 6 4 [(0, jf_r E 10), (1, .int k), (2, .int a), (3, .int (j + Int32.ofInt 1))] [] υ) → (j.toInt < ((σ.1 7 7)).toInt) → (i.toInt ≤ ((D j.toNatClampNeg).length : Int)) → (∀ q, q < i.toNatClampNeg → (w_cut ((σ.1 53)) ((D j.toNatClampNeg).getD q 0).toNatClampNeg).toInt = 0) → jf_X jh_X E G 6 18 [(0, jf_r E 10), (1, .int k), (2, .int n), (3, .int j), (4, .int i)] [] τ := by
    intro m
    induction m with
    | zero => intro τ n j i z g1 g2 g3 x1 x2 x3 x4 x5; exfalso; omega
    | succ m ih =>
      intro τ n j i z g1 g2 g3 x1 x2 x3 x4 x5
      have e1 := ji_inc (k := i) (by omega)
      have ej := ji_tn x1.1
      have ei := ji_tn g1
      have e2i : (i + Int32.ofInt 1).toNatClampNeg = i.toNatClampNeg + 1 := ji_cl (by omega)
      have dC := hc j.toNatClampNeg (by omega)
      have c50 : (τ.1 50) = (σ.1 50) := z.2.2.2.2.2 50 (by decide)
      have c51 : (τ.1 51) = (σ.1 51) := z.2.2.2.2.2 51 (by decide)
      have c53 : (τ.1 53) = (σ.1 53) := z.2.2.2.2.2 53 (by decide)
      have c5 := z.2.1.2 j.toNatClampNeg
      have c6 : ((τ.1 51) j.toNatClampNeg).toInt = ((D j.toNatClampNeg).length : Int) := by rw [c51]; exact dC.1
      have cd : i.toInt < ((D j.toNatClampNeg).length : Int) → (τ.1 50) (j * 5 + i).toNatClampNeg = (D j.toNatClampNeg).getD i.toNatClampNeg 0 := fun h => by rw [c50, ji_v5 x1 ⟨g1, by omega⟩]; exact dC.2 _ (by omega)
      have v0 := z.2.1.1 (j * 5 + i).toNatClampNeg
      have tv := ji_tn v0.1
      refine jr_iload C dX0_giveFirsts_18 rfl ?_
      refine jr_aload_n C dX0_giveFirsts_20 rfl ?_
      refine jr_getr C kf_X0_15_10 dX0_giveFirsts_21 ?_
      refine jr_iload_n C dX0_giveFirsts_24 rfl ?_
      refine jr_ialv C ka_X_51 dX0_giveFirsts_25 (ji_in x1.1 x1.2) (v := τ.1 51 _) rfl ?_
      refine jr_ncmp_ge C 80 dX0_giveFirsts_26 (by decide) rfl rfl (fun b26 => ?_) (fun b26 => ?_)
      · refine jr_iinc C _ dX0_giveFirsts_80 rfl rfl (by decide) ?_
        refine jr_goto C 4 dX0_giveFirsts_83 (by decide) ?_
        first | (have h9 : ((τ.1 51) j.toNatClampNeg).toInt ≤ i.toInt := b26; exact jr_sub [(0, jf_r E 10), (1, .int k), (2, .int _), (3, .int (j + Int32.ofInt 1))] rfl (x2 _ _ ⟨z.1, z.2.1, x_gv_none z.2.2 (w_fr_ln (fun q hq => x5 q (by omega)))⟩)) | (have h9 : ¬ ((τ.1 53) ((τ.1 50) (j * 5 + i).toNatClampNeg).toNatClampNeg).toInt = 0 := b49; exact jr_sub [(0, jf_r E 10), (1, .int k), (2, .int _), (3, .int (j + Int32.ofInt 1))] rfl (x2 _ _ ⟨xS_a_i z.1 (by decide), xC_o z.2.1 (by decide), x_gv_give z.2.2 (x := (τ.1 50) (j * 5 + i).toNatClampNeg) (by rw [cd (by omega)]; exact w_fr_ls (by omega) x5 (by rw [← cd (by omega), w_cut_lt (by omega), ← c53]; exact h9)) (by omega) (x_ix20 k0 v0) rfl⟩))
      · refine jr_aload_n C dX0_giveFirsts_29 rfl ?_
        refine jr_getr C kf_X0_9_10 dX0_giveFirsts_30 ?_
        refine jr_iload_n C dX0_giveFirsts_33 rfl ?_
        refine jr_iconst C (v := 5) dX0_giveFirsts_34 (by decide) ?_
        refine jr_imul C dX0_giveFirsts_35 ?_
        refine jr_iload C dX0_giveFirsts_36 rfl ?_
        refine jr_iadd C dX0_giveFirsts_38 ?_
        refine jr_ialv C ka_X_50 dX0_giveFirsts_39 (ji_linr 5 rfl (by omega) (by omega) (by omega)) (v := τ.1 50 _) rfl ?_
        refine jr_istore C dX0_giveFirsts_40 (by decide) ?_
        refine jr_aload_n C dX0_giveFirsts_42 rfl ?_
        refine jr_getr C kf_X0_21_10 dX0_giveFirsts_43 ?_
        refine jr_iload C dX0_giveFirsts_46 rfl ?_
        refine jr_zalv C ka_X_53 dX0_giveFirsts_48 (ji_in v0.1 v0.2) (v := τ.1 53 _) rfl ?_
        refine jr_nif_eq C 74 dX0_giveFirsts_49 (by decide) (fun b49 => ?_) (fun b49 => ?_)
        · refine jr_iinc C _ dX0_giveFirsts_74 rfl rfl (by decide) ?_
          refine jr_goto C 18 dX0_giveFirsts_77 (by decide) ?_
          exact jr_sub [(0, jf_r E 10), (1, .int k), (2, .int _), (3, .int _), (4, .int _)] rfl (ih _ _ _ _ z (by omega) (by omega) (by omega) x1 x2 x3 (by omega) (fun q hq => by (rw [e2i] at hq; by_cases e : q = i.toNatClampNeg; (rw [e, ← cd (by omega), w_cut_lt (by omega), ← c53]; exact b49); exact x5 q (by omega))))
        · refine jr_aload_n C dX0_giveFirsts_52 rfl ?_
          refine jr_getr C kf_X0_25_10 dX0_giveFirsts_53 ?_
          refine jr_iload_n C dX0_giveFirsts_56 rfl ?_
          refine jr_bipush C (v := 20) dX0_giveFirsts_57 (by decide) ?_
          refine jr_imul C dX0_giveFirsts_59 ?_
          refine jr_iload C dX0_giveFirsts_60 rfl ?_
          refine jr_iadd C dX0_giveFirsts_62 ?_
          refine jr_dup2 C dX0_giveFirsts_63 rfl rfl ?_
          refine jr_ialv C ka_X_54 dX0_giveFirsts_64 (ji_linr 20 rfl (by omega) (by omega) (by omega)) (v := τ.1 54 _) rfl ?_
          refine jr_iconst C (v := 1) dX0_giveFirsts_65 (by decide) ?_
          refine jr_iadd C dX0_giveFirsts_66 ?_
          refine jr_iast C ka_X_54 dX0_giveFirsts_67 (ji_linr 20 rfl (by omega) (by omega) (by omega)) ?_
          refine jr_iinc C _ dX0_giveFirsts_68 rfl rfl (by decide) ?_
          refine jr_goto C 80 dX0_giveFirsts_71 (by decide) ?_
          refine jr_iinc C _ dX0_giveFirsts_80 rfl rfl (by decide) ?_
          refine jr_goto C 4 dX0_giveFirsts_83 (by decide) ?_
          first | (have h9 : ((τ.1 51) j.toNatClampNeg).toInt ≤ i.toInt := b26; exact jr_sub [(0, jf_r E 10), (1, .int k), (2, .int _), (3, .int (j + Int32.ofInt 1))] rfl (x2 _ _ ⟨z.1, z.2.1, x_gv_none z.2.2 (w_fr_ln (fun q hq => x5 q (by omega)))⟩)) | (have h9 : ¬ ((τ.1 53) ((τ.1 50) (j * 5 + i).toNatClampNeg).toNatClampNeg).toInt = 0 := b49; exact jr_sub [(0, jf_r E 10), (1, .int k), (2, .int _), (3, .int (j + Int32.ofInt 1))] rfl (x2 _ _ ⟨xS_a_i z.1 (by decide), xC_o z.2.1 (by decide), x_gv_give z.2.2 (x := (τ.1 50) (j * 5 + i).toNatClampNeg) (by rw [cd (by omega)]; exact w_fr_ls (by omega) x5 (by rw [← cd (by omega), w_cut_lt (by omega), ← c53]; exact h9)) (by omega) (x_ix20 k0 v0) rfl⟩))
  have lp : ∀ (m : Nat) (τ : jf_S) (n o : Int32), (xS_a σ τ ∧ xC τ ∧ x_gv σ τ D k.toNatClampNeg n o.toNatClampNeg) → 0 ≤ o.toInt → o.toInt ≤ ((σ.1 7 7)).toInt → ((σ.1 7 7)).toInt - o.toInt < m → jf_X jh_X E G 6 4 [(0, jf_r E 10), (1, .int k), (2, .int n), (3, .int o)] [] τ := by
    intro m
    induction m with
    | zero => intro τ n o z g1 g2 g3; exfalso; omega
    | succ m ih =>
      intro τ n o z g1 g2 g3
      have e1 := ji_inc (k := o) (by omega)
      have eo := ji_tn g1
      have e2o : (o + Int32.ofInt 1).toNatClampNeg = o.toNatClampNeg + 1 := ji_cl (by omega)
      have c1 : ((τ.1 7 7)).toInt = ((σ.1 7 7)).toInt := by rw [z.1.2.1 7 (by decide) (by decide)]
      refine jr_iload_n C dX0_giveFirsts_4 rfl ?_
      refine jr_aload_n C dX0_giveFirsts_5 rfl ?_
      refine jr_getr C kf_X0_36_10 dX0_giveFirsts_6 ?_
      refine jr_getv C kf_X0_60_7 dX0_giveFirsts_9 (v := τ.1 7 7) rfl ?_
      refine jr_ncmp_ge C 86 dX0_giveFirsts_12 (by decide) rfl rfl (fun b12 => ?_) (fun b12 => ?_)
      · refine jr_iload_n C dX0_giveFirsts_86 rfl ?_
        exact ret _ _ _ _ dX0_giveFirsts_87 rfl (⟨z.1, z.2.1, by rw [← show o.toNatClampNeg = ((σ.1 7 7)).toNatClampNeg from congrArg Int.toNat (show o.toInt = ((σ.1 7 7)).toInt by omega)]; exact z.2.2⟩)
      · refine jr_iconst C (v := 0) dX0_giveFirsts_15 (by decide) ?_
        refine jr_istore C dX0_giveFirsts_16 (by decide) ?_
        exact jr_sub [(0, jf_r E 10), (1, .int k), (2, .int n), (3, .int o), (4, .int 0)] rfl (l18 6 _ _ _ _ z (by decide) (by decide) (by decide) ⟨by omega, by omega⟩ (fun υ a hz => ih _ _ _ (by rw [e2o]; exact hz) (by omega) (by omega) (by omega)) (by omega) (by show (0 : Int) ≤ _; omega) (fun q hq => absurd hq (Nat.not_lt_zero q)))
  refine jr_iconst C (v := 0) dX0_giveFirsts_0 (by decide) ?_
  refine jr_istore_n C dX0_giveFirsts_1 (by decide) ?_
  refine jr_iconst C (v := 0) dX0_giveFirsts_2 (by decide) ?_
  refine jr_istore_n C dX0_giveFirsts_3 (by decide) ?_
  exact jr_sub [(0, jf_r E 10), (1, .int k), (2, .int _), (3, .int _)] rfl (lp 11 _ _ _ ⟨xS_a_r σ, hC, hS, rfl, fun q _ => rfl, fun _ _ => rfl⟩ (by decide) hJ.1 (by show _ - (0 : Int) < _; omega))

