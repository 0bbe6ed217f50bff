/-! the class: WHY, CROWD, WORTH, GRID exactly -/
/-- ends as the class keeps them -/
def xN (σ : jf_S) : Prop := ∀ j : Nat, (j : Int) < ((σ.1 3 8)).toInt → (σ.1 28) j = g_end (x_G σ) j
theorem xg_pf {σ : jf_S} {h b e x : Int32} {s : Nat} (he : (σ.1 28) s = g_end (x_G σ) s) : g_pf (x_G σ) h b e x s = decide (¬ ((σ.1 31) s).toInt = 0 ∧ ¬ (s : Int) = x.toInt ∧ ((σ.1 26) s).toInt = h.toInt ∧ ((σ.1 27) s).toInt < (e + (σ.1 14) h.toNatClampNeg).toInt ∧ b.toInt < ((σ.1 28) s + (σ.1 14) h.toNatClampNeg).toInt) := by
  rw [he]; rfl
theorem xg_pr {σ : jf_S} {f h b e x : Int32} {s : Nat} (he : (σ.1 28) s = g_end (x_G σ) s) : g_pr (x_G σ) f h b e x s = decide (¬ ((σ.1 31) s).toInt = 0 ∧ ¬ (s : Int) = x.toInt ∧ ((σ.1 25) s).toInt = f.toInt ∧ (b.toInt = ((σ.1 27) s).toInt ∨ (((σ.1 27) s).toInt < b.toInt ∧ b.toInt < ((σ.1 28) s + (σ.1 16) ((σ.1 12) h.toNatClampNeg * 5 + (σ.1 12) ((σ.1 26) s).toNatClampNeg).toNatClampNeg).toInt) ∨ (b.toInt < ((σ.1 27) s).toInt ∧ ((σ.1 27) s).toInt < (e + (σ.1 16) ((σ.1 12) h.toNatClampNeg * 5 + (σ.1 12) ((σ.1 26) s).toNatClampNeg).toNatClampNeg).toInt))) := by
  rw [he, Int32.mul_comm]; rfl
theorem xg_pc {σ : jf_S} {f x : Int32} {s : Nat} : g_pc (x_G σ) f x s = decide (¬ ((σ.1 31) s).toInt = 0 ∧ ¬ (s : Int) = x.toInt ∧ ((σ.1 25) s).toInt = f.toInt) := rfl
theorem xg_pb {σ : jf_S} {f h b e x : Int32} {s : Nat} (he : (σ.1 28) s = g_end (x_G σ) s) : g_pb (x_G σ) f h b e x s = decide (¬ ((σ.1 31) s).toInt = 0 ∧ ¬ (s : Int) = x.toInt ∧ (((σ.1 24) f.toNatClampNeg).toInt = ((σ.1 25) s).toInt ∨ ((σ.1 24) ((σ.1 25) s).toNatClampNeg).toInt = f.toInt) ∧ ((σ.1 12) ((σ.1 26) s).toNatClampNeg).toInt = ((σ.1 12) h.toNatClampNeg).toInt ∧ ((σ.1 27) s).toInt < e.toInt ∧ b.toInt < ((σ.1 28) s).toInt) := by
  rw [he]; rfl
theorem x_wt {σ : jf_S} {f b s e a7 a8 a9 c : Int32} : g_wt (x_G σ) f b s e a7 a8 a9 c = if ¬ a7.toInt = 0 then 3 else if ¬ a8.toInt = 0 then 4 else if s.toInt = 1 ∧ (((σ.1 20) f.toNatClampNeg).toInt = -1 ∨ b.toInt < ((σ.1 20) f.toNatClampNeg).toInt ∨ ((σ.1 21) f.toNatClampNeg).toInt < e.toInt) then 5 else if s.toInt = 2 ∧ 120 ≤ (b - b / 1440 * 1440).toInt ∧ (b - b / 1440 * 1440).toInt < 1320 then 6 else if b.toInt < ((σ.1 22) f.toNatClampNeg).toInt then 7 else if ((σ.1 23) f.toNatClampNeg).toInt < c.toInt then 8 else if ¬ a9.toInt = 0 then 9 else 0 := rfl
theorem x_why_w {σ : jf_S} {n : Nat} {f h b s x : Int32} (q1 : ¬ 14400 < (b + (σ.1 17) f.toNatClampNeg).toInt) (q2 : ¬ (((σ.1 15) h.toNatClampNeg >>> ((σ.1 18) f.toNatClampNeg &&& 31)) &&& 1).toInt = 0) : g_why (x_G σ) n f h b s x = g_wt (x_G σ) f b s (b + (σ.1 17) f.toNatClampNeg) (jb (gE (g_pf (x_G σ) h b (b + (σ.1 17) f.toNatClampNeg) x) n = true)) (jb (gE (g_pr (x_G σ) f h b (b + (σ.1 17) f.toNatClampNeg) x) n = true)) (jb (gE (g_pb (x_G σ) f h b (b + (σ.1 17) f.toNatClampNeg) x) n = true)) (1 + nI (jx_ct (g_pc (x_G σ) f x) n)) := (if_neg q1).trans (if_neg q2)
theorem x_why_1 {σ : jf_S} {n : Nat} {f h b s x : Int32} (q1 : 14400 < (b + (σ.1 17) f.toNatClampNeg).toInt) : g_why (x_G σ) n f h b s x = 1 := if_pos q1
theorem x_why_2 {σ : jf_S} {n : Nat} {f h b s x : Int32} (q1 : ¬ 14400 < (b + (σ.1 17) f.toNatClampNeg).toInt) (q2 : (((σ.1 15) h.toNatClampNeg >>> ((σ.1 18) f.toNatClampNeg &&& 31)) &&& 1).toInt = 0) : g_why (x_G σ) n f h b s x = 2 := (if_neg q1).trans (if_pos q2)
theorem ct_X1_isHallTaken2 (E : jf_E) (σ : jf_S) (h b e x : Int32) (hI : xI σ) (hN : xN σ) (h0 : 0 ≤ h.toInt ∧ h.toInt < 4) : jf_I jh_X E yX1_isHallTaken cX1_isHallTaken 7 .boolean 0 [jf_r E 4, .int h, .int b, .int e, .int x] σ (fun r τ => r = jb (gE (g_pf (x_G σ) h b e x) ((σ.1 3 8)).toNatClampNeg = true) ∧ σ = τ) := by
  refine jf_mkI (by decide) (Nat.le_of_ble_eq_true rfl) ?_
  intro G C ret
  have hE := hI.1
  have te := ji_tn hE.1
  have lp : ∀ (m : Nat) (o : Int32), 0 ≤ o.toInt → o.toInt ≤ ((σ.1 3 8)).toInt → ((σ.1 3 8)).toInt - o.toInt < m → (gE (g_pf (x_G σ) h b e x) o.toNatClampNeg = false) → jf_X jh_X E G 7 14 [(0, jf_r E 4), (1, .int h), (2, .int b), (3, .int e), (4, .int x), (5, .int ((σ.1 14) h.toNatClampNeg)), (6, .int o)] [] σ := by
    intro m
    induction m with
    | zero => intro o g1 g2 g3 x1; exfalso; omega
    | succ m ih =>
      intro o g1 g2 g3 x1
      have e1 := ji_inc (k := o) (by omega)
      have to := ji_tn g1
      refine jr_iload C dX1_isHallTaken_14 rfl ?_
      refine jr_aload_n C dX1_isHallTaken_16 rfl ?_
      refine jr_getr C kf_X1_19_4 dX1_isHallTaken_17 ?_
      refine jr_getv C kf_X1_72_3 dX1_isHallTaken_20 (v := σ.1 3 8) rfl ?_
      refine jr_ncmp_ge C 102 dX1_isHallTaken_23 (by decide) rfl rfl (fun b23 => ?_) (fun b23 => ?_)
      · refine jr_iconst C (v := 0) dX1_isHallTaken_102 (by decide) ?_
        exact ret _ _ _ _ dX1_isHallTaken_103 (rfl) (by first | (have eo : o = (σ.1 3 8) := Int32.toInt_inj.mp (by omega)); exact ⟨jb_ff (by rw [← eo, x1]; decide), rfl⟩ | (have q : g_pf (x_G σ) h b e x o.toNatClampNeg = true := by rw [xg_pf (hN _ (by omega))]; exact decide_eq_true (by omega)); exact ⟨jb_tt (gE_of q (by omega)), rfl⟩)
      · refine jr_iload C dX1_isHallTaken_26 rfl ?_
        refine jr_iload C dX1_isHallTaken_28 rfl ?_
        refine jr_ncmp_eq C 96 dX1_isHallTaken_30 (by decide) rfl rfl (fun b30 => ?_) (fun b30 => ?_)
        · refine jr_iinc C _ dX1_isHallTaken_96 rfl rfl (by decide) ?_
          refine jr_goto C 14 dX1_isHallTaken_99 (by decide) ?_
          exact jr_sub [(0, jf_r E 4), (1, .int h), (2, .int b), (3, .int e), (4, .int x), (5, .int ((σ.1 14) h.toNatClampNeg)), (6, .int _)] rfl (ih _ (by omega) (by omega) (by omega) (by rw [g_sc g1 e1]; exact gE_s0 x1 (by rw [xg_pf (hN _ (by omega))]; exact decide_eq_false (by omega))))
        · refine jr_aload_n C dX1_isHallTaken_33 rfl ?_
          refine jr_getr C kf_X1_19_4 dX1_isHallTaken_34 ?_
          refine jr_getr C kf_X1_78_3 dX1_isHallTaken_37 ?_
          refine jr_iload C dX1_isHallTaken_40 rfl ?_
          refine jr_zalv C ka_X_31 dX1_isHallTaken_42 (ji_in (i := o) (by omega) (by omega)) (v := σ.1 31 _) rfl ?_
          refine jr_nif_eq C 96 dX1_isHallTaken_43 (by decide) (fun b43 => ?_) (fun b43 => ?_)
          · refine jr_iinc C _ dX1_isHallTaken_96 rfl rfl (by decide) ?_
            refine jr_goto C 14 dX1_isHallTaken_99 (by decide) ?_
            exact jr_sub [(0, jf_r E 4), (1, .int h), (2, .int b), (3, .int e), (4, .int x), (5, .int ((σ.1 14) h.toNatClampNeg)), (6, .int _)] rfl (ih _ (by omega) (by omega) (by omega) (by rw [g_sc g1 e1]; exact gE_s0 x1 (by rw [xg_pf (hN _ (by omega))]; exact decide_eq_false (by omega))))
          · refine jr_aload_n C dX1_isHallTaken_46 rfl ?_
            refine jr_getr C kf_X1_19_4 dX1_isHallTaken_47 ?_
            refine jr_getr C kf_X1_82_3 dX1_isHallTaken_50 ?_
            refine jr_iload C dX1_isHallTaken_53 rfl ?_
            refine jr_ialv C ka_X_26 dX1_isHallTaken_55 (ji_in (i := o) (by omega) (by omega)) (v := σ.1 26 _) rfl ?_
            refine jr_iload_n C dX1_isHallTaken_56 rfl ?_
            refine jr_ncmp_ne C 96 dX1_isHallTaken_57 (by decide) rfl rfl (fun b57 => ?_) (fun b57 => ?_)
            · refine jr_iinc C _ dX1_isHallTaken_96 rfl rfl (by decide) ?_
              refine jr_goto C 14 dX1_isHallTaken_99 (by decide) ?_
              exact jr_sub [(0, jf_r E 4), (1, .int h), (2, .int b), (3, .int e), (4, .int x), (5, .int ((σ.1 14) h.toNatClampNeg)), (6, .int _)] rfl (ih _ (by omega) (by omega) (by omega) (by rw [g_sc g1 e1]; exact gE_s0 x1 (by rw [xg_pf (hN _ (by omega))]; exact decide_eq_false (by omega))))
            · refine jr_aload_n C dX1_isHallTaken_60 rfl ?_
              refine jr_getr C kf_X1_19_4 dX1_isHallTaken_61 ?_
              refine jr_getr C kf_X1_85_3 dX1_isHallTaken_64 ?_
              refine jr_iload C dX1_isHallTaken_67 rfl ?_
              refine jr_ialv C ka_X_27 dX1_isHallTaken_69 (ji_in (i := o) (by omega) (by omega)) (v := σ.1 27 _) rfl ?_
              refine jr_iload_n C dX1_isHallTaken_70 rfl ?_
              refine jr_iload C dX1_isHallTaken_71 rfl ?_
              refine jr_iadd C dX1_isHallTaken_73 ?_
              refine jr_ncmp_ge C 96 dX1_isHallTaken_74 (by decide) rfl rfl (fun b74 => ?_) (fun b74 => ?_)
              · refine jr_iinc C _ dX1_isHallTaken_96 rfl rfl (by decide) ?_
                refine jr_goto C 14 dX1_isHallTaken_99 (by decide) ?_
                exact jr_sub [(0, jf_r E 4), (1, .int h), (2, .int b), (3, .int e), (4, .int x), (5, .int ((σ.1 14) h.toNatClampNeg)), (6, .int _)] rfl (ih _ (by omega) (by omega) (by omega) (by rw [g_sc g1 e1]; exact gE_s0 x1 (by rw [xg_pf (hN _ (by omega))]; exact decide_eq_false (by omega))))
              · refine jr_aload_n C dX1_isHallTaken_77 rfl ?_
                refine jr_getr C kf_X1_19_4 dX1_isHallTaken_78 ?_
                refine jr_getr C kf_X1_88_3 dX1_isHallTaken_81 ?_
                refine jr_iload C dX1_isHallTaken_84 rfl ?_
                refine jr_ialv C ka_X_28 dX1_isHallTaken_86 (ji_in (i := o) (by omega) (by omega)) (v := σ.1 28 _) rfl ?_
                refine jr_iload C dX1_isHallTaken_87 rfl ?_
                refine jr_iadd C dX1_isHallTaken_89 ?_
                refine jr_iload_n C dX1_isHallTaken_90 rfl ?_
                refine jr_ncmp_le C 96 dX1_isHallTaken_91 (by decide) rfl rfl (fun b91 => ?_) (fun b91 => ?_)
                · refine jr_iinc C _ dX1_isHallTaken_96 rfl rfl (by decide) ?_
                  refine jr_goto C 14 dX1_isHallTaken_99 (by decide) ?_
                  exact jr_sub [(0, jf_r E 4), (1, .int h), (2, .int b), (3, .int e), (4, .int x), (5, .int ((σ.1 14) h.toNatClampNeg)), (6, .int _)] rfl (ih _ (by omega) (by omega) (by omega) (by rw [g_sc g1 e1]; exact gE_s0 x1 (by rw [xg_pf (hN _ (by omega))]; exact decide_eq_false (by omega))))
                · refine jr_iconst C (v := 1) dX1_isHallTaken_94 (by decide) ?_
                  exact ret _ _ _ _ dX1_isHallTaken_95 (rfl) (by first | (have eo : o = (σ.1 3 8) := Int32.toInt_inj.mp (by omega)); exact ⟨jb_ff (by rw [← eo, x1]; decide), rfl⟩ | (have q : g_pf (x_G σ) h b e x o.toNatClampNeg = true := by rw [xg_pf (hN _ (by omega))]; exact decide_eq_true (by omega)); exact ⟨jb_tt (gE_of q (by omega)), rfl⟩)
  refine jr_aload_n C dX1_isHallTaken_0 rfl ?_
  refine jr_getr C kf_X1_9_4 dX1_isHallTaken_1 ?_
  refine jr_getr C kf_X1_69_1 dX1_isHallTaken_4 ?_
  refine jr_iload_n C dX1_isHallTaken_7 rfl ?_
  refine jr_ialv C ka_X_14 dX1_isHallTaken_8 (ji_in h0.1 h0.2) (v := σ.1 14 _) rfl ?_
  refine jr_istore C dX1_isHallTaken_9 (by decide) ?_
  refine jr_iconst C (v := 0) dX1_isHallTaken_11 (by decide) ?_
  refine jr_istore C dX1_isHallTaken_12 (by decide) ?_
  exact jr_sub [(0, jf_r E 4), (1, .int h), (2, .int b), (3, .int e), (4, .int x), (5, .int ((σ.1 14) h.toNatClampNeg)), (6, .int _)] rfl (lp 61 _ (by decide) hE.1 (by show _ - 0 < _; omega) rfl)
theorem ct_X1_isPrintAway2 (E : jf_E) (σ : jf_S) (f h b e x : Int32) (hI : xI σ) (hN : xN σ) (h0 : 0 ≤ h.toInt ∧ h.toInt < 4) : jf_I jh_X E yX1_isPrintAway cX1_isPrintAway 10 .boolean 1 [jf_r E 4, .int f, .int h, .int b, .int e, .int x] σ (fun r τ => r = jb (gE (g_pr (x_G σ) f h b e x) ((σ.1 3 8)).toNatClampNeg = true) ∧ σ = τ) := by
  refine jf_mkI (by decide) (Nat.le_of_ble_eq_true rfl) ?_
  intro G C ret
  have hE := hI.1
  have te := ji_tn hE.1
  have lp : ∀ (m : Nat) (o : Int32), 0 ≤ o.toInt → o.toInt ≤ ((σ.1 3 8)).toInt → ((σ.1 3 8)).toInt - o.toInt < m → (gE (g_pr (x_G σ) f h b e x) o.toNatClampNeg = false) → jf_X jh_X E G 10 3 [(0, jf_r E 4), (1, .int f), (2, .int h), (3, .int b), (4, .int e), (5, .int x), (6, .int o)] [] σ := by
    intro m
    induction m with
    | zero => intro o g1 g2 g3 x1; exfalso; omega
    | succ m ih =>
      intro o g1 g2 g3 x1
      have e1 := ji_inc (k := o) (by omega)
      have to := ji_tn g1
      refine jr_iload C dX1_isPrintAway_3 rfl ?_
      refine jr_aload_n C dX1_isPrintAway_5 rfl ?_
      refine jr_getr C kf_X1_19_4 dX1_isPrintAway_6 ?_
      refine jr_getv C kf_X1_72_3 dX1_isPrintAway_9 (v := σ.1 3 8) rfl ?_
      refine jr_ncmp_ge C 167 dX1_isPrintAway_12 (by decide) rfl rfl (fun b12 => ?_) (fun b12 => ?_)
      · refine jr_iconst C (v := 0) dX1_isPrintAway_167 (by decide) ?_
        exact ret _ _ _ _ dX1_isPrintAway_168 (rfl) (by first | (have eo : o = (σ.1 3 8) := Int32.toInt_inj.mp (by omega)); exact ⟨jb_ff (by rw [← eo, x1]; decide), rfl⟩ | (have q : g_pr (x_G σ) f h b e x o.toNatClampNeg = true := by rw [xg_pr (hN _ (by omega))]; exact decide_eq_true (by omega)); exact ⟨jb_tt (gE_of q (by omega)), rfl⟩)
      · refine jr_iload C dX1_isPrintAway_15 rfl ?_
        refine jr_iload C dX1_isPrintAway_17 rfl ?_
        refine jr_ncmp_eq C 161 dX1_isPrintAway_19 (by decide) rfl rfl (fun b19 => ?_) (fun b19 => ?_)
        · refine jr_iinc C _ dX1_isPrintAway_161 rfl rfl (by decide) ?_
          refine jr_goto C 3 dX1_isPrintAway_164 (by decide) ?_
          exact jr_sub [(0, jf_r E 4), (1, .int f), (2, .int h), (3, .int b), (4, .int e), (5, .int x), (6, .int _)] rfl (ih _ (by omega) (by omega) (by omega) (by rw [g_sc g1 e1]; exact gE_s0 x1 (by rw [xg_pr (hN _ (by omega))]; exact decide_eq_false (by omega))))
        · refine jr_aload_n C dX1_isPrintAway_22 rfl ?_
          refine jr_getr C kf_X1_19_4 dX1_isPrintAway_23 ?_
          refine jr_getr C kf_X1_78_3 dX1_isPrintAway_26 ?_
          refine jr_iload C dX1_isPrintAway_29 rfl ?_
          refine jr_zalv C ka_X_31 dX1_isPrintAway_31 (ji_in (i := o) (by omega) (by omega)) (v := σ.1 31 _) rfl ?_
          refine jr_nif_eq C 161 dX1_isPrintAway_32 (by decide) (fun b32 => ?_) (fun b32 => ?_)
          · refine jr_iinc C _ dX1_isPrintAway_161 rfl rfl (by decide) ?_
            refine jr_goto C 3 dX1_isPrintAway_164 (by decide) ?_
            exact jr_sub [(0, jf_r E 4), (1, .int f), (2, .int h), (3, .int b), (4, .int e), (5, .int x), (6, .int _)] rfl (ih _ (by omega) (by omega) (by omega) (by rw [g_sc g1 e1]; exact gE_s0 x1 (by rw [xg_pr (hN _ (by omega))]; exact decide_eq_false (by omega))))
          · refine jr_aload_n C dX1_isPrintAway_35 rfl ?_
            refine jr_getr C kf_X1_19_4 dX1_isPrintAway_36 ?_
            refine jr_getr C kf_X1_91_3 dX1_isPrintAway_39 ?_
            refine jr_iload C dX1_isPrintAway_42 rfl ?_
            refine jr_ialv C ka_X_25 dX1_isPrintAway_44 (ji_in (i := o) (by omega) (by omega)) (v := σ.1 25 _) rfl ?_
            refine jr_iload_n C dX1_isPrintAway_45 rfl ?_
            refine jr_ncmp_eq C 52 dX1_isPrintAway_46 (by decide) rfl rfl (fun b46 => ?_) (fun b46 => ?_)
            · refine jr_aload_n C dX1_isPrintAway_52 rfl ?_
              refine jr_getr C kf_X1_9_4 dX1_isPrintAway_53 ?_
              refine jr_iload_n C dX1_isPrintAway_56 rfl ?_
              refine jr_aload_n C dX1_isPrintAway_57 rfl ?_
              refine jr_getr C kf_X1_19_4 dX1_isPrintAway_58 ?_
              refine jr_getr C kf_X1_82_3 dX1_isPrintAway_61 ?_
              refine jr_iload C dX1_isPrintAway_64 rfl ?_
              refine jr_ialv C ka_X_26 dX1_isPrintAway_66 (ji_in (i := o) (by omega) (by omega)) (v := σ.1 26 _) rfl ?_
              refine jr_vip C [.int _, .int _] _ (ct_X3_wayBetween E _ _ _ hI h0 (xI_hall hI _)) ky_X3_wayBetween kv_X3_wayBetween kk_X_1 km_X1_94 (by decide) rfl (Nat.le_of_ble_eq_true rfl) dX1_isPrintAway_67 ?_
              refine jr_istore C dX1_isPrintAway_70 (by decide) ?_
              refine jr_iload_n C dX1_isPrintAway_72 rfl ?_
              refine jr_aload_n C dX1_isPrintAway_73 rfl ?_
              refine jr_getr C kf_X1_19_4 dX1_isPrintAway_74 ?_
              refine jr_getr C kf_X1_85_3 dX1_isPrintAway_77 ?_
              refine jr_iload C dX1_isPrintAway_80 rfl ?_
              refine jr_ialv C ka_X_27 dX1_isPrintAway_82 (ji_in (i := o) (by omega) (by omega)) (v := σ.1 27 _) rfl ?_
              refine jr_ncmp_le C 107 dX1_isPrintAway_83 (by decide) rfl rfl (fun b83 => ?_) (fun b83 => ?_)
              · refine jr_iconst C (v := 0) dX1_isPrintAway_107 (by decide) ?_
                refine jr_istore C dX1_isPrintAway_108 (by decide) ?_
                refine jr_iload_n C dX1_isPrintAway_110 rfl ?_
                refine jr_aload_n C dX1_isPrintAway_111 rfl ?_
                refine jr_getr C kf_X1_19_4 dX1_isPrintAway_112 ?_
                refine jr_getr C kf_X1_85_3 dX1_isPrintAway_115 ?_
                refine jr_iload C dX1_isPrintAway_118 rfl ?_
                refine jr_ialv C ka_X_27 dX1_isPrintAway_120 (ji_in (i := o) (by omega) (by omega)) (v := σ.1 27 _) rfl ?_
                refine jr_ncmp_ge C 146 dX1_isPrintAway_121 (by decide) rfl rfl (fun b121 => ?_) (fun b121 => ?_)
                · refine jr_iconst C (v := 0) dX1_isPrintAway_146 (by decide) ?_
                  refine jr_istore C dX1_isPrintAway_147 (by decide) ?_
                  refine jr_iload C dX1_isPrintAway_149 rfl ?_
                  refine jr_if_ne C 161 dX1_isPrintAway_151 (by decide) (fun b => absurd b (by decide)) (fun _ => ?_)
                  refine jr_iload C dX1_isPrintAway_154 rfl ?_
                  refine jr_if_ne C 161 dX1_isPrintAway_156 (by decide) (fun b => absurd b (by decide)) (fun _ => ?_)
                  refine jr_iconst C (v := 1) dX1_isPrintAway_159 (by decide) ?_
                  exact ret _ _ _ _ dX1_isPrintAway_160 (rfl) (by first | (have eo : o = (σ.1 3 8) := Int32.toInt_inj.mp (by omega)); exact ⟨jb_ff (by rw [← eo, x1]; decide), rfl⟩ | (have q : g_pr (x_G σ) f h b e x o.toNatClampNeg = true := by rw [xg_pr (hN _ (by omega))]; exact decide_eq_true (by omega)); exact ⟨jb_tt (gE_of q (by omega)), rfl⟩)
                · refine jr_aload_n C dX1_isPrintAway_124 rfl ?_
                  refine jr_getr C kf_X1_19_4 dX1_isPrintAway_125 ?_
                  refine jr_getr C kf_X1_85_3 dX1_isPrintAway_128 ?_
                  refine jr_iload C dX1_isPrintAway_131 rfl ?_
                  refine jr_ialv C ka_X_27 dX1_isPrintAway_133 (ji_in (i := o) (by omega) (by omega)) (v := σ.1 27 _) rfl ?_
                  refine jr_iload C dX1_isPrintAway_134 rfl ?_
                  refine jr_iload C dX1_isPrintAway_136 rfl ?_
                  refine jr_iadd C dX1_isPrintAway_138 ?_
                  refine jr_ncmp_lt C 146 dX1_isPrintAway_139 (by decide) rfl rfl (fun b139 => ?_) (fun b139 => ?_)
                  · refine jr_iconst C (v := 0) dX1_isPrintAway_146 (by decide) ?_
                    refine jr_istore C dX1_isPrintAway_147 (by decide) ?_
                    refine jr_iload C dX1_isPrintAway_149 rfl ?_
                    refine jr_if_ne C 161 dX1_isPrintAway_151 (by decide) (fun b => absurd b (by decide)) (fun _ => ?_)
                    refine jr_iload C dX1_isPrintAway_154 rfl ?_
                    refine jr_if_ne C 161 dX1_isPrintAway_156 (by decide) (fun b => absurd b (by decide)) (fun _ => ?_)
                    refine jr_iconst C (v := 1) dX1_isPrintAway_159 (by decide) ?_
                    exact ret _ _ _ _ dX1_isPrintAway_160 (rfl) (by first | (have eo : o = (σ.1 3 8) := Int32.toInt_inj.mp (by omega)); exact ⟨jb_ff (by rw [← eo, x1]; decide), rfl⟩ | (have q : g_pr (x_G σ) f h b e x o.toNatClampNeg = true := by rw [xg_pr (hN _ (by omega))]; exact decide_eq_true (by omega)); exact ⟨jb_tt (gE_of q (by omega)), rfl⟩)
                  · refine jr_iconst C (v := 1) dX1_isPrintAway_142 (by decide) ?_
                    refine jr_goto C 147 dX1_isPrintAway_143 (by decide) ?_
                    refine jr_istore C dX1_isPrintAway_147 (by decide) ?_
                    refine jr_iload C dX1_isPrintAway_149 rfl ?_
                    refine jr_if_ne C 161 dX1_isPrintAway_151 (by decide) (fun b => absurd b (by decide)) (fun _ => ?_)
                    refine jr_iload C dX1_isPrintAway_154 rfl ?_
                    refine jr_if_ne C 161 dX1_isPrintAway_156 (by decide) (fun _ => ?_) (fun b => absurd b (by decide))
                    refine jr_iinc C _ dX1_isPrintAway_161 rfl rfl (by decide) ?_
                    refine jr_goto C 3 dX1_isPrintAway_164 (by decide) ?_
                    exact jr_sub [(0, jf_r E 4), (1, .int f), (2, .int h), (3, .int b), (4, .int e), (5, .int x), (6, .int _)] rfl (ih _ (by omega) (by omega) (by omega) (by rw [g_sc g1 e1]; exact gE_s0 x1 (by rw [xg_pr (hN _ (by omega))]; exact decide_eq_false (by omega))))
              · refine jr_iload_n C dX1_isPrintAway_86 rfl ?_
                refine jr_aload_n C dX1_isPrintAway_87 rfl ?_
                refine jr_getr C kf_X1_19_4 dX1_isPrintAway_88 ?_
                refine jr_getr C kf_X1_88_3 dX1_isPrintAway_91 ?_
                refine jr_iload C dX1_isPrintAway_94 rfl ?_
                refine jr_ialv C ka_X_28 dX1_isPrintAway_96 (ji_in (i := o) (by omega) (by omega)) (v := σ.1 28 _) rfl ?_
                refine jr_iload C dX1_isPrintAway_97 rfl ?_
                refine jr_iadd C dX1_isPrintAway_99 ?_
                refine jr_ncmp_lt C 107 dX1_isPrintAway_100 (by decide) rfl rfl (fun b100 => ?_) (fun b100 => ?_)
                · refine jr_iconst C (v := 0) dX1_isPrintAway_107 (by decide) ?_
                  refine jr_istore C dX1_isPrintAway_108 (by decide) ?_
                  refine jr_iload_n C dX1_isPrintAway_110 rfl ?_
                  refine jr_aload_n C dX1_isPrintAway_111 rfl ?_
                  refine jr_getr C kf_X1_19_4 dX1_isPrintAway_112 ?_
                  refine jr_getr C kf_X1_85_3 dX1_isPrintAway_115 ?_
                  refine jr_iload C dX1_isPrintAway_118 rfl ?_
                  refine jr_ialv C ka_X_27 dX1_isPrintAway_120 (ji_in (i := o) (by omega) (by omega)) (v := σ.1 27 _) rfl ?_
                  refine jr_ncmp_ge C 146 dX1_isPrintAway_121 (by decide) rfl rfl (fun b121 => ?_) (fun b121 => ?_)
                  · refine jr_iconst C (v := 0) dX1_isPrintAway_146 (by decide) ?_
                    refine jr_istore C dX1_isPrintAway_147 (by decide) ?_
                    refine jr_iload C dX1_isPrintAway_149 rfl ?_
                    refine jr_if_ne C 161 dX1_isPrintAway_151 (by decide) (fun b => absurd b (by decide)) (fun _ => ?_)
                    refine jr_iload C dX1_isPrintAway_154 rfl ?_
                    refine jr_if_ne C 161 dX1_isPrintAway_156 (by decide) (fun b => absurd b (by decide)) (fun _ => ?_)
                    refine jr_iconst C (v := 1) dX1_isPrintAway_159 (by decide) ?_
                    exact ret _ _ _ _ dX1_isPrintAway_160 (rfl) (by first | (have eo : o = (σ.1 3 8) := Int32.toInt_inj.mp (by omega)); exact ⟨jb_ff (by rw [← eo, x1]; decide), rfl⟩ | (have q : g_pr (x_G σ) f h b e x o.toNatClampNeg = true := by rw [xg_pr (hN _ (by omega))]; exact decide_eq_true (by omega)); exact ⟨jb_tt (gE_of q (by omega)), rfl⟩)
                  · refine jr_aload_n C dX1_isPrintAway_124 rfl ?_
                    refine jr_getr C kf_X1_19_4 dX1_isPrintAway_125 ?_
                    refine jr_getr C kf_X1_85_3 dX1_isPrintAway_128 ?_
                    refine jr_iload C dX1_isPrintAway_131 rfl ?_
                    refine jr_ialv C ka_X_27 dX1_isPrintAway_133 (ji_in (i := o) (by omega) (by omega)) (v := σ.1 27 _) rfl ?_
                    refine jr_iload C dX1_isPrintAway_134 rfl ?_
                    refine jr_iload C dX1_isPrintAway_136 rfl ?_
                    refine jr_iadd C dX1_isPrintAway_138 ?_
                    refine jr_ncmp_lt C 146 dX1_isPrintAway_139 (by decide) rfl rfl (fun b139 => ?_) (fun b139 => ?_)
                    · refine jr_iconst C (v := 0) dX1_isPrintAway_146 (by decide) ?_
                      refine jr_istore C dX1_isPrintAway_147 (by decide) ?_
                      refine jr_iload C dX1_isPrintAway_149 rfl ?_
                      refine jr_if_ne C 161 dX1_isPrintAway_151 (by decide) (fun b => absurd b (by decide)) (fun _ => ?_)
                      refine jr_iload C dX1_isPrintAway_154 rfl ?_
                      refine jr_if_ne C 161 dX1_isPrintAway_156 (by decide) (fun b => absurd b (by decide)) (fun _ => ?_)
                      refine jr_iconst C (v := 1) dX1_isPrintAway_159 (by decide) ?_
                      exact ret _ _ _ _ dX1_isPrintAway_160 (rfl) (by first | (have eo : o = (σ.1 3 8) := Int32.toInt_inj.mp (by omega)); exact ⟨jb_ff (by rw [← eo, x1]; decide), rfl⟩ | (have q : g_pr (x_G σ) f h b e x o.toNatClampNeg = true := by rw [xg_pr (hN _ (by omega))]; exact decide_eq_true (by omega)); exact ⟨jb_tt (gE_of q (by omega)), rfl⟩)
                    · refine jr_iconst C (v := 1) dX1_isPrintAway_142 (by decide) ?_
                      refine jr_goto C 147 dX1_isPrintAway_143 (by decide) ?_
                      refine jr_istore C dX1_isPrintAway_147 (by decide) ?_
                      refine jr_iload C dX1_isPrintAway_149 rfl ?_
                      refine jr_if_ne C 161 dX1_isPrintAway_151 (by decide) (fun b => absurd b (by decide)) (fun _ => ?_)
                      refine jr_iload C dX1_isPrintAway_154 rfl ?_
                      refine jr_if_ne C 161 dX1_isPrintAway_156 (by decide) (fun _ => ?_) (fun b => absurd b (by decide))
                      refine jr_iinc C _ dX1_isPrintAway_161 rfl rfl (by decide) ?_
                      refine jr_goto C 3 dX1_isPrintAway_164 (by decide) ?_
                      exact jr_sub [(0, jf_r E 4), (1, .int f), (2, .int h), (3, .int b), (4, .int e), (5, .int x), (6, .int _)] rfl (ih _ (by omega) (by omega) (by omega) (by rw [g_sc g1 e1]; exact gE_s0 x1 (by rw [xg_pr (hN _ (by omega))]; exact decide_eq_false (by omega))))
                · refine jr_iconst C (v := 1) dX1_isPrintAway_103 (by decide) ?_
                  refine jr_goto C 108 dX1_isPrintAway_104 (by decide) ?_
                  refine jr_istore C dX1_isPrintAway_108 (by decide) ?_
                  refine jr_iload_n C dX1_isPrintAway_110 rfl ?_
                  refine jr_aload_n C dX1_isPrintAway_111 rfl ?_
                  refine jr_getr C kf_X1_19_4 dX1_isPrintAway_112 ?_
                  refine jr_getr C kf_X1_85_3 dX1_isPrintAway_115 ?_
                  refine jr_iload C dX1_isPrintAway_118 rfl ?_
                  refine jr_ialv C ka_X_27 dX1_isPrintAway_120 (ji_in (i := o) (by omega) (by omega)) (v := σ.1 27 _) rfl ?_
                  refine jr_ncmp_ge C 146 dX1_isPrintAway_121 (by decide) rfl rfl (fun b121 => ?_) (fun b121 => ?_)
                  · refine jr_iconst C (v := 0) dX1_isPrintAway_146 (by decide) ?_
                    refine jr_istore C dX1_isPrintAway_147 (by decide) ?_
                    refine jr_iload C dX1_isPrintAway_149 rfl ?_
                    refine jr_if_ne C 161 dX1_isPrintAway_151 (by decide) (fun _ => ?_) (fun b => absurd b (by decide))
                    refine jr_iinc C _ dX1_isPrintAway_161 rfl rfl (by decide) ?_
                    refine jr_goto C 3 dX1_isPrintAway_164 (by decide) ?_
                    exact jr_sub [(0, jf_r E 4), (1, .int f), (2, .int h), (3, .int b), (4, .int e), (5, .int x), (6, .int _)] rfl (ih _ (by omega) (by omega) (by omega) (by rw [g_sc g1 e1]; exact gE_s0 x1 (by rw [xg_pr (hN _ (by omega))]; exact decide_eq_false (by omega))))
                  · refine jr_aload_n C dX1_isPrintAway_124 rfl ?_
                    refine jr_getr C kf_X1_19_4 dX1_isPrintAway_125 ?_
                    refine jr_getr C kf_X1_85_3 dX1_isPrintAway_128 ?_
                    refine jr_iload C dX1_isPrintAway_131 rfl ?_
                    refine jr_ialv C ka_X_27 dX1_isPrintAway_133 (ji_in (i := o) (by omega) (by omega)) (v := σ.1 27 _) rfl ?_
                    refine jr_iload C dX1_isPrintAway_134 rfl ?_
                    refine jr_iload C dX1_isPrintAway_136 rfl ?_
                    refine jr_iadd C dX1_isPrintAway_138 ?_
                    refine jr_ncmp_lt C 146 dX1_isPrintAway_139 (by decide) rfl rfl (fun b139 => ?_) (fun b139 => ?_)
                    · refine jr_iconst C (v := 0) dX1_isPrintAway_146 (by decide) ?_
                      refine jr_istore C dX1_isPrintAway_147 (by decide) ?_
                      refine jr_iload C dX1_isPrintAway_149 rfl ?_
                      refine jr_if_ne C 161 dX1_isPrintAway_151 (by decide) (fun _ => ?_) (fun b => absurd b (by decide))
                      refine jr_iinc C _ dX1_isPrintAway_161 rfl rfl (by decide) ?_
                      refine jr_goto C 3 dX1_isPrintAway_164 (by decide) ?_
                      exact jr_sub [(0, jf_r E 4), (1, .int f), (2, .int h), (3, .int b), (4, .int e), (5, .int x), (6, .int _)] rfl (ih _ (by omega) (by omega) (by omega) (by rw [g_sc g1 e1]; exact gE_s0 x1 (by rw [xg_pr (hN _ (by omega))]; exact decide_eq_false (by omega))))
                    · refine jr_iconst C (v := 1) dX1_isPrintAway_142 (by decide) ?_
                      refine jr_goto C 147 dX1_isPrintAway_143 (by decide) ?_
                      refine jr_istore C dX1_isPrintAway_147 (by decide) ?_
                      refine jr_iload C dX1_isPrintAway_149 rfl ?_
                      refine jr_if_ne C 161 dX1_isPrintAway_151 (by decide) (fun _ => ?_) (fun b => absurd b (by decide))
                      refine jr_iinc C _ dX1_isPrintAway_161 rfl rfl (by decide) ?_
                      refine jr_goto C 3 dX1_isPrintAway_164 (by decide) ?_
                      exact jr_sub [(0, jf_r E 4), (1, .int f), (2, .int h), (3, .int b), (4, .int e), (5, .int x), (6, .int _)] rfl (ih _ (by omega) (by omega) (by omega) (by rw [g_sc g1 e1]; exact gE_s0 x1 (by rw [xg_pr (hN _ (by omega))]; exact decide_eq_false (by omega))))
            · refine jr_goto C 161 dX1_isPrintAway_49 (by decide) ?_
              refine jr_iinc C _ dX1_isPrintAway_161 rfl rfl (by decide) ?_
              refine jr_goto C 3 dX1_isPrintAway_164 (by decide) ?_
              exact jr_sub [(0, jf_r E 4), (1, .int f), (2, .int h), (3, .int b), (4, .int e), (5, .int x), (6, .int _)] rfl (ih _ (by omega) (by omega) (by omega) (by rw [g_sc g1 e1]; exact gE_s0 x1 (by rw [xg_pr (hN _ (by omega))]; exact decide_eq_false (by omega))))
  refine jr_iconst C (v := 0) dX1_isPrintAway_0 (by decide) ?_
  refine jr_istore C dX1_isPrintAway_1 (by decide) ?_
  exact jr_sub [(0, jf_r E 4), (1, .int f), (2, .int h), (3, .int b), (4, .int e), (5, .int x), (6, .int _)] rfl (lp 61 _ (by decide) hE.1 (by show _ - 0 < _; omega) rfl)
theorem ct_X1_manyOf2 (E : jf_E) (σ : jf_S) (f x : Int32) (hI : xI σ) : jf_I jh_X E yX1_manyOf cX1_manyOf 5 .int 0 [jf_r E 4, .int f, .int x] σ (fun r τ => r = nI (jx_ct (g_pc (x_G σ) f x) ((σ.1 3 8)).toNatClampNeg) ∧ σ = τ) := by
  refine jf_mkI (by decide) (Nat.le_of_ble_eq_true rfl) ?_
  intro G C ret
  have hE := hI.1
  have te := ji_tn hE.1
  have lp : ∀ (m : Nat) (n o : Int32), 0 ≤ o.toInt → o.toInt ≤ ((σ.1 3 8)).toInt → ((σ.1 3 8)).toInt - o.toInt < m → (n = 0 + nI (jx_ct (g_pc (x_G σ) f x) o.toNatClampNeg)) → jf_X jh_X E G 5 5 [(0, jf_r E 4), (1, .int f), (2, .int x), (3, .int n), (4, .int o)] [] σ := by
    intro m
    induction m with
    | zero => intro n o g1 g2 g3 x1; exfalso; omega
    | succ m ih =>
      intro n o g1 g2 g3 x1
      have e1 := ji_inc (k := o) (by omega)
      have to := ji_tn g1
      refine jr_iload C dX1_manyOf_5 rfl ?_
      refine jr_aload_n C dX1_manyOf_7 rfl ?_
      refine jr_getr C kf_X1_19_4 dX1_manyOf_8 ?_
      refine jr_getv C kf_X1_72_3 dX1_manyOf_11 (v := σ.1 3 8) rfl ?_
      refine jr_ncmp_ge C 59 dX1_manyOf_14 (by decide) rfl rfl (fun b14 => ?_) (fun b14 => ?_)
      · refine jr_iload_n C dX1_manyOf_59 rfl ?_
        exact ret _ _ _ _ dX1_manyOf_60 rfl (by (have eo : o = (σ.1 3 8) := Int32.toInt_inj.mp (by omega)); exact ⟨by rw [x1, eo, Int32.zero_add], rfl⟩)
      · refine jr_iload C dX1_manyOf_17 rfl ?_
        refine jr_iload_n C dX1_manyOf_19 rfl ?_
        refine jr_ncmp_eq C 53 dX1_manyOf_20 (by decide) rfl rfl (fun b20 => ?_) (fun b20 => ?_)
        · refine jr_iinc C _ dX1_manyOf_53 rfl rfl (by decide) ?_
          refine jr_goto C 5 dX1_manyOf_56 (by decide) ?_
          exact jr_sub [(0, jf_r E 4), (1, .int f), (2, .int x), (3, .int _), (4, .int _)] rfl (ih _ _ (by omega) (by omega) (by omega) (by rw [g_sc g1 e1]; first | (have q : g_pc (x_G σ) f x o.toNatClampNeg = true := by rw [xg_pc]; exact decide_eq_true (by omega)); exact gc_y x1 q | (have q : g_pc (x_G σ) f x o.toNatClampNeg = false := by rw [xg_pc]; exact decide_eq_false (by omega)); exact gc_s x1 q))
        · refine jr_aload_n C dX1_manyOf_23 rfl ?_
          refine jr_getr C kf_X1_19_4 dX1_manyOf_24 ?_
          refine jr_getr C kf_X1_78_3 dX1_manyOf_27 ?_
          refine jr_iload C dX1_manyOf_30 rfl ?_
          refine jr_zalv C ka_X_31 dX1_manyOf_32 (ji_in (i := o) (by omega) (by omega)) (v := σ.1 31 _) rfl ?_
          refine jr_nif_eq C 53 dX1_manyOf_33 (by decide) (fun b33 => ?_) (fun b33 => ?_)
          · refine jr_iinc C _ dX1_manyOf_53 rfl rfl (by decide) ?_
            refine jr_goto C 5 dX1_manyOf_56 (by decide) ?_
            exact jr_sub [(0, jf_r E 4), (1, .int f), (2, .int x), (3, .int _), (4, .int _)] rfl (ih _ _ (by omega) (by omega) (by omega) (by rw [g_sc g1 e1]; first | (have q : g_pc (x_G σ) f x o.toNatClampNeg = true := by rw [xg_pc]; exact decide_eq_true (by omega)); exact gc_y x1 q | (have q : g_pc (x_G σ) f x o.toNatClampNeg = false := by rw [xg_pc]; exact decide_eq_false (by omega)); exact gc_s x1 q))
          · refine jr_aload_n C dX1_manyOf_36 rfl ?_
            refine jr_getr C kf_X1_19_4 dX1_manyOf_37 ?_
            refine jr_getr C kf_X1_91_3 dX1_manyOf_40 ?_
            refine jr_iload C dX1_manyOf_43 rfl ?_
            refine jr_ialv C ka_X_25 dX1_manyOf_45 (ji_in (i := o) (by omega) (by omega)) (v := σ.1 25 _) rfl ?_
            refine jr_iload_n C dX1_manyOf_46 rfl ?_
            refine jr_ncmp_ne C 53 dX1_manyOf_47 (by decide) rfl rfl (fun b47 => ?_) (fun b47 => ?_)
            · refine jr_iinc C _ dX1_manyOf_53 rfl rfl (by decide) ?_
              refine jr_goto C 5 dX1_manyOf_56 (by decide) ?_
              exact jr_sub [(0, jf_r E 4), (1, .int f), (2, .int x), (3, .int _), (4, .int _)] rfl (ih _ _ (by omega) (by omega) (by omega) (by rw [g_sc g1 e1]; first | (have q : g_pc (x_G σ) f x o.toNatClampNeg = true := by rw [xg_pc]; exact decide_eq_true (by omega)); exact gc_y x1 q | (have q : g_pc (x_G σ) f x o.toNatClampNeg = false := by rw [xg_pc]; exact decide_eq_false (by omega)); exact gc_s x1 q))
            · refine jr_iinc C _ dX1_manyOf_50 rfl rfl (by decide) ?_
              refine jr_iinc C _ dX1_manyOf_53 rfl rfl (by decide) ?_
              refine jr_goto C 5 dX1_manyOf_56 (by decide) ?_
              exact jr_sub [(0, jf_r E 4), (1, .int f), (2, .int x), (3, .int _), (4, .int _)] rfl (ih _ _ (by omega) (by omega) (by omega) (by rw [g_sc g1 e1]; first | (have q : g_pc (x_G σ) f x o.toNatClampNeg = true := by rw [xg_pc]; exact decide_eq_true (by omega)); exact gc_y x1 q | (have q : g_pc (x_G σ) f x o.toNatClampNeg = false := by rw [xg_pc]; exact decide_eq_false (by omega)); exact gc_s x1 q))
  refine jr_iconst C (v := 0) dX1_manyOf_0 (by decide) ?_
  refine jr_istore_n C dX1_manyOf_1 (by decide) ?_
  refine jr_iconst C (v := 0) dX1_manyOf_2 (by decide) ?_
  refine jr_istore C dX1_manyOf_3 (by decide) ?_
  exact jr_sub [(0, jf_r E 4), (1, .int f), (2, .int x), (3, .int _), (4, .int _)] rfl (lp 61 _ _ (by decide) hE.1 (by show _ - 0 < _; omega) rfl)
theorem ct_X1_isBesideBarred2 (E : jf_E) (σ : jf_S) (f h b e x : Int32) (hI : xI σ) (hN : xN σ) (f0 : 0 ≤ f.toInt ∧ f.toInt < 20) (h0 : 0 ≤ h.toInt ∧ h.toInt < 4) : jf_I jh_X E yX1_isBesideBarred cX1_isBesideBarred 7 .boolean 1 [jf_r E 4, .int f, .int h, .int b, .int e, .int x] σ (fun r τ => r = jb (gE (g_pb (x_G σ) f h b e x) ((σ.1 3 8)).toNatClampNeg = true) ∧ σ = τ) := by
  refine jf_mkI (by decide) (Nat.le_of_ble_eq_true rfl) ?_
  intro G C ret
  have hE := hI.1
  have te := ji_tn hE.1
  have lp : ∀ (m : Nat) (o : Int32), 0 ≤ o.toInt → o.toInt ≤ ((σ.1 3 8)).toInt → ((σ.1 3 8)).toInt - o.toInt < m → (gE (g_pb (x_G σ) f h b e x) o.toNatClampNeg = false) → jf_X jh_X E G 7 3 [(0, jf_r E 4), (1, .int f), (2, .int h), (3, .int b), (4, .int e), (5, .int x), (6, .int o)] [] σ := by
    intro m
    induction m with
    | zero => intro o g1 g2 g3 x1; exfalso; omega
    | succ m ih =>
      intro o g1 g2 g3 x1
      have e1 := ji_inc (k := o) (by omega)
      have to := ji_tn g1
      refine jr_iload C dX1_isBesideBarred_3 rfl ?_
      refine jr_aload_n C dX1_isBesideBarred_5 rfl ?_
      refine jr_getr C kf_X1_19_4 dX1_isBesideBarred_6 ?_
      refine jr_getv C kf_X1_72_3 dX1_isBesideBarred_9 (v := σ.1 3 8) rfl ?_
      refine jr_ncmp_ge C 100 dX1_isBesideBarred_12 (by decide) rfl rfl (fun b12 => ?_) (fun b12 => ?_)
      · refine jr_iconst C (v := 0) dX1_isBesideBarred_100 (by decide) ?_
        exact ret _ _ _ _ dX1_isBesideBarred_101 (rfl) (by first | (have eo : o = (σ.1 3 8) := Int32.toInt_inj.mp (by omega)); exact ⟨jb_ff (by rw [← eo, x1]; decide), rfl⟩ | (have q : g_pb (x_G σ) f h b e x o.toNatClampNeg = true := by rw [xg_pb (hN _ (by omega))]; exact decide_eq_true (by omega)); exact ⟨jb_tt (gE_of q (by omega)), rfl⟩)
      · refine jr_iload C dX1_isBesideBarred_15 rfl ?_
        refine jr_iload C dX1_isBesideBarred_17 rfl ?_
        refine jr_ncmp_eq C 94 dX1_isBesideBarred_19 (by decide) rfl rfl (fun b19 => ?_) (fun b19 => ?_)
        · refine jr_iinc C _ dX1_isBesideBarred_94 rfl rfl (by decide) ?_
          refine jr_goto C 3 dX1_isBesideBarred_97 (by decide) ?_
          exact jr_sub [(0, jf_r E 4), (1, .int f), (2, .int h), (3, .int b), (4, .int e), (5, .int x), (6, .int _)] rfl (ih _ (by omega) (by omega) (by omega) (by rw [g_sc g1 e1]; exact gE_s0 x1 (by rw [xg_pb (hN _ (by omega))]; exact decide_eq_false (by omega))))
        · refine jr_aload_n C dX1_isBesideBarred_22 rfl ?_
          refine jr_getr C kf_X1_19_4 dX1_isBesideBarred_23 ?_
          refine jr_getr C kf_X1_78_3 dX1_isBesideBarred_26 ?_
          refine jr_iload C dX1_isBesideBarred_29 rfl ?_
          refine jr_zalv C ka_X_31 dX1_isBesideBarred_31 (ji_in (i := o) (by omega) (by omega)) (v := σ.1 31 _) rfl ?_
          refine jr_nif_eq C 94 dX1_isBesideBarred_32 (by decide) (fun b32 => ?_) (fun b32 => ?_)
          · refine jr_iinc C _ dX1_isBesideBarred_94 rfl rfl (by decide) ?_
            refine jr_goto C 3 dX1_isBesideBarred_97 (by decide) ?_
            exact jr_sub [(0, jf_r E 4), (1, .int f), (2, .int h), (3, .int b), (4, .int e), (5, .int x), (6, .int _)] rfl (ih _ (by omega) (by omega) (by omega) (by rw [g_sc g1 e1]; exact gE_s0 x1 (by rw [xg_pb (hN _ (by omega))]; exact decide_eq_false (by omega))))
          · refine jr_aload_n C dX1_isBesideBarred_35 rfl ?_
            refine jr_getr C kf_X1_15_4 dX1_isBesideBarred_36 ?_
            refine jr_iload_n C dX1_isBesideBarred_39 rfl ?_
            refine jr_aload_n C dX1_isBesideBarred_40 rfl ?_
            refine jr_getr C kf_X1_19_4 dX1_isBesideBarred_41 ?_
            refine jr_getr C kf_X1_91_3 dX1_isBesideBarred_44 ?_
            refine jr_iload C dX1_isBesideBarred_47 rfl ?_
            refine jr_ialv C ka_X_25 dX1_isBesideBarred_49 (ji_in (i := o) (by omega) (by omega)) (v := σ.1 25 _) rfl ?_
            refine jr_vip C [.int _, .int _] _ (ct_X2_barOneAnother E _ _ _ f0 (xI_film hI _)) ky_X2_barOneAnother kv_X2_barOneAnother kk_X_2 km_X1_97 (by decide) rfl (Nat.le_of_ble_eq_true rfl) dX1_isBesideBarred_50 ?_
            refine jr_if_eq C 94 dX1_isBesideBarred_53 (by decide) (fun b53 => ?_) (fun b53 => ?_)
            · replace b53 := jb_f b53
              refine jr_iinc C _ dX1_isBesideBarred_94 rfl rfl (by decide) ?_
              refine jr_goto C 3 dX1_isBesideBarred_97 (by decide) ?_
              exact jr_sub [(0, jf_r E 4), (1, .int f), (2, .int h), (3, .int b), (4, .int e), (5, .int x), (6, .int _)] rfl (ih _ (by omega) (by omega) (by omega) (by rw [g_sc g1 e1]; exact gE_s0 x1 (by rw [xg_pb (hN _ (by omega))]; exact decide_eq_false (by omega))))
            · replace b53 := jb_t b53
              refine jr_aload_n C dX1_isBesideBarred_56 rfl ?_
              refine jr_getr C kf_X1_9_4 dX1_isBesideBarred_57 ?_
              refine jr_iload_n C dX1_isBesideBarred_60 rfl ?_
              refine jr_aload_n C dX1_isBesideBarred_61 rfl ?_
              refine jr_getr C kf_X1_19_4 dX1_isBesideBarred_62 ?_
              refine jr_getr C kf_X1_82_3 dX1_isBesideBarred_65 ?_
              refine jr_iload C dX1_isBesideBarred_68 rfl ?_
              refine jr_ialv C ka_X_26 dX1_isBesideBarred_70 (ji_in (i := o) (by omega) (by omega)) (v := σ.1 26 _) rfl ?_
              refine jr_vip C [.int _, .int _] _ (ct_X3_inOneTown E _ _ _ h0 (xI_hall hI _)) ky_X3_inOneTown kv_X3_inOneTown kk_X_1 km_X1_101 (by decide) rfl (Nat.le_of_ble_eq_true rfl) dX1_isBesideBarred_71 ?_
              refine jr_if_eq C 94 dX1_isBesideBarred_74 (by decide) (fun b74 => ?_) (fun b74 => ?_)
              · replace b74 := jb_f b74
                refine jr_iinc C _ dX1_isBesideBarred_94 rfl rfl (by decide) ?_
                refine jr_goto C 3 dX1_isBesideBarred_97 (by decide) ?_
                exact jr_sub [(0, jf_r E 4), (1, .int f), (2, .int h), (3, .int b), (4, .int e), (5, .int x), (6, .int _)] rfl (ih _ (by omega) (by omega) (by omega) (by rw [g_sc g1 e1]; exact gE_s0 x1 (by rw [xg_pb (hN _ (by omega))]; exact decide_eq_false (by omega))))
              · replace b74 := jb_t b74
                refine jr_aload_n C dX1_isBesideBarred_77 rfl ?_
                refine jr_getr C kf_X1_19_4 dX1_isBesideBarred_78 ?_
                refine jr_iload C dX1_isBesideBarred_81 rfl ?_
                refine jr_iload_n C dX1_isBesideBarred_83 rfl ?_
                refine jr_iload C dX1_isBesideBarred_84 rfl ?_
                refine jr_vip C [.int _, .int _, .int _] _ (ct_X8_runsWithin E _ _ _ _ ⟨by omega, by omega⟩) ky_X8_runsWithin kv_X8_runsWithin kk_X_3 km_X1_104 (by decide) rfl (Nat.le_of_ble_eq_true rfl) dX1_isBesideBarred_86 ?_
                refine jr_if_eq C 94 dX1_isBesideBarred_89 (by decide) (fun b89 => ?_) (fun b89 => ?_)
                · replace b89 := jb_f b89
                  refine jr_iinc C _ dX1_isBesideBarred_94 rfl rfl (by decide) ?_
                  refine jr_goto C 3 dX1_isBesideBarred_97 (by decide) ?_
                  exact jr_sub [(0, jf_r E 4), (1, .int f), (2, .int h), (3, .int b), (4, .int e), (5, .int x), (6, .int _)] rfl (ih _ (by omega) (by omega) (by omega) (by rw [g_sc g1 e1]; exact gE_s0 x1 (by rw [xg_pb (hN _ (by omega))]; exact decide_eq_false (by omega))))
                · replace b89 := jb_t b89
                  refine jr_iconst C (v := 1) dX1_isBesideBarred_92 (by decide) ?_
                  exact ret _ _ _ _ dX1_isBesideBarred_93 (rfl) (by first | (have eo : o = (σ.1 3 8) := Int32.toInt_inj.mp (by omega)); exact ⟨jb_ff (by rw [← eo, x1]; decide), rfl⟩ | (have q : g_pb (x_G σ) f h b e x o.toNatClampNeg = true := by rw [xg_pb (hN _ (by omega))]; exact decide_eq_true (by omega)); exact ⟨jb_tt (gE_of q (by omega)), rfl⟩)
  refine jr_iconst C (v := 0) dX1_isBesideBarred_0 (by decide) ?_
  refine jr_istore C dX1_isBesideBarred_1 (by decide) ?_
  exact jr_sub [(0, jf_r E 4), (1, .int f), (2, .int h), (3, .int b), (4, .int e), (5, .int x), (6, .int _)] rfl (lp 61 _ (by decide) hE.1 (by show _ - 0 < _; omega) rfl)
theorem g_ct_i {p : Nat → Bool} {n : Nat} (hn : n ≤ 60) : (nI (jx_ct p n)).toInt = (jx_ct p n : Int) ∧ (1 + nI (jx_ct p n)).toInt = (jx_ct p n : Int) + 1 := by
  have h := jx_ct_le p n
  have e : (nI (jx_ct p n)).toInt = (jx_ct p n : Int) := nI_toInt (by omega)
  refine ⟨e, ?_⟩
  rw [Int32.add_comm, ji_inc1 (by omega), e]
theorem ct_X1_reason2 (E : jf_E) (σ : jf_S) (f h b s x : Int32) (hI : xI σ) (hN : xN σ) (f0 : 0 ≤ f.toInt ∧ f.toInt < 20) (h0 : 0 ≤ h.toInt ∧ h.toInt < 4) : jf_I jh_X E yX1_reason cX1_reason 7 .int 2 [jf_r E 4, .int f, .int h, .int b, .int s, .int x] σ (fun r τ => ((jx_ct (g_pc (x_G σ) f x) ((σ.1 3 8)).toNatClampNeg < 60 → r = g_why (x_G σ) ((σ.1 3 8)).toNatClampNeg f h b s x) ∧ (0 ≤ r.toInt ∧ r.toInt ≤ 9)) ∧ σ = τ) := by
  refine jf_mkI (by decide) (Nat.le_of_ble_eq_true rfl) ?_
  intro G C ret
  have hE := hI.1
  have te := ji_tn hE.1
  have cc := g_ct_i (p := g_pc (x_G σ) f x) (n := ((σ.1 3 8)).toNatClampNeg) (by omega)
  refine jr_iload_n C dX1_reason_0 rfl ?_
  refine jr_aload_n C dX1_reason_1 rfl ?_
  refine jr_getr C kf_X1_15_4 dX1_reason_2 ?_
  refine jr_getr C kf_X1_23_2 dX1_reason_5 ?_
  refine jr_iload_n C dX1_reason_8 rfl ?_
  refine jr_ialv C ka_X_17 dX1_reason_9 (ji_in f0.1 f0.2) (v := σ.1 17 _) rfl ?_
  refine jr_iadd C dX1_reason_10 ?_
  refine jr_istore C dX1_reason_11 (by decide) ?_
  refine jr_iload C dX1_reason_13 rfl ?_
  refine jr_sipush C (v := 14400) dX1_reason_15 (by decide) ?_
  refine jr_ncmp_le C (b := 14400) 23 dX1_reason_18 (by decide) rfl rfl (fun b18 => ?_) (fun b18 => ?_)
  · refine jr_aload_n C dX1_reason_23 rfl ?_
    refine jr_getr C kf_X1_9_4 dX1_reason_24 ?_
    refine jr_getr C kf_X1_29_1 dX1_reason_27 ?_
    refine jr_iload_n C dX1_reason_30 rfl ?_
    refine jr_ialv C ka_X_15 dX1_reason_31 (ji_in h0.1 h0.2) (v := σ.1 15 _) rfl ?_
    refine jr_aload_n C dX1_reason_32 rfl ?_
    refine jr_getr C kf_X1_15_4 dX1_reason_33 ?_
    refine jr_getr C kf_X1_34_2 dX1_reason_36 ?_
    refine jr_iload_n C dX1_reason_39 rfl ?_
    refine jr_ialv C ka_X_18 dX1_reason_40 (ji_in f0.1 f0.2) (v := σ.1 18 _) rfl ?_
    refine jr_ishr C dX1_reason_41 ?_
    refine jr_iconst C (v := 1) dX1_reason_42 (by decide) ?_
    refine jr_iand C dX1_reason_43 ?_
    refine jr_nif_ne C 49 dX1_reason_44 (by decide) (fun b44 => ?_) (fun b44 => ?_)
    · refine jr_aload_n C dX1_reason_49 rfl ?_
      refine jr_iload_n C dX1_reason_50 rfl ?_
      refine jr_iload_n C dX1_reason_51 rfl ?_
      refine jr_iload C dX1_reason_52 rfl ?_
      refine jr_iload C dX1_reason_54 rfl ?_
      refine jr_vi C [.int _, .int _, .int _, .int _] _ (ct_X1_isHallTaken2 E _ _ _ _ _ hI hN h0) ky_X1_isHallTaken kv_X1_isHallTaken kk_X_4 km_X1_37 (by decide) rfl (Nat.le_of_ble_eq_true rfl) dX1_reason_56 (fun r56 τ56 h56 => ?_)
      obtain ⟨q56, rfl⟩ := h56
      refine jr_nif_eq C 64 dX1_reason_59 (by decide) (fun b59 => ?_) (fun b59 => ?_)
      · refine jr_aload_n C dX1_reason_64 rfl ?_
        refine jr_iload_n C dX1_reason_65 rfl ?_
        refine jr_iload_n C dX1_reason_66 rfl ?_
        refine jr_iload_n C dX1_reason_67 rfl ?_
        refine jr_iload C dX1_reason_68 rfl ?_
        refine jr_iload C dX1_reason_70 rfl ?_
        refine jr_vi C [.int _, .int _, .int _, .int _, .int _] _ (ct_X1_isPrintAway2 E _ _ _ _ _ _ hI hN h0) ky_X1_isPrintAway kv_X1_isPrintAway kk_X_4 km_X1_41 (by decide) rfl (Nat.le_of_ble_eq_true rfl) dX1_reason_72 (fun r72 τ72 h72 => ?_)
        obtain ⟨q72, rfl⟩ := h72
        refine jr_nif_eq C 80 dX1_reason_75 (by decide) (fun b75 => ?_) (fun b75 => ?_)
        · refine jr_iload C dX1_reason_80 rfl ?_
          refine jr_iconst C (v := 1) dX1_reason_82 (by decide) ?_
          refine jr_ncmp_ne C (b := 1) 102 dX1_reason_83 (by decide) rfl rfl (fun b83 => ?_) (fun b83 => ?_)
          · refine jr_iload C dX1_reason_102 rfl ?_
            refine jr_iconst C (v := 2) dX1_reason_104 (by decide) ?_
            refine jr_ncmp_ne C (b := 2) 118 dX1_reason_105 (by decide) rfl rfl (fun b105 => ?_) (fun b105 => ?_)
            · refine jr_iload_n C dX1_reason_118 rfl ?_
              refine jr_aload_n C dX1_reason_119 rfl ?_
              refine jr_getr C kf_X1_15_4 dX1_reason_120 ?_
              refine jr_getr C kf_X1_53_2 dX1_reason_123 ?_
              refine jr_iload_n C dX1_reason_126 rfl ?_
              refine jr_ialv C ka_X_22 dX1_reason_127 (ji_in f0.1 f0.2) (v := σ.1 22 _) rfl ?_
              refine jr_ncmp_ge C 134 dX1_reason_128 (by decide) rfl rfl (fun b128 => ?_) (fun b128 => ?_)
              · refine jr_aload_n C dX1_reason_134 rfl ?_
                refine jr_getr C kf_X1_15_4 dX1_reason_135 ?_
                refine jr_iload_n C dX1_reason_138 rfl ?_
                refine jr_vip C [.int _] _ (ct_X2_isBarredAtMost E _ _ f0) ky_X2_isBarredAtMost kv_X2_isBarredAtMost kk_X_2 km_X1_56 (by decide) rfl (Nat.le_of_ble_eq_true rfl) dX1_reason_139 ?_
                refine jr_if_eq C 167 dX1_reason_142 (by decide) (fun b142 => ?_) (fun b142 => ?_)
                · replace b142 := jb_f b142
                  refine jr_aload_n C dX1_reason_167 rfl ?_
                  refine jr_iload_n C dX1_reason_168 rfl ?_
                  refine jr_iload_n C dX1_reason_169 rfl ?_
                  refine jr_iload_n C dX1_reason_170 rfl ?_
                  refine jr_iload C dX1_reason_171 rfl ?_
                  refine jr_iload C dX1_reason_173 rfl ?_
                  refine jr_vi C [.int _, .int _, .int _, .int _, .int _] _ (ct_X1_isBesideBarred2 E _ _ _ _ _ _ hI hN f0 h0) ky_X1_isBesideBarred kv_X1_isBesideBarred kk_X_4 km_X1_66 (by decide) rfl (Nat.le_of_ble_eq_true rfl) dX1_reason_175 (fun r175 τ175 h175 => ?_)
                  obtain ⟨q175, rfl⟩ := h175
                  refine jr_nif_eq C 186 dX1_reason_178 (by decide) (fun b178 => ?_) (fun b178 => ?_)
                  · refine jr_iconst C (v := 0) dX1_reason_186 (by decide) ?_
                    exact ret _ _ _ _ dX1_reason_187 rfl (⟨⟨fun hc => by rw [x_why_w (by omega) (by omega), x_wt, ← q56, ← q72, ← q175]; (repeat' split) <;> first | rfl | (exfalso; omega), by decide⟩, rfl⟩)
                  · refine jr_bipush C (v := 9) dX1_reason_181 (by decide) ?_
                    refine jr_goto C 187 dX1_reason_183 (by decide) ?_
                    exact ret _ _ _ _ dX1_reason_187 rfl (⟨⟨fun hc => by rw [x_why_w (by omega) (by omega), x_wt, ← q56, ← q72, ← q175]; (repeat' split) <;> first | rfl | (exfalso; omega), by decide⟩, rfl⟩)
                · replace b142 := jb_t b142
                  refine jr_aload_n C dX1_reason_145 rfl ?_
                  refine jr_iload_n C dX1_reason_146 rfl ?_
                  refine jr_iload C dX1_reason_147 rfl ?_
                  refine jr_vi C [.int _, .int _] _ (ct_X1_manyOf2 E _ _ _ hI) ky_X1_manyOf kv_X1_manyOf kk_X_4 km_X1_59 (by decide) rfl (Nat.le_of_ble_eq_true rfl) dX1_reason_149 (fun r149 τ149 h149 => ?_)
                  obtain ⟨q149, rfl⟩ := h149; have c149 := congrArg Int32.toInt q149
                  refine jr_aload_n C dX1_reason_152 rfl ?_
                  refine jr_getr C kf_X1_15_4 dX1_reason_153 ?_
                  refine jr_getr C kf_X1_63_2 dX1_reason_156 ?_
                  refine jr_iload_n C dX1_reason_159 rfl ?_
                  refine jr_ialv C ka_X_23 dX1_reason_160 (ji_in f0.1 f0.2) (v := σ.1 23 _) rfl ?_
                  refine jr_ncmp_lt C 167 dX1_reason_161 (by decide) rfl rfl (fun b161 => ?_) (fun b161 => ?_)
                  · refine jr_aload_n C dX1_reason_167 rfl ?_
                    refine jr_iload_n C dX1_reason_168 rfl ?_
                    refine jr_iload_n C dX1_reason_169 rfl ?_
                    refine jr_iload_n C dX1_reason_170 rfl ?_
                    refine jr_iload C dX1_reason_171 rfl ?_
                    refine jr_iload C dX1_reason_173 rfl ?_
                    refine jr_vi C [.int _, .int _, .int _, .int _, .int _] _ (ct_X1_isBesideBarred2 E _ _ _ _ _ _ hI hN f0 h0) ky_X1_isBesideBarred kv_X1_isBesideBarred kk_X_4 km_X1_66 (by decide) rfl (Nat.le_of_ble_eq_true rfl) dX1_reason_175 (fun r175 τ175 h175 => ?_)
                    obtain ⟨q175, rfl⟩ := h175
                    refine jr_nif_eq C 186 dX1_reason_178 (by decide) (fun b178 => ?_) (fun b178 => ?_)
                    · refine jr_iconst C (v := 0) dX1_reason_186 (by decide) ?_
                      exact ret _ _ _ _ dX1_reason_187 rfl (⟨⟨fun hc => by rw [x_why_w (by omega) (by omega), x_wt, ← q56, ← q72, ← q175]; (repeat' split) <;> first | rfl | (exfalso; omega), by decide⟩, rfl⟩)
                    · refine jr_bipush C (v := 9) dX1_reason_181 (by decide) ?_
                      refine jr_goto C 187 dX1_reason_183 (by decide) ?_
                      exact ret _ _ _ _ dX1_reason_187 rfl (⟨⟨fun hc => by rw [x_why_w (by omega) (by omega), x_wt, ← q56, ← q72, ← q175]; (repeat' split) <;> first | rfl | (exfalso; omega), by decide⟩, rfl⟩)
                  · refine jr_bipush C (v := 8) dX1_reason_164 (by decide) ?_
                    exact ret _ _ _ _ dX1_reason_166 rfl (⟨⟨fun hc => by rw [x_why_w (by omega) (by omega), x_wt, ← q56, ← q72]; (repeat' split) <;> first | rfl | (exfalso; omega), by decide⟩, rfl⟩)
              · refine jr_bipush C (v := 7) dX1_reason_131 (by decide) ?_
                exact ret _ _ _ _ dX1_reason_133 rfl (⟨⟨fun hc => by rw [x_why_w (by omega) (by omega), x_wt, ← q56, ← q72]; (repeat' split) <;> first | rfl | (exfalso; omega), by decide⟩, rfl⟩)
            · refine jr_iload_n C dX1_reason_108 rfl ?_
              refine jr_sip C [.int _] _ (ct_X1_isLateHour E _ _) ky_X1_isLateHour ks_X1_isLateHour km_X1_49 (by decide) rfl (Nat.le_of_ble_eq_true rfl) dX1_reason_109 ?_
              refine jr_if_ne C 118 dX1_reason_112 (by decide) (fun b112 => ?_) (fun b112 => ?_)
              · replace b112 := jb_t b112
                refine jr_iload_n C dX1_reason_118 rfl ?_
                refine jr_aload_n C dX1_reason_119 rfl ?_
                refine jr_getr C kf_X1_15_4 dX1_reason_120 ?_
                refine jr_getr C kf_X1_53_2 dX1_reason_123 ?_
                refine jr_iload_n C dX1_reason_126 rfl ?_
                refine jr_ialv C ka_X_22 dX1_reason_127 (ji_in f0.1 f0.2) (v := σ.1 22 _) rfl ?_
                refine jr_ncmp_ge C 134 dX1_reason_128 (by decide) rfl rfl (fun b128 => ?_) (fun b128 => ?_)
                · refine jr_aload_n C dX1_reason_134 rfl ?_
                  refine jr_getr C kf_X1_15_4 dX1_reason_135 ?_
                  refine jr_iload_n C dX1_reason_138 rfl ?_
                  refine jr_vip C [.int _] _ (ct_X2_isBarredAtMost E _ _ f0) ky_X2_isBarredAtMost kv_X2_isBarredAtMost kk_X_2 km_X1_56 (by decide) rfl (Nat.le_of_ble_eq_true rfl) dX1_reason_139 ?_
                  refine jr_if_eq C 167 dX1_reason_142 (by decide) (fun b142 => ?_) (fun b142 => ?_)
                  · replace b142 := jb_f b142
                    refine jr_aload_n C dX1_reason_167 rfl ?_
                    refine jr_iload_n C dX1_reason_168 rfl ?_
                    refine jr_iload_n C dX1_reason_169 rfl ?_
                    refine jr_iload_n C dX1_reason_170 rfl ?_
                    refine jr_iload C dX1_reason_171 rfl ?_
                    refine jr_iload C dX1_reason_173 rfl ?_
                    refine jr_vi C [.int _, .int _, .int _, .int _, .int _] _ (ct_X1_isBesideBarred2 E _ _ _ _ _ _ hI hN f0 h0) ky_X1_isBesideBarred kv_X1_isBesideBarred kk_X_4 km_X1_66 (by decide) rfl (Nat.le_of_ble_eq_true rfl) dX1_reason_175 (fun r175 τ175 h175 => ?_)
                    obtain ⟨q175, rfl⟩ := h175
                    refine jr_nif_eq C 186 dX1_reason_178 (by decide) (fun b178 => ?_) (fun b178 => ?_)
                    · refine jr_iconst C (v := 0) dX1_reason_186 (by decide) ?_
                      exact ret _ _ _ _ dX1_reason_187 rfl (⟨⟨fun hc => by rw [x_why_w (by omega) (by omega), x_wt, ← q56, ← q72, ← q175]; (repeat' split) <;> first | rfl | (exfalso; omega), by decide⟩, rfl⟩)
                    · refine jr_bipush C (v := 9) dX1_reason_181 (by decide) ?_
                      refine jr_goto C 187 dX1_reason_183 (by decide) ?_
                      exact ret _ _ _ _ dX1_reason_187 rfl (⟨⟨fun hc => by rw [x_why_w (by omega) (by omega), x_wt, ← q56, ← q72, ← q175]; (repeat' split) <;> first | rfl | (exfalso; omega), by decide⟩, rfl⟩)
                  · replace b142 := jb_t b142
                    refine jr_aload_n C dX1_reason_145 rfl ?_
                    refine jr_iload_n C dX1_reason_146 rfl ?_
                    refine jr_iload C dX1_reason_147 rfl ?_
                    refine jr_vi C [.int _, .int _] _ (ct_X1_manyOf2 E _ _ _ hI) ky_X1_manyOf kv_X1_manyOf kk_X_4 km_X1_59 (by decide) rfl (Nat.le_of_ble_eq_true rfl) dX1_reason_149 (fun r149 τ149 h149 => ?_)
                    obtain ⟨q149, rfl⟩ := h149; have c149 := congrArg Int32.toInt q149
                    refine jr_aload_n C dX1_reason_152 rfl ?_
                    refine jr_getr C kf_X1_15_4 dX1_reason_153 ?_
                    refine jr_getr C kf_X1_63_2 dX1_reason_156 ?_
                    refine jr_iload_n C dX1_reason_159 rfl ?_
                    refine jr_ialv C ka_X_23 dX1_reason_160 (ji_in f0.1 f0.2) (v := σ.1 23 _) rfl ?_
                    refine jr_ncmp_lt C 167 dX1_reason_161 (by decide) rfl rfl (fun b161 => ?_) (fun b161 => ?_)
                    · refine jr_aload_n C dX1_reason_167 rfl ?_
                      refine jr_iload_n C dX1_reason_168 rfl ?_
                      refine jr_iload_n C dX1_reason_169 rfl ?_
                      refine jr_iload_n C dX1_reason_170 rfl ?_
                      refine jr_iload C dX1_reason_171 rfl ?_
                      refine jr_iload C dX1_reason_173 rfl ?_
                      refine jr_vi C [.int _, .int _, .int _, .int _, .int _] _ (ct_X1_isBesideBarred2 E _ _ _ _ _ _ hI hN f0 h0) ky_X1_isBesideBarred kv_X1_isBesideBarred kk_X_4 km_X1_66 (by decide) rfl (Nat.le_of_ble_eq_true rfl) dX1_reason_175 (fun r175 τ175 h175 => ?_)
                      obtain ⟨q175, rfl⟩ := h175
                      refine jr_nif_eq C 186 dX1_reason_178 (by decide) (fun b178 => ?_) (fun b178 => ?_)
                      · refine jr_iconst C (v := 0) dX1_reason_186 (by decide) ?_
                        exact ret _ _ _ _ dX1_reason_187 rfl (⟨⟨fun hc => by rw [x_why_w (by omega) (by omega), x_wt, ← q56, ← q72, ← q175]; (repeat' split) <;> first | rfl | (exfalso; omega), by decide⟩, rfl⟩)
                      · refine jr_bipush C (v := 9) dX1_reason_181 (by decide) ?_
                        refine jr_goto C 187 dX1_reason_183 (by decide) ?_
                        exact ret _ _ _ _ dX1_reason_187 rfl (⟨⟨fun hc => by rw [x_why_w (by omega) (by omega), x_wt, ← q56, ← q72, ← q175]; (repeat' split) <;> first | rfl | (exfalso; omega), by decide⟩, rfl⟩)
                    · refine jr_bipush C (v := 8) dX1_reason_164 (by decide) ?_
                      exact ret _ _ _ _ dX1_reason_166 rfl (⟨⟨fun hc => by rw [x_why_w (by omega) (by omega), x_wt, ← q56, ← q72]; (repeat' split) <;> first | rfl | (exfalso; omega), by decide⟩, rfl⟩)
                · refine jr_bipush C (v := 7) dX1_reason_131 (by decide) ?_
                  exact ret _ _ _ _ dX1_reason_133 rfl (⟨⟨fun hc => by rw [x_why_w (by omega) (by omega), x_wt, ← q56, ← q72]; (repeat' split) <;> first | rfl | (exfalso; omega), by decide⟩, rfl⟩)
              · replace b112 := jb_f b112
                refine jr_bipush C (v := 6) dX1_reason_115 (by decide) ?_
                exact ret _ _ _ _ dX1_reason_117 rfl (⟨⟨fun hc => by rw [x_why_w (by omega) (by omega), x_wt, ← q56, ← q72]; (repeat' split) <;> first | rfl | (exfalso; omega), by decide⟩, rfl⟩)
          · refine jr_aload_n C dX1_reason_86 rfl ?_
            refine jr_getr C kf_X1_15_4 dX1_reason_87 ?_
            refine jr_iload_n C dX1_reason_90 rfl ?_
            refine jr_iload_n C dX1_reason_91 rfl ?_
            refine jr_iload C dX1_reason_92 rfl ?_
            refine jr_vip C [.int _, .int _, .int _] _ (ct_X2_guestStays E _ _ _ _ f0) ky_X2_guestStays kv_X2_guestStays kk_X_2 km_X1_45 (by decide) rfl (Nat.le_of_ble_eq_true rfl) dX1_reason_94 ?_
            refine jr_if_ne C 102 dX1_reason_97 (by decide) (fun b97 => ?_) (fun b97 => ?_)
            · replace b97 := jb_t b97
              refine jr_iload C dX1_reason_102 rfl ?_
              refine jr_iconst C (v := 2) dX1_reason_104 (by decide) ?_
              refine jr_ncmp_ne C (b := 2) 118 dX1_reason_105 (by decide) rfl rfl (fun b105 => ?_) (fun b105 => ?_)
              · refine jr_iload_n C dX1_reason_118 rfl ?_
                refine jr_aload_n C dX1_reason_119 rfl ?_
                refine jr_getr C kf_X1_15_4 dX1_reason_120 ?_
                refine jr_getr C kf_X1_53_2 dX1_reason_123 ?_
                refine jr_iload_n C dX1_reason_126 rfl ?_
                refine jr_ialv C ka_X_22 dX1_reason_127 (ji_in f0.1 f0.2) (v := σ.1 22 _) rfl ?_
                refine jr_ncmp_ge C 134 dX1_reason_128 (by decide) rfl rfl (fun b128 => ?_) (fun b128 => ?_)
                · refine jr_aload_n C dX1_reason_134 rfl ?_
                  refine jr_getr C kf_X1_15_4 dX1_reason_135 ?_
                  refine jr_iload_n C dX1_reason_138 rfl ?_
                  refine jr_vip C [.int _] _ (ct_X2_isBarredAtMost E _ _ f0) ky_X2_isBarredAtMost kv_X2_isBarredAtMost kk_X_2 km_X1_56 (by decide) rfl (Nat.le_of_ble_eq_true rfl) dX1_reason_139 ?_
                  refine jr_if_eq C 167 dX1_reason_142 (by decide) (fun b142 => ?_) (fun b142 => ?_)
                  · replace b142 := jb_f b142
                    refine jr_aload_n C dX1_reason_167 rfl ?_
                    refine jr_iload_n C dX1_reason_168 rfl ?_
                    refine jr_iload_n C dX1_reason_169 rfl ?_
                    refine jr_iload_n C dX1_reason_170 rfl ?_
                    refine jr_iload C dX1_reason_171 rfl ?_
                    refine jr_iload C dX1_reason_173 rfl ?_
                    refine jr_vi C [.int _, .int _, .int _, .int _, .int _] _ (ct_X1_isBesideBarred2 E _ _ _ _ _ _ hI hN f0 h0) ky_X1_isBesideBarred kv_X1_isBesideBarred kk_X_4 km_X1_66 (by decide) rfl (Nat.le_of_ble_eq_true rfl) dX1_reason_175 (fun r175 τ175 h175 => ?_)
                    obtain ⟨q175, rfl⟩ := h175
                    refine jr_nif_eq C 186 dX1_reason_178 (by decide) (fun b178 => ?_) (fun b178 => ?_)
                    · refine jr_iconst C (v := 0) dX1_reason_186 (by decide) ?_
                      exact ret _ _ _ _ dX1_reason_187 rfl (⟨⟨fun hc => by rw [x_why_w (by omega) (by omega), x_wt, ← q56, ← q72, ← q175]; (repeat' split) <;> first | rfl | (exfalso; omega), by decide⟩, rfl⟩)
                    · refine jr_bipush C (v := 9) dX1_reason_181 (by decide) ?_
                      refine jr_goto C 187 dX1_reason_183 (by decide) ?_
                      exact ret _ _ _ _ dX1_reason_187 rfl (⟨⟨fun hc => by rw [x_why_w (by omega) (by omega), x_wt, ← q56, ← q72, ← q175]; (repeat' split) <;> first | rfl | (exfalso; omega), by decide⟩, rfl⟩)
                  · replace b142 := jb_t b142
                    refine jr_aload_n C dX1_reason_145 rfl ?_
                    refine jr_iload_n C dX1_reason_146 rfl ?_
                    refine jr_iload C dX1_reason_147 rfl ?_
                    refine jr_vi C [.int _, .int _] _ (ct_X1_manyOf2 E _ _ _ hI) ky_X1_manyOf kv_X1_manyOf kk_X_4 km_X1_59 (by decide) rfl (Nat.le_of_ble_eq_true rfl) dX1_reason_149 (fun r149 τ149 h149 => ?_)
                    obtain ⟨q149, rfl⟩ := h149; have c149 := congrArg Int32.toInt q149
                    refine jr_aload_n C dX1_reason_152 rfl ?_
                    refine jr_getr C kf_X1_15_4 dX1_reason_153 ?_
                    refine jr_getr C kf_X1_63_2 dX1_reason_156 ?_
                    refine jr_iload_n C dX1_reason_159 rfl ?_
                    refine jr_ialv C ka_X_23 dX1_reason_160 (ji_in f0.1 f0.2) (v := σ.1 23 _) rfl ?_
                    refine jr_ncmp_lt C 167 dX1_reason_161 (by decide) rfl rfl (fun b161 => ?_) (fun b161 => ?_)
                    · refine jr_aload_n C dX1_reason_167 rfl ?_
                      refine jr_iload_n C dX1_reason_168 rfl ?_
                      refine jr_iload_n C dX1_reason_169 rfl ?_
                      refine jr_iload_n C dX1_reason_170 rfl ?_
                      refine jr_iload C dX1_reason_171 rfl ?_
                      refine jr_iload C dX1_reason_173 rfl ?_
                      refine jr_vi C [.int _, .int _, .int _, .int _, .int _] _ (ct_X1_isBesideBarred2 E _ _ _ _ _ _ hI hN f0 h0) ky_X1_isBesideBarred kv_X1_isBesideBarred kk_X_4 km_X1_66 (by decide) rfl (Nat.le_of_ble_eq_true rfl) dX1_reason_175 (fun r175 τ175 h175 => ?_)
                      obtain ⟨q175, rfl⟩ := h175
                      refine jr_nif_eq C 186 dX1_reason_178 (by decide) (fun b178 => ?_) (fun b178 => ?_)
                      · refine jr_iconst C (v := 0) dX1_reason_186 (by decide) ?_
                        exact ret _ _ _ _ dX1_reason_187 rfl (⟨⟨fun hc => by rw [x_why_w (by omega) (by omega), x_wt, ← q56, ← q72, ← q175]; (repeat' split) <;> first | rfl | (exfalso; omega), by decide⟩, rfl⟩)
                      · refine jr_bipush C (v := 9) dX1_reason_181 (by decide) ?_
                        refine jr_goto C 187 dX1_reason_183 (by decide) ?_
                        exact ret _ _ _ _ dX1_reason_187 rfl (⟨⟨fun hc => by rw [x_why_w (by omega) (by omega), x_wt, ← q56, ← q72, ← q175]; (repeat' split) <;> first | rfl | (exfalso; omega), by decide⟩, rfl⟩)
                    · refine jr_bipush C (v := 8) dX1_reason_164 (by decide) ?_
                      exact ret _ _ _ _ dX1_reason_166 rfl (⟨⟨fun hc => by rw [x_why_w (by omega) (by omega), x_wt, ← q56, ← q72]; (repeat' split) <;> first | rfl | (exfalso; omega), by decide⟩, rfl⟩)
                · refine jr_bipush C (v := 7) dX1_reason_131 (by decide) ?_
                  exact ret _ _ _ _ dX1_reason_133 rfl (⟨⟨fun hc => by rw [x_why_w (by omega) (by omega), x_wt, ← q56, ← q72]; (repeat' split) <;> first | rfl | (exfalso; omega), by decide⟩, rfl⟩)
              · refine jr_iload_n C dX1_reason_108 rfl ?_
                refine jr_sip C [.int _] _ (ct_X1_isLateHour E _ _) ky_X1_isLateHour ks_X1_isLateHour km_X1_49 (by decide) rfl (Nat.le_of_ble_eq_true rfl) dX1_reason_109 ?_
                refine jr_if_ne C 118 dX1_reason_112 (by decide) (fun b112 => ?_) (fun b112 => ?_)
                · replace b112 := jb_t b112
                  refine jr_iload_n C dX1_reason_118 rfl ?_
                  refine jr_aload_n C dX1_reason_119 rfl ?_
                  refine jr_getr C kf_X1_15_4 dX1_reason_120 ?_
                  refine jr_getr C kf_X1_53_2 dX1_reason_123 ?_
                  refine jr_iload_n C dX1_reason_126 rfl ?_
                  refine jr_ialv C ka_X_22 dX1_reason_127 (ji_in f0.1 f0.2) (v := σ.1 22 _) rfl ?_
                  refine jr_ncmp_ge C 134 dX1_reason_128 (by decide) rfl rfl (fun b128 => ?_) (fun b128 => ?_)
                  · refine jr_aload_n C dX1_reason_134 rfl ?_
                    refine jr_getr C kf_X1_15_4 dX1_reason_135 ?_
                    refine jr_iload_n C dX1_reason_138 rfl ?_
                    refine jr_vip C [.int _] _ (ct_X2_isBarredAtMost E _ _ f0) ky_X2_isBarredAtMost kv_X2_isBarredAtMost kk_X_2 km_X1_56 (by decide) rfl (Nat.le_of_ble_eq_true rfl) dX1_reason_139 ?_
                    refine jr_if_eq C 167 dX1_reason_142 (by decide) (fun b142 => ?_) (fun b142 => ?_)
                    · replace b142 := jb_f b142
                      refine jr_aload_n C dX1_reason_167 rfl ?_
                      refine jr_iload_n C dX1_reason_168 rfl ?_
                      refine jr_iload_n C dX1_reason_169 rfl ?_
                      refine jr_iload_n C dX1_reason_170 rfl ?_
                      refine jr_iload C dX1_reason_171 rfl ?_
                      refine jr_iload C dX1_reason_173 rfl ?_
                      refine jr_vi C [.int _, .int _, .int _, .int _, .int _] _ (ct_X1_isBesideBarred2 E _ _ _ _ _ _ hI hN f0 h0) ky_X1_isBesideBarred kv_X1_isBesideBarred kk_X_4 km_X1_66 (by decide) rfl (Nat.le_of_ble_eq_true rfl) dX1_reason_175 (fun r175 τ175 h175 => ?_)
                      obtain ⟨q175, rfl⟩ := h175
                      refine jr_nif_eq C 186 dX1_reason_178 (by decide) (fun b178 => ?_) (fun b178 => ?_)
                      · refine jr_iconst C (v := 0) dX1_reason_186 (by decide) ?_
                        exact ret _ _ _ _ dX1_reason_187 rfl (⟨⟨fun hc => by rw [x_why_w (by omega) (by omega), x_wt, ← q56, ← q72, ← q175]; (repeat' split) <;> first | rfl | (exfalso; omega), by decide⟩, rfl⟩)
                      · refine jr_bipush C (v := 9) dX1_reason_181 (by decide) ?_
                        refine jr_goto C 187 dX1_reason_183 (by decide) ?_
                        exact ret _ _ _ _ dX1_reason_187 rfl (⟨⟨fun hc => by rw [x_why_w (by omega) (by omega), x_wt, ← q56, ← q72, ← q175]; (repeat' split) <;> first | rfl | (exfalso; omega), by decide⟩, rfl⟩)
                    · replace b142 := jb_t b142
                      refine jr_aload_n C dX1_reason_145 rfl ?_
                      refine jr_iload_n C dX1_reason_146 rfl ?_
                      refine jr_iload C dX1_reason_147 rfl ?_
                      refine jr_vi C [.int _, .int _] _ (ct_X1_manyOf2 E _ _ _ hI) ky_X1_manyOf kv_X1_manyOf kk_X_4 km_X1_59 (by decide) rfl (Nat.le_of_ble_eq_true rfl) dX1_reason_149 (fun r149 τ149 h149 => ?_)
                      obtain ⟨q149, rfl⟩ := h149; have c149 := congrArg Int32.toInt q149
                      refine jr_aload_n C dX1_reason_152 rfl ?_
                      refine jr_getr C kf_X1_15_4 dX1_reason_153 ?_
                      refine jr_getr C kf_X1_63_2 dX1_reason_156 ?_
                      refine jr_iload_n C dX1_reason_159 rfl ?_
                      refine jr_ialv C ka_X_23 dX1_reason_160 (ji_in f0.1 f0.2) (v := σ.1 23 _) rfl ?_
                      refine jr_ncmp_lt C 167 dX1_reason_161 (by decide) rfl rfl (fun b161 => ?_) (fun b161 => ?_)
                      · refine jr_aload_n C dX1_reason_167 rfl ?_
                        refine jr_iload_n C dX1_reason_168 rfl ?_
                        refine jr_iload_n C dX1_reason_169 rfl ?_
                        refine jr_iload_n C dX1_reason_170 rfl ?_
                        refine jr_iload C dX1_reason_171 rfl ?_
                        refine jr_iload C dX1_reason_173 rfl ?_
                        refine jr_vi C [.int _, .int _, .int _, .int _, .int _] _ (ct_X1_isBesideBarred2 E _ _ _ _ _ _ hI hN f0 h0) ky_X1_isBesideBarred kv_X1_isBesideBarred kk_X_4 km_X1_66 (by decide) rfl (Nat.le_of_ble_eq_true rfl) dX1_reason_175 (fun r175 τ175 h175 => ?_)
                        obtain ⟨q175, rfl⟩ := h175
                        refine jr_nif_eq C 186 dX1_reason_178 (by decide) (fun b178 => ?_) (fun b178 => ?_)
                        · refine jr_iconst C (v := 0) dX1_reason_186 (by decide) ?_
                          exact ret _ _ _ _ dX1_reason_187 rfl (⟨⟨fun hc => by rw [x_why_w (by omega) (by omega), x_wt, ← q56, ← q72, ← q175]; (repeat' split) <;> first | rfl | (exfalso; omega), by decide⟩, rfl⟩)
                        · refine jr_bipush C (v := 9) dX1_reason_181 (by decide) ?_
                          refine jr_goto C 187 dX1_reason_183 (by decide) ?_
                          exact ret _ _ _ _ dX1_reason_187 rfl (⟨⟨fun hc => by rw [x_why_w (by omega) (by omega), x_wt, ← q56, ← q72, ← q175]; (repeat' split) <;> first | rfl | (exfalso; omega), by decide⟩, rfl⟩)
                      · refine jr_bipush C (v := 8) dX1_reason_164 (by decide) ?_
                        exact ret _ _ _ _ dX1_reason_166 rfl (⟨⟨fun hc => by rw [x_why_w (by omega) (by omega), x_wt, ← q56, ← q72]; (repeat' split) <;> first | rfl | (exfalso; omega), by decide⟩, rfl⟩)
                  · refine jr_bipush C (v := 7) dX1_reason_131 (by decide) ?_
                    exact ret _ _ _ _ dX1_reason_133 rfl (⟨⟨fun hc => by rw [x_why_w (by omega) (by omega), x_wt, ← q56, ← q72]; (repeat' split) <;> first | rfl | (exfalso; omega), by decide⟩, rfl⟩)
                · replace b112 := jb_f b112
                  refine jr_bipush C (v := 6) dX1_reason_115 (by decide) ?_
                  exact ret _ _ _ _ dX1_reason_117 rfl (⟨⟨fun hc => by rw [x_why_w (by omega) (by omega), x_wt, ← q56, ← q72]; (repeat' split) <;> first | rfl | (exfalso; omega), by decide⟩, rfl⟩)
            · replace b97 := jb_f b97
              refine jr_iconst C (v := 5) dX1_reason_100 (by decide) ?_
              exact ret _ _ _ _ dX1_reason_101 rfl (⟨⟨fun hc => by rw [x_why_w (by omega) (by omega), x_wt, ← q56, ← q72]; (repeat' split) <;> first | rfl | (exfalso; omega), by decide⟩, rfl⟩)
        · refine jr_iconst C (v := 4) dX1_reason_78 (by decide) ?_
          exact ret _ _ _ _ dX1_reason_79 rfl (⟨⟨fun hc => by rw [x_why_w (by omega) (by omega), x_wt, ← q56, ← q72]; (repeat' split) <;> first | rfl | (exfalso; omega), by decide⟩, rfl⟩)
      · refine jr_iconst C (v := 3) dX1_reason_62 (by decide) ?_
        exact ret _ _ _ _ dX1_reason_63 rfl (⟨⟨fun hc => by rw [x_why_w (by omega) (by omega), x_wt, ← q56]; (repeat' split) <;> first | rfl | (exfalso; omega), by decide⟩, rfl⟩)
    · refine jr_iconst C (v := 2) dX1_reason_47 (by decide) ?_
      exact ret _ _ _ _ dX1_reason_48 rfl (⟨⟨fun _ => (x_why_2 (by omega) (by omega)).symm, by decide⟩, rfl⟩)
  · refine jr_iconst C (v := 1) dX1_reason_21 (by decide) ?_
    exact ret _ _ _ _ dX1_reason_22 rfl (⟨⟨fun _ => (x_why_1 (by omega)).symm, by decide⟩, rfl⟩)
theorem g_div1 (a : Int32) : a / 1 = a := by
  first
    | exact Int32.div_one
    | exact Int32.div_one _
    | (simp; done)
    | (apply Int32.toBitVec_inj.mp; show BitVec.sdiv a.toBitVec 1#32 = a.toBitVec; simp)
theorem g_min_x (a b : Int32) : (if b < a then b else a) = g_min a b := by
  unfold g_min
  by_cases h : b < a
  · rw [if_pos h, if_neg (by have := Int32.lt_iff_toInt_lt.mp h; omega)]
  · have h1 : ¬ b.toInt < a.toInt := fun q => h (Int32.lt_iff_toInt_lt.mpr q)
    rw [if_neg h]
    split
    · rfl
    · exact Int32.toInt_inj.mp (by omega)
theorem x_share_g {σ : jf_S} {f b : Int32} {c : Nat} (hc : c ≤ 60) : x_share σ f b (nI c) = g_alone (x_G σ) f b / (1 + nI c) := by
  have e : (nI c).toInt = (c : Int) := nI_toInt (by omega)
  unfold x_share
  split
  · rfl
  · have : c = 0 := by omega
    subst this
    exact (g_div1 _).symm
theorem xg_pn {σ : jf_S} {s o : Nat} (hs : (σ.1 28) s = g_end (x_G σ) s) (ho : (σ.1 28) o = g_end (x_G σ) o) : g_pn (x_G σ) s o = decide (¬ ((σ.1 31) o).toInt = 0 ∧ ¬ o = s ∧ ((σ.1 12) ((σ.1 26) o).toNatClampNeg).toInt = ((σ.1 12) ((σ.1 26) s).toNatClampNeg).toInt ∧ ((σ.1 27) o).toInt < ((σ.1 28) s).toInt ∧ ((σ.1 27) s).toInt < ((σ.1 28) o).toInt) := by
  rw [hs, ho]; rfl
theorem ct_X9_manyBeside2 (E : jf_E) (σ : jf_S) (s : Int32) (hI : xI σ) (hN : xN σ) (s0 : 0 ≤ s.toInt ∧ s.toInt < ((σ.1 3 8)).toInt) : jf_I jh_X E yX9_manyBeside cX9_manyBeside 4 .int 2 [jf_r E 5, .int s] σ (fun r τ => r = nI (jx_ct (g_pn (x_G σ) s.toNatClampNeg) ((σ.1 3 8)).toNatClampNeg) ∧ σ = τ) := by
  refine jf_mkI (by decide) (Nat.le_of_ble_eq_true rfl) ?_
  intro G C ret
  have hE := hI.1
  have te := ji_tn hE.1
  have ts := ji_tn s0.1
  have lp : ∀ (m : Nat) (n o : Int32), 0 ≤ o.toInt → o.toInt ≤ ((σ.1 3 8)).toInt → ((σ.1 3 8)).toInt - o.toInt < m → (n = 0 + nI (jx_ct (g_pn (x_G σ) s.toNatClampNeg) o.toNatClampNeg)) → jf_X jh_X E G 4 4 [(0, jf_r E 5), (1, .int s), (2, .int n), (3, .int o)] [] σ := by
    intro m
    induction m with
    | zero => intro n o g1 g2 g3 x1; exfalso; omega
    | succ m ih =>
      intro n o g1 g2 g3 x1
      have e1 := ji_inc (k := o) (by omega)
      have to := ji_tn g1
      refine jr_iload_n C dX9_manyBeside_4 rfl ?_
      refine jr_aload_n C dX9_manyBeside_5 rfl ?_
      refine jr_getr C kf_X9_36_5 dX9_manyBeside_6 ?_
      refine jr_getv C kf_X9_61_3 dX9_manyBeside_9 (v := σ.1 3 8) rfl ?_
      refine jr_ncmp_ge C 50 dX9_manyBeside_12 (by decide) rfl rfl (fun b12 => ?_) (fun b12 => ?_)
      · refine jr_iload_n C dX9_manyBeside_50 rfl ?_
        exact ret _ _ _ _ dX9_manyBeside_51 rfl (by (have eo : o = (σ.1 3 8) := Int32.toInt_inj.mp (by omega)); exact ⟨by rw [x1, eo, Int32.zero_add], rfl⟩)
      · refine jr_iload_n C dX9_manyBeside_15 rfl ?_
        refine jr_iload_n C dX9_manyBeside_16 rfl ?_
        refine jr_ncmp_eq C 44 dX9_manyBeside_17 (by decide) rfl rfl (fun b17 => ?_) (fun b17 => ?_)
        · refine jr_iinc C _ dX9_manyBeside_44 rfl rfl (by decide) ?_
          refine jr_goto C 4 dX9_manyBeside_47 (by decide) ?_
          exact jr_sub [(0, jf_r E 5), (1, .int s), (2, .int _), (3, .int _)] rfl (ih _ _ (by omega) (by omega) (by omega) (by rw [g_sc g1 e1]; first | (have q : g_pn (x_G σ) s.toNatClampNeg o.toNatClampNeg = true := by rw [xg_pn (hN _ (by omega)) (hN _ (by omega))]; exact decide_eq_true (by omega)); exact gc_y x1 q | (have q : g_pn (x_G σ) s.toNatClampNeg o.toNatClampNeg = false := by rw [xg_pn (hN _ (by omega)) (hN _ (by omega))]; exact decide_eq_false (by omega)); exact gc_s x1 q))
        · refine jr_aload_n C dX9_manyBeside_20 rfl ?_
          refine jr_getr C kf_X9_36_5 dX9_manyBeside_21 ?_
          refine jr_getr C kf_X9_66_3 dX9_manyBeside_24 ?_
          refine jr_iload_n C dX9_manyBeside_27 rfl ?_
          refine jr_zalv C ka_X_31 dX9_manyBeside_28 (ji_in (i := o) (by omega) (by omega)) (v := σ.1 31 _) rfl ?_
          refine jr_nif_eq C 44 dX9_manyBeside_29 (by decide) (fun b29 => ?_) (fun b29 => ?_)
          · refine jr_iinc C _ dX9_manyBeside_44 rfl rfl (by decide) ?_
            refine jr_goto C 4 dX9_manyBeside_47 (by decide) ?_
            exact jr_sub [(0, jf_r E 5), (1, .int s), (2, .int _), (3, .int _)] rfl (ih _ _ (by omega) (by omega) (by omega) (by rw [g_sc g1 e1]; first | (have q : g_pn (x_G σ) s.toNatClampNeg o.toNatClampNeg = true := by rw [xg_pn (hN _ (by omega)) (hN _ (by omega))]; exact decide_eq_true (by omega)); exact gc_y x1 q | (have q : g_pn (x_G σ) s.toNatClampNeg o.toNatClampNeg = false := by rw [xg_pn (hN _ (by omega)) (hN _ (by omega))]; exact decide_eq_false (by omega)); exact gc_s x1 q))
          · refine jr_aload_n C dX9_manyBeside_32 rfl ?_
            refine jr_iload_n C dX9_manyBeside_33 rfl ?_
            refine jr_iload_n C dX9_manyBeside_34 rfl ?_
            refine jr_vip C [.int _, .int _] _ (ct_X9_runBeside E _ _ _ hI ⟨by omega, by omega⟩ ⟨by omega, by omega⟩) ky_X9_runBeside kv_X9_runBeside kk_X_5 km_X9_111 (by decide) rfl (Nat.le_of_ble_eq_true rfl) dX9_manyBeside_35 ?_
            refine jr_if_eq C 44 dX9_manyBeside_38 (by decide) (fun b38 => ?_) (fun b38 => ?_)
            · replace b38 := jb_f b38
              refine jr_iinc C _ dX9_manyBeside_44 rfl rfl (by decide) ?_
              refine jr_goto C 4 dX9_manyBeside_47 (by decide) ?_
              exact jr_sub [(0, jf_r E 5), (1, .int s), (2, .int _), (3, .int _)] rfl (ih _ _ (by omega) (by omega) (by omega) (by rw [g_sc g1 e1]; first | (have q : g_pn (x_G σ) s.toNatClampNeg o.toNatClampNeg = true := by rw [xg_pn (hN _ (by omega)) (hN _ (by omega))]; exact decide_eq_true (by omega)); exact gc_y x1 q | (have q : g_pn (x_G σ) s.toNatClampNeg o.toNatClampNeg = false := by rw [xg_pn (hN _ (by omega)) (hN _ (by omega))]; exact decide_eq_false (by omega)); exact gc_s x1 q))
            · replace b38 := jb_t b38
              refine jr_iinc C _ dX9_manyBeside_41 rfl rfl (by decide) ?_
              refine jr_iinc C _ dX9_manyBeside_44 rfl rfl (by decide) ?_
              refine jr_goto C 4 dX9_manyBeside_47 (by decide) ?_
              exact jr_sub [(0, jf_r E 5), (1, .int s), (2, .int _), (3, .int _)] rfl (ih _ _ (by omega) (by omega) (by omega) (by rw [g_sc g1 e1]; first | (have q : g_pn (x_G σ) s.toNatClampNeg o.toNatClampNeg = true := by rw [xg_pn (hN _ (by omega)) (hN _ (by omega))]; exact decide_eq_true (by omega)); exact gc_y x1 q | (have q : g_pn (x_G σ) s.toNatClampNeg o.toNatClampNeg = false := by rw [xg_pn (hN _ (by omega)) (hN _ (by omega))]; exact decide_eq_false (by omega)); exact gc_s x1 q))
  refine jr_iconst C (v := 0) dX9_manyBeside_0 (by decide) ?_
  refine jr_istore_n C dX9_manyBeside_1 (by decide) ?_
  refine jr_iconst C (v := 0) dX9_manyBeside_2 (by decide) ?_
  refine jr_istore_n C dX9_manyBeside_3 (by decide) ?_
  exact jr_sub [(0, jf_r E 5), (1, .int s), (2, .int _), (3, .int _)] rfl (lp 61 _ _ (by decide) hE.1 (by show _ - 0 < _; omega) rfl)
theorem x_ct60 {σ : jf_S} (hI : xI σ) (p : Nat → Bool) : jx_ct p ((σ.1 3 8)).toNatClampNeg ≤ 60 := by
  have h := jx_ct_le p ((σ.1 3 8)).toNatClampNeg
  have te := ji_tn hI.1.1
  have := hI.1.2
  omega
theorem ct_X9_crowdOf2 (E : jf_E) (σ : jf_S) (s : Int32) (hI : xI σ) (hN : xN σ) (s0 : 0 ≤ s.toInt ∧ s.toInt < ((σ.1 3 8)).toInt) : jf_I jh_X E yX9_crowdOf cX9_crowdOf 2 .int 3 [jf_r E 5, .int s] σ (fun r τ => r = g_crowd (x_G σ) ((σ.1 3 8)).toNatClampNeg s.toNatClampNeg ∧ σ = τ) := by
  refine jf_mkI (by decide) (Nat.le_of_ble_eq_true rfl) ?_
  intro G C ret
  have hE := hI.1
  refine jr_aload_n C dX9_crowdOf_0 rfl ?_
  refine jr_iload_n C dX9_crowdOf_1 rfl ?_
  refine jr_aload_n C dX9_crowdOf_2 rfl ?_
  refine jr_iload_n C dX9_crowdOf_3 rfl ?_
  refine jr_vi C [.int _] _ (ct_X9_manyBeside2 E _ _ hI hN s0) ky_X9_manyBeside kv_X9_manyBeside kk_X_5 km_X9_50 (by decide) rfl (Nat.le_of_ble_eq_true rfl) dX9_crowdOf_4 (fun r4 τ4 h4 => ?_)
  obtain ⟨q4, rfl⟩ := h4
  refine jr_vip C [.int _, .int _] _ (ct_X9_crowd E _ _ _ hI ⟨by omega, by omega⟩) ky_X9_crowd kv_X9_crowd kk_X_5 km_X9_54 (by decide) rfl (Nat.le_of_ble_eq_true rfl) dX9_crowdOf_7 ?_
  exact ret _ _ _ _ dX9_crowdOf_10 rfl (⟨by rw [q4, x_share_g (x_ct60 hI _)]; rfl, rfl⟩)
theorem ct_X9_worthOf2 (E : jf_E) (σ : jf_S) (s : Int32) (hI : xI σ) (hN : xN σ) (s0 : 0 ≤ s.toInt ∧ s.toInt < ((σ.1 3 8)).toInt) : jf_I jh_X E yX9_worthOf cX9_worthOf 2 .int 3 [jf_r E 5, .int s] σ (fun r τ => r = g_worth (x_G σ) ((σ.1 3 8)).toNatClampNeg s.toNatClampNeg ∧ σ = τ) := by
  refine jf_mkI (by decide) (Nat.le_of_ble_eq_true rfl) ?_
  intro G C ret
  have hE := hI.1
  refine jr_aload_n C dX9_worthOf_0 rfl ?_
  refine jr_iload_n C dX9_worthOf_1 rfl ?_
  refine jr_aload_n C dX9_worthOf_2 rfl ?_
  refine jr_iload_n C dX9_worthOf_3 rfl ?_
  refine jr_vi C [.int _] _ (ct_X9_manyBeside2 E _ _ hI hN s0) ky_X9_manyBeside kv_X9_manyBeside kk_X_5 km_X9_50 (by decide) rfl (Nat.le_of_ble_eq_true rfl) dX9_worthOf_4 (fun r4 τ4 h4 => ?_)
  obtain ⟨q4, rfl⟩ := h4
  refine jr_vip C [.int _, .int _] _ (ct_X9_worth E _ _ _ hI ⟨by omega, by omega⟩) ky_X9_worth kv_X9_worth kk_X_5 km_X9_58 (by decide) rfl (Nat.le_of_ble_eq_true rfl) dX9_worthOf_7 ?_
  exact ret _ _ _ _ dX9_worthOf_10 rfl (⟨by rw [q4]; unfold x_worth; rw [x_share_g (x_ct60 hI _), g_min_x]; rfl, rfl⟩)
theorem ct_X9_sum2 (E : jf_E) (σ : jf_S) (hI : xI σ) (hN : xN σ) : jf_I jh_X E yX9_sum cX9_sum 3 .int 4 [jf_r E 5] σ (fun r τ => r = g_grid (x_G σ) ((σ.1 3 8)).toNatClampNeg ∧ σ = τ) := by
  refine jf_mkI (by decide) (Nat.le_of_ble_eq_true rfl) ?_
  intro G C ret
  have hE := hI.1
  have w0 : ∀ (k : Nat) (n : Int32), ((σ.1 31) k).toInt = 0 → n = gs (g_w (x_G σ) ((σ.1 3 8)).toNatClampNeg) k → n = gs (g_w (x_G σ) ((σ.1 3 8)).toNatClampNeg) (k + 1) := fun k n h e => by rw [gs, ← e, show g_w (x_G σ) ((σ.1 3 8)).toNatClampNeg k = 0 from if_pos h, Int32.add_zero]
  have w1 : ∀ k, ¬ ((σ.1 31) k).toInt = 0 → g_worth (x_G σ) ((σ.1 3 8)).toNatClampNeg k = g_w (x_G σ) ((σ.1 3 8)).toNatClampNeg k := fun k h => by unfold g_w; exact (if_neg h).symm
  have lp : ∀ (m : Nat) (n o : Int32), 0 ≤ o.toInt → o.toInt ≤ ((σ.1 3 8)).toInt → ((σ.1 3 8)).toInt - o.toInt < m → (n = gs (g_w (x_G σ) ((σ.1 3 8)).toNatClampNeg) o.toNatClampNeg) → jf_X jh_X E G 3 4 [(0, jf_r E 5), (1, .int n), (2, .int o)] [] σ := by
    intro m
    induction m with
    | zero => intro n o g1 g2 g3 x1; exfalso; omega
    | succ m ih =>
      intro n o g1 g2 g3 x1
      have e1 := ji_inc (k := o) (by omega)
      refine jr_iload_n C dX9_sum_4 rfl ?_
      refine jr_aload_n C dX9_sum_5 rfl ?_
      refine jr_getr C kf_X9_36_5 dX9_sum_6 ?_
      refine jr_getv C kf_X9_61_3 dX9_sum_9 (v := σ.1 3 8) rfl ?_
      refine jr_ncmp_ge C 41 dX9_sum_12 (by decide) rfl rfl (fun b12 => ?_) (fun b12 => ?_)
      · refine jr_iload_n C dX9_sum_41 rfl ?_
        exact ret _ _ _ _ dX9_sum_42 rfl (by (have eo : o = (σ.1 3 8) := Int32.toInt_inj.mp (by omega)); exact ⟨by rw [x1, eo]; rfl, rfl⟩)
      · refine jr_aload_n C dX9_sum_15 rfl ?_
        refine jr_getr C kf_X9_36_5 dX9_sum_16 ?_
        refine jr_getr C kf_X9_66_3 dX9_sum_19 ?_
        refine jr_iload_n C dX9_sum_22 rfl ?_
        refine jr_zalv C ka_X_31 dX9_sum_23 (ji_in (i := o) (by omega) (by omega)) (v := σ.1 31 _) rfl ?_
        refine jr_nif_eq C 35 dX9_sum_24 (by decide) (fun b24 => ?_) (fun b24 => ?_)
        · refine jr_iinc C _ dX9_sum_35 rfl rfl (by decide) ?_
          refine jr_goto C 4 dX9_sum_38 (by decide) ?_
          exact jr_sub [(0, jf_r E 5), (1, .int _), (2, .int _)] rfl (ih _ _ (by omega) (by omega) (by omega) (by rw [g_sc g1 e1]; first | (have q := w0 _ n b24 x1); exact q | exact g_grid_s x1 (q30.trans (w1 _ b24))))
        · refine jr_iload_n C dX9_sum_27 rfl ?_
          refine jr_aload_n C dX9_sum_28 rfl ?_
          refine jr_iload_n C dX9_sum_29 rfl ?_
          refine jr_vi C [.int _] _ (ct_X9_worthOf2 E _ _ hI hN ⟨by omega, by omega⟩) ky_X9_worthOf kv_X9_worthOf kk_X_5 km_X9_70 (by decide) rfl (Nat.le_of_ble_eq_true rfl) dX9_sum_30 (fun r30 τ30 h30 => ?_)
          obtain ⟨q30, rfl⟩ := h30
          refine jr_iadd C dX9_sum_33 ?_
          refine jr_istore_n C dX9_sum_34 (by decide) ?_
          refine jr_iinc C _ dX9_sum_35 rfl rfl (by decide) ?_
          refine jr_goto C 4 dX9_sum_38 (by decide) ?_
          exact jr_sub [(0, jf_r E 5), (1, .int _), (2, .int _)] rfl (ih _ _ (by omega) (by omega) (by omega) (by rw [g_sc g1 e1]; first | (have q := w0 _ n b24 x1); exact q | exact g_grid_s x1 (q30.trans (w1 _ b24))))
  refine jr_iconst C (v := 0) dX9_sum_0 (by decide) ?_
  refine jr_istore_n C dX9_sum_1 (by decide) ?_
  refine jr_iconst C (v := 0) dX9_sum_2 (by decide) ?_
  refine jr_istore_n C dX9_sum_3 (by decide) ?_
  exact jr_sub [(0, jf_r E 5), (1, .int _), (2, .int _)] rfl (lp 61 _ _ (by decide) hE.1 (by show _ - 0 < _; omega) rfl)

