/-! the reference: rows, holds, counts -/
/-- a row of that sort, known by then -/
def sp_row (v : Nat → Nat → Int32) (n : Int32) (s j f k : Int32) : Bool := jx_any (fun i => decide ((v 28 i).toInt = s.toInt ∧ (v 29 i).toInt = j.toInt ∧ (v 30 i).toInt = f.toInt ∧ (v 31 i).toInt ≤ k.toInt)) n.toNatClampNeg
theorem ct_X11_isRow (E : jf_E) (σ : jf_S) (s j f k : Int32) (h0 : 0 ≤ ((σ.1 0 39)).toInt) (h1 : ((σ.1 0 39)).toInt ≤ 100) : jf_I jh_M E yX11_isRow cX11_isRow 7 .boolean 0 [jf_r E 0, .int s, .int j, .int f, .int k] σ (fun r τ => r = jb (sp_row σ.1 ((σ.1 0 39)) s j f k = true) ∧ τ = σ) := by
  refine jf_mkI (by decide) (Nat.le_of_ble_eq_true rfl) ?_
  intro G C ret
  have loop : ∀ (m : Nat) (a o : Int32), 0 ≤ o.toInt → o.toInt ≤ ((σ.1 0 39)).toInt → ((σ.1 0 39)).toInt - o.toInt < m → a = jb (sp_row σ.1 o s j f k = true) → jf_X jh_M E G 7 6 [(0, jf_r E 0), (1, .int s), (2, .int j), (3, .int f), (4, .int k), (5, .int a), (6, .int o)] [] σ := by
    intro m
    induction m with
    | zero => intro a o g1 g2 g3 g4; exfalso; omega
    | succ m ih =>
      intro a o g1 g2 g3 g4
      have e1 := ji_inc (k := o) (by omega)
      have e2 : (o + Int32.ofInt 1).toNatClampNeg = o.toNatClampNeg + 1 := ji_cl (by rw [e1, Int.natCast_add, ji_tn g1]; rfl)
      have st : sp_row σ.1 (o + Int32.ofInt 1) s j f k = true ↔ (sp_row σ.1 o s j f k = true ∨ (((σ.1 28) o.toNatClampNeg).toInt = s.toInt ∧ ((σ.1 29) o.toNatClampNeg).toInt = j.toInt ∧ ((σ.1 30) o.toNatClampNeg).toInt = f.toInt ∧ ((σ.1 31) o.toNatClampNeg).toInt ≤ k.toInt)) := by
        unfold sp_row; rw [e2, jx_any, Bool.or_eq_true, decide_eq_true_iff]
      refine jr_iload C dX11_isRow_6 rfl ?_
      refine jr_aload_n C dX11_isRow_8 rfl ?_
      refine jr_geti C kf_X11_269_0 dX11_isRow_9 ?_
      refine jr_ncmp_ge C 78 dX11_isRow_12 (by decide) rfl rfl (fun b12 => ?_) (fun b12 => ?_)
      · refine jr_iload C dX11_isRow_78 rfl ?_
        exact ret _ _ _ _ dX11_isRow_80 (by rw [g4]; exact jb_n) (⟨by rw [g4, show o = (σ.1 0 39) from Int32.toInt_inj.mp (by omega)], rfl⟩)
      · refine jr_iload C dX11_isRow_15 rfl ?_
        refine jr_nif_ne C 65 dX11_isRow_17 (by decide) (fun b17 => ?_) (fun b17 => ?_)
        · refine jr_iconst C (v := 1) dX11_isRow_65 (by decide) ?_
          refine jr_goto C 70 dX11_isRow_66 (by decide) ?_
          refine jr_istore C dX11_isRow_70 (by decide) ?_
          refine jr_iinc C _ dX11_isRow_72 rfl rfl (by decide) ?_
          refine jr_goto C 6 dX11_isRow_75 (by decide) ?_
          exact jr_sub [(0, jf_r E 0), (1, .int s), (2, .int j), (3, .int f), (4, .int k), (5, .int _), (6, .int _)] rfl (ih _ _ (by omega) (by omega) (by omega) (by first | exact jb_tt (st.mpr (Or.inr ⟨by omega, by omega, by omega, by omega⟩)) | exact jb_tt (st.mpr (Or.inl (jb_t (g4 ▸ jn_ne.mpr b17)))) | exact jb_ff (fun q => by rcases st.mp q with q | q; exact jb_f (g4 ▸ jn_eq.mpr b17) q; omega)))
        · refine jr_aload_n C dX11_isRow_20 rfl ?_
          refine jr_getr C kf_X11_96_0 dX11_isRow_21 ?_
          refine jr_iload C dX11_isRow_24 rfl ?_
          refine jr_ialv C ka_M_28 dX11_isRow_26 (ji_in (i := o) (by omega) (by omega)) (v := σ.1 28 _) rfl ?_
          refine jr_iload_n C dX11_isRow_27 rfl ?_
          refine jr_ncmp_ne C 69 dX11_isRow_28 (by decide) rfl rfl (fun b28 => ?_) (fun b28 => ?_)
          · refine jr_iconst C (v := 0) dX11_isRow_69 (by decide) ?_
            refine jr_istore C dX11_isRow_70 (by decide) ?_
            refine jr_iinc C _ dX11_isRow_72 rfl rfl (by decide) ?_
            refine jr_goto C 6 dX11_isRow_75 (by decide) ?_
            exact jr_sub [(0, jf_r E 0), (1, .int s), (2, .int j), (3, .int f), (4, .int k), (5, .int _), (6, .int _)] rfl (ih _ _ (by omega) (by omega) (by omega) (by first | exact jb_tt (st.mpr (Or.inr ⟨by omega, by omega, by omega, by omega⟩)) | exact jb_tt (st.mpr (Or.inl (jb_t (g4 ▸ jn_ne.mpr b17)))) | exact jb_ff (fun q => by rcases st.mp q with q | q; exact jb_f (g4 ▸ jn_eq.mpr b17) q; omega)))
          · refine jr_aload_n C dX11_isRow_31 rfl ?_
            refine jr_getr C kf_X11_99_0 dX11_isRow_32 ?_
            refine jr_iload C dX11_isRow_35 rfl ?_
            refine jr_ialv C ka_M_29 dX11_isRow_37 (ji_in (i := o) (by omega) (by omega)) (v := σ.1 29 _) rfl ?_
            refine jr_iload_n C dX11_isRow_38 rfl ?_
            refine jr_ncmp_ne C 69 dX11_isRow_39 (by decide) rfl rfl (fun b39 => ?_) (fun b39 => ?_)
            · refine jr_iconst C (v := 0) dX11_isRow_69 (by decide) ?_
              refine jr_istore C dX11_isRow_70 (by decide) ?_
              refine jr_iinc C _ dX11_isRow_72 rfl rfl (by decide) ?_
              refine jr_goto C 6 dX11_isRow_75 (by decide) ?_
              exact jr_sub [(0, jf_r E 0), (1, .int s), (2, .int j), (3, .int f), (4, .int k), (5, .int _), (6, .int _)] rfl (ih _ _ (by omega) (by omega) (by omega) (by first | exact jb_tt (st.mpr (Or.inr ⟨by omega, by omega, by omega, by omega⟩)) | exact jb_tt (st.mpr (Or.inl (jb_t (g4 ▸ jn_ne.mpr b17)))) | exact jb_ff (fun q => by rcases st.mp q with q | q; exact jb_f (g4 ▸ jn_eq.mpr b17) q; omega)))
            · refine jr_aload_n C dX11_isRow_42 rfl ?_
              refine jr_getr C kf_X11_102_0 dX11_isRow_43 ?_
              refine jr_iload C dX11_isRow_46 rfl ?_
              refine jr_ialv C ka_M_30 dX11_isRow_48 (ji_in (i := o) (by omega) (by omega)) (v := σ.1 30 _) rfl ?_
              refine jr_iload_n C dX11_isRow_49 rfl ?_
              refine jr_ncmp_ne C 69 dX11_isRow_50 (by decide) rfl rfl (fun b50 => ?_) (fun b50 => ?_)
              · refine jr_iconst C (v := 0) dX11_isRow_69 (by decide) ?_
                refine jr_istore C dX11_isRow_70 (by decide) ?_
                refine jr_iinc C _ dX11_isRow_72 rfl rfl (by decide) ?_
                refine jr_goto C 6 dX11_isRow_75 (by decide) ?_
                exact jr_sub [(0, jf_r E 0), (1, .int s), (2, .int j), (3, .int f), (4, .int k), (5, .int _), (6, .int _)] rfl (ih _ _ (by omega) (by omega) (by omega) (by first | exact jb_tt (st.mpr (Or.inr ⟨by omega, by omega, by omega, by omega⟩)) | exact jb_tt (st.mpr (Or.inl (jb_t (g4 ▸ jn_ne.mpr b17)))) | exact jb_ff (fun q => by rcases st.mp q with q | q; exact jb_f (g4 ▸ jn_eq.mpr b17) q; omega)))
              · refine jr_aload_n C dX11_isRow_53 rfl ?_
                refine jr_getr C kf_X11_105_0 dX11_isRow_54 ?_
                refine jr_iload C dX11_isRow_57 rfl ?_
                refine jr_ialv C ka_M_31 dX11_isRow_59 (ji_in (i := o) (by omega) (by omega)) (v := σ.1 31 _) rfl ?_
                refine jr_iload C dX11_isRow_60 rfl ?_
                refine jr_ncmp_gt C 69 dX11_isRow_62 (by decide) rfl rfl (fun b62 => ?_) (fun b62 => ?_)
                · refine jr_iconst C (v := 0) dX11_isRow_69 (by decide) ?_
                  refine jr_istore C dX11_isRow_70 (by decide) ?_
                  refine jr_iinc C _ dX11_isRow_72 rfl rfl (by decide) ?_
                  refine jr_goto C 6 dX11_isRow_75 (by decide) ?_
                  exact jr_sub [(0, jf_r E 0), (1, .int s), (2, .int j), (3, .int f), (4, .int k), (5, .int _), (6, .int _)] rfl (ih _ _ (by omega) (by omega) (by omega) (by first | exact jb_tt (st.mpr (Or.inr ⟨by omega, by omega, by omega, by omega⟩)) | exact jb_tt (st.mpr (Or.inl (jb_t (g4 ▸ jn_ne.mpr b17)))) | exact jb_ff (fun q => by rcases st.mp q with q | q; exact jb_f (g4 ▸ jn_eq.mpr b17) q; omega)))
                · refine jr_iconst C (v := 1) dX11_isRow_65 (by decide) ?_
                  refine jr_goto C 70 dX11_isRow_66 (by decide) ?_
                  refine jr_istore C dX11_isRow_70 (by decide) ?_
                  refine jr_iinc C _ dX11_isRow_72 rfl rfl (by decide) ?_
                  refine jr_goto C 6 dX11_isRow_75 (by decide) ?_
                  exact jr_sub [(0, jf_r E 0), (1, .int s), (2, .int j), (3, .int f), (4, .int k), (5, .int _), (6, .int _)] rfl (ih _ _ (by omega) (by omega) (by omega) (by first | exact jb_tt (st.mpr (Or.inr ⟨by omega, by omega, by omega, by omega⟩)) | exact jb_tt (st.mpr (Or.inl (jb_t (g4 ▸ jn_ne.mpr b17)))) | exact jb_ff (fun q => by rcases st.mp q with q | q; exact jb_f (g4 ▸ jn_eq.mpr b17) q; omega)))
  refine jr_iconst C (v := 0) dX11_isRow_0 (by decide) ?_
  refine jr_istore C dX11_isRow_1 (by decide) ?_
  refine jr_iconst C (v := 0) dX11_isRow_3 (by decide) ?_
  refine jr_istore C dX11_isRow_4 (by decide) ?_
  exact jr_sub [(0, jf_r E 0), (1, .int s), (2, .int j), (3, .int f), (4, .int k), (5, .int 0), (6, .int 0)] rfl (loop 101 0 0 (by decide) h0 (by show _ - 0 < _; omega) (jb_ff (fun q => by cases q)))
theorem ct_X11_isAhead (E : jf_E) (σ : jf_S) (a b : Int32) (a0 : 0 ≤ a.toInt) (a1 : a.toInt < 20) (b0 : 0 ≤ b.toInt) (b1 : b.toInt < 20) : jf_I jh_M E yX11_isAhead cX11_isAhead 3 .boolean 0 [jf_r E 0, .int a, .int b] σ (fun r τ => (r = 0 ∨ r = 1) ∧ σ = τ) := by
  refine jf_mkI (by decide) (Nat.le_of_ble_eq_true rfl) ?_
  intro G C ret
  refine jr_aload_n C dX11_isAhead_0 rfl ?_
  refine jr_getv C kf_X11_368_0 dX11_isAhead_1 (v := σ.1 0 49) rfl ?_
  refine jr_nif_ne C 43 dX11_isAhead_4 (by decide) (fun b4 => ?_) (fun b4 => ?_)
  · refine jr_aload_n C dX11_isAhead_43 rfl ?_
    refine jr_getv C kf_X11_368_0 dX11_isAhead_44 (v := σ.1 0 49) rfl ?_
    refine jr_iconst C (v := 2) dX11_isAhead_47 (by decide) ?_
    refine jr_ncmp_ne C (b := 2) 87 dX11_isAhead_48 (by decide) rfl rfl (fun b48 => ?_) (fun b48 => ?_)
    · refine jr_iload_n C dX11_isAhead_87 rfl ?_
      refine jr_iload_n C dX11_isAhead_88 rfl ?_
      refine jr_ncmp_ge C 96 dX11_isAhead_89 (by decide) rfl rfl (fun b89 => ?_) (fun b89 => ?_)
      · refine jr_iconst C (v := 0) dX11_isAhead_96 (by decide) ?_
        exact ret _ _ _ _ dX11_isAhead_97 (rfl) (⟨by decide, rfl⟩)
      · refine jr_iconst C (v := 1) dX11_isAhead_92 (by decide) ?_
        refine jr_goto C 97 dX11_isAhead_93 (by decide) ?_
        exact ret _ _ _ _ dX11_isAhead_97 (rfl) (⟨by decide, rfl⟩)
    · refine jr_aload_n C dX11_isAhead_51 rfl ?_
      refine jr_getr C kf_X11_135_0 dX11_isAhead_52 ?_
      refine jr_iload_n C dX11_isAhead_55 rfl ?_
      refine jr_ialv C ka_M_40 dX11_isAhead_56 (by first | exact ji_in a0 a1 | exact ji_in b0 b1) (v := σ.1 40 _) rfl ?_
      refine jr_aload_n C dX11_isAhead_57 rfl ?_
      refine jr_getr C kf_X11_135_0 dX11_isAhead_58 ?_
      refine jr_iload_n C dX11_isAhead_61 rfl ?_
      refine jr_ialv C ka_M_40 dX11_isAhead_62 (by first | exact ji_in a0 a1 | exact ji_in b0 b1) (v := σ.1 40 _) rfl ?_
      refine jr_ncmp_eq C 87 dX11_isAhead_63 (by decide) rfl rfl (fun b63 => ?_) (fun b63 => ?_)
      · refine jr_iload_n C dX11_isAhead_87 rfl ?_
        refine jr_iload_n C dX11_isAhead_88 rfl ?_
        refine jr_ncmp_ge C 96 dX11_isAhead_89 (by decide) rfl rfl (fun b89 => ?_) (fun b89 => ?_)
        · refine jr_iconst C (v := 0) dX11_isAhead_96 (by decide) ?_
          exact ret _ _ _ _ dX11_isAhead_97 (rfl) (⟨by decide, rfl⟩)
        · refine jr_iconst C (v := 1) dX11_isAhead_92 (by decide) ?_
          refine jr_goto C 97 dX11_isAhead_93 (by decide) ?_
          exact ret _ _ _ _ dX11_isAhead_97 (rfl) (⟨by decide, rfl⟩)
      · refine jr_aload_n C dX11_isAhead_66 rfl ?_
        refine jr_getr C kf_X11_135_0 dX11_isAhead_67 ?_
        refine jr_iload_n C dX11_isAhead_70 rfl ?_
        refine jr_ialv C ka_M_40 dX11_isAhead_71 (by first | exact ji_in a0 a1 | exact ji_in b0 b1) (v := σ.1 40 _) rfl ?_
        refine jr_aload_n C dX11_isAhead_72 rfl ?_
        refine jr_getr C kf_X11_135_0 dX11_isAhead_73 ?_
        refine jr_iload_n C dX11_isAhead_76 rfl ?_
        refine jr_ialv C ka_M_40 dX11_isAhead_77 (by first | exact ji_in a0 a1 | exact ji_in b0 b1) (v := σ.1 40 _) rfl ?_
        refine jr_ncmp_le C 85 dX11_isAhead_78 (by decide) rfl rfl (fun b78 => ?_) (fun b78 => ?_)
        · refine jr_iconst C (v := 0) dX11_isAhead_85 (by decide) ?_
          exact ret _ _ _ _ dX11_isAhead_86 (rfl) (⟨by decide, rfl⟩)
        · refine jr_iconst C (v := 1) dX11_isAhead_81 (by decide) ?_
          refine jr_goto C 86 dX11_isAhead_82 (by decide) ?_
          exact ret _ _ _ _ dX11_isAhead_86 (rfl) (⟨by decide, rfl⟩)
  · refine jr_aload_n C dX11_isAhead_7 rfl ?_
    refine jr_getr C kf_X11_28_0 dX11_isAhead_8 ?_
    refine jr_iload_n C dX11_isAhead_11 rfl ?_
    refine jr_ialv C ka_M_7 dX11_isAhead_12 (by first | exact ji_in a0 a1 | exact ji_in b0 b1) (v := σ.1 7 _) rfl ?_
    refine jr_aload_n C dX11_isAhead_13 rfl ?_
    refine jr_getr C kf_X11_28_0 dX11_isAhead_14 ?_
    refine jr_iload_n C dX11_isAhead_17 rfl ?_
    refine jr_ialv C ka_M_7 dX11_isAhead_18 (by first | exact ji_in a0 a1 | exact ji_in b0 b1) (v := σ.1 7 _) rfl ?_
    refine jr_ncmp_eq C 43 dX11_isAhead_19 (by decide) rfl rfl (fun b19 => ?_) (fun b19 => ?_)
    · refine jr_aload_n C dX11_isAhead_43 rfl ?_
      refine jr_getv C kf_X11_368_0 dX11_isAhead_44 (v := σ.1 0 49) rfl ?_
      refine jr_iconst C (v := 2) dX11_isAhead_47 (by decide) ?_
      refine jr_ncmp_ne C (b := 2) 87 dX11_isAhead_48 (by decide) rfl rfl (fun b48 => ?_) (fun b48 => ?_)
      · refine jr_iload_n C dX11_isAhead_87 rfl ?_
        refine jr_iload_n C dX11_isAhead_88 rfl ?_
        refine jr_ncmp_ge C 96 dX11_isAhead_89 (by decide) rfl rfl (fun b89 => ?_) (fun b89 => ?_)
        · refine jr_iconst C (v := 0) dX11_isAhead_96 (by decide) ?_
          exact ret _ _ _ _ dX11_isAhead_97 (rfl) (⟨by decide, rfl⟩)
        · refine jr_iconst C (v := 1) dX11_isAhead_92 (by decide) ?_
          refine jr_goto C 97 dX11_isAhead_93 (by decide) ?_
          exact ret _ _ _ _ dX11_isAhead_97 (rfl) (⟨by decide, rfl⟩)
      · refine jr_aload_n C dX11_isAhead_51 rfl ?_
        refine jr_getr C kf_X11_135_0 dX11_isAhead_52 ?_
        refine jr_iload_n C dX11_isAhead_55 rfl ?_
        refine jr_ialv C ka_M_40 dX11_isAhead_56 (by first | exact ji_in a0 a1 | exact ji_in b0 b1) (v := σ.1 40 _) rfl ?_
        refine jr_aload_n C dX11_isAhead_57 rfl ?_
        refine jr_getr C kf_X11_135_0 dX11_isAhead_58 ?_
        refine jr_iload_n C dX11_isAhead_61 rfl ?_
        refine jr_ialv C ka_M_40 dX11_isAhead_62 (by first | exact ji_in a0 a1 | exact ji_in b0 b1) (v := σ.1 40 _) rfl ?_
        refine jr_ncmp_eq C 87 dX11_isAhead_63 (by decide) rfl rfl (fun b63 => ?_) (fun b63 => ?_)
        · refine jr_iload_n C dX11_isAhead_87 rfl ?_
          refine jr_iload_n C dX11_isAhead_88 rfl ?_
          refine jr_ncmp_ge C 96 dX11_isAhead_89 (by decide) rfl rfl (fun b89 => ?_) (fun b89 => ?_)
          · refine jr_iconst C (v := 0) dX11_isAhead_96 (by decide) ?_
            exact ret _ _ _ _ dX11_isAhead_97 (rfl) (⟨by decide, rfl⟩)
          · refine jr_iconst C (v := 1) dX11_isAhead_92 (by decide) ?_
            refine jr_goto C 97 dX11_isAhead_93 (by decide) ?_
            exact ret _ _ _ _ dX11_isAhead_97 (rfl) (⟨by decide, rfl⟩)
        · refine jr_aload_n C dX11_isAhead_66 rfl ?_
          refine jr_getr C kf_X11_135_0 dX11_isAhead_67 ?_
          refine jr_iload_n C dX11_isAhead_70 rfl ?_
          refine jr_ialv C ka_M_40 dX11_isAhead_71 (by first | exact ji_in a0 a1 | exact ji_in b0 b1) (v := σ.1 40 _) rfl ?_
          refine jr_aload_n C dX11_isAhead_72 rfl ?_
          refine jr_getr C kf_X11_135_0 dX11_isAhead_73 ?_
          refine jr_iload_n C dX11_isAhead_76 rfl ?_
          refine jr_ialv C ka_M_40 dX11_isAhead_77 (by first | exact ji_in a0 a1 | exact ji_in b0 b1) (v := σ.1 40 _) rfl ?_
          refine jr_ncmp_le C 85 dX11_isAhead_78 (by decide) rfl rfl (fun b78 => ?_) (fun b78 => ?_)
          · refine jr_iconst C (v := 0) dX11_isAhead_85 (by decide) ?_
            exact ret _ _ _ _ dX11_isAhead_86 (rfl) (⟨by decide, rfl⟩)
          · refine jr_iconst C (v := 1) dX11_isAhead_81 (by decide) ?_
            refine jr_goto C 86 dX11_isAhead_82 (by decide) ?_
            exact ret _ _ _ _ dX11_isAhead_86 (rfl) (⟨by decide, rfl⟩)
    · refine jr_aload_n C dX11_isAhead_22 rfl ?_
      refine jr_getr C kf_X11_28_0 dX11_isAhead_23 ?_
      refine jr_iload_n C dX11_isAhead_26 rfl ?_
      refine jr_ialv C ka_M_7 dX11_isAhead_27 (by first | exact ji_in a0 a1 | exact ji_in b0 b1) (v := σ.1 7 _) rfl ?_
      refine jr_aload_n C dX11_isAhead_28 rfl ?_
      refine jr_getr C kf_X11_28_0 dX11_isAhead_29 ?_
      refine jr_iload_n C dX11_isAhead_32 rfl ?_
      refine jr_ialv C ka_M_7 dX11_isAhead_33 (by first | exact ji_in a0 a1 | exact ji_in b0 b1) (v := σ.1 7 _) rfl ?_
      refine jr_ncmp_le C 41 dX11_isAhead_34 (by decide) rfl rfl (fun b34 => ?_) (fun b34 => ?_)
      · refine jr_iconst C (v := 0) dX11_isAhead_41 (by decide) ?_
        exact ret _ _ _ _ dX11_isAhead_42 (rfl) (⟨by decide, rfl⟩)
      · refine jr_iconst C (v := 1) dX11_isAhead_37 (by decide) ?_
        refine jr_goto C 42 dX11_isAhead_38 (by decide) ?_
        exact ret _ _ _ _ dX11_isAhead_42 (rfl) (⟨by decide, rfl⟩)
/-- how high the pile stands behind so many marks -/
def m_dep (a : Nat → Int32) : Nat → Nat
  | 0 => 0
  | i + 1 => if (a i).toInt = -3 then m_dep a i else if (a i).toInt = -4 ∨ (a i).toInt = -5 then m_dep a i - 1 else m_dep a i + 1
/-- marks that can be reckoned -/
def m_val (a : Nat → Int32) (n : Nat) : Prop := ∀ i, i < n → ((a i).toInt = -3 → 1 ≤ m_dep a i) ∧ ((a i).toInt = -4 ∨ (a i).toInt = -5 → 2 ≤ m_dep a i)
theorem m_dep_le (a : Nat → Int32) : ∀ n, m_dep a n ≤ n
  | 0 => Nat.le_refl _
  | n + 1 => by have := m_dep_le a n; rw [m_dep]; (repeat' split) <;> omega
/-- the pile changed at will -/
def mS_p (σ τ : jf_S) : Prop := τ.2 = σ.2 ∧ (∀ k, k ≠ 0 → k ≠ 36 → τ.1 k = σ.1 k) ∧ (∀ j, j ≠ 56 → τ.1 0 j = σ.1 0 j)
theorem mS_p_r (σ : jf_S) : mS_p σ σ := ⟨rfl, fun _ _ _ => rfl, fun _ _ => rfl⟩
theorem mS_p_w {σ τ : jf_S} (h : mS_p σ τ) {j : Nat} {v : Int32} : mS_p σ (jf_i τ 36 j v) := by
  refine ⟨h.1, fun a h1 h2 => ?_, fun i h1 => ?_⟩
  · rw [jf_i_o a h2]; exact h.2.1 a h1 h2
  · rw [jf_i_o 0 (by decide)]; exact h.2.2 i h1
theorem mS_p_f {σ τ : jf_S} (h : mS_p σ τ) {v : Int32} : mS_p σ (jf_i τ 0 56 v) := by
  refine ⟨h.1, fun a h1 h2 => ?_, fun i h1 => ?_⟩
  · rw [jf_i_o a h1]; exact h.2.1 a h1 h2
  · rw [jf_i_at]; unfold upd; rw [if_neg h1]; exact h.2.2 i h1
theorem m_piled_56 (σ : jf_S) : (σ.1 0 56) = σ.1 0 56 := rfl
theorem m_pile_36 (σ : jf_S) : (σ.1 36) = σ.1 36 := rfl
set_option maxHeartbeats 2000000 in
theorem ct_X11_holds (E : jf_E) (σ : jf_S) (j f k : Int32) (j0 : 0 ≤ j.toInt) (j1 : j.toInt < 10) (h0 : 0 ≤ ((σ.1 0 39)).toInt) (h1 : ((σ.1 0 39)).toInt ≤ 100) (n0 : 0 ≤ ((σ.1 0 46)).toInt) (n1 : ((σ.1 0 46)).toInt ≤ 300) (hv : m_val ((σ.1 32)) ((σ.1 0 46)).toNatClampNeg) : jf_I jh_M E yX11_holds cX11_holds 8 .boolean 1 [jf_r E 0, .int j, .int f, .int k] σ (fun r τ => (r = 0 ∨ r = 1) ∧ mS_p σ τ) := by
  refine jf_mkI (by decide) (Nat.le_of_ble_eq_true rfl) ?_
  intro G C ret
  have loop : ∀ (m : Nat) (τ : jf_S) (o : Int32), mS_p σ τ → 0 ≤ o.toInt → o.toInt ≤ ((σ.1 0 46)).toInt → ((σ.1 0 46)).toInt - o.toInt < m → ((τ.1 0 56)).toInt = m_dep ((σ.1 32)) o.toNatClampNeg → jf_X jh_M E G 8 8 [(0, jf_r E 0), (1, .int j), (2, .int f), (3, .int k), (4, .int o)] [] τ := by
    intro m
    induction m with
    | zero => intro τ o g0 g1 g2 g3 g4; exfalso; omega
    | succ m ih =>
      intro τ o g0 g1 g2 g3 g4
      have e1 := ji_inc (k := o) (by omega)
      have e2 : (o + Int32.ofInt 1).toNatClampNeg = o.toNatClampNeg + 1 := ji_cl (by rw [e1, Int.natCast_add, ji_tn g1]; rfl)
      have c1 : (τ.1 0 46) = (σ.1 0 46) := g0.2.2 _ (by decide)
      have c2 : (τ.1 32) = (σ.1 32) := g0.2.1 _ (by decide) (by decide)
      have c3 : (τ.1 0 39) = (σ.1 0 39) := g0.2.2 _ (by decide)
      have d1 := m_dep_le ((σ.1 32)) o.toNatClampNeg
      have d2 := ji_tn g1
      have p1 := ji_dec1 (k := (τ.1 0 56)) (by omega)
      have p2 := ji_inc1 (k := (τ.1 0 56)) (by omega)
      have dd : m_dep ((σ.1 32)) (o.toNatClampNeg + 1) = if ((σ.1 32) o.toNatClampNeg).toInt = -3 then m_dep ((σ.1 32)) o.toNatClampNeg else if ((σ.1 32) o.toNatClampNeg).toInt = -4 ∨ ((σ.1 32) o.toNatClampNeg).toInt = -5 then m_dep ((σ.1 32)) o.toNatClampNeg - 1 else m_dep ((σ.1 32)) o.toNatClampNeg + 1 := rfl
      refine jr_iload C dX11_holds_8 rfl ?_
      refine jr_aload_n C dX11_holds_10 rfl ?_
      refine jr_geti C kf_X11_362_0 dX11_holds_11 ?_
      refine jr_ncmp_ge C (b := ((σ.1 0 46)).toInt) 238 dX11_holds_14 (by decide) rfl (by rw [c1]) (fun b14 => ?_) (fun b14 => ?_)
      · refine jr_aload_n C dX11_holds_238 rfl ?_
        refine jr_getr C kf_X11_120_0 dX11_holds_239 ?_
        refine jr_iconst C (v := 0) dX11_holds_242 (by decide) ?_
        refine jr_ialv C ka_M_36 dX11_holds_243 (ji_in (i := 0) (by decide) (by decide)) (v := τ.1 36 _) rfl ?_
        refine jr_iconst C (v := 1) dX11_holds_244 (by decide) ?_
        refine jr_ncmp_ne C (b := 1) 252 dX11_holds_245 (by decide) rfl rfl (fun b245 => ?_) (fun b245 => ?_)
        · refine jr_iconst C (v := 0) dX11_holds_252 (by decide) ?_
          exact ret _ _ _ _ dX11_holds_253 (rfl) (⟨by decide, g0⟩)
        · refine jr_iconst C (v := 1) dX11_holds_248 (by decide) ?_
          refine jr_goto C 253 dX11_holds_249 (by decide) ?_
          exact ret _ _ _ _ dX11_holds_253 (rfl) (⟨by decide, g0⟩)
      have hV := hv o.toNatClampNeg (by have := ji_tn n0; omega)
      have r0 : 0 ≤ ((τ.1 0 39)).toInt := by rw [c3]; exact h0
      have r1 : ((τ.1 0 39)).toInt ≤ 100 := by rw [c3]; exact h1
      have p3 : 1 ≤ ((τ.1 0 56)).toInt → ((τ.1 0 56) - 1 - 1).toInt = ((τ.1 0 56)).toInt - 2 := fun q => by rw [ji_dec1 (by omega), p1]; omega
      have J232 : ∀ (υ : jf_S), mS_p σ υ → ((υ.1 0 56)).toInt = m_dep ((σ.1 32)) (o.toNatClampNeg + 1) → jf_X jh_M E G 8 232 [(0, jf_r E 0), (1, .int j), (2, .int f), (3, .int k), (4, .int o)] [] υ := by
        intro υ u1 u2
        refine jr_iinc C _ dX11_holds_232 rfl rfl (by decide) ?_
        refine jr_goto C 8 dX11_holds_235 (by decide) ?_
        exact jr_sub [(0, jf_r E 0), (1, .int j), (2, .int f), (3, .int k), (4, .int _)] rfl (ih _ _ u1 (by omega) (by omega) (by omega) (by rw [e2]; exact u2))
      refine jr_aload_n C dX11_holds_17 rfl ?_
      refine jr_getr C kf_X11_108_0 dX11_holds_18 ?_
      refine jr_iload C dX11_holds_21 rfl ?_
      refine jr_ialv C ka_M_32 dX11_holds_23 (ji_in (by omega) (by omega)) (v := (σ.1 32) o.toNatClampNeg) (by rw [c2]) ?_
      refine jr_istore C dX11_holds_24 (by decide) ?_
      refine jr_iload C dX11_holds_26 rfl ?_
      refine jr_bipush C (v := -3) dX11_holds_28 (by decide) ?_
      refine jr_ncmp_ne C (b := -3) 60 dX11_holds_30 (by decide) rfl rfl (fun b30 => ?_) (fun b30 => ?_)
      · refine jr_iload C dX11_holds_60 rfl ?_
        refine jr_bipush C (v := -4) dX11_holds_62 (by decide) ?_
        refine jr_ncmp_eq C (b := -4) 74 dX11_holds_64 (by decide) rfl rfl (fun b64 => ?_) (fun b64 => ?_)
        · refine jr_aload_n C dX11_holds_74 rfl ?_
          refine jr_dup C dX11_holds_75 rfl ?_
          refine jr_getv C kf_X11_320_0 dX11_holds_76 (v := τ.1 0 56) rfl ?_
          refine jr_iconst C (v := 1) dX11_holds_79 (by decide) ?_
          refine jr_isub C dX11_holds_80 ?_
          refine jr_puti C kp_X11_320_0 dX11_holds_81 ?_
          refine jr_aload_n C dX11_holds_84 rfl ?_
          refine jr_getr C kf_X11_120_0 dX11_holds_85 ?_
          refine jr_aload_n C dX11_holds_88 rfl ?_
          refine jr_geti C kf_X11_320_0 dX11_holds_89 ?_
          refine jr_iconst C (v := 1) dX11_holds_92 (by decide) ?_
          refine jr_isub C dX11_holds_93 ?_
          refine jr_ialv C ka_M_36 dX11_holds_94 (ji_in (i := (τ.1 0 56) - 1 - 1) (by have := hV.2 (by omega); have := p3 (by omega); omega) (by have := hV.2 (by omega); have := p3 (by omega); omega)) (v := τ.1 36 _) rfl ?_
          refine jr_istore C dX11_holds_95 (by decide) ?_
          refine jr_aload_n C dX11_holds_97 rfl ?_
          refine jr_getr C kf_X11_120_0 dX11_holds_98 ?_
          refine jr_aload_n C dX11_holds_101 rfl ?_
          refine jr_geti C kf_X11_320_0 dX11_holds_102 ?_
          refine jr_ialv C ka_M_36 dX11_holds_105 (ji_in (i := (τ.1 0 56) - 1) (by have := hV.2 (by omega); omega) (by omega)) (v := τ.1 36 _) rfl ?_
          refine jr_istore C dX11_holds_106 (by decide) ?_
          refine jr_aload_n C dX11_holds_108 rfl ?_
          refine jr_getr C kf_X11_120_0 dX11_holds_109 ?_
          refine jr_aload_n C dX11_holds_112 rfl ?_
          refine jr_geti C kf_X11_320_0 dX11_holds_113 ?_
          refine jr_iconst C (v := 1) dX11_holds_116 (by decide) ?_
          refine jr_isub C dX11_holds_117 ?_
          refine jr_iload C dX11_holds_118 rfl ?_
          refine jr_bipush C (v := -4) dX11_holds_120 (by decide) ?_
          refine jr_ncmp_ne C (b := -4) 133 dX11_holds_122 (by decide) rfl rfl (fun b122 => ?_) (fun b122 => ?_)
          · refine jr_iload C dX11_holds_133 rfl ?_
            refine jr_iload C dX11_holds_135 rfl ?_
            refine jr_iadd C dX11_holds_137 ?_
            refine jr_nif_le C 145 dX11_holds_138 (by decide) (fun b138 => ?_) (fun b138 => ?_)
            · refine jr_iconst C (v := 0) dX11_holds_145 (by decide) ?_
              refine jr_iast C ka_M_36 dX11_holds_146 (ji_in (i := (τ.1 0 56) - 1 - 1) (by have := hV.2 (by omega); have := p3 (by omega); omega) (by have := hV.2 (by omega); have := p3 (by omega); omega)) ?_
              refine jr_goto C 232 dX11_holds_147 (by decide) ?_
              first | exact jr_sub [(0, jf_r E 0), (1, .int j), (2, .int f), (3, .int k), (4, .int o)] rfl (J232 _ (mS_p_w g0) (show ((τ.1 0 56)).toInt = _ by rw [dd]; (repeat' split) <;> omega)) | exact jr_sub [(0, jf_r E 0), (1, .int j), (2, .int f), (3, .int k), (4, .int o)] rfl (J232 _ (mS_p_w (mS_p_f g0)) (show ((τ.1 0 56) - 1).toInt = _ by rw [dd]; have := hV.2; (repeat' split) <;> omega)) | exact jr_sub [(0, jf_r E 0), (1, .int j), (2, .int f), (3, .int k), (4, .int o)] rfl (J232 _ (mS_p_f (mS_p_w g0)) (show ((τ.1 0 56) + 1).toInt = _ by rw [dd]; (repeat' split) <;> omega))
            · refine jr_iconst C (v := 1) dX11_holds_141 (by decide) ?_
              refine jr_goto C 146 dX11_holds_142 (by decide) ?_
              refine jr_iast C ka_M_36 dX11_holds_146 (ji_in (i := (τ.1 0 56) - 1 - 1) (by have := hV.2 (by omega); have := p3 (by omega); omega) (by have := hV.2 (by omega); have := p3 (by omega); omega)) ?_
              refine jr_goto C 232 dX11_holds_147 (by decide) ?_
              first | exact jr_sub [(0, jf_r E 0), (1, .int j), (2, .int f), (3, .int k), (4, .int o)] rfl (J232 _ (mS_p_w g0) (show ((τ.1 0 56)).toInt = _ by rw [dd]; (repeat' split) <;> omega)) | exact jr_sub [(0, jf_r E 0), (1, .int j), (2, .int f), (3, .int k), (4, .int o)] rfl (J232 _ (mS_p_w (mS_p_f g0)) (show ((τ.1 0 56) - 1).toInt = _ by rw [dd]; have := hV.2; (repeat' split) <;> omega)) | exact jr_sub [(0, jf_r E 0), (1, .int j), (2, .int f), (3, .int k), (4, .int o)] rfl (J232 _ (mS_p_f (mS_p_w g0)) (show ((τ.1 0 56) + 1).toInt = _ by rw [dd]; (repeat' split) <;> omega))
          · refine jr_iload C dX11_holds_125 rfl ?_
            refine jr_iload C dX11_holds_127 rfl ?_
            refine jr_imul C dX11_holds_129 ?_
            refine jr_goto C 146 dX11_holds_130 (by decide) ?_
            refine jr_iast C ka_M_36 dX11_holds_146 (ji_in (i := (τ.1 0 56) - 1 - 1) (by have := hV.2 (by omega); have := p3 (by omega); omega) (by have := hV.2 (by omega); have := p3 (by omega); omega)) ?_
            refine jr_goto C 232 dX11_holds_147 (by decide) ?_
            first | exact jr_sub [(0, jf_r E 0), (1, .int j), (2, .int f), (3, .int k), (4, .int o)] rfl (J232 _ (mS_p_w g0) (show ((τ.1 0 56)).toInt = _ by rw [dd]; (repeat' split) <;> omega)) | exact jr_sub [(0, jf_r E 0), (1, .int j), (2, .int f), (3, .int k), (4, .int o)] rfl (J232 _ (mS_p_w (mS_p_f g0)) (show ((τ.1 0 56) - 1).toInt = _ by rw [dd]; have := hV.2; (repeat' split) <;> omega)) | exact jr_sub [(0, jf_r E 0), (1, .int j), (2, .int f), (3, .int k), (4, .int o)] rfl (J232 _ (mS_p_f (mS_p_w g0)) (show ((τ.1 0 56) + 1).toInt = _ by rw [dd]; (repeat' split) <;> omega))
        · refine jr_iload C dX11_holds_67 rfl ?_
          refine jr_bipush C (v := -5) dX11_holds_69 (by decide) ?_
          refine jr_ncmp_ne C (b := -5) 150 dX11_holds_71 (by decide) rfl rfl (fun b71 => ?_) (fun b71 => ?_)
          · refine jr_iload C dX11_holds_150 rfl ?_
            refine jr_iconst C (v := -1) dX11_holds_152 (by decide) ?_
            refine jr_ncmp_ne C (b := -1) 167 dX11_holds_153 (by decide) rfl rfl (fun b153 => ?_) (fun b153 => ?_)
            · refine jr_iload C dX11_holds_167 rfl ?_
              refine jr_bipush C (v := -2) dX11_holds_169 (by decide) ?_
              refine jr_ncmp_ne C (b := -2) 185 dX11_holds_171 (by decide) rfl rfl (fun b171 => ?_) (fun b171 => ?_)
              · refine jr_aload_n C dX11_holds_185 rfl ?_
                refine jr_getr C kf_X11_87_0 dX11_holds_186 ?_
                refine jr_iload_n C dX11_holds_189 rfl ?_
                refine jr_ialv C ka_M_25 dX11_holds_190 (ji_in j0 j1) (v := τ.1 25 _) rfl ?_
                refine jr_iload C dX11_holds_191 rfl ?_
                refine jr_ncmp_lt C 200 dX11_holds_193 (by decide) rfl rfl (fun b193 => ?_) (fun b193 => ?_)
                · refine jr_iconst C (v := 0) dX11_holds_200 (by decide) ?_
                  refine jr_istore C dX11_holds_201 (by decide) ?_
                  refine jr_aload_n C dX11_holds_203 rfl ?_
                  refine jr_getr C kf_X11_120_0 dX11_holds_204 ?_
                  refine jr_aload_n C dX11_holds_207 rfl ?_
                  refine jr_getv C kf_X11_320_0 dX11_holds_208 (v := τ.1 0 56) rfl ?_
                  refine jr_iload C dX11_holds_211 rfl ?_
                  refine jr_if_eq C 220 dX11_holds_213 (by decide) (fun _ => ?_) (fun b => absurd b (by decide))
                  refine jr_iconst C (v := 0) dX11_holds_220 (by decide) ?_
                  refine jr_iast C ka_M_36 dX11_holds_221 (ji_in (i := (τ.1 0 56)) (by omega) (by omega)) ?_
                  refine jr_aload_n C dX11_holds_222 rfl ?_
                  refine jr_dup C dX11_holds_223 rfl ?_
                  refine jr_getv C kf_X11_320_0 dX11_holds_224 (v := τ.1 0 56) rfl ?_
                  refine jr_iconst C (v := 1) dX11_holds_227 (by decide) ?_
                  refine jr_iadd C dX11_holds_228 ?_
                  refine jr_puti C kp_X11_320_0 dX11_holds_229 ?_
                  first | exact jr_sub [(0, jf_r E 0), (1, .int j), (2, .int f), (3, .int k), (4, .int o)] rfl (J232 _ (mS_p_w g0) (show ((τ.1 0 56)).toInt = _ by rw [dd]; (repeat' split) <;> omega)) | exact jr_sub [(0, jf_r E 0), (1, .int j), (2, .int f), (3, .int k), (4, .int o)] rfl (J232 _ (mS_p_w (mS_p_f g0)) (show ((τ.1 0 56) - 1).toInt = _ by rw [dd]; have := hV.2; (repeat' split) <;> omega)) | exact jr_sub [(0, jf_r E 0), (1, .int j), (2, .int f), (3, .int k), (4, .int o)] rfl (J232 _ (mS_p_f (mS_p_w g0)) (show ((τ.1 0 56) + 1).toInt = _ by rw [dd]; (repeat' split) <;> omega))
                · refine jr_iconst C (v := 1) dX11_holds_196 (by decide) ?_
                  refine jr_goto C 201 dX11_holds_197 (by decide) ?_
                  refine jr_istore C dX11_holds_201 (by decide) ?_
                  refine jr_aload_n C dX11_holds_203 rfl ?_
                  refine jr_getr C kf_X11_120_0 dX11_holds_204 ?_
                  refine jr_aload_n C dX11_holds_207 rfl ?_
                  refine jr_getv C kf_X11_320_0 dX11_holds_208 (v := τ.1 0 56) rfl ?_
                  refine jr_iload C dX11_holds_211 rfl ?_
                  refine jr_if_eq C 220 dX11_holds_213 (by decide) (fun b => absurd b (by decide)) (fun _ => ?_)
                  refine jr_iconst C (v := 1) dX11_holds_216 (by decide) ?_
                  refine jr_goto C 221 dX11_holds_217 (by decide) ?_
                  refine jr_iast C ka_M_36 dX11_holds_221 (ji_in (i := (τ.1 0 56)) (by omega) (by omega)) ?_
                  refine jr_aload_n C dX11_holds_222 rfl ?_
                  refine jr_dup C dX11_holds_223 rfl ?_
                  refine jr_getv C kf_X11_320_0 dX11_holds_224 (v := τ.1 0 56) rfl ?_
                  refine jr_iconst C (v := 1) dX11_holds_227 (by decide) ?_
                  refine jr_iadd C dX11_holds_228 ?_
                  refine jr_puti C kp_X11_320_0 dX11_holds_229 ?_
                  first | exact jr_sub [(0, jf_r E 0), (1, .int j), (2, .int f), (3, .int k), (4, .int o)] rfl (J232 _ (mS_p_w g0) (show ((τ.1 0 56)).toInt = _ by rw [dd]; (repeat' split) <;> omega)) | exact jr_sub [(0, jf_r E 0), (1, .int j), (2, .int f), (3, .int k), (4, .int o)] rfl (J232 _ (mS_p_w (mS_p_f g0)) (show ((τ.1 0 56) - 1).toInt = _ by rw [dd]; have := hV.2; (repeat' split) <;> omega)) | exact jr_sub [(0, jf_r E 0), (1, .int j), (2, .int f), (3, .int k), (4, .int o)] rfl (J232 _ (mS_p_f (mS_p_w g0)) (show ((τ.1 0 56) + 1).toInt = _ by rw [dd]; (repeat' split) <;> omega))
              · refine jr_aload_n C dX11_holds_174 rfl ?_
                refine jr_iconst C (v := 1) dX11_holds_175 (by decide) ?_
                refine jr_iload_n C dX11_holds_176 rfl ?_
                refine jr_iload_n C dX11_holds_177 rfl ?_
                refine jr_iload_n C dX11_holds_178 rfl ?_
                refine jr_vip C [.int _, .int _, .int _, .int _] _ (ct_X11_isRow E _ _ _ _ _ r0 r1) ky_X11_isRow kv_X11_isRow kk_M_0 km_X11_371 (by decide) rfl (Nat.le_of_ble_eq_true rfl) dX11_holds_179 ?_
                refine jr_goto C 201 dX11_holds_182 (by decide) ?_
                refine jr_istore C dX11_holds_201 (by decide) ?_
                refine jr_aload_n C dX11_holds_203 rfl ?_
                refine jr_getr C kf_X11_120_0 dX11_holds_204 ?_
                refine jr_aload_n C dX11_holds_207 rfl ?_
                refine jr_getv C kf_X11_320_0 dX11_holds_208 (v := τ.1 0 56) rfl ?_
                refine jr_iload C dX11_holds_211 rfl ?_
                refine jr_nif_eq C 220 dX11_holds_213 (by decide) (fun b213 => ?_) (fun b213 => ?_)
                · refine jr_iconst C (v := 0) dX11_holds_220 (by decide) ?_
                  refine jr_iast C ka_M_36 dX11_holds_221 (ji_in (i := (τ.1 0 56)) (by omega) (by omega)) ?_
                  refine jr_aload_n C dX11_holds_222 rfl ?_
                  refine jr_dup C dX11_holds_223 rfl ?_
                  refine jr_getv C kf_X11_320_0 dX11_holds_224 (v := τ.1 0 56) rfl ?_
                  refine jr_iconst C (v := 1) dX11_holds_227 (by decide) ?_
                  refine jr_iadd C dX11_holds_228 ?_
                  refine jr_puti C kp_X11_320_0 dX11_holds_229 ?_
                  first | exact jr_sub [(0, jf_r E 0), (1, .int j), (2, .int f), (3, .int k), (4, .int o)] rfl (J232 _ (mS_p_w g0) (show ((τ.1 0 56)).toInt = _ by rw [dd]; (repeat' split) <;> omega)) | exact jr_sub [(0, jf_r E 0), (1, .int j), (2, .int f), (3, .int k), (4, .int o)] rfl (J232 _ (mS_p_w (mS_p_f g0)) (show ((τ.1 0 56) - 1).toInt = _ by rw [dd]; have := hV.2; (repeat' split) <;> omega)) | exact jr_sub [(0, jf_r E 0), (1, .int j), (2, .int f), (3, .int k), (4, .int o)] rfl (J232 _ (mS_p_f (mS_p_w g0)) (show ((τ.1 0 56) + 1).toInt = _ by rw [dd]; (repeat' split) <;> omega))
                · refine jr_iconst C (v := 1) dX11_holds_216 (by decide) ?_
                  refine jr_goto C 221 dX11_holds_217 (by decide) ?_
                  refine jr_iast C ka_M_36 dX11_holds_221 (ji_in (i := (τ.1 0 56)) (by omega) (by omega)) ?_
                  refine jr_aload_n C dX11_holds_222 rfl ?_
                  refine jr_dup C dX11_holds_223 rfl ?_
                  refine jr_getv C kf_X11_320_0 dX11_holds_224 (v := τ.1 0 56) rfl ?_
                  refine jr_iconst C (v := 1) dX11_holds_227 (by decide) ?_
                  refine jr_iadd C dX11_holds_228 ?_
                  refine jr_puti C kp_X11_320_0 dX11_holds_229 ?_
                  first | exact jr_sub [(0, jf_r E 0), (1, .int j), (2, .int f), (3, .int k), (4, .int o)] rfl (J232 _ (mS_p_w g0) (show ((τ.1 0 56)).toInt = _ by rw [dd]; (repeat' split) <;> omega)) | exact jr_sub [(0, jf_r E 0), (1, .int j), (2, .int f), (3, .int k), (4, .int o)] rfl (J232 _ (mS_p_w (mS_p_f g0)) (show ((τ.1 0 56) - 1).toInt = _ by rw [dd]; have := hV.2; (repeat' split) <;> omega)) | exact jr_sub [(0, jf_r E 0), (1, .int j), (2, .int f), (3, .int k), (4, .int o)] rfl (J232 _ (mS_p_f (mS_p_w g0)) (show ((τ.1 0 56) + 1).toInt = _ by rw [dd]; (repeat' split) <;> omega))
            · refine jr_aload_n C dX11_holds_156 rfl ?_
              refine jr_iconst C (v := 0) dX11_holds_157 (by decide) ?_
              refine jr_iload_n C dX11_holds_158 rfl ?_
              refine jr_iload_n C dX11_holds_159 rfl ?_
              refine jr_iload_n C dX11_holds_160 rfl ?_
              refine jr_vip C [.int _, .int _, .int _, .int _] _ (ct_X11_isRow E _ _ _ _ _ r0 r1) ky_X11_isRow kv_X11_isRow kk_M_0 km_X11_371 (by decide) rfl (Nat.le_of_ble_eq_true rfl) dX11_holds_161 ?_
              refine jr_goto C 201 dX11_holds_164 (by decide) ?_
              refine jr_istore C dX11_holds_201 (by decide) ?_
              refine jr_aload_n C dX11_holds_203 rfl ?_
              refine jr_getr C kf_X11_120_0 dX11_holds_204 ?_
              refine jr_aload_n C dX11_holds_207 rfl ?_
              refine jr_getv C kf_X11_320_0 dX11_holds_208 (v := τ.1 0 56) rfl ?_
              refine jr_iload C dX11_holds_211 rfl ?_
              refine jr_nif_eq C 220 dX11_holds_213 (by decide) (fun b213 => ?_) (fun b213 => ?_)
              · refine jr_iconst C (v := 0) dX11_holds_220 (by decide) ?_
                refine jr_iast C ka_M_36 dX11_holds_221 (ji_in (i := (τ.1 0 56)) (by omega) (by omega)) ?_
                refine jr_aload_n C dX11_holds_222 rfl ?_
                refine jr_dup C dX11_holds_223 rfl ?_
                refine jr_getv C kf_X11_320_0 dX11_holds_224 (v := τ.1 0 56) rfl ?_
                refine jr_iconst C (v := 1) dX11_holds_227 (by decide) ?_
                refine jr_iadd C dX11_holds_228 ?_
                refine jr_puti C kp_X11_320_0 dX11_holds_229 ?_
                first | exact jr_sub [(0, jf_r E 0), (1, .int j), (2, .int f), (3, .int k), (4, .int o)] rfl (J232 _ (mS_p_w g0) (show ((τ.1 0 56)).toInt = _ by rw [dd]; (repeat' split) <;> omega)) | exact jr_sub [(0, jf_r E 0), (1, .int j), (2, .int f), (3, .int k), (4, .int o)] rfl (J232 _ (mS_p_w (mS_p_f g0)) (show ((τ.1 0 56) - 1).toInt = _ by rw [dd]; have := hV.2; (repeat' split) <;> omega)) | exact jr_sub [(0, jf_r E 0), (1, .int j), (2, .int f), (3, .int k), (4, .int o)] rfl (J232 _ (mS_p_f (mS_p_w g0)) (show ((τ.1 0 56) + 1).toInt = _ by rw [dd]; (repeat' split) <;> omega))
              · refine jr_iconst C (v := 1) dX11_holds_216 (by decide) ?_
                refine jr_goto C 221 dX11_holds_217 (by decide) ?_
                refine jr_iast C ka_M_36 dX11_holds_221 (ji_in (i := (τ.1 0 56)) (by omega) (by omega)) ?_
                refine jr_aload_n C dX11_holds_222 rfl ?_
                refine jr_dup C dX11_holds_223 rfl ?_
                refine jr_getv C kf_X11_320_0 dX11_holds_224 (v := τ.1 0 56) rfl ?_
                refine jr_iconst C (v := 1) dX11_holds_227 (by decide) ?_
                refine jr_iadd C dX11_holds_228 ?_
                refine jr_puti C kp_X11_320_0 dX11_holds_229 ?_
                first | exact jr_sub [(0, jf_r E 0), (1, .int j), (2, .int f), (3, .int k), (4, .int o)] rfl (J232 _ (mS_p_w g0) (show ((τ.1 0 56)).toInt = _ by rw [dd]; (repeat' split) <;> omega)) | exact jr_sub [(0, jf_r E 0), (1, .int j), (2, .int f), (3, .int k), (4, .int o)] rfl (J232 _ (mS_p_w (mS_p_f g0)) (show ((τ.1 0 56) - 1).toInt = _ by rw [dd]; have := hV.2; (repeat' split) <;> omega)) | exact jr_sub [(0, jf_r E 0), (1, .int j), (2, .int f), (3, .int k), (4, .int o)] rfl (J232 _ (mS_p_f (mS_p_w g0)) (show ((τ.1 0 56) + 1).toInt = _ by rw [dd]; (repeat' split) <;> omega))
          · refine jr_aload_n C dX11_holds_74 rfl ?_
            refine jr_dup C dX11_holds_75 rfl ?_
            refine jr_getv C kf_X11_320_0 dX11_holds_76 (v := τ.1 0 56) rfl ?_
            refine jr_iconst C (v := 1) dX11_holds_79 (by decide) ?_
            refine jr_isub C dX11_holds_80 ?_
            refine jr_puti C kp_X11_320_0 dX11_holds_81 ?_
            refine jr_aload_n C dX11_holds_84 rfl ?_
            refine jr_getr C kf_X11_120_0 dX11_holds_85 ?_
            refine jr_aload_n C dX11_holds_88 rfl ?_
            refine jr_geti C kf_X11_320_0 dX11_holds_89 ?_
            refine jr_iconst C (v := 1) dX11_holds_92 (by decide) ?_
            refine jr_isub C dX11_holds_93 ?_
            refine jr_ialv C ka_M_36 dX11_holds_94 (ji_in (i := (τ.1 0 56) - 1 - 1) (by have := hV.2 (by omega); have := p3 (by omega); omega) (by have := hV.2 (by omega); have := p3 (by omega); omega)) (v := τ.1 36 _) rfl ?_
            refine jr_istore C dX11_holds_95 (by decide) ?_
            refine jr_aload_n C dX11_holds_97 rfl ?_
            refine jr_getr C kf_X11_120_0 dX11_holds_98 ?_
            refine jr_aload_n C dX11_holds_101 rfl ?_
            refine jr_geti C kf_X11_320_0 dX11_holds_102 ?_
            refine jr_ialv C ka_M_36 dX11_holds_105 (ji_in (i := (τ.1 0 56) - 1) (by have := hV.2 (by omega); omega) (by omega)) (v := τ.1 36 _) rfl ?_
            refine jr_istore C dX11_holds_106 (by decide) ?_
            refine jr_aload_n C dX11_holds_108 rfl ?_
            refine jr_getr C kf_X11_120_0 dX11_holds_109 ?_
            refine jr_aload_n C dX11_holds_112 rfl ?_
            refine jr_geti C kf_X11_320_0 dX11_holds_113 ?_
            refine jr_iconst C (v := 1) dX11_holds_116 (by decide) ?_
            refine jr_isub C dX11_holds_117 ?_
            refine jr_iload C dX11_holds_118 rfl ?_
            refine jr_bipush C (v := -4) dX11_holds_120 (by decide) ?_
            refine jr_ncmp_ne C (b := -4) 133 dX11_holds_122 (by decide) rfl rfl (fun b122 => ?_) (fun b122 => ?_)
            · refine jr_iload C dX11_holds_133 rfl ?_
              refine jr_iload C dX11_holds_135 rfl ?_
              refine jr_iadd C dX11_holds_137 ?_
              refine jr_nif_le C 145 dX11_holds_138 (by decide) (fun b138 => ?_) (fun b138 => ?_)
              · refine jr_iconst C (v := 0) dX11_holds_145 (by decide) ?_
                refine jr_iast C ka_M_36 dX11_holds_146 (ji_in (i := (τ.1 0 56) - 1 - 1) (by have := hV.2 (by omega); have := p3 (by omega); omega) (by have := hV.2 (by omega); have := p3 (by omega); omega)) ?_
                refine jr_goto C 232 dX11_holds_147 (by decide) ?_
                first | exact jr_sub [(0, jf_r E 0), (1, .int j), (2, .int f), (3, .int k), (4, .int o)] rfl (J232 _ (mS_p_w g0) (show ((τ.1 0 56)).toInt = _ by rw [dd]; (repeat' split) <;> omega)) | exact jr_sub [(0, jf_r E 0), (1, .int j), (2, .int f), (3, .int k), (4, .int o)] rfl (J232 _ (mS_p_w (mS_p_f g0)) (show ((τ.1 0 56) - 1).toInt = _ by rw [dd]; have := hV.2; (repeat' split) <;> omega)) | exact jr_sub [(0, jf_r E 0), (1, .int j), (2, .int f), (3, .int k), (4, .int o)] rfl (J232 _ (mS_p_f (mS_p_w g0)) (show ((τ.1 0 56) + 1).toInt = _ by rw [dd]; (repeat' split) <;> omega))
              · refine jr_iconst C (v := 1) dX11_holds_141 (by decide) ?_
                refine jr_goto C 146 dX11_holds_142 (by decide) ?_
                refine jr_iast C ka_M_36 dX11_holds_146 (ji_in (i := (τ.1 0 56) - 1 - 1) (by have := hV.2 (by omega); have := p3 (by omega); omega) (by have := hV.2 (by omega); have := p3 (by omega); omega)) ?_
                refine jr_goto C 232 dX11_holds_147 (by decide) ?_
                first | exact jr_sub [(0, jf_r E 0), (1, .int j), (2, .int f), (3, .int k), (4, .int o)] rfl (J232 _ (mS_p_w g0) (show ((τ.1 0 56)).toInt = _ by rw [dd]; (repeat' split) <;> omega)) | exact jr_sub [(0, jf_r E 0), (1, .int j), (2, .int f), (3, .int k), (4, .int o)] rfl (J232 _ (mS_p_w (mS_p_f g0)) (show ((τ.1 0 56) - 1).toInt = _ by rw [dd]; have := hV.2; (repeat' split) <;> omega)) | exact jr_sub [(0, jf_r E 0), (1, .int j), (2, .int f), (3, .int k), (4, .int o)] rfl (J232 _ (mS_p_f (mS_p_w g0)) (show ((τ.1 0 56) + 1).toInt = _ by rw [dd]; (repeat' split) <;> omega))
            · refine jr_iload C dX11_holds_125 rfl ?_
              refine jr_iload C dX11_holds_127 rfl ?_
              refine jr_imul C dX11_holds_129 ?_
              refine jr_goto C 146 dX11_holds_130 (by decide) ?_
              refine jr_iast C ka_M_36 dX11_holds_146 (ji_in (i := (τ.1 0 56) - 1 - 1) (by have := hV.2 (by omega); have := p3 (by omega); omega) (by have := hV.2 (by omega); have := p3 (by omega); omega)) ?_
              refine jr_goto C 232 dX11_holds_147 (by decide) ?_
              first | exact jr_sub [(0, jf_r E 0), (1, .int j), (2, .int f), (3, .int k), (4, .int o)] rfl (J232 _ (mS_p_w g0) (show ((τ.1 0 56)).toInt = _ by rw [dd]; (repeat' split) <;> omega)) | exact jr_sub [(0, jf_r E 0), (1, .int j), (2, .int f), (3, .int k), (4, .int o)] rfl (J232 _ (mS_p_w (mS_p_f g0)) (show ((τ.1 0 56) - 1).toInt = _ by rw [dd]; have := hV.2; (repeat' split) <;> omega)) | exact jr_sub [(0, jf_r E 0), (1, .int j), (2, .int f), (3, .int k), (4, .int o)] rfl (J232 _ (mS_p_f (mS_p_w g0)) (show ((τ.1 0 56) + 1).toInt = _ by rw [dd]; (repeat' split) <;> omega))
      · refine jr_aload_n C dX11_holds_33 rfl ?_
        refine jr_getr C kf_X11_120_0 dX11_holds_34 ?_
        refine jr_aload_n C dX11_holds_37 rfl ?_
        refine jr_getv C kf_X11_320_0 dX11_holds_38 (v := τ.1 0 56) rfl ?_
        refine jr_iconst C (v := 1) dX11_holds_41 (by decide) ?_
        refine jr_isub C dX11_holds_42 ?_
        refine jr_iconst C (v := 1) dX11_holds_43 (by decide) ?_
        refine jr_aload_n C dX11_holds_44 rfl ?_
        refine jr_getr C kf_X11_120_0 dX11_holds_45 ?_
        refine jr_aload_n C dX11_holds_48 rfl ?_
        refine jr_getv C kf_X11_320_0 dX11_holds_49 (v := τ.1 0 56) rfl ?_
        refine jr_iconst C (v := 1) dX11_holds_52 (by decide) ?_
        refine jr_isub C dX11_holds_53 ?_
        refine jr_ialv C ka_M_36 dX11_holds_54 (ji_in (i := (τ.1 0 56) - 1) (by have := hV.1 (by omega); omega) (by omega)) (v := τ.1 36 _) rfl ?_
        refine jr_isub C dX11_holds_55 ?_
        refine jr_iast C ka_M_36 dX11_holds_56 (ji_in (i := (τ.1 0 56) - 1) (by have := hV.1 (by omega); omega) (by omega)) ?_
        refine jr_goto C 232 dX11_holds_57 (by decide) ?_
        first | exact jr_sub [(0, jf_r E 0), (1, .int j), (2, .int f), (3, .int k), (4, .int o)] rfl (J232 _ (mS_p_w g0) (show ((τ.1 0 56)).toInt = _ by rw [dd]; (repeat' split) <;> omega)) | exact jr_sub [(0, jf_r E 0), (1, .int j), (2, .int f), (3, .int k), (4, .int o)] rfl (J232 _ (mS_p_w (mS_p_f g0)) (show ((τ.1 0 56) - 1).toInt = _ by rw [dd]; have := hV.2; (repeat' split) <;> omega)) | exact jr_sub [(0, jf_r E 0), (1, .int j), (2, .int f), (3, .int k), (4, .int o)] rfl (J232 _ (mS_p_f (mS_p_w g0)) (show ((τ.1 0 56) + 1).toInt = _ by rw [dd]; (repeat' split) <;> omega))
  refine jr_aload_n C dX11_holds_0 rfl ?_
  refine jr_iconst C (v := 0) dX11_holds_1 (by decide) ?_
  refine jr_puti C kp_X11_320_0 dX11_holds_2 ?_
  refine jr_iconst C (v := 0) dX11_holds_5 (by decide) ?_
  refine jr_istore C dX11_holds_6 (by decide) ?_
  exact jr_sub [(0, jf_r E 0), (1, .int j), (2, .int f), (3, .int k), (4, .int 0)] rfl (loop 301 _ 0 (mS_p_f (mS_p_r σ)) (by decide) n0 (by show _ - 0 < _; omega) rfl)

