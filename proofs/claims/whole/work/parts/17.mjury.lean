/-! the reference: rows, holds, counts -/
/-- a row of that sort, known by then -/
def sp_row (v : Nat → Nat → Int32) (n : Int32) (s j f k : Int32) : Bool := jx_any (fun i => decide ((v 28 i).toInt = s.toInt ∧ (v 29 i).toInt = j.toInt ∧ (v 30 i).toInt = f.toInt ∧ (v 31 i).toInt ≤ k.toInt)) n.toNatClampNeg
theorem ct_X11_isRow (E : jf_E) (σ : jf_S) (s j f k : Int32) (h0 : 0 ≤ ((σ.1 0 39)).toInt) (h1 : ((σ.1 0 39)).toInt ≤ 100) : jf_I jh_M E yX11_isRow cX11_isRow 7 .boolean 0 [jf_r E 0, .int s, .int j, .int f, .int k] σ (fun r τ => r = jb (sp_row σ.1 ((σ.1 0 39)) s j f k = true) ∧ τ = σ) := by
  refine jf_mkI (by decide) (Nat.le_of_ble_eq_true rfl) ?_
  intro G C ret
  have loop : ∀ (m : Nat) (a o : Int32), 0 ≤ o.toInt → o.toInt ≤ ((σ.1 0 39)).toInt → ((σ.1 0 39)).toInt - o.toInt < m → a = jb (sp_row σ.1 o s j f k = true) → jf_X jh_M E G 7 6 [(0, jf_r E 0), (1, .int s), (2, .int j), (3, .int f), (4, .int k), (5, .int a), (6, .int o)] [] σ := by
    intro m
    induction m with
    | zero => intro a o g1 g2 g3 g4; exfalso; omega
    | succ m ih =>
      intro a o g1 g2 g3 g4
      have e1 := ji_inc (k := o) (by omega)
      have e2 : (o + Int32.ofInt 1).toNatClampNeg = o.toNatClampNeg + 1 := ji_cl (by rw [e1, Int.natCast_add, ji_tn g1]; rfl)
      have st : sp_row σ.1 (o + Int32.ofInt 1) s j f k = true ↔ (sp_row σ.1 o s j f k = true ∨ (((σ.1 28) o.toNatClampNeg).toInt = s.toInt ∧ ((σ.1 29) o.toNatClampNeg).toInt = j.toInt ∧ ((σ.1 30) o.toNatClampNeg).toInt = f.toInt ∧ ((σ.1 31) o.toNatClampNeg).toInt ≤ k.toInt)) := by
        unfold sp_row; rw [e2, jx_any, Bool.or_eq_true, decide_eq_true_iff]
      refine jr_iload C dX11_isRow_6 rfl ?_
      refine jr_aload_n C dX11_isRow_8 rfl ?_
      refine jr_geti C kf_X11_269_0 dX11_isRow_9 ?_
      refine jr_ncmp_ge C 78 dX11_isRow_12 (by decide) rfl rfl (fun b12 => ?_) (fun b12 => ?_)
      · refine jr_iload C dX11_isRow_78 rfl ?_
        exact ret _ _ _ _ dX11_isRow_80 (by rw [g4]; exact jb_n) (⟨by rw [g4, show o = (σ.1 0 39) from Int32.toInt_inj.mp (by omega)], rfl⟩)
      · refine jr_iload C dX11_isRow_15 rfl ?_
        refine jr_nif_ne C 65 dX11_isRow_17 (by decide) (fun b17 => ?_) (fun b17 => ?_)
        · refine jr_iconst C (v := 1) dX11_isRow_65 (by decide) ?_
          refine jr_goto C 70 dX11_isRow_66 (by decide) ?_
          refine jr_istore C dX11_isRow_70 (by decide) ?_
          refine jr_iinc C _ dX11_isRow_72 rfl rfl (by decide) ?_
          refine jr_goto C 6 dX11_isRow_75 (by decide) ?_
          exact jr_sub [(0, jf_r E 0), (1, .int s), (2, .int j), (3, .int f), (4, .int k), (5, .int _), (6, .int _)] rfl (ih _ _ (by omega) (by omega) (by omega) (by first | exact jb_tt (st.mpr (Or.inr ⟨by omega, by omega, by omega, by omega⟩)) | exact jb_tt (st.mpr (Or.inl (jb_t (g4 ▸ jn_ne.mpr b17)))) | exact jb_ff (fun q => by rcases st.mp q with q | q; exact jb_f (g4 ▸ jn_eq.mpr b17) q; omega)))
        · refine jr_aload_n C dX11_isRow_20 rfl ?_
          refine jr_getr C kf_X11_96_0 dX11_isRow_21 ?_
          refine jr_iload C dX11_isRow_24 rfl ?_
          refine jr_ialv C ka_M_28 dX11_isRow_26 (ji_in (i := o) (by omega) (by omega)) (v := σ.1 28 _) rfl ?_
          refine jr_iload_n C dX11_isRow_27 rfl ?_
          refine jr_ncmp_ne C 69 dX11_isRow_28 (by decide) rfl rfl (fun b28 => ?_) (fun b28 => ?_)
          · refine jr_iconst C (v := 0) dX11_isRow_69 (by decide) ?_
            refine jr_istore C dX11_isRow_70 (by decide) ?_
            refine jr_iinc C _ dX11_isRow_72 rfl rfl (by decide) ?_
            refine jr_goto C 6 dX11_isRow_75 (by decide) ?_
            exact jr_sub [(0, jf_r E 0), (1, .int s), (2, .int j), (3, .int f), (4, .int k), (5, .int _), (6, .int _)] rfl (ih _ _ (by omega) (by omega) (by omega) (by first | exact jb_tt (st.mpr (Or.inr ⟨by omega, by omega, by omega, by omega⟩)) | exact jb_tt (st.mpr (Or.inl (jb_t (g4 ▸ jn_ne.mpr b17)))) | exact jb_ff (fun q => by rcases st.mp q with q | q; exact jb_f (g4 ▸ jn_eq.mpr b17) q; omega)))
          · refine jr_aload_n C dX11_isRow_31 rfl ?_
            refine jr_getr C kf_X11_99_0 dX11_isRow_32 ?_
            refine jr_iload C dX11_isRow_35 rfl ?_
            refine jr_ialv C ka_M_29 dX11_isRow_37 (ji_in (i := o) (by omega) (by omega)) (v := σ.1 29 _) rfl ?_
            refine jr_iload_n C dX11_isRow_38 rfl ?_
            refine jr_ncmp_ne C 69 dX11_isRow_39 (by decide) rfl rfl (fun b39 => ?_) (fun b39 => ?_)
            · refine jr_iconst C (v := 0) dX11_isRow_69 (by decide) ?_
              refine jr_istore C dX11_isRow_70 (by decide) ?_
              refine jr_iinc C _ dX11_isRow_72 rfl rfl (by decide) ?_
              refine jr_goto C 6 dX11_isRow_75 (by decide) ?_
              exact jr_sub [(0, jf_r E 0), (1, .int s), (2, .int j), (3, .int f), (4, .int k), (5, .int _), (6, .int _)] rfl (ih _ _ (by omega) (by omega) (by omega) (by first | exact jb_tt (st.mpr (Or.inr ⟨by omega, by omega, by omega, by omega⟩)) | exact jb_tt (st.mpr (Or.inl (jb_t (g4 ▸ jn_ne.mpr b17)))) | exact jb_ff (fun q => by rcases st.mp q with q | q; exact jb_f (g4 ▸ jn_eq.mpr b17) q; omega)))
            · refine jr_aload_n C dX11_isRow_42 rfl ?_
              refine jr_getr C kf_X11_102_0 dX11_isRow_43 ?_
              refine jr_iload C dX11_isRow_46 rfl ?_
              refine jr_ialv C ka_M_30 dX11_isRow_48 (ji_in (i := o) (by omega) (by omega)) (v := σ.1 30 _) rfl ?_
              refine jr_iload_n C dX11_isRow_49 rfl ?_
              refine jr_ncmp_ne C 69 dX11_isRow_50 (by decide) rfl rfl (fun b50 => ?_) (fun b50 => ?_)
              · refine jr_iconst C (v := 0) dX11_isRow_69 (by decide) ?_
                refine jr_istore C dX11_isRow_70 (by decide) ?_
                refine jr_iinc C _ dX11_isRow_72 rfl rfl (by decide) ?_
                refine jr_goto C 6 dX11_isRow_75 (by decide) ?_
                exact jr_sub [(0, jf_r E 0), (1, .int s), (2, .int j), (3, .int f), (4, .int k), (5, .int _), (6, .int _)] rfl (ih _ _ (by omega) (by omega) (by omega) (by first | exact jb_tt (st.mpr (Or.inr ⟨by omega, by omega, by omega, by omega⟩)) | exact jb_tt (st.mpr (Or.inl (jb_t (g4 ▸ jn_ne.mpr b17)))) | exact jb_ff (fun q => by rcases st.mp q with q | q; exact jb_f (g4 ▸ jn_eq.mpr b17) q; omega)))
              · refine jr_aload_n C dX11_isRow_53 rfl ?_
                refine jr_getr C kf_X11_105_0 dX11_isRow_54 ?_
                refine jr_iload C dX11_isRow_57 rfl ?_
                refine jr_ialv C ka_M_31 dX11_isRow_59 (ji_in (i := o) (by omega) (by omega)) (v := σ.1 31 _) rfl ?_
                refine jr_iload C dX11_isRow_60 rfl ?_
                refine jr_ncmp_gt C 69 dX11_isRow_62 (by decide) rfl rfl (fun b62 => ?_) (fun b62 => ?_)
                · refine jr_iconst C (v := 0) dX11_isRow_69 (by decide) ?_
                  refine jr_istore C dX11_isRow_70 (by decide) ?_
                  refine jr_iinc C _ dX11_isRow_72 rfl rfl (by decide) ?_
                  refine jr_goto C 6 dX11_isRow_75 (by decide) ?_
                  exact jr_sub [(0, jf_r E 0), (1, .int s), (2, .int j), (3, .int f), (4, .int k), (5, .int _), (6, .int _)] rfl (ih _ _ (by omega) (by omega) (by omega) (by first | exact jb_tt (st.mpr (Or.inr ⟨by omega, by omega, by omega, by omega⟩)) | exact jb_tt (st.mpr (Or.inl (jb_t (g4 ▸ jn_ne.mpr b17)))) | exact jb_ff (fun q => by rcases st.mp q with q | q; exact jb_f (g4 ▸ jn_eq.mpr b17) q; omega)))
                · refine jr_iconst C (v := 1) dX11_isRow_65 (by decide) ?_
                  refine jr_goto C 70 dX11_isRow_66 (by decide) ?_
                  refine jr_istore C dX11_isRow_70 (by decide) ?_
                  refine jr_iinc C _ dX11_isRow_72 rfl rfl (by decide) ?_
                  refine jr_goto C 6 dX11_isRow_75 (by decide) ?_
                  exact jr_sub [(0, jf_r E 0), (1, .int s), (2, .int j), (3, .int f), (4, .int k), (5, .int _), (6, .int _)] rfl (ih _ _ (by omega) (by omega) (by omega) (by first | exact jb_tt (st.mpr (Or.inr ⟨by omega, by omega, by omega, by omega⟩)) | exact jb_tt (st.mpr (Or.inl (jb_t (g4 ▸ jn_ne.mpr b17)))) | exact jb_ff (fun q => by rcases st.mp q with q | q; exact jb_f (g4 ▸ jn_eq.mpr b17) q; omega)))
  refine jr_iconst C (v := 0) dX11_isRow_0 (by decide) ?_
  refine jr_istore C dX11_isRow_1 (by decide) ?_
  refine jr_iconst C (v := 0) dX11_isRow_3 (by decide) ?_
  refine jr_istore C dX11_isRow_4 (by decide) ?_
  exact jr_sub [(0, jf_r E 0), (1, .int s), (2, .int j), (3, .int f), (4, .int k), (5, .int 0), (6, .int 0)] rfl (loop 101 0 0 (by decide) h0 (by show _ - 0 < _; omega) (jb_ff (fun q => by cases q)))
theorem ct_X11_isAhead (E : jf_E) (σ : jf_S) (a b : Int32) (a0 : 0 ≤ a.toInt) (a1 : a.toInt < 20) (b0 : 0 ≤ b.toInt) (b1 : b.toInt < 20) : jf_I jh_M E yX11_isAhead cX11_isAhead 3 .boolean 0 [jf_r E 0, .int a, .int b] σ (fun r τ => (r = 0 ∨ r = 1) ∧ σ = τ) := by
  refine jf_mkI (by decide) (Nat.le_of_ble_eq_true rfl) ?_
  intro G C ret
  refine jr_aload_n C dX11_isAhead_0 rfl ?_
  refine jr_getv C kf_X11_368_0 dX11_isAhead_1 (v := σ.1 0 49) rfl ?_
  refine jr_nif_ne C 43 dX11_isAhead_4 (by decide) (fun b4 => ?_) (fun b4 => ?_)
  · refine jr_aload_n C dX11_isAhead_43 rfl ?_
    refine jr_getv C kf_X11_368_0 dX11_isAhead_44 (v := σ.1 0 49) rfl ?_
    refine jr_iconst C (v := 2) dX11_isAhead_47 (by decide) ?_
    refine jr_ncmp_ne C (b := 2) 87 dX11_isAhead_48 (by decide) rfl rfl (fun b48 => ?_) (fun b48 => ?_)
    · refine jr_iload_n C dX11_isAhead_87 rfl ?_
      refine jr_iload_n C dX11_isAhead_88 rfl ?_
      refine jr_ncmp_ge C 96 dX11_isAhead_89 (by decide) rfl rfl (fun b89 => ?_) (fun b89 => ?_)
      · refine jr_iconst C (v := 0) dX11_isAhead_96 (by decide) ?_
        exact ret _ _ _ _ dX11_isAhead_97 (rfl) (⟨by decide, rfl⟩)
      · refine jr_iconst C (v := 1) dX11_isAhead_92 (by decide) ?_
        refine jr_goto C 97 dX11_isAhead_93 (by decide) ?_
        exact ret _ _ _ _ dX11_isAhead_97 (rfl) (⟨by decide, rfl⟩)
    · refine jr_aload_n C dX11_isAhead_51 rfl ?_
      refine jr_getr C kf_X11_135_0 dX11_isAhead_52 ?_
      refine jr_iload_n C dX11_isAhead_55 rfl ?_
      refine jr_ialv C ka_M_40 dX11_isAhead_56 (by first | exact ji_in a0 a1 | exact ji_in b0 b1) (v := σ.1 40 _) rfl ?_
      refine jr_aload_n C dX11_isAhead_57 rfl ?_
      refine jr_getr C kf_X11_135_0 dX11_isAhead_58 ?_
      refine jr_iload_n C dX11_isAhead_61 rfl ?_
      refine jr_ialv C ka_M_40 dX11_isAhead_62 (by first | exact ji_in a0 a1 | exact ji_in b0 b1) (v := σ.1 40 _) rfl ?_
      refine jr_ncmp_eq C 87 dX11_isAhead_63 (by decide) rfl rfl (fun b63 => ?_) (fun b63 => ?_)
      · refine jr_iload_n C dX11_isAhead_87 rfl ?_
        refine jr_iload_n C dX11_isAhead_88 rfl ?_
        refine jr_ncmp_ge C 96 dX11_isAhead_89 (by decide) rfl rfl (fun b89 => ?_) (fun b89 => ?_)
        · refine jr_iconst C (v := 0) dX11_isAhead_96 (by decide) ?_
          exact ret _ _ _ _ dX11_isAhead_97 (rfl) (⟨by decide, rfl⟩)
        · refine jr_iconst C (v := 1) dX11_isAhead_92 (by decide) ?_
          refine jr_goto C 97 dX11_isAhead_93 (by decide) ?_
          exact ret _ _ _ _ dX11_isAhead_97 (rfl) (⟨by decide, rfl⟩)
      · refine jr_aload_n C dX11_isAhead_66 rfl ?_
        refine jr_getr C kf_X11_135_0 dX11_isAhead_67 ?_
        refine jr_iload_n C dX11_isAhead_70 rfl ?_
        refine jr_ialv C ka_M_40 dX11_isAhead_71 (by first | exact ji_in a0 a1 | exact ji_in b0 b1) (v := σ.1 40 _) rfl ?_
        refine jr_aload_n C dX11_isAhead_72 rfl ?_
        refine jr_getr C kf_X11_135_0 dX11_isAhead_73 ?_
        refine jr_iload_n C dX11_isAhead_76 rfl ?_
        refine jr_ialv C ka_M_40 dX11_isAhead_77 (by first | exact ji_in a0 a1 | exact ji_in b0 b1) (v := σ.1 40 _) rfl ?_
        refine jr_ncmp_le C 85 dX11_isAhead_78 (by decide) rfl rfl (fun b78 => ?_) (fun b78 => ?_)
        · refine jr_iconst C (v := 0) dX11_isAhead_85 (by decide) ?_
          exact ret _ _ _ _ dX11_isAhead_86 (rfl) (⟨by decide, rfl⟩)
        · refine jr_iconst C (v := 1) dX11_isAhead_81 (by decide) ?_
          refine jr_goto C 86 dX11_isAhead_82 (by decide) ?_
          exact ret _ _ _ _ dX11_isAhead_86 (rfl) (⟨by decide, rfl⟩)
  · refine jr_aload_n C dX11_isAhead_7 rfl ?_
    refine jr_getr C kf_X11_28_0 dX11_isAhead_8 ?_
    refine jr_iload_n C dX11_isAhead_11 rfl ?_
    refine jr_ialv C ka_M_7 dX11_isAhead_12 (by first | exact ji_in a0 a1 | exact ji_in b0 b1) (v := σ.1 7 _) rfl ?_
    refine jr_aload_n C dX11_isAhead_13 rfl ?_
    refine jr_getr C kf_X11_28_0 dX11_isAhead_14 ?_
    refine jr_iload_n C dX11_isAhead_17 rfl ?_
    refine jr_ialv C ka_M_7 dX11_isAhead_18 (by first | exact ji_in a0 a1 | exact ji_in b0 b1) (v := σ.1 7 _) rfl ?_
    refine jr_ncmp_eq C 43 dX11_isAhead_19 (by decide) rfl rfl (fun b19 => ?_) (fun b19 => ?_)
    · refine jr_aload_n C dX11_isAhead_43 rfl ?_
      refine jr_getv C kf_X11_368_0 dX11_isAhead_44 (v := σ.1 0 49) rfl ?_
      refine jr_iconst C (v := 2) dX11_isAhead_47 (by decide) ?_
      refine jr_ncmp_ne C (b := 2) 87 dX11_isAhead_48 (by decide) rfl rfl (fun b48 => ?_) (fun b48 => ?_)
      · refine jr_iload_n C dX11_isAhead_87 rfl ?_
        refine jr_iload_n C dX11_isAhead_88 rfl ?_
        refine jr_ncmp_ge C 96 dX11_isAhead_89 (by decide) rfl rfl (fun b89 => ?_) (fun b89 => ?_)
        · refine jr_iconst C (v := 0) dX11_isAhead_96 (by decide) ?_
          exact ret _ _ _ _ dX11_isAhead_97 (rfl) (⟨by decide, rfl⟩)
        · refine jr_iconst C (v := 1) dX11_isAhead_92 (by decide) ?_
          refine jr_goto C 97 dX11_isAhead_93 (by decide) ?_
          exact ret _ _ _ _ dX11_isAhead_97 (rfl) (⟨by decide, rfl⟩)
      · refine jr_aload_n C dX11_isAhead_51 rfl ?_
        refine jr_getr C kf_X11_135_0 dX11_isAhead_52 ?_
        refine jr_iload_n C dX11_isAhead_55 rfl ?_
        refine jr_ialv C ka_M_40 dX11_isAhead_56 (by first | exact ji_in a0 a1 | exact ji_in b0 b1) (v := σ.1 40 _) rfl ?_
        refine jr_aload_n C dX11_isAhead_57 rfl ?_
        refine jr_getr C kf_X11_135_0 dX11_isAhead_58 ?_
        refine jr_iload_n C dX11_isAhead_61 rfl ?_
        refine jr_ialv C ka_M_40 dX11_isAhead_62 (by first | exact ji_in a0 a1 | exact ji_in b0 b1) (v := σ.1 40 _) rfl ?_
        refine jr_ncmp_eq C 87 dX11_isAhead_63 (by decide) rfl rfl (fun b63 => ?_) (fun b63 => ?_)
        · refine jr_iload_n C dX11_isAhead_87 rfl ?_
          refine jr_iload_n C dX11_isAhead_88 rfl ?_
          refine jr_ncmp_ge C 96 dX11_isAhead_89 (by decide) rfl rfl (fun b89 => ?_) (fun b89 => ?_)
          · refine jr_iconst C (v := 0) dX11_isAhead_96 (by decide) ?_
            exact ret _ _ _ _ dX11_isAhead_97 (rfl) (⟨by decide, rfl⟩)
          · refine jr_iconst C (v := 1) dX11_isAhead_92 (by decide) ?_
            refine jr_goto C 97 dX11_isAhead_93 (by decide) ?_
            exact ret _ _ _ _ dX11_isAhead_97 (rfl) (⟨by decide, rfl⟩)
        · refine jr_aload_n C dX11_isAhead_66 rfl ?_
          refine jr_getr C kf_X11_135_0 dX11_isAhead_67 ?_
          refine jr_iload_n C dX11_isAhead_70 rfl ?_
          refine jr_ialv C ka_M_40 dX11_isAhead_71 (by first | exact ji_in a0 a1 | exact ji_in b0 b1) (v := σ.1 40 _) rfl ?_
          refine jr_aload_n C dX11_isAhead_72 rfl ?_
          refine jr_getr C kf_X11_135_0 dX11_isAhead_73 ?_
          refine jr_iload_n C dX11_isAhead_76 rfl ?_
          refine jr_ialv C ka_M_40 dX11_isAhead_77 (by first | exact ji_in a0 a1 | exact ji_in b0 b1) (v := σ.1 40 _) rfl ?_
          refine jr_ncmp_le C 85 dX11_isAhead_78 (by decide) rfl rfl (fun b78 => ?_) (fun b78 => ?_)
          · refine jr_iconst C (v := 0) dX11_isAhead_85 (by decide) ?_
            exact ret _ _ _ _ dX11_isAhead_86 (rfl) (⟨by decide, rfl⟩)
          · refine jr_iconst C (v := 1) dX11_isAhead_81 (by decide) ?_
            refine jr_goto C 86 dX11_isAhead_82 (by decide) ?_
            exact ret _ _ _ _ dX11_isAhead_86 (rfl) (⟨by decide, rfl⟩)
    · refine jr_aload_n C dX11_isAhead_22 rfl ?_
      refine jr_getr C kf_X11_28_0 dX11_isAhead_23 ?_
      refine jr_iload_n C dX11_isAhead_26 rfl ?_
      refine jr_ialv C ka_M_7 dX11_isAhead_27 (by first | exact ji_in a0 a1 | exact ji_in b0 b1) (v := σ.1 7 _) rfl ?_
      refine jr_aload_n C dX11_isAhead_28 rfl ?_
      refine jr_getr C kf_X11_28_0 dX11_isAhead_29 ?_
      refine jr_iload_n C dX11_isAhead_32 rfl ?_
      refine jr_ialv C ka_M_7 dX11_isAhead_33 (by first | exact ji_in a0 a1 | exact ji_in b0 b1) (v := σ.1 7 _) rfl ?_
      refine jr_ncmp_le C 41 dX11_isAhead_34 (by decide) rfl rfl (fun b34 => ?_) (fun b34 => ?_)
      · refine jr_iconst C (v := 0) dX11_isAhead_41 (by decide) ?_
        exact ret _ _ _ _ dX11_isAhead_42 (rfl) (⟨by decide, rfl⟩)
      · refine jr_iconst C (v := 1) dX11_isAhead_37 (by decide) ?_
        refine jr_goto C 42 dX11_isAhead_38 (by decide) ?_
        exact ret _ _ _ _ dX11_isAhead_42 (rfl) (⟨by decide, rfl⟩)

