/-! the reference: prizes, safe -/
theorem jf_i_same {σ : jf_S} {k j : Nat} {v : Int32} : (jf_i σ k j v).1 k j = v := by simp [jf_i]
theorem jf_i_ne {σ : jf_S} {k j n : Nat} {v : Int32} (h : n ≠ j) : (jf_i σ k j v).1 k n = σ.1 k n := by simp [jf_i, h]
theorem m_ix5 {j i : Int32} (j0 : 0 ≤ j.toInt) (j1 : j.toInt < 10) (i0 : 0 ≤ i.toInt) (i1 : i.toInt < 5) : (5 * j + i).toNatClampNeg = 5 * j.toNatClampNeg + i.toNatClampNeg := by
  have e : (5 * j + i).toInt = 5 * j.toInt + i.toInt := ji_lini rfl (by omega) (by omega)
  exact ji_cl (by rw [e, Int.natCast_add, Int.natCast_mul, ji_tn j0, ji_tn i0]; rfl)
theorem m_upd_z {σ : jf_S} {k n f : Nat} (h : f ≠ n → σ.1 k f = 0) : (jf_i σ k n 0).1 k f = 0 := by
  by_cases e : f = n
  · rw [e, jf_i_same]
  · rw [jf_i_ne e]; exact h e
/-- every film that is in has a vote that counts, of a juror before J, or of J before the place I -/
def m_in (τ : jf_S) (J I : Nat) : Prop := ∀ f : Nat, f < 20 → ¬ ((τ.1 39) f).toInt = 0 → ∃ j i : Nat, ((j < J ∧ (i : Int) < ((τ.1 27) j).toInt) ∨ (j = J ∧ i < I)) ∧ ¬ ((τ.1 38) (5 * j + i)).toInt = 0 ∧ ((τ.1 26) (5 * j + i)).toInt = (f : Int)
theorem m_in_keep {τ υ : jf_S} {J I : Nat} (hm : (υ.1 27) = (τ.1 27)) (hv : (υ.1 26) = (τ.1 26)) (ho : ∀ n, n ≠ 5 * J + I → (υ.1 38) n = (τ.1 38) n) (hi : ∀ f : Nat, f < 20 → ¬ ((υ.1 39) f).toInt = 0 → ¬ ((τ.1 39) f).toInt = 0 ∨ (((τ.1 26) (5 * J + I)).toInt = (f : Int) ∧ ¬ ((υ.1 38) (5 * J + I)).toInt = 0)) (h5 : ∀ j, ((τ.1 27) j).toInt ≤ 5) (hI : I < 5) (inv : m_in τ J I) : m_in υ J (I + 1) := by
  intro f f1 f2
  rcases hi f f1 f2 with q | q
  · obtain ⟨j, i, a, b, c⟩ := inv f f1 q
    have h5j := h5 j
    refine ⟨j, i, ?_, ?_, by rw [hv]; exact c⟩
    · rw [hm]; rcases a with a | a
      · exact Or.inl a
      · exact Or.inr ⟨a.1, by omega⟩
    · rw [ho _ (by omega)]; exact b
  · exact ⟨J, I, Or.inr ⟨rfl, by omega⟩, q.2, by rw [hv]; exact q.1⟩
theorem m_inA {τ ρ : jf_S} {J I N : Nat} {r : Int32} (p : mS_p τ ρ) (hN : N = 5 * J + I) (h5 : ∀ j, ((τ.1 27) j).toInt ≤ 5) (hI : I < 5) (inv : m_in τ J I) : m_in (jf_i ρ 38 N r) J (I + 1) := by
  subst hN
  refine m_in_keep ?_ ?_ (fun n hn => ?_) (fun f f1 f2 => Or.inl ?_) h5 hI inv
  · rw [jf_i_o 27 (by decide)]; exact p.2.1 27 (by decide) (by decide)
  · rw [jf_i_o 26 (by decide)]; exact p.2.1 26 (by decide) (by decide)
  · rw [jf_i_ne hn, p.2.1 38 (by decide) (by decide)]
  · rw [jf_i_o 39 (by decide), p.2.1 39 (by decide) (by decide)] at f2; exact f2
theorem m_inB {τ ρ : jf_S} {J I N F : Nat} {r x y : Int32} (p : mS_p τ ρ) (hN : N = 5 * J + I) (h5 : ∀ j, ((τ.1 27) j).toInt ≤ 5) (hI : I < 5) (hF : ((τ.1 26) N).toInt = (F : Int)) (hr : ¬ r.toInt = 0) (inv : m_in τ J I) : m_in (jf_i (jf_i (jf_i ρ 38 N r) 39 F x) 40 F y) J (I + 1) := by
  subst hN
  refine m_in_keep ?_ ?_ (fun n hn => ?_) (fun f f1 f2 => ?_) h5 hI inv
  · rw [jf_i_o 27 (by decide), jf_i_o 27 (by decide), jf_i_o 27 (by decide)]; exact p.2.1 27 (by decide) (by decide)
  · rw [jf_i_o 26 (by decide), jf_i_o 26 (by decide), jf_i_o 26 (by decide)]; exact p.2.1 26 (by decide) (by decide)
  · rw [jf_i_o 38 (by decide), jf_i_o 38 (by decide), jf_i_ne hn, p.2.1 38 (by decide) (by decide)]
  · by_cases e : f = F
    · right
      subst e
      refine ⟨hF, ?_⟩
      rw [jf_i_o 38 (by decide), jf_i_o 38 (by decide), jf_i_same]; exact hr
    · left
      rw [jf_i_o 39 (by decide), jf_i_ne e, jf_i_o 39 (by decide), p.2.1 39 (by decide) (by decide)] at f2
      exact f2
theorem ct_X11_findVotes2 (E : jf_E) (σ : jf_S) (k : Int32) (hR : mI_r σ) (hV : mI_v σ) : jf_V jh_M E yX11_findVotes cX11_findVotes 6 3 [jf_r E 0, .int k] σ (fun τ => mS_a σ τ ∧ m_in τ ((σ.1 0 35)).toNatClampNeg 0) := by
  refine jf_mkV (by decide) (Nat.le_of_ble_eq_true rfl) ?_
  intro G C ret
  have hJ := hV.1
  have h5 := fun j => (hV.2.2.1 j).2
  have l43 : ∀ (m : Nat) (τ : jf_S) (j a i : Int32), (mS_a σ τ ∧ m_in τ j.toNatClampNeg i.toNatClampNeg) → 0 ≤ i.toInt → i.toInt ≤ ((σ.1 27) j.toNatClampNeg).toInt → ((σ.1 27) j.toNatClampNeg).toInt - i.toInt < m → (0 ≤ j.toInt ∧ j.toInt < 10) → (∀ υ : jf_S, mS_a σ υ → m_in υ (j.toNatClampNeg + 1) 0 → jf_X jh_M E G 6 30 [(0, jf_r E 0), (1, .int k), (2, .int (j + Int32.ofInt 1))] [] υ) → (((σ.1 27) j.toNatClampNeg).toInt ≤ 5) → jf_X jh_M E G 6 43 [(0, jf_r E 0), (1, .int k), (2, .int j), (3, .int a), (4, .int i)] [] τ := by
    intro m
    induction m with
    | zero => intro τ j a i z g1 g2 g3 x1 x2 x3; exfalso; omega
    | succ m ih =>
      intro τ j a i z g1 g2 g3 x1 x2 x3
      have e1 := ji_inc (k := i) (by omega)
      have hT := mS_a_V z.1 hV
      have hU := mS_a_R z.1 hR
      have h5' := fun j => (hT.2.2.1 j).2
      have cv : (τ.1 27) = (σ.1 27) := z.1.2.1 _ (by decide) (by decide) (by decide)
      have c5 := hT.2.2.1 j.toNatClampNeg
      have c6 : ((τ.1 27) j.toNatClampNeg).toInt = ((σ.1 27) j.toNatClampNeg).toInt := by rw [cv]
      have v0 := hT.2.2.2 (5 * j + i).toNatClampNeg
      have ei := ji_tn g1
      have e2 : (i + Int32.ofInt 1).toNatClampNeg = i.toNatClampNeg + 1 := ji_cl (by omega)
      have n5 : i.toInt < 5 → (5 * j + i).toNatClampNeg = 5 * j.toNatClampNeg + i.toNatClampNeg := fun h => m_ix5 x1.1 x1.2 g1 h
      refine jr_iload C dX11_findVotes_43 rfl ?_
      refine jr_aload_n C dX11_findVotes_45 rfl ?_
      refine jr_getr C kf_X11_93_0 dX11_findVotes_46 ?_
      refine jr_iload_n C dX11_findVotes_49 rfl ?_
      refine jr_ialv C ka_M_27 dX11_findVotes_50 (ji_in x1.1 x1.2) (v := τ.1 27 _) rfl ?_
      refine jr_ncmp_ge C 135 dX11_findVotes_51 (by decide) rfl rfl (fun b51 => ?_) (fun b51 => ?_)
      · refine jr_iinc C _ dX11_findVotes_135 rfl rfl (by decide) ?_
        refine jr_goto C 30 dX11_findVotes_138 (by decide) ?_
        exact jr_sub [(0, jf_r E 0), (1, .int k), (2, .int (j + Int32.ofInt 1))] rfl (x2 _ z.1 (fun f f1 f2 => by obtain ⟨p, q, a1, a2, a3⟩ := z.2 f f1 f2; exact ⟨p, q, Or.inl (by rcases a1 with a1 | a1; exact ⟨by omega, a1.2⟩; exact ⟨by omega, by rw [a1.1]; omega⟩), a2, a3⟩))
      · refine jr_aload_n C dX11_findVotes_54 rfl ?_
        refine jr_getr C kf_X11_90_0 dX11_findVotes_55 ?_
        refine jr_iconst C (v := 5) dX11_findVotes_58 (by decide) ?_
        refine jr_iload_n C dX11_findVotes_59 rfl ?_
        refine jr_imul C dX11_findVotes_60 ?_
        refine jr_iload C dX11_findVotes_61 rfl ?_
        refine jr_iadd C dX11_findVotes_63 ?_
        refine jr_ialv C ka_M_26 dX11_findVotes_64 (ji_lin 5 5 rfl (by omega) (by omega) (by omega) (by omega)) (v := τ.1 26 _) rfl ?_
        refine jr_istore C dX11_findVotes_65 (by decide) ?_
        refine jr_aload_n C dX11_findVotes_67 rfl ?_
        refine jr_getr C kf_X11_129_0 dX11_findVotes_68 ?_
        refine jr_iconst C (v := 5) dX11_findVotes_71 (by decide) ?_
        refine jr_iload_n C dX11_findVotes_72 rfl ?_
        refine jr_imul C dX11_findVotes_73 ?_
        refine jr_iload C dX11_findVotes_74 rfl ?_
        refine jr_iadd C dX11_findVotes_76 ?_
        refine jr_aload_n C dX11_findVotes_77 rfl ?_
        refine jr_iload_n C dX11_findVotes_78 rfl ?_
        refine jr_iload C dX11_findVotes_79 rfl ?_
        refine jr_iload_n C dX11_findVotes_81 rfl ?_
        refine jr_vi C [.int _, .int _, .int _] _ (ct_X11_countsFor E _ _ _ _ x1.1 x1.2 hU hT) ky_X11_countsFor kv_X11_countsFor kk_M_0 km_X11_379 (by decide) rfl (Nat.le_of_ble_eq_true rfl) dX11_findVotes_82 (fun r82 τ82 h82 => ?_)
        refine jr_zast C ka_M_38 dX11_findVotes_85 (ji_lin 5 5 rfl (by omega) (by omega) (by omega) (by omega)) h82.1 ?_
        refine jr_aload_n C dX11_findVotes_86 rfl ?_
        refine jr_getr C kf_X11_129_0 dX11_findVotes_87 ?_
        refine jr_iconst C (v := 5) dX11_findVotes_90 (by decide) ?_
        refine jr_iload_n C dX11_findVotes_91 rfl ?_
        refine jr_imul C dX11_findVotes_92 ?_
        refine jr_iload C dX11_findVotes_93 rfl ?_
        refine jr_iadd C dX11_findVotes_95 ?_
        refine jr_zald C ka_M_38 dX11_findVotes_96 (ji_lin 5 5 rfl (by omega) (by omega) (by omega) (by omega)) ?_
        refine jr_nif_eq C 129 dX11_findVotes_97 (by decide) (fun b97 => ?_) (fun b97 => ?_)
        · refine jr_iinc C _ dX11_findVotes_129 rfl rfl (by decide) ?_
          refine jr_goto C 43 dX11_findVotes_132 (by decide) ?_
          exact jr_sub [(0, jf_r E 0), (1, .int k), (2, .int _), (3, .int _), (4, .int _)] rfl (ih _ _ _ _ (by first | exact ⟨mS_a_i (mS_a_t z.1 (mS_a_p h82.2)) (by decide), by rw [e2]; exact m_inA h82.2 (n5 (by omega)) h5' (by omega) z.2⟩ | exact ⟨mS_a_i (mS_a_i (mS_a_i (mS_a_t z.1 (mS_a_p h82.2)) (by decide)) (by decide)) (by decide), by rw [e2]; exact m_inB h82.2 (n5 (by omega)) h5' (by omega) (ji_tn v0.1).symm (by rw [jf_i_same] at b97; exact b97) z.2⟩) (by omega) (by omega) (by omega) x1 x2 x3)
        · refine jr_aload_n C dX11_findVotes_100 rfl ?_
          refine jr_getr C kf_X11_132_0 dX11_findVotes_101 ?_
          refine jr_iload C dX11_findVotes_104 rfl ?_
          refine jr_iconst C (v := 1) dX11_findVotes_106 (by decide) ?_
          refine jr_zast C ka_M_39 dX11_findVotes_107 (ji_in (by omega) (by omega)) (Or.inr rfl) ?_
          refine jr_aload_n C dX11_findVotes_108 rfl ?_
          refine jr_getr C kf_X11_135_0 dX11_findVotes_109 ?_
          refine jr_iload C dX11_findVotes_112 rfl ?_
          refine jr_dup2 C dX11_findVotes_114 rfl rfl ?_
          refine jr_iald C ka_M_40 dX11_findVotes_115 (ji_in (by omega) (by omega)) ?_
          refine jr_iload_n C dX11_findVotes_116 rfl ?_
          refine jr_nif_eq C 124 dX11_findVotes_117 (by decide) (fun b117 => ?_) (fun b117 => ?_)
          · refine jr_iconst C (v := 0) dX11_findVotes_124 (by decide) ?_
            refine jr_iadd C dX11_findVotes_125 ?_
            refine jr_iast C ka_M_40 dX11_findVotes_126 (ji_in (by omega) (by omega)) ?_
            refine jr_iconst C (v := 0) dX11_findVotes_127 (by decide) ?_
            refine jr_istore_n C dX11_findVotes_128 (by decide) ?_
            refine jr_iinc C _ dX11_findVotes_129 rfl rfl (by decide) ?_
            refine jr_goto C 43 dX11_findVotes_132 (by decide) ?_
            exact jr_sub [(0, jf_r E 0), (1, .int k), (2, .int _), (3, .int _), (4, .int _)] rfl (ih _ _ _ _ (by first | exact ⟨mS_a_i (mS_a_t z.1 (mS_a_p h82.2)) (by decide), by rw [e2]; exact m_inA h82.2 (n5 (by omega)) h5' (by omega) z.2⟩ | exact ⟨mS_a_i (mS_a_i (mS_a_i (mS_a_t z.1 (mS_a_p h82.2)) (by decide)) (by decide)) (by decide), by rw [e2]; exact m_inB h82.2 (n5 (by omega)) h5' (by omega) (ji_tn v0.1).symm (by rw [jf_i_same] at b97; exact b97) z.2⟩) (by omega) (by omega) (by omega) x1 x2 x3)
          · refine jr_iconst C (v := 1) dX11_findVotes_120 (by decide) ?_
            refine jr_goto C 125 dX11_findVotes_121 (by decide) ?_
            refine jr_iadd C dX11_findVotes_125 ?_
            refine jr_iast C ka_M_40 dX11_findVotes_126 (ji_in (by omega) (by omega)) ?_
            refine jr_iconst C (v := 0) dX11_findVotes_127 (by decide) ?_
            refine jr_istore_n C dX11_findVotes_128 (by decide) ?_
            refine jr_iinc C _ dX11_findVotes_129 rfl rfl (by decide) ?_
            refine jr_goto C 43 dX11_findVotes_132 (by decide) ?_
            exact jr_sub [(0, jf_r E 0), (1, .int k), (2, .int _), (3, .int _), (4, .int _)] rfl (ih _ _ _ _ (by first | exact ⟨mS_a_i (mS_a_t z.1 (mS_a_p h82.2)) (by decide), by rw [e2]; exact m_inA h82.2 (n5 (by omega)) h5' (by omega) z.2⟩ | exact ⟨mS_a_i (mS_a_i (mS_a_i (mS_a_t z.1 (mS_a_p h82.2)) (by decide)) (by decide)) (by decide), by rw [e2]; exact m_inB h82.2 (n5 (by omega)) h5' (by omega) (ji_tn v0.1).symm (by rw [jf_i_same] at b97; exact b97) z.2⟩) (by omega) (by omega) (by omega) x1 x2 x3)
  have l30 : ∀ (m : Nat) (τ : jf_S) (j : Int32), (mS_a σ τ ∧ m_in τ j.toNatClampNeg 0) → 0 ≤ j.toInt → j.toInt ≤ ((σ.1 0 35)).toInt → ((σ.1 0 35)).toInt - j.toInt < m → jf_X jh_M E G 6 30 [(0, jf_r E 0), (1, .int k), (2, .int j)] [] τ := by
    intro m
    induction m with
    | zero => intro τ j z g1 g2 g3; exfalso; omega
    | succ m ih =>
      intro τ j z g1 g2 g3
      have e1 := ji_inc (k := j) (by omega)
      have c1 : ((τ.1 0 35)).toInt = ((σ.1 0 35)).toInt := congrArg Int32.toInt (z.1.2.2 _ (by decide) (by decide))
      have ej := ji_tn g1
      have e2 : (j + Int32.ofInt 1).toNatClampNeg = j.toNatClampNeg + 1 := ji_cl (by omega)
      refine jr_iload_n C dX11_findVotes_30 rfl ?_
      refine jr_aload_n C dX11_findVotes_31 rfl ?_
      refine jr_getv C kf_X11_257_0 dX11_findVotes_32 (v := τ.1 0 35) rfl ?_
      refine jr_ncmp_ge C 141 dX11_findVotes_35 (by decide) rfl rfl (fun b35 => ?_) (fun b35 => ?_)
      · exact ret _ _ _ dX11_findVotes_141 (⟨z.1, by rw [← show j.toNatClampNeg = ((σ.1 0 35)).toNatClampNeg from congrArg Int.toNat (show j.toInt = ((σ.1 0 35)).toInt by omega)]; exact z.2⟩)
      · refine jr_iconst C (v := 1) dX11_findVotes_38 (by decide) ?_
        refine jr_istore_n C dX11_findVotes_39 (by decide) ?_
        refine jr_iconst C (v := 0) dX11_findVotes_40 (by decide) ?_
        refine jr_istore C dX11_findVotes_41 (by decide) ?_
        exact jr_sub [(0, jf_r E 0), (1, .int k), (2, .int j), (3, .int 1), (4, .int 0)] rfl (l43 6 _ _ _ _ z (by decide) (by have := (hV.2.2.1 j.toNatClampNeg).1; exact this) (by have := (hV.2.2.1 j.toNatClampNeg).2; show _ - (0 : Int) < _; omega) ⟨by omega, by omega⟩ (fun υ hz hi => ih _ _ ⟨hz, by rw [e2]; exact hi⟩ (by omega) (by omega) (by omega)) (h5 _))
  have l2 : ∀ (m : Nat) (τ : jf_S) (o : Int32), (mS_a σ τ ∧ ∀ f : Nat, (f : Int) < o.toInt → (τ.1 39) f = 0) → 0 ≤ o.toInt → o.toInt ≤ (20 : Int) → (20 : Int) - o.toInt < m → jf_X jh_M E G 6 2 [(0, jf_r E 0), (1, .int k), (2, .int o)] [] τ := by
    intro m
    induction m with
    | zero => intro τ o z g1 g2 g3; exfalso; omega
    | succ m ih =>
      intro τ o z g1 g2 g3
      have e1 := ji_inc (k := o) (by omega)
      have eo := ji_tn g1
      refine jr_iload_n C dX11_findVotes_2 rfl ?_
      refine jr_bipush C (v := 20) dX11_findVotes_3 (by decide) ?_
      refine jr_ncmp_ge C (b := 20) 28 dX11_findVotes_5 (by decide) rfl rfl (fun b5 => ?_) (fun b5 => ?_)
      · refine jr_iconst C (v := 0) dX11_findVotes_28 (by decide) ?_
        refine jr_istore_n C dX11_findVotes_29 (by decide) ?_
        exact jr_sub [(0, jf_r E 0), (1, .int k), (2, .int 0)] rfl (l30 11 _ _ ⟨z.1, fun f f1 f2 => absurd (by rw [z.2 f (by omega)]; rfl) f2⟩ (by decide) hJ.1 (by show _ - (0 : Int) < _; omega))
      · refine jr_aload_n C dX11_findVotes_8 rfl ?_
        refine jr_getr C kf_X11_132_0 dX11_findVotes_9 ?_
        refine jr_iload_n C dX11_findVotes_12 rfl ?_
        refine jr_iconst C (v := 0) dX11_findVotes_13 (by decide) ?_
        refine jr_zast C ka_M_39 dX11_findVotes_14 (ji_in (i := o) (by omega) (by omega)) (Or.inl rfl) ?_
        refine jr_aload_n C dX11_findVotes_15 rfl ?_
        refine jr_getr C kf_X11_135_0 dX11_findVotes_16 ?_
        refine jr_iload_n C dX11_findVotes_19 rfl ?_
        refine jr_iconst C (v := 0) dX11_findVotes_20 (by decide) ?_
        refine jr_iast C ka_M_40 dX11_findVotes_21 (ji_in (i := o) (by omega) (by omega)) ?_
        refine jr_iinc C _ dX11_findVotes_22 rfl rfl (by decide) ?_
        refine jr_goto C 2 dX11_findVotes_25 (by decide) ?_
        exact jr_sub [(0, jf_r E 0), (1, .int k), (2, .int _)] rfl (ih _ _ ⟨mS_a_i (mS_a_i z.1 (by decide)) (by decide), fun f hf => by rw [jf_i_o 39 (by decide)]; exact m_upd_z (fun e => z.2 f (by omega))⟩ (by omega) (by omega) (by omega))
  refine jr_iconst C (v := 0) dX11_findVotes_0 (by decide) ?_
  refine jr_istore_n C dX11_findVotes_1 (by decide) ?_
  exact jr_sub [(0, jf_r E 0), (1, .int k), (2, .int _)] rfl (l2 21 _ _ ⟨mS_a_r σ, fun f hf => by exfalso; have : (0 : Int32).toInt = 0 := rfl; omega⟩ (by decide) (by decide) (by decide))

