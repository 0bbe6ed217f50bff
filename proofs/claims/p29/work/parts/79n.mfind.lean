/-! the reference: the votes that count, exactly -/
theorem q_b_01 {b : Bool} : q_b b = 0 ∨ q_b b = 1 := by cases b <;> decide
def m_Ci (σ : jf_S) (k : Int32) (j i : Nat) : List Int32 := w_cl (fun i => (σ.1 26) (5 * j + i)) (fun i => m_h σ (nI j) ((σ.1 26) (5 * j + i)) k) i
def m_Ck (σ : jf_S) (k : Int32) (j : Nat) : List Int32 := m_Ci σ k j ((σ.1 27) j).toNatClampNeg
theorem m_Ci_t {σ : jf_S} {k : Int32} {j i : Nat} (h : m_h σ (nI j) ((σ.1 26) (5 * j + i)) k = true) : m_Ci σ k j (i + 1) = m_Ci σ k j i ++ [(σ.1 26) (5 * j + i)] := w_cl_t h
theorem m_Ci_f {σ : jf_S} {k : Int32} {j i : Nat} (h : m_h σ (nI j) ((σ.1 26) (5 * j + i)) k = false) : m_Ci σ k j (i + 1) = m_Ci σ k j i := w_cl_f h
/-- votes weighed, of jurors before J, and of J before the place I -/
def m_vd (σ τ : jf_S) (k : Int32) (J I : Nat) : Prop := ∀ j i : Nat, ((j < J ∧ i < ((σ.1 27) j).toNatClampNeg) ∨ (j = J ∧ i < I)) → (τ.1 38) (5 * j + i) = q_b (m_h σ (nI j) ((σ.1 26) (5 * j + i)) k)
def m_fi (σ τ : jf_S) (k : Int32) (J I : Nat) : Prop := m_vd σ τ k J I ∧ w_cut ((τ.1 39)) = w_rl (w_run (m_Ck σ k) J) (m_Ci σ k J I) ∧ w_cut ((τ.1 40)) = w_f1 (w_fir (m_Ck σ k) J) (m_Ci σ k J I)
theorem m_vd_s {σ τ υ : jf_S} {k r : Int32} {J I : Nat} (h : m_vd σ τ k J I) (h5 : ∀ j, ((σ.1 27) j).toInt ≤ 5) (hI : I < 5) (ho : ∀ n, n ≠ 5 * J + I → (υ.1 38) n = (τ.1 38) n) (hs : (υ.1 38) (5 * J + I) = r) (hr : r = q_b (m_h σ (nI J) ((σ.1 26) (5 * J + I)) k)) : m_vd σ υ k J (I + 1) := by
  intro j i a
  by_cases e : j = J ∧ i = I
  · rw [e.1, e.2, hs, hr]
  · have h5j := h5 j
    have i5 : i < 5 := by
      rcases a with a | a
      · have : (((σ.1 27) j).toNatClampNeg : Int) ≤ 5 := by
          by_cases c : 0 ≤ ((σ.1 27) j).toInt
          · rw [ji_tn c]; exact h5j
          · have : ((σ.1 27) j).toNatClampNeg = 0 := Int.toNat_of_nonpos (by omega)
            omega
        omega
      · omega
    rw [ho _ (by omega)]
    exact h j i (by omega)
theorem m_fiA {σ τ ρ : jf_S} {k r : Int32} {J I N : Nat} (h : m_fi σ τ k J I) (p : mS_p τ ρ) (hN : N = 5 * J + I) (h5 : ∀ j, ((σ.1 27) j).toInt ≤ 5) (hI : I < 5) (hr : r = q_b (m_h σ (nI J) ((σ.1 26) N) k)) (hz : r.toInt = 0) : m_fi σ (jf_i ρ 38 N r) k J (I + 1) := by
  subst hN
  rw [hr] at hz
  have hf := q_b_z hz
  refine ⟨m_vd_s h.1 h5 hI (fun n hn => ?_) jf_i_same hr, ?_, ?_⟩
  · rw [jf_i_ne hn, p.2.1 38 (by decide) (by decide)]
  · rw [jf_i_o 39 (by decide), p.2.1 39 (by decide) (by decide), m_Ci_f hf]; exact h.2.1
  · rw [jf_i_o 40 (by decide), p.2.1 40 (by decide) (by decide), m_Ci_f hf]; exact h.2.2
theorem m_fiB {σ τ ρ : jf_S} {k r y : Int32} {J I N F : Nat} (h : m_fi σ τ k J I) (p : mS_p τ ρ) (hN : N = 5 * J + I) (h5 : ∀ j, ((σ.1 27) j).toInt ≤ 5) (hI : I < 5) (hr : r = q_b (m_h σ (nI J) ((σ.1 26) N) k)) (hz : ¬ r.toInt = 0) (hF : F = ((σ.1 26) N).toNatClampNeg) (hF2 : F < 20) (hy : (m_Ci σ k J I = [] ∧ y = (ρ.1 40) F + 1) ∨ (¬ m_Ci σ k J I = [] ∧ y = (ρ.1 40) F + 0)) : m_fi σ (jf_i (jf_i (jf_i ρ 38 N r) 39 F 1) 40 F y) k J (I + 1) := by
  subst hN
  have hz' := hz
  rw [hr] at hz'
  have ht := q_b_nz hz'
  rw [p.2.1 40 (by decide) (by decide)] at hy
  refine ⟨m_vd_s h.1 h5 hI (fun n hn => ?_) ?_ hr, ?_, ?_⟩
  · rw [jf_i_o 38 (by decide), jf_i_o 38 (by decide), jf_i_ne hn, p.2.1 38 (by decide) (by decide)]
  · rw [jf_i_o 38 (by decide), jf_i_o 38 (by decide), jf_i_same]
  · rw [jf_i_o 39 (by decide), jf_i_at, jf_i_o 39 (by decide), p.2.1 39 (by decide) (by decide), w_cut_upd hF2, h.2.1, m_Ci_t ht, w_rl_app, hF]
  · rw [jf_i_at, jf_i_o 40 (by decide), jf_i_o 40 (by decide), p.2.1 40 (by decide) (by decide), w_cut_upd hF2, m_Ci_t ht]
    rw [← w_cut_lt (A := (τ.1 40)) hF2] at hy
    rcases hy with ⟨e, hy⟩ | ⟨e, hy⟩
    · rw [w_f1_a e, hy, h.2.2, e, hF]; rfl
    · rw [w_f1_b e, hy, h.2.2]
      funext f
      unfold upd
      split
      · rename_i q; rw [q, Int32.add_zero]
      · rfl
theorem m_fi_n {σ τ : jf_S} {k : Int32} {J : Nat} (h : m_fi σ τ k J ((σ.1 27) J).toNatClampNeg) : m_fi σ τ k (J + 1) 0 := by
  refine ⟨fun j i a => h.1 j i ?_, h.2.1, h.2.2⟩
  rcases a with a | a
  · by_cases e : j = J
    · right; rw [← e]; exact ⟨rfl, a.2⟩
    · left; exact ⟨by omega, a.2⟩
  · omega
theorem m_cf_v {σ τ : jf_S} {j k : Int32} {N i : Nat} (z : mS_a σ τ) (j0 : 0 ≤ j.toInt) (hN : N = 5 * j.toNatClampNeg + i) (hi : i < ((σ.1 27) j.toNatClampNeg).toNatClampNeg) : m_cf τ j ((τ.1 26) N) k = m_h σ (nI j.toNatClampNeg) ((σ.1 26) N) k := by
  have e26 : (τ.1 26) = (σ.1 26) := z.2.1 26 (by decide) (by decide) (by decide)
  have e27 : (τ.1 27) = (σ.1 27) := z.2.1 27 (by decide) (by decide) (by decide)
  have s : sp_has ((σ.1 26)) ((σ.1 27) j.toNatClampNeg) j.toNatClampNeg ((σ.1 26) N) = true := jx_any_iff.mpr ⟨i, hi, by rw [hN]; exact beq_self_eq_true _⟩
  unfold m_cf
  rw [e26, e27, s, Bool.true_and, m_h_e (σ := σ) (τ := τ) (fun k h => z.2.1 k (by omega) (by omega) (by omega)) (z.2.2 39 (by decide) (by decide)) (z.2.2 46 (by decide) (by decide)), ← ji_nI j0]
theorem m_dep_a {σ τ : jf_S} (z : mS_a σ τ) (hd : m_dep ((σ.1 32)) ((σ.1 0 46)).toNatClampNeg = 1) : m_dep ((τ.1 32)) ((τ.1 0 46)).toNatClampNeg = 1 := by
  rw [z.2.1 32 (by decide) (by decide) (by decide), z.2.2 46 (by decide) (by decide)]; exact hd
theorem l_ne {l : List Int32} {x : Int32} : ¬ (l ++ [x]) = [] := by simp
theorem ct_X11_findVotes3 (E : jf_E) (σ : jf_S) (k : Int32) (hR : mI_r σ) (hV : mI_v σ) (hd : m_dep ((σ.1 32)) ((σ.1 0 46)).toNatClampNeg = 1) : jf_V jh_M E yX11_findVotes cX11_findVotes 6 3 [jf_r E 0, .int k] σ (fun τ => mS_a σ τ ∧ m_in τ ((σ.1 0 35)).toNatClampNeg 0 ∧ m_fi σ τ k ((σ.1 0 35)).toNatClampNeg 0) := by
  refine jf_mkV (by decide) (Nat.le_of_ble_eq_true rfl) ?_
  intro G C ret
  have hJ := hV.1
  have h5 := fun j => (hV.2.2.1 j).2
  have l43 : ∀ (m : Nat) (τ : jf_S) (j a i : Int32), (mS_a σ τ ∧ m_in τ j.toNatClampNeg i.toNatClampNeg ∧ m_fi σ τ k j.toNatClampNeg i.toNatClampNeg) → 0 ≤ i.toInt → i.toInt ≤ ((σ.1 27) j.toNatClampNeg).toInt → ((σ.1 27) j.toNatClampNeg).toInt - i.toInt < m → (0 ≤ j.toInt ∧ j.toInt < 10) → (∀ υ : jf_S, mS_a σ υ → m_in υ (j.toNatClampNeg + 1) 0 → m_fi σ υ k (j.toNatClampNeg + 1) 0 → jf_X jh_M E G 6 30 [(0, jf_r E 0), (1, .int k), (2, .int (j + Int32.ofInt 1))] [] υ) → (((σ.1 27) j.toNatClampNeg).toInt ≤ 5) → ((a.toInt = 0 ↔ ¬ m_Ci σ k j.toNatClampNeg i.toNatClampNeg = [])) → jf_X jh_M E G 6 43 [(0, jf_r E 0), (1, .int k), (2, .int j), (3, .int a), (4, .int i)] [] τ := by
    intro m
    induction m with
    | zero => intro τ j a i z g1 g2 g3 x1 x2 x3 x4; exfalso; omega
    | succ m ih =>
      intro τ j a i z g1 g2 g3 x1 x2 x3 x4
      have e1 := ji_inc (k := i) (by omega)
      have hT := mS_a_V z.1 hV
      have hU := mS_a_R z.1 hR
      have h5' := fun j => (hT.2.2.1 j).2
      have cv : (τ.1 27) = (σ.1 27) := z.1.2.1 _ (by decide) (by decide) (by decide)
      have cvv : (τ.1 26) = (σ.1 26) := z.1.2.1 _ (by decide) (by decide) (by decide)
      have c5 := hT.2.2.1 j.toNatClampNeg
      have c6 : ((τ.1 27) j.toNatClampNeg).toInt = ((σ.1 27) j.toNatClampNeg).toInt := by rw [cv]
      have v0 := hT.2.2.2 (5 * j + i).toNatClampNeg
      have ei := ji_tn g1
      have e2 : (i + Int32.ofInt 1).toNatClampNeg = i.toNatClampNeg + 1 := ji_cl (by omega)
      have n5 : i.toInt < 5 → (5 * j + i).toNatClampNeg = 5 * j.toNatClampNeg + i.toNatClampNeg := fun h => m_ix5 x1.1 x1.2 g1 h
      have evm := ji_tn (x := (σ.1 27) j.toNatClampNeg) (by omega)
      refine jr_iload C dX11_findVotes_43 rfl ?_
      refine jr_aload_n C dX11_findVotes_45 rfl ?_
      refine jr_getr C kf_X11_93_0 dX11_findVotes_46 ?_
      refine jr_iload_n C dX11_findVotes_49 rfl ?_
      refine jr_ialv C ka_M_27 dX11_findVotes_50 (ji_in x1.1 x1.2) (v := τ.1 27 _) rfl ?_
      refine jr_ncmp_ge C 135 dX11_findVotes_51 (by decide) rfl rfl (fun b51 => ?_) (fun b51 => ?_)
      · refine jr_iinc C _ dX11_findVotes_135 rfl rfl (by decide) ?_
        refine jr_goto C 30 dX11_findVotes_138 (by decide) ?_
        exact jr_sub [(0, jf_r E 0), (1, .int k), (2, .int (j + Int32.ofInt 1))] rfl (x2 _ z.1 (fun f f1 f2 => by obtain ⟨p, q, a1, a2, a3⟩ := z.2.1 f f1 f2; exact ⟨p, q, Or.inl (by rcases a1 with a1 | a1; exact ⟨by omega, a1.2⟩; exact ⟨by omega, by rw [a1.1]; omega⟩), a2, a3⟩) (m_fi_n (by rw [← show i.toNatClampNeg = ((σ.1 27) j.toNatClampNeg).toNatClampNeg from by omega]; exact z.2.2)))
      · refine jr_aload_n C dX11_findVotes_54 rfl ?_
        refine jr_getr C kf_X11_90_0 dX11_findVotes_55 ?_
        refine jr_iconst C (v := 5) dX11_findVotes_58 (by decide) ?_
        refine jr_iload_n C dX11_findVotes_59 rfl ?_
        refine jr_imul C dX11_findVotes_60 ?_
        refine jr_iload C dX11_findVotes_61 rfl ?_
        refine jr_iadd C dX11_findVotes_63 ?_
        refine jr_ialv C ka_M_26 dX11_findVotes_64 (ji_lin 5 5 rfl (by omega) (by omega) (by omega) (by omega)) (v := τ.1 26 _) rfl ?_
        refine jr_istore C dX11_findVotes_65 (by decide) ?_
        refine jr_aload_n C dX11_findVotes_67 rfl ?_
        refine jr_getr C kf_X11_129_0 dX11_findVotes_68 ?_
        refine jr_iconst C (v := 5) dX11_findVotes_71 (by decide) ?_
        refine jr_iload_n C dX11_findVotes_72 rfl ?_
        refine jr_imul C dX11_findVotes_73 ?_
        refine jr_iload C dX11_findVotes_74 rfl ?_
        refine jr_iadd C dX11_findVotes_76 ?_
        refine jr_aload_n C dX11_findVotes_77 rfl ?_
        refine jr_iload_n C dX11_findVotes_78 rfl ?_
        refine jr_iload C dX11_findVotes_79 rfl ?_
        refine jr_iload_n C dX11_findVotes_81 rfl ?_
        refine jr_vi C [.int _, .int _, .int _] _ (ct_X11_countsFor2 E _ _ _ _ x1.1 x1.2 hU hT (m_dep_a z.1 hd)) ky_X11_countsFor kv_X11_countsFor kk_M_0 km_X11_379 (by decide) rfl (Nat.le_of_ble_eq_true rfl) dX11_findVotes_82 (fun r82 τ82 h82 => ?_)
        have v82 : r82 = q_b (m_h σ (nI j.toNatClampNeg) ((σ.1 26) (5 * j + i).toNatClampNeg) k) := by rw [h82.1]; exact congrArg q_b (m_cf_v z.1 x1.1 (n5 (by omega)) (by omega))
        refine jr_zast C ka_M_38 dX11_findVotes_85 (ji_lin 5 5 rfl (by omega) (by omega) (by omega) (by omega)) (by rw [h82.1]; exact q_b_01) ?_
        refine jr_aload_n C dX11_findVotes_86 rfl ?_
        refine jr_getr C kf_X11_129_0 dX11_findVotes_87 ?_
        refine jr_iconst C (v := 5) dX11_findVotes_90 (by decide) ?_
        refine jr_iload_n C dX11_findVotes_91 rfl ?_
        refine jr_imul C dX11_findVotes_92 ?_
        refine jr_iload C dX11_findVotes_93 rfl ?_
        refine jr_iadd C dX11_findVotes_95 ?_
        refine jr_zald C ka_M_38 dX11_findVotes_96 (ji_lin 5 5 rfl (by omega) (by omega) (by omega) (by omega)) ?_
        refine jr_nif_eq C 129 dX11_findVotes_97 (by decide) (fun b97 => ?_) (fun b97 => ?_)
        · refine jr_iinc C _ dX11_findVotes_129 rfl rfl (by decide) ?_
          refine jr_goto C 43 dX11_findVotes_132 (by decide) ?_
          exact jr_sub [(0, jf_r E 0), (1, .int k), (2, .int _), (3, .int _), (4, .int _)] rfl (ih _ _ _ _ (by first | (have z97 : r82.toInt = 0 := (by rw [jf_i_same] at b97; exact b97); exact ⟨mS_a_i (mS_a_t z.1 (mS_a_p h82.2)) (by decide), by rw [e2]; exact m_inA h82.2 (n5 (by omega)) h5' (by omega) z.2.1, by rw [e2]; exact m_fiA z.2.2 h82.2 (n5 (by omega)) h5 (by omega) v82 z97⟩) | (have z97 : ¬ r82.toInt = 0 := (by rw [jf_i_same] at b97; exact b97); exact ⟨mS_a_i (mS_a_i (mS_a_i (mS_a_t z.1 (mS_a_p h82.2)) (by decide)) (by decide)) (by decide), by rw [e2]; exact m_inB h82.2 (n5 (by omega)) h5' (by omega) (ji_tn v0.1).symm z97 z.2.1, by rw [e2]; exact m_fiB z.2.2 h82.2 (n5 (by omega)) h5 (by omega) v82 z97 (by rw [cvv]) (by have := ji_tn v0.1; omega) (by first | exact Or.inr ⟨x4.mp b117, rfl⟩ | exact Or.inl ⟨Classical.not_not.mp (fun q => b117 (x4.mpr q)), rfl⟩)⟩)) (by omega) (by omega) (by omega) x1 x2 x3 (by first | (have z97 : r82.toInt = 0 := (by rw [jf_i_same] at b97; exact b97); rw [v82] at z97; have w97 := q_b_z z97; rw [n5 (by omega)] at w97; rw [e2, m_Ci_f w97]; exact x4) | (have z97 : ¬ r82.toInt = 0 := (by rw [jf_i_same] at b97; exact b97); rw [v82] at z97; have w97 := q_b_nz z97; rw [n5 (by omega)] at w97; rw [e2, m_Ci_t w97]; exact ⟨fun _ => l_ne, fun _ => rfl⟩)))
        · refine jr_aload_n C dX11_findVotes_100 rfl ?_
          refine jr_getr C kf_X11_132_0 dX11_findVotes_101 ?_
          refine jr_iload C dX11_findVotes_104 rfl ?_
          refine jr_iconst C (v := 1) dX11_findVotes_106 (by decide) ?_
          refine jr_zast C ka_M_39 dX11_findVotes_107 (ji_in (by omega) (by omega)) (Or.inr rfl) ?_
          refine jr_aload_n C dX11_findVotes_108 rfl ?_
          refine jr_getr C kf_X11_135_0 dX11_findVotes_109 ?_
          refine jr_iload C dX11_findVotes_112 rfl ?_
          refine jr_dup2 C dX11_findVotes_114 rfl rfl ?_
          refine jr_iald C ka_M_40 dX11_findVotes_115 (ji_in (by omega) (by omega)) ?_
          refine jr_iload_n C dX11_findVotes_116 rfl ?_
          refine jr_nif_eq C 124 dX11_findVotes_117 (by decide) (fun b117 => ?_) (fun b117 => ?_)
          · refine jr_iconst C (v := 0) dX11_findVotes_124 (by decide) ?_
            refine jr_iadd C dX11_findVotes_125 ?_
            refine jr_iast C ka_M_40 dX11_findVotes_126 (ji_in (by omega) (by omega)) ?_
            refine jr_iconst C (v := 0) dX11_findVotes_127 (by decide) ?_
            refine jr_istore_n C dX11_findVotes_128 (by decide) ?_
            refine jr_iinc C _ dX11_findVotes_129 rfl rfl (by decide) ?_
            refine jr_goto C 43 dX11_findVotes_132 (by decide) ?_
            exact jr_sub [(0, jf_r E 0), (1, .int k), (2, .int _), (3, .int _), (4, .int _)] rfl (ih _ _ _ _ (by first | (have z97 : r82.toInt = 0 := (by rw [jf_i_same] at b97; exact b97); exact ⟨mS_a_i (mS_a_t z.1 (mS_a_p h82.2)) (by decide), by rw [e2]; exact m_inA h82.2 (n5 (by omega)) h5' (by omega) z.2.1, by rw [e2]; exact m_fiA z.2.2 h82.2 (n5 (by omega)) h5 (by omega) v82 z97⟩) | (have z97 : ¬ r82.toInt = 0 := (by rw [jf_i_same] at b97; exact b97); exact ⟨mS_a_i (mS_a_i (mS_a_i (mS_a_t z.1 (mS_a_p h82.2)) (by decide)) (by decide)) (by decide), by rw [e2]; exact m_inB h82.2 (n5 (by omega)) h5' (by omega) (ji_tn v0.1).symm z97 z.2.1, by rw [e2]; exact m_fiB z.2.2 h82.2 (n5 (by omega)) h5 (by omega) v82 z97 (by rw [cvv]) (by have := ji_tn v0.1; omega) (by first | exact Or.inr ⟨x4.mp b117, rfl⟩ | exact Or.inl ⟨Classical.not_not.mp (fun q => b117 (x4.mpr q)), rfl⟩)⟩)) (by omega) (by omega) (by omega) x1 x2 x3 (by first | (have z97 : r82.toInt = 0 := (by rw [jf_i_same] at b97; exact b97); rw [v82] at z97; have w97 := q_b_z z97; rw [n5 (by omega)] at w97; rw [e2, m_Ci_f w97]; exact x4) | (have z97 : ¬ r82.toInt = 0 := (by rw [jf_i_same] at b97; exact b97); rw [v82] at z97; have w97 := q_b_nz z97; rw [n5 (by omega)] at w97; rw [e2, m_Ci_t w97]; exact ⟨fun _ => l_ne, fun _ => rfl⟩)))
          · refine jr_iconst C (v := 1) dX11_findVotes_120 (by decide) ?_
            refine jr_goto C 125 dX11_findVotes_121 (by decide) ?_
            refine jr_iadd C dX11_findVotes_125 ?_
            refine jr_iast C ka_M_40 dX11_findVotes_126 (ji_in (by omega) (by omega)) ?_
            refine jr_iconst C (v := 0) dX11_findVotes_127 (by decide) ?_
            refine jr_istore_n C dX11_findVotes_128 (by decide) ?_
            refine jr_iinc C _ dX11_findVotes_129 rfl rfl (by decide) ?_
            refine jr_goto C 43 dX11_findVotes_132 (by decide) ?_
            exact jr_sub [(0, jf_r E 0), (1, .int k), (2, .int _), (3, .int _), (4, .int _)] rfl (ih _ _ _ _ (by first | (have z97 : r82.toInt = 0 := (by rw [jf_i_same] at b97; exact b97); exact ⟨mS_a_i (mS_a_t z.1 (mS_a_p h82.2)) (by decide), by rw [e2]; exact m_inA h82.2 (n5 (by omega)) h5' (by omega) z.2.1, by rw [e2]; exact m_fiA z.2.2 h82.2 (n5 (by omega)) h5 (by omega) v82 z97⟩) | (have z97 : ¬ r82.toInt = 0 := (by rw [jf_i_same] at b97; exact b97); exact ⟨mS_a_i (mS_a_i (mS_a_i (mS_a_t z.1 (mS_a_p h82.2)) (by decide)) (by decide)) (by decide), by rw [e2]; exact m_inB h82.2 (n5 (by omega)) h5' (by omega) (ji_tn v0.1).symm z97 z.2.1, by rw [e2]; exact m_fiB z.2.2 h82.2 (n5 (by omega)) h5 (by omega) v82 z97 (by rw [cvv]) (by have := ji_tn v0.1; omega) (by first | exact Or.inr ⟨x4.mp b117, rfl⟩ | exact Or.inl ⟨Classical.not_not.mp (fun q => b117 (x4.mpr q)), rfl⟩)⟩)) (by omega) (by omega) (by omega) x1 x2 x3 (by first | (have z97 : r82.toInt = 0 := (by rw [jf_i_same] at b97; exact b97); rw [v82] at z97; have w97 := q_b_z z97; rw [n5 (by omega)] at w97; rw [e2, m_Ci_f w97]; exact x4) | (have z97 : ¬ r82.toInt = 0 := (by rw [jf_i_same] at b97; exact b97); rw [v82] at z97; have w97 := q_b_nz z97; rw [n5 (by omega)] at w97; rw [e2, m_Ci_t w97]; exact ⟨fun _ => l_ne, fun _ => rfl⟩)))
  have l30 : ∀ (m : Nat) (τ : jf_S) (j : Int32), (mS_a σ τ ∧ m_in τ j.toNatClampNeg 0 ∧ m_fi σ τ k j.toNatClampNeg 0) → 0 ≤ j.toInt → j.toInt ≤ ((σ.1 0 35)).toInt → ((σ.1 0 35)).toInt - j.toInt < m → jf_X jh_M E G 6 30 [(0, jf_r E 0), (1, .int k), (2, .int j)] [] τ := by
    intro m
    induction m with
    | zero => intro τ j z g1 g2 g3; exfalso; omega
    | succ m ih =>
      intro τ j z g1 g2 g3
      have e1 := ji_inc (k := j) (by omega)
      have c1 : ((τ.1 0 35)).toInt = ((σ.1 0 35)).toInt := congrArg Int32.toInt (z.1.2.2 _ (by decide) (by decide))
      have ej := ji_tn g1
      have e2 : (j + Int32.ofInt 1).toNatClampNeg = j.toNatClampNeg + 1 := ji_cl (by omega)
      refine jr_iload_n C dX11_findVotes_30 rfl ?_
      refine jr_aload_n C dX11_findVotes_31 rfl ?_
      refine jr_getv C kf_X11_257_0 dX11_findVotes_32 (v := τ.1 0 35) rfl ?_
      refine jr_ncmp_ge C 141 dX11_findVotes_35 (by decide) rfl rfl (fun b35 => ?_) (fun b35 => ?_)
      · exact ret _ _ _ dX11_findVotes_141 (⟨z.1, by rw [← show j.toNatClampNeg = ((σ.1 0 35)).toNatClampNeg from congrArg Int.toNat (show j.toInt = ((σ.1 0 35)).toInt by omega)]; exact z.2⟩)
      · refine jr_iconst C (v := 1) dX11_findVotes_38 (by decide) ?_
        refine jr_istore_n C dX11_findVotes_39 (by decide) ?_
        refine jr_iconst C (v := 0) dX11_findVotes_40 (by decide) ?_
        refine jr_istore C dX11_findVotes_41 (by decide) ?_
        exact jr_sub [(0, jf_r E 0), (1, .int k), (2, .int j), (3, .int 1), (4, .int 0)] rfl (l43 6 _ _ _ _ z (by decide) (by have := (hV.2.2.1 j.toNatClampNeg).1; exact this) (by have := (hV.2.2.1 j.toNatClampNeg).2; show _ - (0 : Int) < _; omega) ⟨by omega, by omega⟩ (fun υ hz hi hf => ih _ _ ⟨hz, by rw [e2]; exact hi, by rw [e2]; exact hf⟩ (by omega) (by omega) (by omega)) (h5 _) ⟨fun h => absurd h (by decide), fun h => absurd rfl h⟩)
  have l2 : ∀ (m : Nat) (τ : jf_S) (o : Int32), (mS_a σ τ ∧ ∀ f : Nat, (f : Int) < o.toInt → (τ.1 39) f = 0 ∧ (τ.1 40) f = 0) → 0 ≤ o.toInt → o.toInt ≤ (20 : Int) → (20 : Int) - o.toInt < m → jf_X jh_M E G 6 2 [(0, jf_r E 0), (1, .int k), (2, .int o)] [] τ := by
    intro m
    induction m with
    | zero => intro τ o z g1 g2 g3; exfalso; omega
    | succ m ih =>
      intro τ o z g1 g2 g3
      have e1 := ji_inc (k := o) (by omega)
      have eo := ji_tn g1
      refine jr_iload_n C dX11_findVotes_2 rfl ?_
      refine jr_bipush C (v := 20) dX11_findVotes_3 (by decide) ?_
      refine jr_ncmp_ge C (b := 20) 28 dX11_findVotes_5 (by decide) rfl rfl (fun b5 => ?_) (fun b5 => ?_)
      · refine jr_iconst C (v := 0) dX11_findVotes_28 (by decide) ?_
        refine jr_istore_n C dX11_findVotes_29 (by decide) ?_
        exact jr_sub [(0, jf_r E 0), (1, .int k), (2, .int 0)] rfl (l30 11 _ _ ⟨z.1, fun f f1 f2 => absurd (by rw [(z.2 f (by omega)).1]; rfl) f2, fun j i a => (by exfalso; have z0 : (0 : Int32).toNatClampNeg = 0 := rfl; omega), w_cut_eq (B := fun _ => 0) (fun f hf => (z.2 f (by omega)).1) |>.trans (by funext f; unfold w_cut; split <;> rfl), w_cut_eq (B := fun _ => 0) (fun f hf => (z.2 f (by omega)).2) |>.trans (by funext f; unfold w_cut; split <;> rfl)⟩ (by decide) hJ.1 (by show _ - (0 : Int) < _; omega))
      · refine jr_aload_n C dX11_findVotes_8 rfl ?_
        refine jr_getr C kf_X11_132_0 dX11_findVotes_9 ?_
        refine jr_iload_n C dX11_findVotes_12 rfl ?_
        refine jr_iconst C (v := 0) dX11_findVotes_13 (by decide) ?_
        refine jr_zast C ka_M_39 dX11_findVotes_14 (ji_in (i := o) (by omega) (by omega)) (Or.inl rfl) ?_
        refine jr_aload_n C dX11_findVotes_15 rfl ?_
        refine jr_getr C kf_X11_135_0 dX11_findVotes_16 ?_
        refine jr_iload_n C dX11_findVotes_19 rfl ?_
        refine jr_iconst C (v := 0) dX11_findVotes_20 (by decide) ?_
        refine jr_iast C ka_M_40 dX11_findVotes_21 (ji_in (i := o) (by omega) (by omega)) ?_
        refine jr_iinc C _ dX11_findVotes_22 rfl rfl (by decide) ?_
        refine jr_goto C 2 dX11_findVotes_25 (by decide) ?_
        exact jr_sub [(0, jf_r E 0), (1, .int k), (2, .int _)] rfl (ih _ _ ⟨mS_a_i (mS_a_i z.1 (by decide)) (by decide), fun f hf => ⟨by rw [jf_i_o 39 (by decide)]; exact m_upd_z (fun e => (z.2 f (by omega)).1), m_upd_z (fun e => by rw [jf_i_o 40 (by decide)]; exact (z.2 f (by omega)).2)⟩⟩ (by omega) (by omega) (by omega))
  refine jr_iconst C (v := 0) dX11_findVotes_0 (by decide) ?_
  refine jr_istore_n C dX11_findVotes_1 (by decide) ?_
  exact jr_sub [(0, jf_r E 0), (1, .int k), (2, .int _)] rfl (l2 21 _ _ ⟨mS_a_r σ, fun f hf => by exfalso; have : (0 : Int32).toInt = 0 := rfl; omega⟩ (by decide) (by decide) (by decide))

