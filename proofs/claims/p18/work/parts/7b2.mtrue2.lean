/-! the reference: TRUE beginnings exactly -/
def m_nx (σ : jf_S) (r : Int32) (k : Nat) : Prop := (r.toInt = -1 ∧ ∀ s, s < k → ¬ (σ.1 24) s = 0) ∨ ((0 ≤ r.toInt ∧ r.toInt < ((σ.1 0 17)).toInt ∧ (σ.1 24) r.toNatClampNeg = 0) ∧ ∀ s, s < k → (σ.1 24) s = 0 → ((σ.1 17) r.toNatClampNeg).toInt ≤ ((σ.1 17) s).toInt)
theorem m_nx_s {σ : jf_S} {r : Int32} {k : Nat} (h : m_nx σ r k) (c : ¬ (σ.1 24) k = 0 ∨ (0 ≤ r.toInt ∧ ((σ.1 17) r.toNatClampNeg).toInt ≤ ((σ.1 17) k).toInt)) : m_nx σ r (k + 1) := by
  rcases h with ⟨h1, h2⟩ | ⟨h1, h2⟩
  · refine Or.inl ⟨h1, fun s hs => ?_⟩
    by_cases e : s = k
    · rw [e]
      rcases c with q | q
      · exact q
      · omega
    · exact h2 s (by omega)
  · refine Or.inr ⟨h1, fun s hs q => ?_⟩
    by_cases e : s = k
    · rw [e] at q ⊢
      rcases c with z | z
      · exact absurd q z
      · exact z.2
    · exact h2 s (by omega) q
theorem m_nx_y {σ : jf_S} {r o : Int32} (h : m_nx σ r o.toNatClampNeg) (h0 : 0 ≤ o.toInt) (h1 : o.toInt < ((σ.1 0 17)).toInt) (c : (σ.1 24) o.toNatClampNeg = 0) (d : r.toInt < 0 ∨ ((σ.1 17) o.toNatClampNeg).toInt < ((σ.1 17) r.toNatClampNeg).toInt) : m_nx σ o (o.toNatClampNeg + 1) := by
  refine Or.inr ⟨⟨h0, h1, c⟩, fun s hs q => ?_⟩
  by_cases e : s = o.toNatClampNeg
  · rw [e]; exact Int.le_refl _
  · rcases h with ⟨a1, a2⟩ | ⟨a1, a2⟩
    · exact absurd q (a2 s (by omega))
    · have := a2 s (by omega) q
      omega
theorem ct_X11_nextTrue2 (E : jf_E) (σ : jf_S) (hI : mI_s σ) : jf_I jh_M E yX11_nextTrue cX11_nextTrue 3 .int 0 [jf_r E 0] σ (fun r τ => m_nx σ r ((σ.1 0 17)).toNatClampNeg ∧ σ = τ) := by
  refine jf_mkI (by decide) (Nat.le_of_ble_eq_true rfl) ?_
  intro G C ret
  have hE := hI.1
  have loop : ∀ (m : Nat) (n o : Int32), 0 ≤ o.toInt → o.toInt ≤ ((σ.1 0 17)).toInt → ((σ.1 0 17)).toInt - o.toInt < m → m_nx σ n o.toNatClampNeg → jf_X jh_M E G 3 4 [(0, jf_r E 0), (1, .int n), (2, .int o)] [] σ := by
    intro m
    induction m with
    | zero => intro n o g1 g2 g3; exfalso; omega
    | succ m ih =>
      intro n o g1 g2 g3 g4
      have e1 := ji_inc (k := o) (by omega)
      have es := g_sc g1 e1
      have g5 : n.toInt = -1 ∨ (0 ≤ n.toInt ∧ n.toInt < ((σ.1 0 17)).toInt) := by
        rcases g4 with q | q
        · exact Or.inl q.1
        · exact Or.inr ⟨q.1.1, q.1.2.1⟩
      refine jr_iload_n C dX11_nextTrue_4 rfl ?_
      refine jr_aload_n C dX11_nextTrue_5 rfl ?_
      refine jr_geti C kf_X11_160_0 dX11_nextTrue_6 ?_
      refine jr_ncmp_ge C 52 dX11_nextTrue_9 (by decide) rfl rfl (fun b9 => ?_) (fun b9 => ?_)
      · have eo : o = (σ.1 0 17) := Int32.toInt_inj.mp (by omega)
        rw [eo] at g4
        refine jr_iload_n C dX11_nextTrue_52 rfl ?_
        exact ret _ _ _ _ dX11_nextTrue_53 rfl (⟨g4, rfl⟩)
      · refine jr_aload_n C dX11_nextTrue_12 rfl ?_
        refine jr_getr C kf_X11_84_0 dX11_nextTrue_13 ?_
        refine jr_iload_n C dX11_nextTrue_16 rfl ?_
        refine jr_zalv C ka_M_24 dX11_nextTrue_17 (ji_in (i := o) (by omega) (by omega)) (v := σ.1 24 _) rfl ?_
        refine jr_nif_ne C 44 dX11_nextTrue_18 (by decide) (fun b18 => ?_) (fun b18 => ?_)
        · refine jr_iload_n C dX11_nextTrue_44 rfl ?_
          refine jr_istore_n C dX11_nextTrue_45 (by decide) ?_
          refine jr_iinc C _ dX11_nextTrue_46 rfl rfl (by decide) ?_
          refine jr_goto C 4 dX11_nextTrue_49 (by decide) ?_
          first | (have q := m_nx_y g4 (by omega) (by omega) (jn_eq.mpr b18) (Or.inl (by omega))); exact jr_sub [(0, jf_r E 0), (1, .int o), (2, .int _)] rfl (ih _ _ (by omega) (by omega) (by omega) (by rw [es]; exact q)) | (have q := m_nx_y g4 (by omega) (by omega) (jn_eq.mpr b18) (Or.inr (by omega))); exact jr_sub [(0, jf_r E 0), (1, .int o), (2, .int _)] rfl (ih _ _ (by omega) (by omega) (by omega) (by rw [es]; exact q)) | (have q := m_nx_s g4 (Or.inl (jn_ne.mpr b18))); exact jr_sub [(0, jf_r E 0), (1, .int n), (2, .int _)] rfl (ih _ _ (by omega) (by omega) (by omega) (by rw [es]; exact q)) | (have q := m_nx_s g4 (Or.inr (by omega))); exact jr_sub [(0, jf_r E 0), (1, .int n), (2, .int _)] rfl (ih _ _ (by omega) (by omega) (by omega) (by rw [es]; exact q))
        · refine jr_iload_n C dX11_nextTrue_21 rfl ?_
          refine jr_nif_lt C 40 dX11_nextTrue_22 (by decide) (fun b22 => ?_) (fun b22 => ?_)
          · refine jr_iload_n C dX11_nextTrue_40 rfl ?_
            refine jr_goto C 45 dX11_nextTrue_41 (by decide) ?_
            refine jr_istore_n C dX11_nextTrue_45 (by decide) ?_
            refine jr_iinc C _ dX11_nextTrue_46 rfl rfl (by decide) ?_
            refine jr_goto C 4 dX11_nextTrue_49 (by decide) ?_
            first | (have q := m_nx_y g4 (by omega) (by omega) (jn_eq.mpr b18) (Or.inl (by omega))); exact jr_sub [(0, jf_r E 0), (1, .int o), (2, .int _)] rfl (ih _ _ (by omega) (by omega) (by omega) (by rw [es]; exact q)) | (have q := m_nx_y g4 (by omega) (by omega) (jn_eq.mpr b18) (Or.inr (by omega))); exact jr_sub [(0, jf_r E 0), (1, .int o), (2, .int _)] rfl (ih _ _ (by omega) (by omega) (by omega) (by rw [es]; exact q)) | (have q := m_nx_s g4 (Or.inl (jn_ne.mpr b18))); exact jr_sub [(0, jf_r E 0), (1, .int n), (2, .int _)] rfl (ih _ _ (by omega) (by omega) (by omega) (by rw [es]; exact q)) | (have q := m_nx_s g4 (Or.inr (by omega))); exact jr_sub [(0, jf_r E 0), (1, .int n), (2, .int _)] rfl (ih _ _ (by omega) (by omega) (by omega) (by rw [es]; exact q))
          · refine jr_aload_n C dX11_nextTrue_25 rfl ?_
            refine jr_getr C kf_X11_59_0 dX11_nextTrue_26 ?_
            refine jr_iload_n C dX11_nextTrue_29 rfl ?_
            refine jr_ialv C ka_M_17 dX11_nextTrue_30 (ji_in (i := o) (by omega) (by omega)) (v := σ.1 17 _) rfl ?_
            refine jr_aload_n C dX11_nextTrue_31 rfl ?_
            refine jr_getr C kf_X11_59_0 dX11_nextTrue_32 ?_
            refine jr_iload_n C dX11_nextTrue_35 rfl ?_
            refine jr_ialv C ka_M_17 dX11_nextTrue_36 (ji_in (i := n) (by omega) (by omega)) (v := σ.1 17 _) rfl ?_
            refine jr_ncmp_ge C 44 dX11_nextTrue_37 (by decide) rfl rfl (fun b37 => ?_) (fun b37 => ?_)
            · refine jr_iload_n C dX11_nextTrue_44 rfl ?_
              refine jr_istore_n C dX11_nextTrue_45 (by decide) ?_
              refine jr_iinc C _ dX11_nextTrue_46 rfl rfl (by decide) ?_
              refine jr_goto C 4 dX11_nextTrue_49 (by decide) ?_
              first | (have q := m_nx_y g4 (by omega) (by omega) (jn_eq.mpr b18) (Or.inl (by omega))); exact jr_sub [(0, jf_r E 0), (1, .int o), (2, .int _)] rfl (ih _ _ (by omega) (by omega) (by omega) (by rw [es]; exact q)) | (have q := m_nx_y g4 (by omega) (by omega) (jn_eq.mpr b18) (Or.inr (by omega))); exact jr_sub [(0, jf_r E 0), (1, .int o), (2, .int _)] rfl (ih _ _ (by omega) (by omega) (by omega) (by rw [es]; exact q)) | (have q := m_nx_s g4 (Or.inl (jn_ne.mpr b18))); exact jr_sub [(0, jf_r E 0), (1, .int n), (2, .int _)] rfl (ih _ _ (by omega) (by omega) (by omega) (by rw [es]; exact q)) | (have q := m_nx_s g4 (Or.inr (by omega))); exact jr_sub [(0, jf_r E 0), (1, .int n), (2, .int _)] rfl (ih _ _ (by omega) (by omega) (by omega) (by rw [es]; exact q))
            · refine jr_iload_n C dX11_nextTrue_40 rfl ?_
              refine jr_goto C 45 dX11_nextTrue_41 (by decide) ?_
              refine jr_istore_n C dX11_nextTrue_45 (by decide) ?_
              refine jr_iinc C _ dX11_nextTrue_46 rfl rfl (by decide) ?_
              refine jr_goto C 4 dX11_nextTrue_49 (by decide) ?_
              first | (have q := m_nx_y g4 (by omega) (by omega) (jn_eq.mpr b18) (Or.inl (by omega))); exact jr_sub [(0, jf_r E 0), (1, .int o), (2, .int _)] rfl (ih _ _ (by omega) (by omega) (by omega) (by rw [es]; exact q)) | (have q := m_nx_y g4 (by omega) (by omega) (jn_eq.mpr b18) (Or.inr (by omega))); exact jr_sub [(0, jf_r E 0), (1, .int o), (2, .int _)] rfl (ih _ _ (by omega) (by omega) (by omega) (by rw [es]; exact q)) | (have q := m_nx_s g4 (Or.inl (jn_ne.mpr b18))); exact jr_sub [(0, jf_r E 0), (1, .int n), (2, .int _)] rfl (ih _ _ (by omega) (by omega) (by omega) (by rw [es]; exact q)) | (have q := m_nx_s g4 (Or.inr (by omega))); exact jr_sub [(0, jf_r E 0), (1, .int n), (2, .int _)] rfl (ih _ _ (by omega) (by omega) (by omega) (by rw [es]; exact q))
  refine jr_iconst C (v := -1) dX11_nextTrue_0 (by decide) ?_
  refine jr_istore_n C dX11_nextTrue_1 (by decide) ?_
  refine jr_iconst C (v := 0) dX11_nextTrue_2 (by decide) ?_
  refine jr_istore_n C dX11_nextTrue_3 (by decide) ?_
  exact jr_sub [(0, jf_r E 0), (1, .int (-1)), (2, .int 0)] rfl (loop 61 (-1) 0 (by decide) hE.1 (by show _ - 0 < _; omega) (Or.inl ⟨rfl, fun s hs => absurd hs (Nat.not_lt_zero s)⟩))
theorem mS_true_G {σ τ : jf_S} (h : mS_true σ τ) : m_G τ = m_G σ := g_V_eq (fun i h1 h2 => by
  have k : ∀ i, i < 23 → i ≠ 0 → m_cell.getD i 0 ≠ 23 ∧ m_cell.getD i 0 ≠ 24 := by decide
  exact h.2 _ (k i h1 h2).1 (k i h1 h2).2)
/-- what is reckoned so far -/
def m_ti (σ τ : jf_S) : Prop := mS_true σ τ ∧ g_ti (m_G σ) ((σ.1 0 17)).toNatClampNeg ((τ.1 23)) ((τ.1 24))
theorem m_ti_s {σ τ : jf_S} (hI : mI_s σ) {x v : Int32} (h : m_ti σ τ) (n : m_nx τ x ((τ.1 0 17)).toNatClampNeg) (n0 : 0 ≤ x.toInt) (hv : v = g_tb (m_G τ) ((τ.1 0 17)).toNatClampNeg ((τ.1 23)) x.toNatClampNeg) : m_ti σ (jf_i (jf_i τ 23 x.toNatClampNeg v) 24 x.toNatClampNeg 1) := by
  have w := mS_true_w (k := 24) (j := x.toNatClampNeg) (v := 1) (mS_true_w (k := 23) (j := x.toNatClampNeg) (v := v) h.1 (Or.inl rfl)) (Or.inr rfl)
  refine ⟨w, ?_⟩
  have eE : (τ.1 0 17) = (σ.1 0 17) := by rw [h.1.2 0 (by decide) (by decide)]
  have eB : (τ.1 17) = (σ.1 17) := h.1.2 17 (by decide) (by decide)
  have te := ji_tn hI.1.1
  have tx := ji_tn n0
  have hE := hI.1
  rw [mS_true_G h.1, eE] at hv
  rcases n with ⟨n1, -⟩ | ⟨n1, n2⟩
  · exfalso; omega
  · rw [eE] at n1 n2
    rw [eB] at n2
    have e23 : (jf_i (jf_i τ 23 x.toNatClampNeg v) 24 x.toNatClampNeg 1).1 23 = upd ((τ.1 23)) x.toNatClampNeg v := by rw [jf_i_o 23 (by decide), jf_i_at]
    have e24 : (jf_i (jf_i τ 23 x.toNatClampNeg v) 24 x.toNatClampNeg 1).1 24 = upd ((τ.1 24)) x.toNatClampNeg 1 := by rw [jf_i_at, jf_i_o 24 (by decide)]
    rw [e23, e24]
    exact g_ti_s (by omega) h.2 (by omega) n1.2.2 n2 hv

