/-! the class: the votes that count, exactly -/
def x_Ci (σ : jf_S) (L : List Int32) (k : Int32) (j i : Nat) : List Int32 := w_cl (fun i => (σ.1 42) (5 * j + i)) (fun i => x_h σ L (nI j) ((σ.1 42) (5 * j + i)) k) i
def x_Ck (σ : jf_S) (L : List Int32) (k : Int32) (j : Nat) : List Int32 := x_Ci σ L k j ((σ.1 41) j).toNatClampNeg
theorem x_Ci_t {σ : jf_S} {L : List Int32} {k : Int32} {j i : Nat} (h : x_h σ L (nI j) ((σ.1 42) (5 * j + i)) k = true) : x_Ci σ L k j (i + 1) = x_Ci σ L k j i ++ [(σ.1 42) (5 * j + i)] := w_cl_t h
theorem x_Ci_f {σ : jf_S} {L : List Int32} {k : Int32} {j i : Nat} (h : x_h σ L (nI j) ((σ.1 42) (5 * j + i)) k = false) : x_Ci σ L k j (i + 1) = x_Ci σ L k j i := w_cl_f h
/-- the jurors' lists -/
def x_cd (τ : jf_S) (C : Nat → List Int32) (J : Nat) : Prop := ∀ j, j < J → ((τ.1 51) j).toInt = ((C j).length : Int) ∧ ∀ i, i < (C j).length → (τ.1 50) (5 * j + i) = (C j).getD i 0
def x_ga (σ τ : jf_S) (L : List Int32) (k : Int32) (J I : Nat) : Prop := x_cd τ (x_Ck σ L k) J ∧ (∀ i, i < (x_Ci σ L k J I).length → (τ.1 50) (5 * J + i) = (x_Ci σ L k J I).getD i 0) ∧ w_cut ((τ.1 53)) = w_rl (w_run (x_Ck σ L k) J) (x_Ci σ L k J I) ∧ w_cut ((τ.1 52)) = w_fir (x_Ck σ L k) J ∧ τ.1 10 = σ.1 10
theorem x_Ck_5 {σ : jf_S} {L : List Int32} {k : Int32} (hV : xV σ) (j : Nat) : (x_Ck σ L k j).length ≤ 5 ∧ ∀ x ∈ x_Ck σ L k j, x.toNatClampNeg < 20 := by
  have h5 := hV.2.1 j
  have t5 := ji_tn h5.1
  refine ⟨Nat.le_trans (w_cl_len _) (by omega), fun x hx => ?_⟩
  obtain ⟨q, -, -, e⟩ := w_cl_mem hx
  have hr := hV.2.2.1 (5 * j + q)
  have e : (σ.1 42) (5 * j + q) = x := e
  rw [e] at hr
  have := ji_tn hr.1
  omega
theorem x_gaF {σ τ : jf_S} {L : List Int32} {k : Int32} {J I : Nat} (h : x_ga σ τ L k J I) (hf : x_h σ L (nI J) ((σ.1 42) (5 * J + I)) k = false) : x_ga σ τ L k J (I + 1) := by
  unfold x_ga
  rw [x_Ci_f hf]; exact h
theorem x_gaT {σ τ : jf_S} {L : List Int32} {k v : Int32} {J I N F : Nat} (hV : xV σ) (h : x_ga σ τ L k J I) (ht : x_h σ L (nI J) ((σ.1 42) (5 * J + I)) k = true) (hN : N = 5 * J + (x_Ci σ L k J I).length) (hv : v = (σ.1 42) (5 * J + I)) (hF : F = v.toNatClampNeg) (hF2 : F < 20) : x_ga σ (jf_i (jf_i τ 50 N v) 53 F 1) L k J (I + 1) := by
  obtain ⟨h1, h2, h3, h4, h5⟩ := h
  have ln : (x_Ci σ L k J (I + 1)).length = (x_Ci σ L k J I).length + 1 := by rw [x_Ci_t ht, List.length_append]; rfl
  refine ⟨fun j hj => ⟨?_, fun i hi => ?_⟩, fun i hi => ?_, ?_, ?_, (jf_i_o 10 (by decide)).trans ((jf_i_o 10 (by decide)).trans h5)⟩
  · rw [jf_i_o 51 (by decide), jf_i_o 51 (by decide)]; exact (h1 j hj).1
  · have := (x_Ck_5 (L := L) (k := k) hV j).1
    rw [jf_i_o 50 (by decide), jf_i_ne (by omega)]; exact (h1 j hj).2 i hi
  · rw [ln] at hi
    rw [jf_i_o 50 (by decide), x_Ci_t ht]
    by_cases e : i = (x_Ci σ L k J I).length
    · rw [e, ← hN, jf_i_same, l_apn, hv]
    · rw [jf_i_ne (by omega), l_ap (by omega)]; exact h2 i (by omega)
  · rw [jf_i_at, jf_i_o 53 (by decide), w_cut_upd hF2, h3, x_Ci_t ht, w_rl_app, hF, hv]
  · rw [jf_i_o 52 (by decide), jf_i_o 52 (by decide)]; exact h4
theorem w_f1_h {F : Nat → Int32} : ∀ {l : List Int32}, 0 < l.length → w_f1 F l = upd F (l.getD 0 0).toNatClampNeg (F (l.getD 0 0).toNatClampNeg + 1)
  | [], h => absurd h (Nat.lt_irrefl 0)
  | a :: l, _ => rfl
theorem w_f1_0 {F : Nat → Int32} : ∀ {l : List Int32}, l.length = 0 → w_f1 F l = F
  | [], _ => rfl
  | a :: l, h => absurd h (Nat.succ_ne_zero _)
theorem x_gaC {σ τ : jf_S} {L : List Int32} {k c : Int32} {J : Nat} (h : x_ga σ τ L k J ((σ.1 41) J).toNatClampNeg) (hc : c.toInt = ((x_Ck σ L k J).length : Int)) : x_cd (jf_i τ 51 J c) (x_Ck σ L k) (J + 1) := by
  intro j hj
  by_cases e : j = J
  · subst e
    refine ⟨by rw [jf_i_same]; exact hc, fun i hi => ?_⟩
    rw [jf_i_o 50 (by decide)]; exact h.2.1 i hi
  · refine ⟨by rw [jf_i_ne e]; exact (h.1 j (by omega)).1, fun i hi => ?_⟩
    rw [jf_i_o 50 (by decide)]; exact (h.1 j (by omega)).2 i hi
theorem x_gaE0 {σ τ : jf_S} {L : List Int32} {k c : Int32} {J : Nat} (h : x_ga σ τ L k J ((σ.1 41) J).toNatClampNeg) (hc : c.toInt = ((x_Ck σ L k J).length : Int)) (h0 : c.toInt ≤ 0) : x_ga σ (jf_i τ 51 J c) L k (J + 1) 0 := by
  refine ⟨x_gaC h hc, fun i hi => absurd hi (Nat.not_lt_zero i), ?_, ?_, (jf_i_o 10 (by decide)).trans h.2.2.2.2⟩
  · rw [jf_i_o 53 (by decide)]; exact h.2.2.1
  · rw [jf_i_o 52 (by decide), h.2.2.2.1]
    exact (w_f1_0 (by omega)).symm
theorem x_gaE1 {σ τ : jf_S} {L : List Int32} {k c y : Int32} {J F : Nat} (hV : xV σ) (h : x_ga σ τ L k J ((σ.1 41) J).toNatClampNeg) (hc : c.toInt = ((x_Ck σ L k J).length : Int)) (h0 : ¬ c.toInt ≤ 0) (hF : F = ((τ.1 50) (5 * J)).toNatClampNeg) (hy : y = (τ.1 52) F + 1) : x_ga σ (jf_i (jf_i τ 51 J c) 52 F y) L k (J + 1) 0 := by
  have hl : 0 < (x_Ck σ L k J).length := by omega
  have e0 : (τ.1 50) (5 * J) = (x_Ck σ L k J).getD 0 0 := h.2.1 0 hl
  have F2 : F < 20 := by rw [hF, e0]; exact (x_Ck_5 hV J).2 _ (l_memd _ 0 hl)
  refine ⟨fun j hj => ⟨?_, fun i hi => ?_⟩, fun i hi => absurd hi (Nat.not_lt_zero i), ?_, ?_, (jf_i_o 10 (by decide)).trans ((jf_i_o 10 (by decide)).trans h.2.2.2.2)⟩
  · rw [jf_i_o 51 (by decide)]; exact (x_gaC h hc j hj).1
  · rw [jf_i_o 50 (by decide)]; exact (x_gaC h hc j hj).2 i hi
  · rw [jf_i_o 53 (by decide), jf_i_o 53 (by decide)]; exact h.2.2.1
  · rw [jf_i_at, jf_i_o 52 (by decide), w_cut_upd F2, hy, ← w_cut_lt (A := (τ.1 52)) F2, h.2.2.2.1]
    show _ = w_f1 (w_fir (x_Ck σ L k) J) (x_Ck σ L k J)
    rw [w_f1_h hl, ← e0, ← hF]
theorem x_h_e {σ τ : jf_S} (z : xS_a σ τ) (L : List Int32) (j f k : Int32) : x_h τ L j f k = x_h σ L j f k := by
  unfold x_h
  rw [z.2.1 7 (by decide) (by decide), z.2.1 40 (by decide) (by decide), z.2.1 43 (by decide) (by decide), z.2.1 44 (by decide) (by decide), z.2.1 45 (by decide) (by decide), z.2.1 46 (by decide) (by decide)]
theorem x_rs_a {σ τ : jf_S} {L : List Int32} (z : xS_a σ τ) (h : x_rs σ L) : x_rs τ L := by
  unfold x_rs
  rw [z.2.1 8 (by decide) (by decide), z.2.1 47 (by decide) (by decide)]; exact h
theorem ct_X0_gather3 (E : jf_E) (σ : jf_S) (k : Int32) (L : List Int32) (hC : xC σ) (hV : xV σ) (hs : x_rs σ L) : jf_V jh_X E yX0_gather cX0_gather 6 2 [jf_r E 10, .int k] σ (fun τ => xS_a σ τ ∧ xC τ ∧ x_ga σ τ L k ((σ.1 7 7)).toNatClampNeg 0) := by
  refine jf_mkV (by decide) (Nat.le_of_ble_eq_true rfl) ?_
  intro G C ret
  have hJ := hV.1
  have l46 : ∀ (m : Nat) (τ : jf_S) (j c i : Int32), (xS_a σ τ ∧ xC τ ∧ x_ga σ τ L k j.toNatClampNeg i.toNatClampNeg) → 0 ≤ i.toInt → i.toInt ≤ (5 : Int) → (5 : Int) - i.toInt < m → (0 ≤ j.toInt ∧ j.toInt < 10) → (0 ≤ c.toInt ∧ c.toInt ≤ i.toInt) → (∀ υ : jf_S, xS_a σ υ ∧ xC υ ∧ x_ga σ υ L k (j.toNatClampNeg + 1) 0 → jf_X jh_X E G 6 30 [(0, jf_r E 10), (1, .int k), (2, .int (j + Int32.ofInt 1))] [] υ) → (c.toInt = ((x_Ci σ L k j.toNatClampNeg i.toNatClampNeg).length : Int)) → (i.toInt ≤ ((σ.1 41) j.toNatClampNeg).toInt) → jf_X jh_X E G 6 46 [(0, jf_r E 10), (1, .int k), (2, .int j), (3, .int c), (4, .int i)] [] τ := by
    intro m
    induction m with
    | zero => intro τ j c i z g1 g2 g3 x1 x2 x3 x4 x5; exfalso; omega
    | succ m ih =>
      intro τ j c i z g1 g2 g3 x1 x2 x3 x4 x5
      have e1 := ji_inc (k := i) (by omega)
      have hT := xS_a_V z.1 hV
      have c5 := hT.2.1 j.toNatClampNeg
      have cvm : (τ.1 41) = (σ.1 41) := z.1.2.1 41 (by decide) (by decide)
      have cv : (τ.1 42) = (σ.1 42) := z.1.2.1 42 (by decide) (by decide)
      have c6 : ((τ.1 41) j.toNatClampNeg).toInt = ((σ.1 41) j.toNatClampNeg).toInt := by rw [cvm]
      have e2 := ji_inc (k := c) (by omega)
      have ei := ji_tn g1
      have ec := ji_tn x2.1
      have ej := ji_tn x1.1
      have evm := ji_tn (x := (σ.1 41) j.toNatClampNeg) (by omega)
      have e2i : (i + Int32.ofInt 1).toNatClampNeg = i.toNatClampNeg + 1 := ji_cl (by omega)
      have hx : i.toInt < 5 → x_h τ L j ((τ.1 42) (j * 5 + i).toNatClampNeg) k = x_h σ L (nI j.toNatClampNeg) ((σ.1 42) (5 * j.toNatClampNeg + i.toNatClampNeg)) k := fun h => by rw [x_h_e z.1, cv, ji_v5 x1 ⟨g1, h⟩, ← ji_nI x1.1]
      have j5 : (j * 5).toNatClampNeg = 5 * j.toNatClampNeg := ji_cl (by rw [fb_mulI (y := 5) (by show _ ≤ j.toInt * 5; omega) (by show j.toInt * 5 < _; omega)]; show j.toInt * 5 = _; omega)
      refine jr_iload C dX0_gather_46 rfl ?_
      refine jr_aload_n C dX0_gather_48 rfl ?_
      refine jr_getr C kf_X0_36_10 dX0_gather_49 ?_
      refine jr_getr C kf_X0_65_7 dX0_gather_52 ?_
      refine jr_iload_n C dX0_gather_55 rfl ?_
      refine jr_ialv C ka_X_41 dX0_gather_56 (ji_in x1.1 x1.2) (v := τ.1 41 _) rfl ?_
      refine jr_ncmp_ge C 123 dX0_gather_57 (by decide) rfl rfl (fun b57 => ?_) (fun b57 => ?_)
      · refine jr_aload_n C dX0_gather_123 rfl ?_
        refine jr_getr C kf_X0_15_10 dX0_gather_124 ?_
        refine jr_iload_n C dX0_gather_127 rfl ?_
        refine jr_iload_n C dX0_gather_128 rfl ?_
        refine jr_iast C ka_X_51 dX0_gather_129 (ji_in x1.1 x1.2) ?_
        refine jr_iload_n C dX0_gather_130 rfl ?_
        refine jr_nif_le C 151 dX0_gather_131 (by decide) (fun b131 => ?_) (fun b131 => ?_)
        · refine jr_iinc C _ dX0_gather_151 rfl rfl (by decide) ?_
          refine jr_goto C 30 dX0_gather_154 (by decide) ?_
          (have iv : i.toNatClampNeg = ((σ.1 41) j.toNatClampNeg).toNatClampNeg := (by omega); have zz := z.2.2; rw [iv] at zz x4; first | (have h9 : c.toInt ≤ 0 := b131; exact jr_sub [(0, jf_r E 10), (1, .int k), (2, .int (j + Int32.ofInt 1))] rfl (x3 _ ⟨xS_a_i z.1 (by decide), xC_51 z.2.1 ⟨x2.1, by omega⟩, x_gaE0 zz x4 h9⟩)) | (have h9 : ¬ c.toInt ≤ 0 := b131; exact jr_sub [(0, jf_r E 10), (1, .int k), (2, .int (j + Int32.ofInt 1))] rfl (x3 _ ⟨xS_a_i (xS_a_i z.1 (by decide)) (by decide), xC_o (xC_51 z.2.1 ⟨x2.1, by omega⟩) (by decide), x_gaE1 hV zz x4 h9 (congrArg (fun n => ((τ.1 50) n).toNatClampNeg) j5) rfl⟩)))
        · refine jr_aload_n C dX0_gather_134 rfl ?_
          refine jr_getr C kf_X0_18_10 dX0_gather_135 ?_
          refine jr_aload_n C dX0_gather_138 rfl ?_
          refine jr_getr C kf_X0_9_10 dX0_gather_139 ?_
          refine jr_iload_n C dX0_gather_142 rfl ?_
          refine jr_iconst C (v := 5) dX0_gather_143 (by decide) ?_
          refine jr_imul C dX0_gather_144 ?_
          refine jr_ialv C ka_X_50 dX0_gather_145 (ji_in (i := j * 5) (by rw [fb_mulI (y := 5) (by show _ ≤ j.toInt * 5; omega) (by show j.toInt * 5 < _; omega)]; show 0 ≤ j.toInt * 5; omega) (by rw [fb_mulI (y := 5) (by show _ ≤ j.toInt * 5; omega) (by show j.toInt * 5 < _; omega)]; show j.toInt * 5 < 50; omega)) (v := τ.1 50 _) rfl ?_
          refine jr_dup2 C dX0_gather_146 rfl rfl ?_
          refine jr_ialv C ka_X_52 dX0_gather_147 (ji_in (z.2.1.1 _).1 (z.2.1.1 _).2) (v := τ.1 52 _) rfl ?_
          refine jr_iconst C (v := 1) dX0_gather_148 (by decide) ?_
          refine jr_iadd C dX0_gather_149 ?_
          refine jr_iast C ka_X_52 dX0_gather_150 (ji_in (z.2.1.1 _).1 (z.2.1.1 _).2) ?_
          refine jr_iinc C _ dX0_gather_151 rfl rfl (by decide) ?_
          refine jr_goto C 30 dX0_gather_154 (by decide) ?_
          (have iv : i.toNatClampNeg = ((σ.1 41) j.toNatClampNeg).toNatClampNeg := (by omega); have zz := z.2.2; rw [iv] at zz x4; first | (have h9 : c.toInt ≤ 0 := b131; exact jr_sub [(0, jf_r E 10), (1, .int k), (2, .int (j + Int32.ofInt 1))] rfl (x3 _ ⟨xS_a_i z.1 (by decide), xC_51 z.2.1 ⟨x2.1, by omega⟩, x_gaE0 zz x4 h9⟩)) | (have h9 : ¬ c.toInt ≤ 0 := b131; exact jr_sub [(0, jf_r E 10), (1, .int k), (2, .int (j + Int32.ofInt 1))] rfl (x3 _ ⟨xS_a_i (xS_a_i z.1 (by decide)) (by decide), xC_o (xC_51 z.2.1 ⟨x2.1, by omega⟩) (by decide), x_gaE1 hV zz x4 h9 (congrArg (fun n => ((τ.1 50) n).toNatClampNeg) j5) rfl⟩)))
      · refine jr_aload_n C dX0_gather_60 rfl ?_
        refine jr_getr C kf_X0_36_10 dX0_gather_61 ?_
        refine jr_getr C kf_X0_68_7 dX0_gather_64 ?_
        refine jr_iload_n C dX0_gather_67 rfl ?_
        refine jr_iconst C (v := 5) dX0_gather_68 (by decide) ?_
        refine jr_imul C dX0_gather_69 ?_
        refine jr_iload C dX0_gather_70 rfl ?_
        refine jr_iadd C dX0_gather_72 ?_
        refine jr_ialv C ka_X_42 dX0_gather_73 (ji_linr 5 rfl (by omega) (by omega) (by omega)) (v := τ.1 42 _) rfl ?_
        refine jr_istore C dX0_gather_74 (by decide) ?_
        refine jr_aload_n C dX0_gather_76 rfl ?_
        refine jr_getr C kf_X0_36_10 dX0_gather_77 ?_
        refine jr_aload_n C dX0_gather_80 rfl ?_
        refine jr_getr C kf_X0_40_10 dX0_gather_81 ?_
        refine jr_iload_n C dX0_gather_84 rfl ?_
        refine jr_iload C dX0_gather_85 rfl ?_
        refine jr_iload_n C dX0_gather_87 rfl ?_
        refine jr_vip C [_, .int _, .int _, .int _] _ (ct_X4_passes2 E _ _ _ _ L hT.2.2.2 (x_rs_a z.1 hs) x1) ky_X4_passes kv_X4_passes kk_X_7 km_X0_71 (by decide) rfl (Nat.le_of_ble_eq_true rfl) dX0_gather_88 ?_
        refine jr_if_eq C 117 dX0_gather_91 (by decide) (fun b91 => ?_) (fun b91 => ?_)
        · replace b91 := jb_f b91
          refine jr_iinc C _ dX0_gather_117 rfl rfl (by decide) ?_
          refine jr_goto C 46 dX0_gather_120 (by decide) ?_
          exact jr_sub [(0, jf_r E 10), (1, .int k), (2, .int _), (3, .int _), (4, .int _)] rfl (ih _ _ _ _ (by rw [e2i]; first | (have h9 : ¬ x_h τ L j ((τ.1 42) (j * 5 + i).toNatClampNeg) k = true := b91; exact ⟨z.1, z.2.1, x_gaF z.2.2 (by rw [← hx (by omega)]; exact Bool.eq_false_iff.mpr h9)⟩) | (have h9 : x_h τ L j ((τ.1 42) (j * 5 + i).toNatClampNeg) k = true := b91; exact ⟨xS_a_i (xS_a_i z.1 (by decide)) (by decide), xC_o (xC_50 z.2.1 (hT.2.2.1 _)) (by decide), x_gaT hV z.2.2 (by rw [← hx (by omega)]; exact h9) (by rw [ji_v5 x1 ⟨by omega, by omega⟩]; omega) (by rw [cv, ji_v5 x1 ⟨g1, by omega⟩]) rfl (by have := hT.2.2.1 (j * 5 + i).toNatClampNeg; have := ji_tn this.1; omega)⟩)) (by omega) (by omega) (by omega) x1 (by first | exact ⟨by omega, by omega⟩) x3 (by rw [e2i]; first | (have h9 : ¬ x_h τ L j ((τ.1 42) (j * 5 + i).toNatClampNeg) k = true := b91; rw [x_Ci_f (by rw [← hx (by omega)]; exact Bool.eq_false_iff.mpr h9)]; exact x4) | (have h9 : x_h τ L j ((τ.1 42) (j * 5 + i).toNatClampNeg) k = true := b91; rw [x_Ci_t (by rw [← hx (by omega)]; exact h9), List.length_append]; show _ = ((_ + 1 : Nat) : Int); omega)) (by omega))
        · replace b91 := jb_t b91
          refine jr_aload_n C dX0_gather_94 rfl ?_
          refine jr_getr C kf_X0_9_10 dX0_gather_95 ?_
          refine jr_iload_n C dX0_gather_98 rfl ?_
          refine jr_iconst C (v := 5) dX0_gather_99 (by decide) ?_
          refine jr_imul C dX0_gather_100 ?_
          refine jr_iload_n C dX0_gather_101 rfl ?_
          refine jr_iadd C dX0_gather_102 ?_
          refine jr_iload C dX0_gather_103 rfl ?_
          refine jr_iast C ka_X_50 dX0_gather_105 (ji_linr 5 rfl (by omega) (by omega) (by omega)) ?_
          refine jr_iinc C _ dX0_gather_106 rfl rfl (by decide) ?_
          refine jr_aload_n C dX0_gather_109 rfl ?_
          refine jr_getr C kf_X0_21_10 dX0_gather_110 ?_
          refine jr_iload C dX0_gather_113 rfl ?_
          refine jr_iconst C (v := 1) dX0_gather_115 (by decide) ?_
          refine jr_zast C ka_X_53 dX0_gather_116 (ji_in (hT.2.2.1 _).1 (hT.2.2.1 _).2) (Or.inr rfl) ?_
          refine jr_iinc C _ dX0_gather_117 rfl rfl (by decide) ?_
          refine jr_goto C 46 dX0_gather_120 (by decide) ?_
          exact jr_sub [(0, jf_r E 10), (1, .int k), (2, .int _), (3, .int _), (4, .int _)] rfl (ih _ _ _ _ (by rw [e2i]; first | (have h9 : ¬ x_h τ L j ((τ.1 42) (j * 5 + i).toNatClampNeg) k = true := b91; exact ⟨z.1, z.2.1, x_gaF z.2.2 (by rw [← hx (by omega)]; exact Bool.eq_false_iff.mpr h9)⟩) | (have h9 : x_h τ L j ((τ.1 42) (j * 5 + i).toNatClampNeg) k = true := b91; exact ⟨xS_a_i (xS_a_i z.1 (by decide)) (by decide), xC_o (xC_50 z.2.1 (hT.2.2.1 _)) (by decide), x_gaT hV z.2.2 (by rw [← hx (by omega)]; exact h9) (by rw [ji_v5 x1 ⟨by omega, by omega⟩]; omega) (by rw [cv, ji_v5 x1 ⟨g1, by omega⟩]) rfl (by have := hT.2.2.1 (j * 5 + i).toNatClampNeg; have := ji_tn this.1; omega)⟩)) (by omega) (by omega) (by omega) x1 (by first | exact ⟨by omega, by omega⟩) x3 (by rw [e2i]; first | (have h9 : ¬ x_h τ L j ((τ.1 42) (j * 5 + i).toNatClampNeg) k = true := b91; rw [x_Ci_f (by rw [← hx (by omega)]; exact Bool.eq_false_iff.mpr h9)]; exact x4) | (have h9 : x_h τ L j ((τ.1 42) (j * 5 + i).toNatClampNeg) k = true := b91; rw [x_Ci_t (by rw [← hx (by omega)]; exact h9), List.length_append]; show _ = ((_ + 1 : Nat) : Int); omega)) (by omega))
  have l30 : ∀ (m : Nat) (τ : jf_S) (j : Int32), (xS_a σ τ ∧ xC τ ∧ x_ga σ τ L k j.toNatClampNeg 0) → 0 ≤ j.toInt → j.toInt ≤ ((σ.1 7 7)).toInt → ((σ.1 7 7)).toInt - j.toInt < m → jf_X jh_X E G 6 30 [(0, jf_r E 10), (1, .int k), (2, .int j)] [] τ := by
    intro m
    induction m with
    | zero => intro τ j z g1 g2 g3; exfalso; omega
    | succ m ih =>
      intro τ j z g1 g2 g3
      have e1 := ji_inc (k := j) (by omega)
      have c1 : ((τ.1 7 7)).toInt = ((σ.1 7 7)).toInt := by rw [z.1.2.1 7 (by decide) (by decide)]
      have ej := ji_tn g1
      have e2j : (j + Int32.ofInt 1).toNatClampNeg = j.toNatClampNeg + 1 := ji_cl (by omega)
      refine jr_iload_n C dX0_gather_30 rfl ?_
      refine jr_aload_n C dX0_gather_31 rfl ?_
      refine jr_getr C kf_X0_36_10 dX0_gather_32 ?_
      refine jr_getv C kf_X0_60_7 dX0_gather_35 (v := τ.1 7 7) rfl ?_
      refine jr_ncmp_ge C 157 dX0_gather_38 (by decide) rfl rfl (fun b38 => ?_) (fun b38 => ?_)
      · exact ret _ _ _ dX0_gather_157 (⟨z.1, z.2.1, by rw [← show j.toNatClampNeg = ((σ.1 7 7)).toNatClampNeg from congrArg Int.toNat (show j.toInt = ((σ.1 7 7)).toInt by omega)]; exact z.2.2⟩)
      · refine jr_iconst C (v := 0) dX0_gather_41 (by decide) ?_
        refine jr_istore_n C dX0_gather_42 (by decide) ?_
        refine jr_iconst C (v := 0) dX0_gather_43 (by decide) ?_
        refine jr_istore C dX0_gather_44 (by decide) ?_
        exact jr_sub [(0, jf_r E 10), (1, .int k), (2, .int j), (3, .int 0), (4, .int 0)] rfl (l46 6 _ _ _ _ z (by decide) (by decide) (by decide) ⟨by omega, by omega⟩ (by decide) (fun υ hz => ih _ _ (by rw [e2j]; exact hz) (by omega) (by omega) (by omega)) rfl (hV.2.1 _).1)
  have l2 : ∀ (m : Nat) (τ : jf_S) (o : Int32), (xS_a σ τ ∧ xC τ ∧ (∀ f : Nat, (f : Int) < o.toInt → (τ.1 53) f = 0 ∧ (τ.1 52) f = 0) ∧ τ.1 10 = σ.1 10) → 0 ≤ o.toInt → o.toInt ≤ (20 : Int) → (20 : Int) - o.toInt < m → jf_X jh_X E G 6 2 [(0, jf_r E 10), (1, .int k), (2, .int o)] [] τ := by
    intro m
    induction m with
    | zero => intro τ o z g1 g2 g3; exfalso; omega
    | succ m ih =>
      intro τ o z g1 g2 g3
      have e1 := ji_inc (k := o) (by omega)
      have eo := ji_tn g1
      refine jr_iload_n C dX0_gather_2 rfl ?_
      refine jr_bipush C (v := 20) dX0_gather_3 (by decide) ?_
      refine jr_ncmp_ge C (b := 20) 28 dX0_gather_5 (by decide) rfl rfl (fun b5 => ?_) (fun b5 => ?_)
      · refine jr_iconst C (v := 0) dX0_gather_28 (by decide) ?_
        refine jr_istore_n C dX0_gather_29 (by decide) ?_
        exact jr_sub [(0, jf_r E 10), (1, .int k), (2, .int 0)] rfl (l30 11 _ _ ⟨z.1, z.2.1, fun j hj => absurd hj (Nat.not_lt_zero j), fun i hi => absurd hi (Nat.not_lt_zero i), w_cut_eq (B := fun _ => 0) (fun f hf => (z.2.2.1 f (by omega)).1) |>.trans (by funext f; unfold w_cut; split <;> rfl), w_cut_eq (B := fun _ => 0) (fun f hf => (z.2.2.1 f (by omega)).2) |>.trans (by funext f; unfold w_cut; split <;> rfl), z.2.2.2⟩ (by decide) hJ.1 (by show _ - (0 : Int) < _; omega))
      · refine jr_aload_n C dX0_gather_8 rfl ?_
        refine jr_getr C kf_X0_21_10 dX0_gather_9 ?_
        refine jr_iload_n C dX0_gather_12 rfl ?_
        refine jr_iconst C (v := 0) dX0_gather_13 (by decide) ?_
        refine jr_zast C ka_X_53 dX0_gather_14 (ji_in (i := o) (by omega) (by omega)) (Or.inl rfl) ?_
        refine jr_aload_n C dX0_gather_15 rfl ?_
        refine jr_getr C kf_X0_18_10 dX0_gather_16 ?_
        refine jr_iload_n C dX0_gather_19 rfl ?_
        refine jr_iconst C (v := 0) dX0_gather_20 (by decide) ?_
        refine jr_iast C ka_X_52 dX0_gather_21 (ji_in (i := o) (by omega) (by omega)) ?_
        refine jr_iinc C _ dX0_gather_22 rfl rfl (by decide) ?_
        refine jr_goto C 2 dX0_gather_25 (by decide) ?_
        exact jr_sub [(0, jf_r E 10), (1, .int k), (2, .int _)] rfl (ih _ _ ⟨xS_a_i (xS_a_i z.1 (by decide)) (by decide), xC_o (xC_o z.2.1 (by decide)) (by decide), fun f hf => ⟨by rw [jf_i_o 53 (by decide)]; exact m_upd_z (fun e => (z.2.2.1 f (by omega)).1), m_upd_z (fun e => by rw [jf_i_o 52 (by decide)]; exact (z.2.2.1 f (by omega)).2)⟩, (jf_i_o 10 (by decide)).trans ((jf_i_o 10 (by decide)).trans z.2.2.2)⟩ (by omega) (by omega) (by omega))
  refine jr_iconst C (v := 0) dX0_gather_0 (by decide) ?_
  refine jr_istore_n C dX0_gather_1 (by decide) ?_
  exact jr_sub [(0, jf_r E 10), (1, .int k), (2, .int _)] rfl (l2 21 _ _ ⟨xS_a_r σ, hC, fun f hf => (by exfalso; have : (0 : Int32).toInt = 0 := rfl; omega), rfl⟩ (by decide) (by decide) (by decide))

