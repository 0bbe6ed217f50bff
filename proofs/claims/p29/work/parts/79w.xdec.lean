/-! the class: deciding, exactly -/
theorem x_A_e {σ τ : jf_S} (h8 : τ.1 8 = σ.1 8) (h19 : τ.1 19 = σ.1 19) (h52 : τ.1 52 = σ.1 52) : x_A τ = x_A σ := by
  unfold x_A; rw [h8, h19, h52]
def x_P (σ : jf_S) (i : Nat) : Int32 := if (i : Int) < ((σ.1 8 4)).toInt then (σ.1 48) i else 0
theorem x_ptS {τ : jf_S} {X : Nat → Int32} {F : Nat} {v p : Int32} (h : w_row ((τ.1 54)) 0 = X) (hF : F < 20) (hv : v = (τ.1 54) F + p) : w_row (((jf_i τ 54 F v).1 54)) 0 = upd X F (X F + p) := by
  rw [jf_i_at, w_row_upd hF (by omega), ← h, w_row_lt hF, hv, show 20 * 0 + F = F by omega]
/-- the lists, as they are gathered -/
def x_gd (σ : jf_S) (C : Nat → List Int32) : Prop := x_cd σ C ((σ.1 7 7)).toNatClampNeg ∧ (∀ j, (C j).length ≤ 5 ∧ ∀ x ∈ C j, x.toNatClampNeg < 20) ∧ w_cut ((σ.1 53)) = w_run C ((σ.1 7 7)).toNatClampNeg
def x_pj (σ τ : jf_S) (C : Nat → List Int32) (J I : Nat) : Prop := (∀ c, c ≠ 54 → τ.1 c = σ.1 c) ∧ w_row ((τ.1 54)) 0 = w_pti (x_P σ) (C J) (w_pt (x_P σ) C (w_s0 (w_cut ((σ.1 53)))) J) I
theorem x_pj_s {σ τ : jf_S} {C : Nat → List Int32} {J I F : Nat} {v : Int32} (h : x_pj σ τ C J I) (hF : F = ((C J).getD I 0).toNatClampNeg) (hF2 : F < 20) (hv : v = (τ.1 54) F + x_P σ I) : x_pj σ (jf_i τ 54 F v) C J (I + 1) := by
  refine ⟨fun c hc => (jf_i_o c hc).trans (h.1 c hc), ?_⟩
  rw [x_ptS h.2 hF2 hv, hF]; rfl
theorem x_po_out {σ τ : jf_S} {C : Nat → List Int32} {r v : Int32} (h : x_pj σ τ C ((σ.1 7 7)).toNatClampNeg 0) (hr : r.toInt = w_fore (x_A σ) (w_row ((τ.1 54)) 0) 20) (hv : (r.toInt = -1 ∧ v = 0) ∨ (¬ r.toInt = -1 ∧ v = 1)) : w_out r.toInt (((jf_i τ 10 8 v).1 10 8)) (((jf_i τ 10 8 v).1 54)) (w_po (x_A σ) (x_P σ) C ((σ.1 7 7)).toNatClampNeg (w_cut ((σ.1 53))) (fun q => w_row ((σ.1 54)) q)) := by
  have hb := w_fore_b (A := x_A σ) (S := w_row ((τ.1 54)) 0) 20
  have h2 : w_row ((τ.1 54)) 0 = w_pt (x_P σ) C (w_s0 (w_cut ((σ.1 53)))) ((σ.1 7 7)).toNatClampNeg := h.2
  show w_out r.toInt v ((τ.1 54)) _
  unfold w_po
  rw [← h2]
  rcases hv with ⟨a, b⟩ | ⟨a, b⟩
  · rw [if_pos (by omega)]
    exact ⟨a, by rw [b]; rfl, fun q hq => absurd hq (Nat.not_lt_zero q)⟩
  · rw [if_neg (by omega)]
    refine ⟨hr, by rw [b]; rfl, fun q hq => ?_⟩
    have hq : q < 1 := hq
    rw [show q = 0 by omega]
theorem x_rn_p {σ τ : jf_S} {C : Nat → List Int32} (hV : xV σ) (hP : ∀ i, 0 ≤ (x_P σ i).toInt ∧ (x_P σ i).toInt ≤ 1000) (hg : x_gd σ C) (h : x_pj σ τ C ((σ.1 7 7)).toNatClampNeg 0) : x_rn τ 0 := by
  intro f hf
  have tJ := ji_tn hV.1.1
  have h2 : w_row ((τ.1 54)) 0 = w_pt (x_P σ) C (w_s0 (w_cut ((σ.1 53)))) ((σ.1 7 7)).toNatClampNeg := h.2
  rw [h2, h.1 53 (by decide)]
  have e : ∀ j, j < ((σ.1 7 7)).toNatClampNeg → ∀ x ∈ C j, ¬ (w_cut ((σ.1 53)) x.toNatClampNeg).toInt = 0 := fun j hj x hx => by rw [hg.2.2, w_run_in hx hj]; decide
  have pr := w_pt_r (C := C) (R := w_cut ((σ.1 53))) hP ((σ.1 7 7)).toNatClampNeg (by have := hV.1.2; omega) (fun j hj => ⟨(hg.2.1 j).1, fun x hx => ⟨e j hj x hx, (hg.2.1 j).2 x hx⟩⟩) f hf
  rw [w_cut_lt hf] at pr
  rcases pr with q | q
  · exact ⟨fun _ => q.2, fun _ => q.1⟩
  · exact ⟨fun z => absurd z q.1, fun z => by omega⟩
theorem ct_X0_decideByPoints3 (E : jf_E) (σ : jf_S) (D : Nat → List Int32) (hC : xC σ) (hV : xV σ) (hR : xR σ) (hP : ∀ i, 0 ≤ (x_P σ i).toInt ∧ (x_P σ i).toInt ≤ 1000) (hg : x_gd σ D) : jf_I jh_X E yX0_decideByPoints cX0_decideByPoints 3 .int 2 [jf_r E 10] σ (fun r τ => xS_a σ τ ∧ xC τ ∧ w_out r.toInt ((τ.1 10 8)) ((τ.1 54)) (w_po (x_A σ) (x_P σ) D ((σ.1 7 7)).toNatClampNeg (w_cut ((σ.1 53))) (fun q => w_row ((σ.1 54)) q))) := by
  refine jf_mkI (by decide) (Nat.le_of_ble_eq_true rfl) ?_
  intro G C ret
  have hJ := hV.1
  have tJ := ji_tn hJ.1
  have l20 : ∀ (m : Nat) (τ : jf_S) (j i : Int32), (xS_a σ τ ∧ xC τ ∧ x_pj σ τ D j.toNatClampNeg i.toNatClampNeg) → 0 ≤ i.toInt → i.toInt ≤ (5 : Int) → (5 : Int) - i.toInt < m → (0 ≤ j.toInt ∧ j.toInt < 10) → (∀ υ : jf_S, xS_a σ υ ∧ xC υ ∧ x_pj σ υ D (j.toNatClampNeg + 1) 0 → jf_X jh_X E G 3 7 [(0, jf_r E 10), (1, .int (j + Int32.ofInt 1))] [] υ) → (j.toInt < ((σ.1 7 7)).toInt) → (i.toInt ≤ ((D j.toNatClampNeg).length : Int)) → jf_X jh_X E G 3 20 [(0, jf_r E 10), (1, .int j), (2, .int i)] [] τ := by
    intro m
    induction m with
    | zero => intro τ j i z g1 g2 g3 x1 x2 x3 x4; exfalso; omega
    | succ m ih =>
      intro τ j i z g1 g2 g3 x1 x2 x3 x4
      have e1 := ji_inc (k := i) (by omega)
      have hU := xS_a_R z.1 hR
      have ej := ji_tn x1.1
      have ei := ji_tn g1
      have e2i : (i + Int32.ofInt 1).toNatClampNeg = i.toNatClampNeg + 1 := ji_cl (by omega)
      have dC := hg.1 j.toNatClampNeg (by omega)
      have l5 := (hg.2.1 j.toNatClampNeg).1
      have c50 : (τ.1 50) = (σ.1 50) := z.2.2.1 50 (by decide)
      have c51 : (τ.1 51) = (σ.1 51) := z.2.2.1 51 (by decide)
      have c5 := z.2.1.2 j.toNatClampNeg
      have c6 : ((τ.1 51) j.toNatClampNeg).toInt = ((D j.toNatClampNeg).length : Int) := by rw [c51]; exact dC.1
      have cd : i.toInt < ((D j.toNatClampNeg).length : Int) → (τ.1 50) (j * 5 + i).toNatClampNeg = (D j.toNatClampNeg).getD i.toNatClampNeg 0 := fun h => by rw [c50, ji_v5 x1 ⟨g1, by omega⟩]; exact dC.2 _ (by omega)
      have v0 := z.2.1.1 (j * 5 + i).toNatClampNeg
      have tv := ji_tn v0.1
      have pp : (if 0 ≤ i.toInt ∧ i.toInt < ((τ.1 8 4)).toInt then (τ.1 48) i.toNatClampNeg else 0) = x_P σ i.toNatClampNeg := by unfold x_P; rw [z.2.2.1 8 (by decide), z.2.2.1 48 (by decide)]; (by_cases q : i.toInt < ((σ.1 8 4)).toInt); (rw [if_pos ⟨g1, q⟩, if_pos (by omega)]); (rw [if_neg (fun h => q h.2), if_neg (by omega)])
      refine jr_iload_n C dX0_decideByPoints_20 rfl ?_
      refine jr_aload_n C dX0_decideByPoints_21 rfl ?_
      refine jr_getr C kf_X0_15_10 dX0_decideByPoints_22 ?_
      refine jr_iload_n C dX0_decideByPoints_25 rfl ?_
      refine jr_ialv C ka_X_51 dX0_decideByPoints_26 (ji_in x1.1 x1.2) (v := τ.1 51 _) rfl ?_
      refine jr_ncmp_ge C 62 dX0_decideByPoints_27 (by decide) rfl rfl (fun b27 => ?_) (fun b27 => ?_)
      · refine jr_iinc C _ dX0_decideByPoints_62 rfl rfl (by decide) ?_
        refine jr_goto C 7 dX0_decideByPoints_65 (by decide) ?_
        exact jr_sub [(0, jf_r E 10), (1, .int (j + Int32.ofInt 1))] rfl (x2 _ ⟨z.1, z.2.1, z.2.2.1, by have h := z.2.2.2; rw [show i.toNatClampNeg = (D j.toNatClampNeg).length by omega] at h; exact h⟩)
      · refine jr_aload_n C dX0_decideByPoints_30 rfl ?_
        refine jr_getr C kf_X0_25_10 dX0_decideByPoints_31 ?_
        refine jr_aload_n C dX0_decideByPoints_34 rfl ?_
        refine jr_getr C kf_X0_9_10 dX0_decideByPoints_35 ?_
        refine jr_iload_n C dX0_decideByPoints_38 rfl ?_
        refine jr_iconst C (v := 5) dX0_decideByPoints_39 (by decide) ?_
        refine jr_imul C dX0_decideByPoints_40 ?_
        refine jr_iload_n C dX0_decideByPoints_41 rfl ?_
        refine jr_iadd C dX0_decideByPoints_42 ?_
        refine jr_ialv C ka_X_50 dX0_decideByPoints_43 (ji_linr 5 rfl (by omega) (by omega) (by omega)) (v := τ.1 50 _) rfl ?_
        refine jr_dup2 C dX0_decideByPoints_44 rfl rfl ?_
        refine jr_ialv C ka_X_54 dX0_decideByPoints_45 (ji_in v0.1 (by omega)) (v := τ.1 54 _) rfl ?_
        refine jr_aload_n C dX0_decideByPoints_46 rfl ?_
        refine jr_getr C kf_X0_40_10 dX0_decideByPoints_47 ?_
        refine jr_iload_n C dX0_decideByPoints_50 rfl ?_
        refine jr_vip C [.int _] _ (ct_X7_pointsAt E _ _ hU.2) ky_X7_pointsAt kv_X7_pointsAt kk_X_8 km_X0_78 (by decide) rfl (Nat.le_of_ble_eq_true rfl) dX0_decideByPoints_51 ?_
        refine jr_iadd C dX0_decideByPoints_54 ?_
        refine jr_iast C ka_X_54 dX0_decideByPoints_55 (ji_in v0.1 (by omega)) ?_
        refine jr_iinc C _ dX0_decideByPoints_56 rfl rfl (by decide) ?_
        refine jr_goto C 20 dX0_decideByPoints_59 (by decide) ?_
        exact jr_sub [(0, jf_r E 10), (1, .int _), (2, .int _)] rfl (ih _ _ _ ⟨xS_a_i z.1 (by decide), xC_o z.2.1 (by decide), by rw [e2i]; exact x_pj_s z.2.2 (by rw [cd (by omega)]) (by omega) (congrArg (_ + ·) pp)⟩ (by omega) (by omega) (by omega) x1 x2 x3 (by omega))
  have l7 : ∀ (m : Nat) (τ : jf_S) (j : Int32), (xS_a σ τ ∧ xC τ ∧ x_pj σ τ D j.toNatClampNeg 0) → 0 ≤ j.toInt → j.toInt ≤ ((σ.1 7 7)).toInt → ((σ.1 7 7)).toInt - j.toInt < m → jf_X jh_X E G 3 7 [(0, jf_r E 10), (1, .int j)] [] τ := by
    intro m
    induction m with
    | zero => intro τ j z g1 g2 g3; exfalso; omega
    | succ m ih =>
      intro τ j z g1 g2 g3
      have e1 := ji_inc (k := j) (by omega)
      have ej := ji_tn g1
      have e2j : (j + Int32.ofInt 1).toNatClampNeg = j.toNatClampNeg + 1 := ji_cl (by omega)
      have c1 : ((τ.1 7 7)).toInt = ((σ.1 7 7)).toInt := by rw [z.1.2.1 7 (by decide) (by decide)]
      have zJ : ((σ.1 7 7)).toInt ≤ j.toInt → x_pj σ τ D ((σ.1 7 7)).toNatClampNeg 0 := fun h => by rw [← show j.toNatClampNeg = ((σ.1 7 7)).toNatClampNeg from by omega]; exact z.2.2
      have aA : x_A τ = x_A σ := x_A_e (z.2.2.1 8 (by decide)) (z.2.2.1 19 (by decide)) (z.2.2.1 52 (by decide))
      have rn : ((σ.1 7 7)).toInt ≤ j.toInt → x_rn τ (0 : Int32).toNatClampNeg := fun h => x_rn_p hV hP hg (zJ h)
      refine jr_iload_n C dX0_decideByPoints_7 rfl ?_
      refine jr_aload_n C dX0_decideByPoints_8 rfl ?_
      refine jr_getr C kf_X0_36_10 dX0_decideByPoints_9 ?_
      refine jr_getv C kf_X0_60_7 dX0_decideByPoints_12 (v := τ.1 7 7) rfl ?_
      refine jr_ncmp_ge C 68 dX0_decideByPoints_15 (by decide) rfl rfl (fun b15 => ?_) (fun b15 => ?_)
      · refine jr_aload_n C dX0_decideByPoints_68 rfl ?_
        refine jr_iconst C (v := 0) dX0_decideByPoints_69 (by decide) ?_
        refine jr_vi C [.int _] _ (ct_X0_foremost3 E _ _ (by decide) (rn (by omega))) ky_X0_foremost kv_X0_foremost kk_X_10 km_X0_82 (by decide) rfl (Nat.le_of_ble_eq_true rfl) dX0_decideByPoints_70 (fun r70 τ70 h70 => ?_)
        obtain ⟨q70, rfl⟩ := h70; rw [aA, show (0 : Int32).toNatClampNeg = 0 from rfl] at q70
        refine jr_istore_n C dX0_decideByPoints_73 (by decide) ?_
        refine jr_aload_n C dX0_decideByPoints_74 rfl ?_
        refine jr_iload_n C dX0_decideByPoints_75 rfl ?_
        refine jr_iconst C (v := -1) dX0_decideByPoints_76 (by decide) ?_
        refine jr_ncmp_ne C (b := -1) 84 dX0_decideByPoints_77 (by decide) rfl rfl (fun b77 => ?_) (fun b77 => ?_)
        · refine jr_iconst C (v := 1) dX0_decideByPoints_84 (by decide) ?_
          refine jr_puti C kp_X0_28_10 dX0_decideByPoints_85 ?_
          refine jr_iload_n C dX0_decideByPoints_88 rfl ?_
          exact ret _ _ _ _ dX0_decideByPoints_89 rfl ((by first | exact ⟨xS_a_10 z.1, xC_o z.2.1 (by decide), x_po_out (zJ (by omega)) q70 (Or.inl ⟨b77, rfl⟩)⟩ | exact ⟨xS_a_10 z.1, xC_o z.2.1 (by decide), x_po_out (zJ (by omega)) q70 (Or.inr ⟨b77, rfl⟩)⟩))
        · refine jr_iconst C (v := 0) dX0_decideByPoints_80 (by decide) ?_
          refine jr_goto C 85 dX0_decideByPoints_81 (by decide) ?_
          refine jr_puti C kp_X0_28_10 dX0_decideByPoints_85 ?_
          refine jr_iload_n C dX0_decideByPoints_88 rfl ?_
          exact ret _ _ _ _ dX0_decideByPoints_89 rfl ((by first | exact ⟨xS_a_10 z.1, xC_o z.2.1 (by decide), x_po_out (zJ (by omega)) q70 (Or.inl ⟨b77, rfl⟩)⟩ | exact ⟨xS_a_10 z.1, xC_o z.2.1 (by decide), x_po_out (zJ (by omega)) q70 (Or.inr ⟨b77, rfl⟩)⟩))
      · refine jr_iconst C (v := 0) dX0_decideByPoints_18 (by decide) ?_
        refine jr_istore_n C dX0_decideByPoints_19 (by decide) ?_
        exact jr_sub [(0, jf_r E 10), (1, .int j), (2, .int 0)] rfl (l20 6 _ _ _ z (by decide) (by decide) (by decide) ⟨by omega, by omega⟩ (fun υ hz => ih _ _ (by rw [e2j]; exact hz) (by omega) (by omega) (by omega)) (by omega) (by show (0 : Int) ≤ _; omega))
  refine jr_aload_n C dX0_decideByPoints_0 rfl ?_
  refine jr_iconst C (v := 0) dX0_decideByPoints_1 (by decide) ?_
  refine jr_vv C [.int _] _ (ct_X0_openRound3 E _ _ hC (by decide)) ky_X0_openRound kv_X0_openRound kk_X_10 km_X0_75 (by decide) rfl (Nat.le_of_ble_eq_true rfl) dX0_decideByPoints_2 (fun τ2 h2 => ?_)
  refine jr_iconst C (v := 0) dX0_decideByPoints_5 (by decide) ?_
  refine jr_istore_n C dX0_decideByPoints_6 (by decide) ?_
  exact jr_sub [(0, jf_r E 10), (1, .int _)] rfl (l7 11 _ _ ⟨h2.1, h2.2.1, h2.2.2.2.2, x_oq_e h2.2.2⟩ (by decide) hJ.1 (by show _ - (0 : Int) < _; omega))
def x_W (σ : jf_S) (C : Nat → List Int32) : Int × Nat × (Nat → Nat → Int32) := w_go (x_A σ) C ((σ.1 7 7)).toNatClampNeg 20 0 (w_cut ((σ.1 53))) (fun q => w_row ((σ.1 54)) q)
def x_hd (σ τ : jf_S) (C : Nat → List Int32) (K : Nat) : Prop := (∀ c, c ≠ 10 → c ≠ 53 → c ≠ 54 → τ.1 c = σ.1 c) ∧ ((τ.1 10 8)).toInt = (K : Int) ∧ w_go (x_A σ) C ((σ.1 7 7)).toNatClampNeg (20 - K) K (w_cut ((τ.1 53))) (fun q => w_row ((τ.1 54)) q) = x_W σ C
def x_in (σ τ υ : jf_S) (C : Nat → List Int32) (K : Nat) (n : Int32) : Prop := w_row ((υ.1 54)) K = (w_gv (w_cut ((τ.1 53))) C ((σ.1 7 7)).toNatClampNeg).1 ∧ n = (w_gv (w_cut ((τ.1 53))) C ((σ.1 7 7)).toNatClampNeg).2 ∧ (∀ q, q ≠ K → w_row ((υ.1 54)) q = w_row ((τ.1 54)) q) ∧ (∀ c, c ≠ 54 → υ.1 c = τ.1 c)
theorem x_in_of {σ τ ρ υ : jf_S} {C : Nat → List Int32} {K : Nat} {n : Int32} (a : x_oq τ ρ K 20) (g : x_gv ρ υ C K n ((σ.1 7 7)).toNatClampNeg) : x_in σ τ υ C K n := by
  obtain ⟨g1, g2, g3, g4⟩ := g
  rw [a.2.2 53 (by decide)] at g1 g2
  exact ⟨g1, g2, fun q hq => (g3 q hq).trans (a.2.1 q hq), fun c hc => (g4 c hc).trans (a.2.2 c hc)⟩
theorem x_in_A {σ τ υ : jf_S} {C : Nat → List Int32} {K : Nat} {n : Int32} (h : x_hd σ τ C K) (g : x_in σ τ υ C K n) : x_A υ = x_A σ :=
  x_A_e ((g.2.2.2 8 (by decide)).trans (h.1 8 (by decide) (by decide) (by decide))) ((g.2.2.2 19 (by decide)).trans (h.1 19 (by decide) (by decide) (by decide))) ((g.2.2.2 52 (by decide)).trans (h.1 52 (by decide) (by decide) (by decide)))
theorem x_in_rn {σ τ υ : jf_S} {C : Nat → List Int32} {K : Nat} {n : Int32} (hV : xV σ) (hx : ∀ j, ∀ x ∈ C j, x.toNatClampNeg < 20) (g : x_in σ τ υ C K n) : x_rn υ K := by
  intro f hf
  have tJ := ji_tn hV.1.1
  have gr := (w_gv_r (R := w_cut ((τ.1 53))) (C := C) ((σ.1 7 7)).toNatClampNeg (by have := hV.1.2; omega) (fun j _ => hx j)).1 f hf
  rw [← g.1, w_cut_lt hf] at gr
  rw [g.2.2.2 53 (by decide)]
  rcases gr with q | q
  · exact ⟨fun _ => q.2, fun _ => q.1⟩
  · exact ⟨fun z => absurd z q.1, fun z => by omega⟩
theorem x_in_s {σ τ υ : jf_S} {C : Nat → List Int32} {K f : Nat} {n : Int32} (hV : xV σ) (hx : ∀ j, ∀ x ∈ C j, x.toNatClampNeg < 20) (g : x_in σ τ υ C K n) (hf : f < 20) : -1 ≤ (w_row ((υ.1 54)) K f).toInt ∧ (w_row ((υ.1 54)) K f).toInt ≤ 10 := by
  have tJ := ji_tn hV.1.1
  have h10 := hV.1.2
  have gr := (w_gv_r (R := w_cut ((τ.1 53))) (C := C) ((σ.1 7 7)).toNatClampNeg (by omega) (fun j _ => hx j)).1 f hf
  rw [← g.1] at gr
  rcases gr with q | q <;> omega
theorem x_e0 {σ τ υ : jf_S} {C : Nat → List Int32} {K : Nat} {n b : Int32} (h : x_hd σ τ C K) (hK : K < 20) (g : x_in σ τ υ C K n) (hb : b.toInt = w_fore (x_A σ) (w_row ((υ.1 54)) K) 20) (b0 : b.toInt = -1) : w_out (-1) ((υ.1 10 8)) ((υ.1 54)) (x_W σ C) := by
  obtain ⟨h1, h2, h3⟩ := h
  rw [show 20 - K = (19 - K) + 1 by omega] at h3
  rw [g.1] at hb
  rw [w_go_0 (by omega)] at h3
  rw [← h3]
  refine ⟨rfl, ?_, fun q hq => ?_⟩
  · rw [g.2.2.2 10 (by decide)]; exact h2
  · have hq : q < K := hq
    exact g.2.2.1 q (by omega)
theorem x_e1 {σ τ υ : jf_S} {C : Nat → List Int32} {K : Nat} {n b o : Int32} (h : x_hd σ τ C K) (hK : K < 20) (ho : o.toInt = (K : Int) + 1) (g : x_in σ τ υ C K n) (hb : b.toInt = w_fore (x_A σ) (w_row ((υ.1 54)) K) 20) (b0 : 0 ≤ b.toInt) (w : n.toInt < 2 * (w_row ((υ.1 54)) K b.toNatClampNeg).toInt) : w_out b.toInt (((jf_i υ 10 8 o).1 10 8)) (((jf_i υ 10 8 o).1 54)) (x_W σ C) := by
  obtain ⟨h1, h2, h3⟩ := h
  rw [show 20 - K = (19 - K) + 1 by omega] at h3
  have tr : b.toNatClampNeg = (w_fore (x_A σ) (w_row ((υ.1 54)) K) 20).toNat := congrArg Int.toNat hb
  rw [tr, g.1, g.2.1] at w
  rw [g.1] at hb
  rw [w_go_1 (by omega) w] at h3
  rw [← h3]
  show w_out b.toInt o ((υ.1 54)) _
  refine ⟨hb, ?_, fun q hq => ?_⟩
  · show o.toInt = ((K + 1 : Nat) : Int)
    omega
  · show _ = w_H (fun q => w_row ((τ.1 54)) q) K _ q
    unfold w_H
    by_cases e : q = K
    · rw [if_pos e, e, g.1]
    · rw [if_neg e]; exact g.2.2.1 q e
theorem x_e2 {σ τ υ ρ : jf_S} {C : Nat → List Int32} {K : Nat} {n b o : Int32} (h : x_hd σ τ C K) (hK : K < 20) (ho : o.toInt = (K : Int) + 1) (g : x_in σ τ υ C K n) (hb : b.toInt = w_fore (x_A σ) (w_row ((υ.1 54)) K) 20) (b0 : 0 ≤ b.toInt) (w : ¬ n.toInt < 2 * (w_row ((υ.1 54)) K b.toNatClampNeg).toInt) (hρ : ρ = x_po (jf_i υ 10 8 o) K) : x_hd σ ρ C (K + 1) := by
  have aA : x_A (jf_i υ 10 8 o) = x_A σ := (x_A_e (σ := υ) (τ := jf_i υ 10 8 o) (jf_i_o 8 (by decide)) (jf_i_o 19 (by decide)) (jf_i_o 52 (by decide))).trans (x_in_A h g)
  have hh : ¬ w_hind (x_A σ) (w_row ((υ.1 54)) K) 20 < 0 ∧ w_hind (x_A σ) (w_row ((υ.1 54)) K) 20 < 20 := by
    rcases w_hind_r (A := x_A σ) (S := w_row ((υ.1 54)) K) 20 with ⟨-, q⟩ | ⟨q1, q2, -⟩
    · rcases w_fore_r (A := x_A σ) (S := w_row ((υ.1 54)) K) 20 with ⟨z, -⟩ | ⟨z1, z2, z3, -⟩
      · omega
      · exact absurd (q _ (by omega)) z3
    · exact ⟨by omega, q2⟩
  have e : ρ = jf_i (jf_i υ 10 8 o) 53 (w_hind (x_A σ) (w_row ((υ.1 54)) K) 20).toNat 0 := by
    rw [hρ]
    unfold x_po
    rw [aA]
    show (if w_hind (x_A σ) (w_row ((υ.1 54)) K) 20 < 0 then _ else _) = _
    rw [if_neg hh.1]
    rfl
  subst e
  obtain ⟨h1, h2, h3⟩ := h
  obtain ⟨g1, g2, g3, g4⟩ := g
  refine ⟨fun c a b' d => ?_, ho, ?_⟩
  · rw [jf_i_o c b', jf_i_o c a, g4 c d]; exact h1 c a b' d
  · rw [show 20 - K = (19 - K) + 1 by omega] at h3
    have tr : b.toNatClampNeg = (w_fore (x_A σ) (w_row ((υ.1 54)) K) 20).toNat := congrArg Int.toNat hb
    rw [tr, g1, g2] at w
    rw [g1] at hb hh
    rw [w_go_2 (by omega) w] at h3
    rw [jf_i_at, jf_i_o 53 (by decide), jf_i_o 54 (by decide), jf_i_o 54 (by decide), g1, w_cut_upd (by omega), g4 53 (by decide), show 20 - (K + 1) = 19 - K by omega, ← h3]
    congr 1
    funext q
    unfold w_H
    by_cases e : q = K
    · rw [if_pos e, e, g1]
    · rw [if_neg e]; exact g3 q e
theorem ct_X0_decideByRounds3 (E : jf_E) (σ : jf_S) (D : Nat → List Int32) (hC : xC σ) (hV : xV σ) (hg : x_gd σ D) (k0 : (σ.1 10 8) = 0) : jf_I jh_X E yX0_decideByRounds cX0_decideByRounds 4 .int 2 [jf_r E 10] σ (fun r τ => xS_a σ τ ∧ xC τ ∧ w_out r.toInt ((τ.1 10 8)) ((τ.1 54)) (x_W σ D)) := by
  refine jf_mkI (by decide) (Nat.le_of_ble_eq_true rfl) ?_
  intro G C ret
  have hx : ∀ j, ∀ x ∈ D j, x.toNatClampNeg < 20 := fun j => (hg.2.1 j).2
  have l2 : ∀ (m : Nat) (τ : jf_S) (o : Int32), xS_a σ τ → xC τ → x_hd σ τ D o.toNatClampNeg → 0 ≤ o.toInt → o.toInt ≤ 20 → 20 - o.toInt < m → jf_X jh_X E G 4 2 [(0, jf_r E 10), (1, .int o)] [] τ := by
    intro m
    induction m with
    | zero => intro τ o z zC h g1 g2 g3; exfalso; omega
    | succ m ih =>
      intro τ o z zC h g1 g2 g3
      have to := ji_tn g1
      have e1 := ji_inc (k := o) (by omega)
      have e1' := ji_inc1 (k := o) (by omega)
      have e2 : (o + Int32.ofInt 1).toNatClampNeg = o.toNatClampNeg + 1 := ji_cl (by omega)
      have cJ : (τ.1 7 7) = (σ.1 7 7) := by rw [z.2.1 7 (by decide) (by decide)]
      have d50 : (τ.1 50) = (σ.1 50) := h.1 50 (by decide) (by decide) (by decide)
      have d51 : (τ.1 51) = (σ.1 51) := h.1 51 (by decide) (by decide) (by decide)
      have last : 20 ≤ o.toInt → w_out (-1) ((τ.1 10 8)) ((τ.1 54)) (x_W σ D) := fun q => by
        have h3 := h.2.2
        rw [show o.toNatClampNeg = 20 by omega] at h3
        rw [← h3]
        refine ⟨rfl, ?_, fun q _ => rfl⟩
        show _ = ((20 : Nat) : Int)
        rw [h.2.1, show o.toNatClampNeg = 20 by omega]
      refine jr_iload_n C dX0_decideByRounds_2 rfl ?_
      refine jr_bipush C (v := 20) dX0_decideByRounds_3 (by decide) ?_
      refine jr_ncmp_ge C (b := 20) 69 dX0_decideByRounds_5 (by decide) rfl rfl (fun b5 => ?_) (fun b5 => ?_)
      · refine jr_iconst C (v := -1) dX0_decideByRounds_69 (by decide) ?_
        exact ret _ _ _ _ dX0_decideByRounds_70 rfl (⟨z, zC, last (by omega)⟩)
      · refine jr_aload_n C dX0_decideByRounds_8 rfl ?_
        refine jr_iload_n C dX0_decideByRounds_9 rfl ?_
        refine jr_vv C [.int _] _ (ct_X0_openRound3 E _ _ zC ⟨by omega, by omega⟩) ky_X0_openRound kv_X0_openRound kk_X_10 km_X0_75 (by decide) rfl (Nat.le_of_ble_eq_true rfl) dX0_decideByRounds_10 (fun τ10 h10 => ?_)
        refine jr_aload_n C dX0_decideByRounds_13 rfl ?_
        refine jr_iload_n C dX0_decideByRounds_14 rfl ?_
        refine jr_vi C [.int _] _ (ct_X0_giveFirsts3 E _ _ D h10.2.1 (xS_a_V (xS_a_t z h10.1) hV) (by unfold x_cd; rw [h10.2.2.2.2 7 (by decide), cJ, h10.2.2.2.2 50 (by decide), h10.2.2.2.2 51 (by decide), d50, d51]; exact hg.1) ⟨by omega, by omega⟩ (by rw [h10.2.2.2.2 53 (by decide)]; exact x_oq_e h10.2.2)) ky_X0_giveFirsts kv_X0_giveFirsts kk_X_10 km_X0_85 (by decide) rfl (Nat.le_of_ble_eq_true rfl) dX0_decideByRounds_15 (fun r15 τ15 h15 => ?_)
        have zz := xS_a_t (xS_a_t z h10.1) h15.1; have gI : x_in σ τ τ15 D o.toNatClampNeg r15 := x_in_of h10.2.2 (by have w := h15.2.2; rw [show (τ10.1 7 7) = (σ.1 7 7) from (by rw [h10.2.2.2.2 7 (by decide)]; exact cJ)] at w; exact w); have aA := x_in_A h gI; have rn15 := x_in_rn hV hx gI
        refine jr_istore_n C dX0_decideByRounds_18 (by decide) ?_
        refine jr_aload_n C dX0_decideByRounds_19 rfl ?_
        refine jr_iload_n C dX0_decideByRounds_20 rfl ?_
        refine jr_vi C [.int _] _ (ct_X0_foremost3 E _ _ ⟨by omega, by omega⟩ rn15) ky_X0_foremost kv_X0_foremost kk_X_10 km_X0_82 (by decide) rfl (Nat.le_of_ble_eq_true rfl) dX0_decideByRounds_21 (fun r21 τ21 h21 => ?_)
        obtain ⟨q21, p21⟩ := h21; subst p21; rw [aA] at q21; have qb := w_fore_b (A := x_A σ) (S := w_row ((τ15.1 54)) o.toNatClampNeg) 20
        refine jr_istore_n C dX0_decideByRounds_24 (by decide) ?_
        refine jr_iload_n C dX0_decideByRounds_25 rfl ?_
        refine jr_iconst C (v := -1) dX0_decideByRounds_26 (by decide) ?_
        refine jr_ncmp_ne C (b := -1) 32 dX0_decideByRounds_27 (by decide) rfl rfl (fun b27 => ?_) (fun b27 => ?_)
        · skip
          refine jr_aload_n C dX0_decideByRounds_32 rfl ?_
          refine jr_iload_n C dX0_decideByRounds_33 rfl ?_
          refine jr_iconst C (v := 1) dX0_decideByRounds_34 (by decide) ?_
          refine jr_iadd C dX0_decideByRounds_35 ?_
          refine jr_puti C kp_X0_28_10 dX0_decideByRounds_36 ?_
          refine jr_iconst C (v := 2) dX0_decideByRounds_39 (by decide) ?_
          refine jr_aload_n C dX0_decideByRounds_40 rfl ?_
          refine jr_getr C kf_X0_25_10 dX0_decideByRounds_41 ?_
          refine jr_iload_n C dX0_decideByRounds_44 rfl ?_
          refine jr_bipush C (v := 20) dX0_decideByRounds_45 (by decide) ?_
          refine jr_imul C dX0_decideByRounds_47 ?_
          refine jr_iload_n C dX0_decideByRounds_48 rfl ?_
          refine jr_iadd C dX0_decideByRounds_49 ?_
          refine jr_iald C ka_X_54 dX0_decideByRounds_50 (ji_linr 20 rfl (by omega) (by omega) (by omega)) ?_
          refine jr_imul C dX0_decideByRounds_51 ?_
          refine jr_iload_n C dX0_decideByRounds_52 rfl ?_
          refine jr_ncmp_le C 58 dX0_decideByRounds_53 (by decide) rfl rfl (fun b53 => ?_) (fun b53 => ?_)
          · have tb := ji_tn (x := r21) (by omega); have rb : w_row ((τ15.1 54)) o.toNatClampNeg r21.toNatClampNeg = (τ15.1 54) (o * 20 + r21).toNatClampNeg := (by rw [x_ix20 ⟨g1, by omega⟩ ⟨by omega, by omega⟩]; exact w_row_lt (by omega)); have sb := x_in_s (f := r21.toNatClampNeg) hV hx gI (by omega); rw [rb] at sb; have db : (2 * (τ15.1 54) (o * 20 + r21).toNatClampNeg).toInt = 2 * ((τ15.1 54) (o * 20 + r21).toNatClampNeg).toInt := fb_mulI (by show _ ≤ (2 : Int) * _; omega) (by show (2 : Int) * _ < _; omega); have b53' := b53; rw [show (2 * (jf_i τ15 10 8 (o + 1)).1 54 (o * 20 + r21).toNatClampNeg).toInt = _ from db] at b53'
            refine jr_aload_n C dX0_decideByRounds_58 rfl ?_
            refine jr_iload_n C dX0_decideByRounds_59 rfl ?_
            refine jr_vv C [.int _] _ (ct_X0_putOutHindmost3 E _ _ (xC_o h15.2.1 (by decide)) ⟨by omega, by omega⟩ rn15) ky_X0_putOutHindmost kv_X0_putOutHindmost kk_X_10 km_X0_88 (by decide) rfl (Nat.le_of_ble_eq_true rfl) dX0_decideByRounds_60 (fun τ60 h60 => ?_)
            refine jr_iinc C _ dX0_decideByRounds_63 rfl rfl (by decide) ?_
            refine jr_goto C 2 dX0_decideByRounds_66 (by decide) ?_
            exact jr_sub [(0, jf_r E 10), (1, .int _)] rfl (ih _ _ (xS_a_t (xS_a_10 zz) h60.1.1) h60.1.2 (by rw [e2]; exact x_e2 h (by omega) (by omega) gI q21 (by omega) (by rw [rb]; omega) h60.2) (by omega) (by omega) (by omega))
          · have tb := ji_tn (x := r21) (by omega); have rb : w_row ((τ15.1 54)) o.toNatClampNeg r21.toNatClampNeg = (τ15.1 54) (o * 20 + r21).toNatClampNeg := (by rw [x_ix20 ⟨g1, by omega⟩ ⟨by omega, by omega⟩]; exact w_row_lt (by omega)); have sb := x_in_s (f := r21.toNatClampNeg) hV hx gI (by omega); rw [rb] at sb; have db : (2 * (τ15.1 54) (o * 20 + r21).toNatClampNeg).toInt = 2 * ((τ15.1 54) (o * 20 + r21).toNatClampNeg).toInt := fb_mulI (by show _ ≤ (2 : Int) * _; omega) (by show (2 : Int) * _ < _; omega); have b53' := b53; rw [show (2 * (jf_i τ15 10 8 (o + 1)).1 54 (o * 20 + r21).toNatClampNeg).toInt = _ from db] at b53'
            refine jr_iload_n C dX0_decideByRounds_56 rfl ?_
            exact ret _ _ _ _ dX0_decideByRounds_57 rfl (⟨xS_a_10 zz, xC_o h15.2.1 (by decide), x_e1 h (by omega) (by omega) gI q21 (by omega) (by rw [rb]; omega)⟩)
        · skip
          refine jr_iconst C (v := -1) dX0_decideByRounds_30 (by decide) ?_
          exact ret _ _ _ _ dX0_decideByRounds_31 rfl (⟨zz, h15.2.1, x_e0 h (by omega) gI q21 (by omega)⟩)
  refine jr_iconst C (v := 0) dX0_decideByRounds_0 (by decide) ?_
  refine jr_istore_n C dX0_decideByRounds_1 (by decide) ?_
  exact jr_sub [(0, jf_r E 10), (1, .int 0)] rfl (l2 21 σ 0 (xS_a_r σ) hC ⟨fun _ _ _ _ => rfl, by rw [k0]; rfl, by unfold x_W; rw [show (0 : Int32).toNatClampNeg = 0 from rfl, Nat.sub_zero]⟩ (by decide) (by decide) (by decide))

