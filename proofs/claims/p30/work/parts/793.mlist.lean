/-! the reference: pile and marks as lists -/
def m_ls (c : Nat → Int32) (L : List Int32) : Prop := ∀ i, i < L.length → c i = L.getD i 0
theorem m_gd1 {L R : List Int32} {i : Nat} (h : i < L.length) : (L ++ R).getD i 0 = L.getD i 0 := by
  rw [List.getD_eq_getElem?_getD, List.getD_eq_getElem?_getD, List.getElem?_append_left h]
theorem m_gd2 {L R : List Int32} {i : Nat} : (L ++ R).getD (L.length + i) 0 = R.getD i 0 := by
  rw [List.getD_eq_getElem?_getD, List.getD_eq_getElem?_getD, List.getElem?_append_right (Nat.le_add_right _ _), Nat.add_sub_cancel_left]
theorem m_ls_push {c : Nat → Int32} {L : List Int32} {x : Int32} (h : m_ls c L) : m_ls (upd c L.length x) (L ++ [x]) := by
  intro i hi
  rw [List.length_append] at hi
  have hi : i < L.length + 1 := hi
  rcases Nat.lt_or_ge i L.length with q | q
  · rw [m_upd_lt q, m_gd1 q]; exact h i q
  · have e : i = L.length := by omega
    rw [e, m_upd_eq]
    exact (m_gd2 (L := L) (R := [x]) (i := 0)).symm
theorem m_ls_pop {c : Nat → Int32} {L : List Int32} {x : Int32} (h : m_ls c (L ++ [x])) : m_ls c L ∧ c L.length = x := by
  refine ⟨fun i hi => ?_, ?_⟩
  · rw [h i (by rw [List.length_append]; omega), m_gd1 hi]
  · rw [h L.length (by rw [List.length_append]; show _ < _ + 1; omega)]
    exact m_gd2 (L := L) (R := [x]) (i := 0)
/-- the pile, its top first -/
def m_pl (τ : jf_S) (P : List Int32) : Prop := ((τ.1 0 56)).toInt = (P.length : Int) ∧ m_ls ((τ.1 36)) P.reverse
/-- the marks -/
def m_mk (τ : jf_S) (K : List Int32) : Prop := ((τ.1 0 51)).toInt = (K.length : Int) ∧ m_ls ((τ.1 34)) K
theorem m_pl_top {τ : jf_S} {P : List Int32} {x : Int32} (h : m_pl τ (x :: P)) (hc : P.length ≤ 300) : (τ.1 36) ((τ.1 0 56) - 1).toNatClampNeg = x ∧ m_ls ((τ.1 36)) P.reverse ∧ ((τ.1 0 56) - 1).toInt = (P.length : Int) := by
  have h1 := h.1
  have h1 : ((τ.1 0 56)).toInt = (P.length : Int) + 1 := h1
  have e := ji_dec1 (k := (τ.1 0 56)) (by omega)
  have cl : ((τ.1 0 56) - 1).toNatClampNeg = P.length := ji_cl (by omega)
  have h2 := h.2
  rw [List.reverse_cons] at h2
  obtain ⟨p1, p2⟩ := m_ls_pop h2
  rw [List.length_reverse] at p2
  exact ⟨by rw [cl]; exact p2, p1, by omega⟩
/-- how many are open or not, how many open -/
def cN : List Int32 → Nat
  | [] => 0
  | x :: P => cN P + if x.toInt = -6 ∨ x.toInt = -3 then 1 else 0
def cO : List Int32 → Nat
  | [] => 0
  | x :: P => cO P + if x.toInt = -6 then 1 else 0
theorem cN_le : ∀ P : List Int32, cN P ≤ P.length
  | [] => Nat.le_refl _
  | x :: P => by have := cN_le P; unfold cN; rw [List.length_cons]; split <;> omega
theorem cO_le : ∀ P : List Int32, cO P ≤ cN P
  | [] => Nat.le_refl _
  | x :: P => by have := cO_le P; unfold cN cO; (repeat' split) <;> omega
theorem cN_arr {p : Nat → Int32} : ∀ {P : List Int32}, m_ls p P.reverse → jx_ct (fun i => decide ((p i).toInt = -6 ∨ (p i).toInt = -3)) P.length = cN P
  | [], _ => rfl
  | x :: P, h => by
    rw [List.reverse_cons] at h
    obtain ⟨h1, h2⟩ := m_ls_pop h
    rw [List.length_reverse] at h2
    have ih := cN_arr (P := P) h1
    show jx_ct _ P.length + (if decide ((p P.length).toInt = -6 ∨ (p P.length).toInt = -3) = true then 1 else 0) = cN P + if x.toInt = -6 ∨ x.toInt = -3 then 1 else 0
    rw [ih, h2]
    congr 1
    by_cases c : x.toInt = -6 ∨ x.toInt = -3
    · rw [if_pos (decide_eq_true c), if_pos c]
    · rw [if_neg (fun e => c (of_decide_eq_true e)), if_neg c]
theorem m_mk_push {τ : jf_S} {K : List Int32} {x z : Int32} (h : m_mk τ K) (hK : K.length < 1000) : m_mk (jf_i (jf_i (jf_i τ 0 56 z) 34 ((τ.1 0 51)).toNatClampNeg x) 0 51 ((τ.1 0 51) + 1)) (K ++ [x]) := by
  have e := ji_inc1 (k := (τ.1 0 51)) (by have := h.1; omega)
  refine ⟨?_, ?_⟩
  · show ((τ.1 0 51) + 1).toInt = ((K ++ [x]).length : Int)
    rw [List.length_append]
    have := h.1
    show _ = ((K.length + 1 : Nat) : Int)
    omega
  · show m_ls ((jf_i (jf_i (jf_i τ 0 56 z) 34 ((τ.1 0 51)).toNatClampNeg x) 0 51 ((τ.1 0 51) + 1)).1 34) _
    rw [m_mk34, ji_cl h.1]
    exact m_ls_push h.2
theorem m_mk_push0 {τ : jf_S} {K : List Int32} {x : Int32} (h : m_mk τ K) (hK : K.length < 1000) : m_mk (jf_i (jf_i τ 34 ((τ.1 0 51)).toNatClampNeg x) 0 51 ((τ.1 0 51) + 1)) (K ++ [x]) := by
  have e := ji_inc1 (k := (τ.1 0 51)) (by have := h.1; omega)
  refine ⟨?_, ?_⟩
  · show ((τ.1 0 51) + 1).toInt = ((K ++ [x]).length : Int)
    rw [List.length_append]
    have := h.1
    show _ = ((K.length + 1 : Nat) : Int)
    omega
  · show m_ls ((jf_i (jf_i τ 34 ((τ.1 0 51)).toNatClampNeg x) 0 51 ((τ.1 0 51) + 1)).1 34) _
    rw [m_lf34, ji_cl h.1]
    exact m_ls_push h.2
theorem m_pl_pop {τ : jf_S} {P : List Int32} {n : Nat} {x y : Int32} (h1 : m_ls ((τ.1 36)) P.reverse) (h2 : ((τ.1 0 56) - 1).toInt = (P.length : Int)) : m_pl (jf_i (jf_i (jf_i τ 0 56 ((τ.1 0 56) - 1)) 34 n x) 0 51 y) P := by
  refine ⟨h2, ?_⟩
  show m_ls ((jf_i (jf_i (jf_i τ 0 56 ((τ.1 0 56) - 1)) 34 n x) 0 51 y).1 36) _
  rw [m_mk36]; exact h1
theorem m_pl_push {τ : jf_S} {P : List Int32} {x : Int32} (h : m_pl τ P) (hP : P.length < 1000) : m_pl (jf_i (jf_i τ 36 ((τ.1 0 56)).toNatClampNeg x) 0 56 ((τ.1 0 56) + 1)) (x :: P) := by
  have e := ji_inc1 (k := (τ.1 0 56)) (by have := h.1; omega)
  refine ⟨?_, ?_⟩
  · show ((τ.1 0 56) + 1).toInt = ((P.length + 1 : Nat) : Int)
    have := h.1
    omega
  · show m_ls ((jf_i (jf_i τ 36 ((τ.1 0 56)).toNatClampNeg x) 0 56 ((τ.1 0 56) + 1)).1 36) _
    rw [m_pu36, ji_cl h.1, List.reverse_cons, ← List.length_reverse]
    exact m_ls_push h.2
theorem ct_X11_settle2 (E : jf_E) (σ : jf_S) (v : Int32) (S P0 K : List Int32) (hp : m_pl σ (S ++ P0)) (hm : m_mk σ K) (hS : ∀ x ∈ S, ¬ x.toInt = -6 ∧ v.toInt ≤ x.toInt) (h0 : P0 = [] ∨ ∃ x Q, P0 = x :: Q ∧ (x.toInt = -6 ∨ x.toInt < v.toInt)) (cap : S.length + P0.length + K.length ≤ 300) : jf_V jh_M E yX11_settle cX11_settle 2 1 [jf_r E 0, .int v] σ (fun τ => m_pl τ P0 ∧ m_mk τ (K ++ S) ∧ mS_g [34] [51, 56] σ τ ∧ τ.2 = σ.2) := by
  refine jf_mkV (by decide) (Nat.le_of_ble_eq_true rfl) ?_
  intro G C ret
  have lp : ∀ (S' K' : List Int32) (τ : jf_S), m_pl τ (S' ++ P0) → m_mk τ K' → (∀ x ∈ S', ¬ x.toInt = -6 ∧ v.toInt ≤ x.toInt) → S'.length + P0.length + K'.length ≤ 300 → K' ++ S' = K ++ S → mS_g [34] [51, 56] σ τ ∧ τ.2 = σ.2 → jf_X jh_M E G 2 0 [(0, jf_r E 0), (1, .int v)] [] τ := by
    intro S'
    induction S' with
    | nil =>
      intro K' τ p1 p2 p3 p4 p5 z
      rw [List.append_nil] at p5
      have fin : m_pl τ P0 ∧ m_mk τ (K ++ S) ∧ mS_g [34] [51, 56] σ τ ∧ τ.2 = σ.2 := ⟨p1, by rw [← p5]; exact p2, z⟩
      rcases h0 with e | ⟨x, Q, e, hx⟩
      · subst e
        have q1 := p1.1
        have q1 : ((τ.1 0 56)).toInt = 0 := q1
        refine jr_aload_n C dX11_settle_0 rfl ?_
        refine jr_geti C kf_X11_320_0 dX11_settle_1 ?_
        refine jr_nif_le C 64 dX11_settle_4 (by decide) (fun _ => ?_) (fun b => absurd (show ((τ.1 0 56)).toInt ≤ 0 by omega) b)
        exact ret _ _ _ dX11_settle_64 (fin)
      · subst e
        have p1' : m_pl τ (x :: Q) := p1
        have p4' : Q.length ≤ 299 := by rw [List.length_cons] at p4; omega
        obtain ⟨t1, t2, t3⟩ := m_pl_top p1' (by omega)
        have q1 := ji_dec1 (k := (τ.1 0 56)) (by have := p1'.1; rw [List.length_cons] at this; omega)
        refine jr_aload_n C dX11_settle_0 rfl ?_
        refine jr_getv C kf_X11_320_0 dX11_settle_1 (v := τ.1 0 56) rfl ?_
        refine jr_nif_le C 64 dX11_settle_4 (by decide) (fun b4 => ?_) (fun b4 => ?_)
        · exact ret _ _ _ dX11_settle_64 (fin)
        · refine jr_aload_n C dX11_settle_7 rfl ?_
          refine jr_getr C kf_X11_120_0 dX11_settle_8 ?_
          refine jr_aload_n C dX11_settle_11 rfl ?_
          refine jr_getv C kf_X11_320_0 dX11_settle_12 (v := τ.1 0 56) rfl ?_
          refine jr_iconst C (v := 1) dX11_settle_15 (by decide) ?_
          refine jr_isub C dX11_settle_16 ?_
          refine jr_ialv C ka_M_36 dX11_settle_17 (ji_in (i := (τ.1 0 56) - 1) (by omega) (by omega)) (v := τ.1 36 _) rfl ?_
          refine jr_bipush C (v := -6) dX11_settle_18 (by decide) ?_
          refine jr_ncmp_eq C (b := -6) 64 dX11_settle_20 (by decide) rfl rfl (fun b20 => ?_) (fun b20 => ?_)
          · rw [t1] at b20
            exact ret _ _ _ dX11_settle_64 (fin)
          · rw [t1] at b20
            refine jr_aload_n C dX11_settle_23 rfl ?_
            refine jr_getr C kf_X11_120_0 dX11_settle_24 ?_
            refine jr_aload_n C dX11_settle_27 rfl ?_
            refine jr_getv C kf_X11_320_0 dX11_settle_28 (v := τ.1 0 56) rfl ?_
            refine jr_iconst C (v := 1) dX11_settle_31 (by decide) ?_
            refine jr_isub C dX11_settle_32 ?_
            refine jr_ialv C ka_M_36 dX11_settle_33 (ji_in (i := (τ.1 0 56) - 1) (by omega) (by omega)) (v := τ.1 36 _) rfl ?_
            refine jr_iload_n C dX11_settle_34 rfl ?_
            refine jr_ncmp_lt C 64 dX11_settle_35 (by decide) rfl rfl (fun b35 => ?_) (fun b35 => ?_)
            · rw [t1] at b35
              exact ret _ _ _ dX11_settle_64 (fin)
            · rw [t1] at b35
              refine jr_aload_n C dX11_settle_38 rfl ?_
              refine jr_dup C dX11_settle_39 rfl ?_
              refine jr_getv C kf_X11_320_0 dX11_settle_40 (v := τ.1 0 56) rfl ?_
              refine jr_iconst C (v := 1) dX11_settle_43 (by decide) ?_
              refine jr_isub C dX11_settle_44 ?_
              refine jr_puti C kp_X11_320_0 dX11_settle_45 ?_
              refine jr_aload_n C dX11_settle_48 rfl ?_
              refine jr_aload_n C dX11_settle_49 rfl ?_
              refine jr_getr C kf_X11_120_0 dX11_settle_50 ?_
              refine jr_aload_n C dX11_settle_53 rfl ?_
              refine jr_geti C kf_X11_320_0 dX11_settle_54 ?_
              refine jr_ialv C ka_M_36 dX11_settle_57 (ji_in (i := (τ.1 0 56) - 1) (by omega) (by omega)) (v := τ.1 36 _) rfl ?_
              refine jr_vvp C [.int _] _ (ct_X11_mark E _ _ (by exfalso; omega)) ky_X11_mark kv_X11_mark kk_M_0 km_X11_323 (by decide) rfl (Nat.le_of_ble_eq_true rfl) dX11_settle_58 ?_
              refine jr_goto C 0 dX11_settle_61 (by decide) ?_
              exfalso; omega
    | cons x S' ih =>
      intro K' τ p1 p2 p3 p4 p5 z
      have p1' : m_pl τ (x :: (S' ++ P0)) := p1
      rw [List.length_cons] at p4
      have ln : (S' ++ P0).length = S'.length + P0.length := List.length_append
      obtain ⟨t1, t2, t3⟩ := m_pl_top p1' (by omega)
      have q1 := ji_dec1 (k := (τ.1 0 56)) (by have := p1'.1; rw [List.length_cons] at this; omega)
      have hx := p3 x (List.mem_cons_self)
      have n1 := p2.1
      have st : ((τ.1 0 56)).toInt = ((S' ++ P0).length : Int) + 1 := by have := p1'.1; rw [List.length_cons] at this; omega
      refine jr_aload_n C dX11_settle_0 rfl ?_
      refine jr_getv C kf_X11_320_0 dX11_settle_1 (v := τ.1 0 56) rfl ?_
      refine jr_nif_le C 64 dX11_settle_4 (by decide) (fun b4 => ?_) (fun b4 => ?_)
      · exact ret _ _ _ dX11_settle_64 (by exfalso; omega)
      · refine jr_aload_n C dX11_settle_7 rfl ?_
        refine jr_getr C kf_X11_120_0 dX11_settle_8 ?_
        refine jr_aload_n C dX11_settle_11 rfl ?_
        refine jr_getv C kf_X11_320_0 dX11_settle_12 (v := τ.1 0 56) rfl ?_
        refine jr_iconst C (v := 1) dX11_settle_15 (by decide) ?_
        refine jr_isub C dX11_settle_16 ?_
        refine jr_ialv C ka_M_36 dX11_settle_17 (ji_in (i := (τ.1 0 56) - 1) (by omega) (by omega)) (v := τ.1 36 _) rfl ?_
        refine jr_bipush C (v := -6) dX11_settle_18 (by decide) ?_
        refine jr_ncmp_eq C (b := -6) 64 dX11_settle_20 (by decide) rfl rfl (fun b20 => ?_) (fun b20 => ?_)
        · rw [t1] at b20
          exact ret _ _ _ dX11_settle_64 (by exfalso; omega)
        · rw [t1] at b20
          refine jr_aload_n C dX11_settle_23 rfl ?_
          refine jr_getr C kf_X11_120_0 dX11_settle_24 ?_
          refine jr_aload_n C dX11_settle_27 rfl ?_
          refine jr_getv C kf_X11_320_0 dX11_settle_28 (v := τ.1 0 56) rfl ?_
          refine jr_iconst C (v := 1) dX11_settle_31 (by decide) ?_
          refine jr_isub C dX11_settle_32 ?_
          refine jr_ialv C ka_M_36 dX11_settle_33 (ji_in (i := (τ.1 0 56) - 1) (by omega) (by omega)) (v := τ.1 36 _) rfl ?_
          refine jr_iload_n C dX11_settle_34 rfl ?_
          refine jr_ncmp_lt C 64 dX11_settle_35 (by decide) rfl rfl (fun b35 => ?_) (fun b35 => ?_)
          · rw [t1] at b35
            exact ret _ _ _ dX11_settle_64 (by exfalso; omega)
          · rw [t1] at b35
            refine jr_aload_n C dX11_settle_38 rfl ?_
            refine jr_dup C dX11_settle_39 rfl ?_
            refine jr_getv C kf_X11_320_0 dX11_settle_40 (v := τ.1 0 56) rfl ?_
            refine jr_iconst C (v := 1) dX11_settle_43 (by decide) ?_
            refine jr_isub C dX11_settle_44 ?_
            refine jr_puti C kp_X11_320_0 dX11_settle_45 ?_
            refine jr_aload_n C dX11_settle_48 rfl ?_
            refine jr_aload_n C dX11_settle_49 rfl ?_
            refine jr_getr C kf_X11_120_0 dX11_settle_50 ?_
            refine jr_aload_n C dX11_settle_53 rfl ?_
            refine jr_geti C kf_X11_320_0 dX11_settle_54 ?_
            refine jr_ialv C ka_M_36 dX11_settle_57 (ji_in (i := (τ.1 0 56) - 1) (by omega) (by omega)) (v := τ.1 36 _) rfl ?_
            refine jr_vvp C [.int _] _ (ct_X11_mark E _ _ (show 0 ≤ ((τ.1 0 51)).toInt ∧ ((τ.1 0 51)).toInt < 300 by omega)) ky_X11_mark kv_X11_mark kk_M_0 km_X11_323 (by decide) rfl (Nat.le_of_ble_eq_true rfl) dX11_settle_58 ?_
            refine jr_goto C 0 dX11_settle_61 (by decide) ?_
            exact ih (K' ++ [x]) _ (m_pl_pop t2 t3) (by have h := m_mk_push (x := (τ.1 36) ((τ.1 0 56) - 1).toNatClampNeg) (z := (τ.1 0 56) - 1) p2 (by omega); have h2 : K' ++ [(τ.1 36) ((τ.1 0 56) - 1).toNatClampNeg] = K' ++ [x] := (by rw [t1]); rw [h2] at h; exact h) (fun y hy => p3 y (List.mem_cons_of_mem _ hy)) (by rw [List.length_append]; show _ + _ + (_ + 1) ≤ _; omega) (by rw [List.append_assoc]; exact p5) ⟨mS_g_i (mS_g_a (mS_g_i z.1 (by decide)) (by decide) (by decide)) (by decide), z.2⟩
  exact lp S K σ hp hm hS cap rfl ⟨mS_g_r σ, rfl⟩
theorem ct_X11_depthNow2 (E : jf_E) (σ : jf_S) (v : Int32) (J : Nat) (P0 K : List Int32) (hp : m_pl σ (List.replicate J (-3) ++ P0)) (hm : m_mk σ K) (h0 : P0 = [] ∨ ∃ x Q, P0 = x :: Q ∧ ¬ x.toInt = -3) (cap : J + P0.length + K.length ≤ 300) : jf_I jh_M E yX11_depthNow cX11_depthNow 4 .int 1 [jf_r E 0, .int v] σ (fun r τ => (v.toInt = 0 → m_pl τ P0 ∧ m_mk τ (K ++ List.replicate J (-3)) ∧ r.toInt = (cN P0 : Int) ∧ mS_g [34] [51, 56] σ τ ∧ τ.2 = σ.2) ∧ (¬ v.toInt = 0 → τ = σ ∧ r.toInt = (cN (List.replicate J (-3) ++ P0) : Int))) := by
  refine jf_mkI (by decide) (Nat.le_of_ble_eq_true rfl) ?_
  intro G C ret
  have J46 : ∀ (τ : jf_S) (P : List Int32), m_pl τ P → P.length ≤ 300 → (∀ r : Int32, r.toInt = (cN P : Int) → (v.toInt = 0 → m_pl τ P0 ∧ m_mk τ (K ++ List.replicate J (-3)) ∧ r.toInt = (cN P0 : Int) ∧ mS_g [34] [51, 56] σ τ ∧ τ.2 = σ.2) ∧ (¬ v.toInt = 0 → τ = σ ∧ r.toInt = (cN (List.replicate J (-3) ++ P0) : Int))) → jf_X jh_M E G 4 46 [(0, jf_r E 0), (1, .int v)] [] τ := by
    intro τ P p1 p2 po
    have q1 := p1.1
    have l50 : ∀ (m : Nat) (c i : Int32), 0 ≤ i.toInt → i.toInt ≤ (P.length : Int) → (P.length : Int) - i.toInt < m → c.toInt = (jx_ct (fun i => decide (((τ.1 36) i).toInt = -6 ∨ ((τ.1 36) i).toInt = -3)) i.toNatClampNeg : Int) → jf_X jh_M E G 4 50 [(0, jf_r E 0), (1, .int v), (2, .int c), (3, .int i)] [] τ := by
      intro m
      induction m with
      | zero => intro c i g1 g2 g3; exfalso; omega
      | succ m ih =>
        intro c i g1 g2 g3 g4
        have e1 := ji_inc (k := i) (by omega)
        have ei := ji_tn g1
        have e2 : (i + Int32.ofInt 1).toNatClampNeg = i.toNatClampNeg + 1 := ji_cl (by omega)
        have cl := jx_ct_le (fun i => decide (((τ.1 36) i).toInt = -6 ∨ ((τ.1 36) i).toInt = -3)) i.toNatClampNeg
        have ec := ji_inc1 (k := c) (by omega)
        have ec0 := ji_a0 c
        have st : jx_ct (fun i => decide (((τ.1 36) i).toInt = -6 ∨ ((τ.1 36) i).toInt = -3)) (i.toNatClampNeg + 1) = jx_ct (fun i => decide (((τ.1 36) i).toInt = -6 ∨ ((τ.1 36) i).toInt = -3)) i.toNatClampNeg + (if decide (((τ.1 36) i.toNatClampNeg).toInt = -6 ∨ ((τ.1 36) i.toNatClampNeg).toInt = -3) = true then 1 else 0) := rfl
        refine jr_iload_n C dX11_depthNow_50 rfl ?_
        refine jr_aload_n C dX11_depthNow_51 rfl ?_
        refine jr_getv C kf_X11_320_0 dX11_depthNow_52 (v := τ.1 0 56) rfl ?_
        refine jr_ncmp_ge C 94 dX11_depthNow_55 (by decide) rfl rfl (fun b55 => ?_) (fun b55 => ?_)
        · refine jr_iload_n C dX11_depthNow_94 rfl ?_
          exact ret _ _ _ _ dX11_depthNow_95 rfl (po _ (by rw [g4, ← cN_arr p1.2, show i.toNatClampNeg = P.length from ji_cl (by omega)]))
        · refine jr_iload_n C dX11_depthNow_58 rfl ?_
          refine jr_aload_n C dX11_depthNow_59 rfl ?_
          refine jr_getr C kf_X11_120_0 dX11_depthNow_60 ?_
          refine jr_iload_n C dX11_depthNow_63 rfl ?_
          refine jr_ialv C ka_M_36 dX11_depthNow_64 (ji_in (i := i) (by omega) (by omega)) (v := τ.1 36 _) rfl ?_
          refine jr_bipush C (v := -6) dX11_depthNow_65 (by decide) ?_
          refine jr_ncmp_eq C (b := -6) 81 dX11_depthNow_67 (by decide) rfl rfl (fun b67 => ?_) (fun b67 => ?_)
          · refine jr_iconst C (v := 1) dX11_depthNow_81 (by decide) ?_
            refine jr_goto C 86 dX11_depthNow_82 (by decide) ?_
            refine jr_iadd C dX11_depthNow_86 ?_
            refine jr_istore_n C dX11_depthNow_87 (by decide) ?_
            refine jr_iinc C _ dX11_depthNow_88 rfl rfl (by decide) ?_
            refine jr_goto C 50 dX11_depthNow_91 (by decide) ?_
            exact jr_sub [(0, jf_r E 0), (1, .int v), (2, .int _), (3, .int _)] rfl (ih _ _ (by omega) (by omega) (by omega) (by rw [e2, st]; first | (rw [if_pos (by rw [decide_eq_true_eq]; omega)]; omega) | (rw [if_neg (by rw [decide_eq_true_eq]; omega)]; omega)))
          · refine jr_aload_n C dX11_depthNow_70 rfl ?_
            refine jr_getr C kf_X11_120_0 dX11_depthNow_71 ?_
            refine jr_iload_n C dX11_depthNow_74 rfl ?_
            refine jr_ialv C ka_M_36 dX11_depthNow_75 (ji_in (i := i) (by omega) (by omega)) (v := τ.1 36 _) rfl ?_
            refine jr_bipush C (v := -3) dX11_depthNow_76 (by decide) ?_
            refine jr_ncmp_ne C (b := -3) 85 dX11_depthNow_78 (by decide) rfl rfl (fun b78 => ?_) (fun b78 => ?_)
            · refine jr_iconst C (v := 0) dX11_depthNow_85 (by decide) ?_
              refine jr_iadd C dX11_depthNow_86 ?_
              refine jr_istore_n C dX11_depthNow_87 (by decide) ?_
              refine jr_iinc C _ dX11_depthNow_88 rfl rfl (by decide) ?_
              refine jr_goto C 50 dX11_depthNow_91 (by decide) ?_
              exact jr_sub [(0, jf_r E 0), (1, .int v), (2, .int _), (3, .int _)] rfl (ih _ _ (by omega) (by omega) (by omega) (by rw [e2, st]; first | (rw [if_pos (by rw [decide_eq_true_eq]; omega)]; omega) | (rw [if_neg (by rw [decide_eq_true_eq]; omega)]; omega)))
            · refine jr_iconst C (v := 1) dX11_depthNow_81 (by decide) ?_
              refine jr_goto C 86 dX11_depthNow_82 (by decide) ?_
              refine jr_iadd C dX11_depthNow_86 ?_
              refine jr_istore_n C dX11_depthNow_87 (by decide) ?_
              refine jr_iinc C _ dX11_depthNow_88 rfl rfl (by decide) ?_
              refine jr_goto C 50 dX11_depthNow_91 (by decide) ?_
              exact jr_sub [(0, jf_r E 0), (1, .int v), (2, .int _), (3, .int _)] rfl (ih _ _ (by omega) (by omega) (by omega) (by rw [e2, st]; first | (rw [if_pos (by rw [decide_eq_true_eq]; omega)]; omega) | (rw [if_neg (by rw [decide_eq_true_eq]; omega)]; omega)))
    refine jr_iconst C (v := 0) dX11_depthNow_46 (by decide) ?_
    refine jr_istore_n C dX11_depthNow_47 (by decide) ?_
    refine jr_iconst C (v := 0) dX11_depthNow_48 (by decide) ?_
    refine jr_istore_n C dX11_depthNow_49 (by decide) ?_
    exact jr_sub [(0, jf_r E 0), (1, .int v), (2, .int 0), (3, .int 0)] rfl (l50 302 _ _ (by decide) (show (0 : Int) ≤ _ by omega) (show (P.length : Int) - 0 < _ by omega) rfl)
  have lp : ∀ (j : Nat) (K' : List Int32) (τ : jf_S), v.toInt = 0 → m_pl τ (List.replicate j (-3) ++ P0) → m_mk τ K' → j + P0.length + K'.length ≤ 300 → K' ++ List.replicate j (-3) = K ++ List.replicate J (-3) → mS_g [34] [51, 56] σ τ ∧ τ.2 = σ.2 → jf_X jh_M E G 4 4 [(0, jf_r E 0), (1, .int v)] [] τ := by
    intro j
    induction j with
    | zero =>
      intro K' τ v0 p1 p2 p4 p5 z
      have p5 : K' = K ++ List.replicate J (-3) := by rw [← p5]; exact (List.append_nil K').symm
      have p1 : m_pl τ P0 := p1
      have fin : jf_X jh_M E G 4 46 [(0, jf_r E 0), (1, .int v)] [] τ := J46 τ P0 p1 (by omega) (fun r hr => ⟨fun _ => ⟨p1, by rw [← p5]; exact p2, hr, z⟩, fun h => absurd v0 h⟩)
      rcases h0 with e | ⟨x, Q, e, hx⟩
      · subst e
        have q1 := p1.1
        have q1 : ((τ.1 0 56)).toInt = 0 := q1
        refine jr_aload_n C dX11_depthNow_4 rfl ?_
        refine jr_geti C kf_X11_320_0 dX11_depthNow_5 ?_
        refine jr_nif_le C 46 dX11_depthNow_8 (by decide) (fun _ => fin) (fun b => absurd (show ((τ.1 0 56)).toInt ≤ 0 by omega) b)
      · subst e
        have p4' : Q.length ≤ 299 := by rw [List.length_cons] at p4; omega
        obtain ⟨t1, t2, t3⟩ := m_pl_top p1 (by omega)
        have q1 := ji_dec1 (k := (τ.1 0 56)) (by have := p1.1; rw [List.length_cons] at this; omega)
        refine jr_aload_n C dX11_depthNow_4 rfl ?_
        refine jr_getv C kf_X11_320_0 dX11_depthNow_5 (v := τ.1 0 56) rfl ?_
        refine jr_nif_le C 46 dX11_depthNow_8 (by decide) (fun b8 => ?_) (fun b8 => ?_)
        · exact fin
        · refine jr_aload_n C dX11_depthNow_11 rfl ?_
          refine jr_getr C kf_X11_120_0 dX11_depthNow_12 ?_
          refine jr_aload_n C dX11_depthNow_15 rfl ?_
          refine jr_getv C kf_X11_320_0 dX11_depthNow_16 (v := τ.1 0 56) rfl ?_
          refine jr_iconst C (v := 1) dX11_depthNow_19 (by decide) ?_
          refine jr_isub C dX11_depthNow_20 ?_
          refine jr_ialv C ka_M_36 dX11_depthNow_21 (ji_in (i := (τ.1 0 56) - 1) (by omega) (by omega)) (v := τ.1 36 _) rfl ?_
          refine jr_bipush C (v := -3) dX11_depthNow_22 (by decide) ?_
          refine jr_ncmp_ne C (b := -3) 46 dX11_depthNow_24 (by decide) rfl rfl (fun b24 => ?_) (fun b24 => ?_)
          · rw [t1] at b24
            exact fin
          · rw [t1] at b24
            refine jr_aload_n C dX11_depthNow_27 rfl ?_
            refine jr_dup C dX11_depthNow_28 rfl ?_
            refine jr_getv C kf_X11_320_0 dX11_depthNow_29 (v := τ.1 0 56) rfl ?_
            refine jr_iconst C (v := 1) dX11_depthNow_32 (by decide) ?_
            refine jr_isub C dX11_depthNow_33 ?_
            refine jr_puti C kp_X11_320_0 dX11_depthNow_34 ?_
            refine jr_aload_n C dX11_depthNow_37 rfl ?_
            refine jr_bipush C (v := -3) dX11_depthNow_38 (by decide) ?_
            refine jr_vvp C [.int _] _ (ct_X11_mark E _ _ (by exfalso; omega)) ky_X11_mark kv_X11_mark kk_M_0 km_X11_323 (by decide) rfl (Nat.le_of_ble_eq_true rfl) dX11_depthNow_40 ?_
            refine jr_goto C 4 dX11_depthNow_43 (by decide) ?_
            exfalso; omega
    | succ j ih =>
      intro K' τ v0 p1 p2 p4 p5 z
      have p1' : m_pl τ (-3 :: (List.replicate j (-3) ++ P0)) := p1
      have ln : (List.replicate j (-3 : Int32) ++ P0).length = j + P0.length := by rw [List.length_append, List.length_replicate]
      obtain ⟨t1, t2, t3⟩ := m_pl_top p1' (by omega)
      have st : ((τ.1 0 56)).toInt = ((List.replicate j (-3 : Int32) ++ P0).length : Int) + 1 := by have := p1'.1; rw [List.length_cons] at this; omega
      have q1 := ji_dec1 (k := (τ.1 0 56)) (by omega)
      have n1 := p2.1
      have e3 : (-3 : Int32).toInt = -3 := rfl
      refine jr_aload_n C dX11_depthNow_4 rfl ?_
      refine jr_getv C kf_X11_320_0 dX11_depthNow_5 (v := τ.1 0 56) rfl ?_
      refine jr_nif_le C 46 dX11_depthNow_8 (by decide) (fun b8 => ?_) (fun b8 => ?_)
      · exfalso; omega
      · refine jr_aload_n C dX11_depthNow_11 rfl ?_
        refine jr_getr C kf_X11_120_0 dX11_depthNow_12 ?_
        refine jr_aload_n C dX11_depthNow_15 rfl ?_
        refine jr_getv C kf_X11_320_0 dX11_depthNow_16 (v := τ.1 0 56) rfl ?_
        refine jr_iconst C (v := 1) dX11_depthNow_19 (by decide) ?_
        refine jr_isub C dX11_depthNow_20 ?_
        refine jr_ialv C ka_M_36 dX11_depthNow_21 (ji_in (i := (τ.1 0 56) - 1) (by omega) (by omega)) (v := τ.1 36 _) rfl ?_
        refine jr_bipush C (v := -3) dX11_depthNow_22 (by decide) ?_
        refine jr_ncmp_ne C (b := -3) 46 dX11_depthNow_24 (by decide) rfl rfl (fun b24 => ?_) (fun b24 => ?_)
        · rw [t1] at b24
          exfalso; omega
        · rw [t1] at b24
          refine jr_aload_n C dX11_depthNow_27 rfl ?_
          refine jr_dup C dX11_depthNow_28 rfl ?_
          refine jr_getv C kf_X11_320_0 dX11_depthNow_29 (v := τ.1 0 56) rfl ?_
          refine jr_iconst C (v := 1) dX11_depthNow_32 (by decide) ?_
          refine jr_isub C dX11_depthNow_33 ?_
          refine jr_puti C kp_X11_320_0 dX11_depthNow_34 ?_
          refine jr_aload_n C dX11_depthNow_37 rfl ?_
          refine jr_bipush C (v := -3) dX11_depthNow_38 (by decide) ?_
          refine jr_vvp C [.int _] _ (ct_X11_mark E _ _ (show 0 ≤ ((τ.1 0 51)).toInt ∧ ((τ.1 0 51)).toInt < 300 by omega)) ky_X11_mark kv_X11_mark kk_M_0 km_X11_323 (by decide) rfl (Nat.le_of_ble_eq_true rfl) dX11_depthNow_40 ?_
          refine jr_goto C 4 dX11_depthNow_43 (by decide) ?_
          exact ih (K' ++ [-3]) _ v0 (m_pl_pop t2 t3) (m_mk_push p2 (by omega)) (by rw [List.length_append]; show _ + _ + (_ + 1) ≤ _; omega) (by rw [List.append_assoc]; exact p5) ⟨mS_g_i (mS_g_a (mS_g_i z.1 (by decide)) (by decide) (by decide)) (by decide), z.2⟩
  have ln0 : (List.replicate J (-3 : Int32) ++ P0).length = J + P0.length := by rw [List.length_append, List.length_replicate]
  refine jr_iload_n C dX11_depthNow_0 rfl ?_
  refine jr_nif_ne C 46 dX11_depthNow_1 (by decide) (fun b1 => ?_) (fun b1 => ?_)
  · exact J46 σ _ hp (by omega) (fun r hr => ⟨fun h => absurd h b1, fun _ => ⟨rfl, hr⟩⟩)
  · exact lp J K σ b1 hp hm cap rfl ⟨mS_g_r σ, rfl⟩

