/-! the reference: holds and counts exactly -/
/-- the pile of the reference -/
def m_pb (c : Nat → Int32) : List Bool → Prop
  | [] => True
  | b :: Q => c Q.length = q_b b ∧ m_pb c Q
theorem m_pb_up {c : Nat → Int32} {v : Int32} {n : Nat} : ∀ Q : List Bool, Q.length ≤ n → m_pb c Q → m_pb (upd c n v) Q
  | [], _, _ => trivial
  | b :: Q, h, k => by
    have h : Q.length + 1 ≤ n := h
    refine ⟨?_, m_pb_up Q (by omega) k.2⟩
    unfold upd
    rw [if_neg (by omega)]; exact k.1
theorem m_pb_push {c : Nat → Int32} {v : Int32} {n : Nat} {b : Bool} {P : List Bool} (h : m_pb c P) (hn : n = P.length) (hv : v = q_b b) : m_pb (upd c n v) (b :: P) := by
  subst hn; subst hv
  refine ⟨?_, m_pb_up P (Nat.le_refl _) h⟩
  unfold upd
  rw [if_pos rfl]
theorem m_pb_0 {c : Nat → Int32} : ∀ {P : List Bool}, m_pb c P → 1 ≤ P.length → c (P.length - 1) = q_b (P.headD false)
  | [], _, h => absurd h (by decide)
  | b :: Q, h, _ => h.1
theorem m_pb_1 {c : Nat → Int32} : ∀ {P : List Bool}, m_pb c P → 2 ≤ P.length → c (P.length - 2) = q_b (P.tail.headD false)
  | [], _, h => absurd h (by decide)
  | [b], _, h => absurd h (by show ¬ 2 ≤ 1; omega)
  | b :: a :: Q, h, _ => h.2.1
theorem m_pb_t {c : Nat → Int32} : ∀ {P : List Bool}, m_pb c P → m_pb c P.tail
  | [], _ => trivial
  | b :: Q, h => h.2
theorem q_b_not (b : Bool) : 1 - q_b b = q_b (!b) := by cases b <;> rfl
theorem sp_row_p {σ τ : jf_S} (h : mS_p σ τ) (s j f k : Int32) : sp_row τ.1 ((τ.1 0 39)) s j f k = sp_rw ((σ.1 28)) ((σ.1 29)) ((σ.1 30)) ((σ.1 31)) ((σ.1 0 39)) s j f k := by
  rw [show (τ.1 0 39) = (σ.1 0 39) from h.2.2 39 (by decide)]
  show sp_rw (τ.1 28) (τ.1 29) (τ.1 30) (τ.1 31) ((σ.1 0 39)) s j f k = _
  rw [h.2.1 28 (by decide) (by decide), h.2.1 29 (by decide) (by decide), h.2.1 30 (by decide) (by decide), h.2.1 31 (by decide) (by decide)]
def m_V (σ : jf_S) (j f k : Int32) (i : Nat) : List Bool := q_vp (sp_rw ((σ.1 28)) ((σ.1 29)) ((σ.1 30)) ((σ.1 31)) ((σ.1 0 39)) 0 j f k) (sp_rw ((σ.1 28)) ((σ.1 29)) ((σ.1 30)) ((σ.1 31)) ((σ.1 0 39)) 1 j f k) ((σ.1 25) j.toNatClampNeg) ((σ.1 32)) i
def m_h (σ : jf_S) (j f k : Int32) : Bool := q_h ((σ.1 28)) ((σ.1 29)) ((σ.1 30)) ((σ.1 31)) ((σ.1 0 39)) ((σ.1 25) j.toNatClampNeg) ((σ.1 32)) ((σ.1 0 46)).toNatClampNeg j f k
theorem m_h_e {σ τ : jf_S} (h : ∀ k, 25 ≤ k ∧ k ≤ 32 → τ.1 k = σ.1 k) (h1 : (τ.1 0 39) = (σ.1 0 39)) (h2 : (τ.1 0 46) = (σ.1 0 46)) (j f k : Int32) : m_h τ j f k = m_h σ j f k := by
  unfold m_h
  rw [h 25 (by decide), h 28 (by decide), h 29 (by decide), h 30 (by decide), h 31 (by decide), h 32 (by decide), h1, h2]
/-- the reckoning under way -/
def m_hv (σ τ : jf_S) (j f k : Int32) (i : Nat) : Prop := mS_p σ τ ∧ ((τ.1 0 56)).toInt = (m_dep ((σ.1 32)) i : Int) ∧ m_pb ((τ.1 36)) (m_V σ j f k i) ∧ (m_V σ j f k i).length = m_dep ((σ.1 32)) i
theorem m_V_s {σ : jf_S} {j f k : Int32} {i : Nat} : m_V σ j f k (i + 1) = q_e1 (sp_rw ((σ.1 28)) ((σ.1 29)) ((σ.1 30)) ((σ.1 31)) ((σ.1 0 39)) 0 j f k) (sp_rw ((σ.1 28)) ((σ.1 29)) ((σ.1 30)) ((σ.1 31)) ((σ.1 0 39)) 1 j f k) ((σ.1 25) j.toNatClampNeg) ((σ.1 32) i) (m_V σ j f k i) := rfl
theorem m_hv_not {σ τ : jf_S} {j f k : Int32} {i : Nat} (h : m_hv σ τ j f k i) (c3 : ((σ.1 32) i).toInt = -3) (d1 : 1 ≤ m_dep ((σ.1 32)) i) : m_hv σ (jf_i τ 36 ((τ.1 0 56) - 1).toNatClampNeg (1 - (τ.1 36) ((τ.1 0 56) - 1).toNatClampNeg)) j f k (i + 1) := by
  obtain ⟨h1, h2, h3, h4⟩ := h
  have ev : m_V σ j f k (i + 1) = (!((m_V σ j f k i).headD false)) :: (m_V σ j f k i).tail := by rw [m_V_s, q_e1_3 c3]
  have en : ((τ.1 0 56) - 1).toNatClampNeg = (m_V σ j f k i).length - 1 := ji_cl (by rw [ji_dec1 (by omega)]; omega)
  refine ⟨mS_p_w h1, by rw [m_dep_3 c3]; exact h2, ?_, by rw [ev, m_dep_3 c3, List.length_cons, List.length_tail]; omega⟩
  rw [ev]
  show m_pb ((jf_i τ 36 _ _).1 36) _
  rw [jf_i_at, en]
  have e0 := m_pb_0 h3 (by omega)
  rw [e0, q_b_not]
  exact m_pb_push (m_pb_t h3) (by rw [List.length_tail]) rfl
theorem m_hv_two {σ τ : jf_S} {j f k v : Int32} {i : Nat} (g : Bool → Bool → Bool) (h : m_hv σ τ j f k i) (c4 : ((σ.1 32) i).toInt = -4 ∨ ((σ.1 32) i).toInt = -5) (d2 : 2 ≤ m_dep ((σ.1 32)) i) (ev : m_V σ j f k (i + 1) = g ((m_V σ j f k i).tail.headD false) ((m_V σ j f k i).headD false) :: (m_V σ j f k i).tail.tail) (hv : ∀ x y : Bool, (τ.1 36) ((τ.1 0 56) - 1 - 1).toNatClampNeg = q_b x → (τ.1 36) ((τ.1 0 56) - 1).toNatClampNeg = q_b y → v = q_b (g x y)) : m_hv σ (jf_i (jf_i τ 0 56 ((τ.1 0 56) - 1)) 36 ((τ.1 0 56) - 1 - 1).toNatClampNeg v) j f k (i + 1) := by
  obtain ⟨h1, h2, h3, h4⟩ := h
  have p1 := ji_dec1 (k := (τ.1 0 56)) (by omega)
  have p2 := ji_dec1 (k := (τ.1 0 56) - 1) (by omega)
  have en : ((τ.1 0 56) - 1).toNatClampNeg = (m_V σ j f k i).length - 1 := ji_cl (by omega)
  have en2 : ((τ.1 0 56) - 1 - 1).toNatClampNeg = (m_V σ j f k i).length - 2 := ji_cl (by omega)
  have e0 := m_pb_0 h3 (by omega)
  have e1 := m_pb_1 h3 (by omega)
  rw [← en] at e0
  rw [← en2] at e1
  refine ⟨mS_p_w (mS_p_f h1), ?_, ?_, by rw [ev, m_dep_4 c4, List.length_cons, List.length_tail, List.length_tail]; omega⟩
  · show ((τ.1 0 56) - 1).toInt = _
    rw [m_dep_4 c4]; omega
  rw [ev]
  show m_pb ((jf_i (jf_i τ 0 56 ((τ.1 0 56) - 1)) 36 _ _).1 36) _
  rw [jf_i_at, jf_i_o 36 (by decide)]
  exact m_pb_push (m_pb_t (m_pb_t h3)) (by rw [en2, List.length_tail, List.length_tail]; omega) (hv _ _ e1 e0)
theorem m_and {a b : Int32} : ∀ x y : Bool, a = q_b x → b = q_b y → a * b = q_b (x && y) := fun x y e1 e2 => by
  subst e1; subst e2; cases x <;> cases y <;> rfl
theorem m_or_t {a b : Int32} (h : ¬ (a + b).toInt ≤ 0) : ∀ x y : Bool, a = q_b x → b = q_b y → 1 = q_b (x || y) := fun x y e1 e2 => by
  subst e1; subst e2
  cases x <;> cases y
  · exact absurd (by decide) h
  · rfl
  · rfl
  · rfl
theorem m_or_f {a b : Int32} (h : (a + b).toInt ≤ 0) : ∀ x y : Bool, a = q_b x → b = q_b y → 0 = q_b (x || y) := fun x y e1 e2 => by
  subst e1; subst e2
  cases x <;> cases y
  · rfl
  · exact absurd h (by decide)
  · exact absurd h (by decide)
  · exact absurd h (by decide)
theorem m_hv_and {σ τ : jf_S} {j f k : Int32} {i : Nat} (h : m_hv σ τ j f k i) (c4 : ((σ.1 32) i).toInt = -4) (d2 : 2 ≤ m_dep ((σ.1 32)) i) : m_hv σ (jf_i (jf_i τ 0 56 ((τ.1 0 56) - 1)) 36 ((τ.1 0 56) - 1 - 1).toNatClampNeg ((τ.1 36) ((τ.1 0 56) - 1 - 1).toNatClampNeg * (τ.1 36) ((τ.1 0 56) - 1).toNatClampNeg)) j f k (i + 1) :=
  m_hv_two (fun x y => x && y) h (Or.inl c4) d2 (by rw [m_V_s, q_e1_4 c4]) m_and
theorem m_hv_or {σ τ : jf_S} {j f k v : Int32} {i : Nat} (h : m_hv σ τ j f k i) (c4 : ((σ.1 32) i).toInt = -5) (d2 : 2 ≤ m_dep ((σ.1 32)) i) (hv : ∀ x y : Bool, (τ.1 36) ((τ.1 0 56) - 1 - 1).toNatClampNeg = q_b x → (τ.1 36) ((τ.1 0 56) - 1).toNatClampNeg = q_b y → v = q_b (x || y)) : m_hv σ (jf_i (jf_i τ 0 56 ((τ.1 0 56) - 1)) 36 ((τ.1 0 56) - 1 - 1).toNatClampNeg v) j f k (i + 1) :=
  m_hv_two (fun x y => x || y) h (Or.inr c4) d2 (by rw [m_V_s, q_e1_5 c4]) hv
theorem m_hv_push {σ τ : jf_S} {j f k v : Int32} {i : Nat} (h : m_hv σ τ j f k i) (c3 : ¬ ((σ.1 32) i).toInt = -3) (c4 : ¬ (((σ.1 32) i).toInt = -4 ∨ ((σ.1 32) i).toInt = -5)) (hi : i ≤ 300) (hv : v = q_b (q_lf (sp_row τ.1 ((τ.1 0 39)) 0 j f k) (sp_row τ.1 ((τ.1 0 39)) 1 j f k) ((τ.1 25) j.toNatClampNeg) ((σ.1 32) i))) : m_hv σ (jf_i (jf_i τ 36 ((τ.1 0 56)).toNatClampNeg v) 0 56 ((τ.1 0 56) + 1)) j f k (i + 1) := by
  obtain ⟨h1, h2, h3, h4⟩ := h
  rw [sp_row_p h1, sp_row_p h1, h1.2.1 25 (by decide) (by decide)] at hv
  have dl := m_dep_le ((σ.1 32)) i
  have p1 := ji_inc1 (k := (τ.1 0 56)) (by omega)
  refine ⟨mS_p_f (mS_p_w h1), ?_, ?_, by rw [m_V_s, q_e1_l c3 c4, m_dep_l c3 c4, List.length_cons, h4]⟩
  · show ((τ.1 0 56) + 1).toInt = _
    rw [m_dep_l c3 c4]; omega
  rw [m_V_s, q_e1_l c3 c4]
  show m_pb ((jf_i (jf_i τ 36 _ _) 0 56 _).1 36) _
  rw [jf_i_o 36 (by decide), jf_i_at]
  exact m_pb_push h3 (ji_cl (by omega)) hv
theorem m_hv_end {σ τ : jf_S} {j f k : Int32} (h : m_hv σ τ j f k ((σ.1 0 46)).toNatClampNeg) (d : m_dep ((σ.1 32)) ((σ.1 0 46)).toNatClampNeg = 1) : (τ.1 36) 0 = q_b (m_h σ j f k) := by
  obtain ⟨h1, h2, h3, h4⟩ := h
  rw [d] at h4
  have := m_pb_0 h3 (by omega)
  rw [h4] at this
  exact this
theorem ct_X11_holds2 (E : jf_E) (σ : jf_S) (j f k : Int32) (j0 : 0 ≤ j.toInt) (j1 : j.toInt < 10) (hR : mI_r σ) (hd : m_dep ((σ.1 32)) ((σ.1 0 46)).toNatClampNeg = 1) : jf_I jh_M E yX11_holds cX11_holds 8 .boolean 1 [jf_r E 0, .int j, .int f, .int k] σ (fun r τ => r = q_b (m_h σ j f k) ∧ mS_p σ τ) := by
  refine jf_mkI (by decide) (Nat.le_of_ble_eq_true rfl) ?_
  intro G C ret
  obtain ⟨⟨h0, h1⟩, ⟨n0, n1⟩, hv⟩ := id hR
  have loop : ∀ (m : Nat) (τ : jf_S) (o : Int32), m_hv σ τ j f k o.toNatClampNeg → 0 ≤ o.toInt → o.toInt ≤ ((σ.1 0 46)).toInt → ((σ.1 0 46)).toInt - o.toInt < m → jf_X jh_M E G 8 8 [(0, jf_r E 0), (1, .int j), (2, .int f), (3, .int k), (4, .int o)] [] τ := by
    intro m
    induction m with
    | zero => intro τ o g0 g1 g2 g3; exfalso; omega
    | succ m ih =>
      intro τ o gh g1 g2 g3
      have g0 := gh.1
      have g4 := gh.2.1
      have e1 := ji_inc (k := o) (by omega)
      have e2 : (o + Int32.ofInt 1).toNatClampNeg = o.toNatClampNeg + 1 := ji_cl (by rw [e1, Int.natCast_add, ji_tn g1]; rfl)
      have c1 : (τ.1 0 46) = (σ.1 0 46) := g0.2.2 _ (by decide)
      have c2 : (τ.1 32) = (σ.1 32) := g0.2.1 _ (by decide) (by decide)
      have c3 : (τ.1 0 39) = (σ.1 0 39) := g0.2.2 _ (by decide)
      have d1 := m_dep_le ((σ.1 32)) o.toNatClampNeg
      have d2 := ji_tn g1
      have p1 := ji_dec1 (k := (τ.1 0 56)) (by omega)
      have p2 := ji_inc1 (k := (τ.1 0 56)) (by omega)
      refine jr_iload C dX11_holds_8 rfl ?_
      refine jr_aload_n C dX11_holds_10 rfl ?_
      refine jr_geti C kf_X11_362_0 dX11_holds_11 ?_
      refine jr_ncmp_ge C (b := ((σ.1 0 46)).toInt) 238 dX11_holds_14 (by decide) rfl (by rw [c1]) (fun b14 => ?_) (fun b14 => ?_)
      · have eo : o.toNatClampNeg = ((σ.1 0 46)).toNatClampNeg := by rw [Int32.toInt_inj.mp (show o.toInt = ((σ.1 0 46)).toInt by omega)]
        rw [eo] at gh
        have ee := m_hv_end gh hd
        refine jr_aload_n C dX11_holds_238 rfl ?_
        refine jr_getr C kf_X11_120_0 dX11_holds_239 ?_
        refine jr_iconst C (v := 0) dX11_holds_242 (by decide) ?_
        refine jr_ialv C ka_M_36 dX11_holds_243 (ji_in (i := 0) (by decide) (by decide)) (v := τ.1 36 _) rfl ?_
        refine jr_iconst C (v := 1) dX11_holds_244 (by decide) ?_
        refine jr_ncmp_ne C (b := 1) 252 dX11_holds_245 (by decide) rfl rfl (fun b245 => ?_) (fun b245 => ?_)
        · refine jr_iconst C (v := 0) dX11_holds_252 (by decide) ?_
          exact ret _ _ _ _ dX11_holds_253 (rfl) ((by first | exact ⟨q_b_1 ee b245, g0⟩ | exact ⟨q_b_0 ee b245, g0⟩))
        · refine jr_iconst C (v := 1) dX11_holds_248 (by decide) ?_
          refine jr_goto C 253 dX11_holds_249 (by decide) ?_
          exact ret _ _ _ _ dX11_holds_253 (rfl) ((by first | exact ⟨q_b_1 ee b245, g0⟩ | exact ⟨q_b_0 ee b245, g0⟩))
      have hV := hv o.toNatClampNeg (by have := ji_tn n0; omega)
      have r0 : 0 ≤ ((τ.1 0 39)).toInt := by rw [c3]; exact h0
      have r1 : ((τ.1 0 39)).toInt ≤ 100 := by rw [c3]; exact h1
      have p3 : 1 ≤ ((τ.1 0 56)).toInt → ((τ.1 0 56) - 1 - 1).toInt = ((τ.1 0 56)).toInt - 2 := fun q => by rw [ji_dec1 (by omega), p1]; omega
      have J232 : ∀ (υ : jf_S), m_hv σ υ j f k (o.toNatClampNeg + 1) → jf_X jh_M E G 8 232 [(0, jf_r E 0), (1, .int j), (2, .int f), (3, .int k), (4, .int o)] [] υ := by
        intro υ u1
        rw [← e2] at u1
        refine jr_iinc C _ dX11_holds_232 rfl rfl (by decide) ?_
        refine jr_goto C 8 dX11_holds_235 (by decide) ?_
        exact jr_sub [(0, jf_r E 0), (1, .int j), (2, .int f), (3, .int k), (4, .int _)] rfl (ih _ _ u1 (by omega) (by omega) (by omega))
      have d3 : o.toNatClampNeg ≤ 300 := by omega
      refine jr_aload_n C dX11_holds_17 rfl ?_
      refine jr_getr C kf_X11_108_0 dX11_holds_18 ?_
      refine jr_iload C dX11_holds_21 rfl ?_
      refine jr_ialv C ka_M_32 dX11_holds_23 (ji_in (by omega) (by omega)) (v := (σ.1 32) o.toNatClampNeg) (by rw [c2]) ?_
      refine jr_istore C dX11_holds_24 (by decide) ?_
      refine jr_iload C dX11_holds_26 rfl ?_
      refine jr_bipush C (v := -3) dX11_holds_28 (by decide) ?_
      refine jr_ncmp_ne C (b := -3) 60 dX11_holds_30 (by decide) rfl rfl (fun b30 => ?_) (fun b30 => ?_)
      · refine jr_iload C dX11_holds_60 rfl ?_
        refine jr_bipush C (v := -4) dX11_holds_62 (by decide) ?_
        refine jr_ncmp_eq C (b := -4) 74 dX11_holds_64 (by decide) rfl rfl (fun b64 => ?_) (fun b64 => ?_)
        · refine jr_aload_n C dX11_holds_74 rfl ?_
          refine jr_dup C dX11_holds_75 rfl ?_
          refine jr_getv C kf_X11_320_0 dX11_holds_76 (v := τ.1 0 56) rfl ?_
          refine jr_iconst C (v := 1) dX11_holds_79 (by decide) ?_
          refine jr_isub C dX11_holds_80 ?_
          refine jr_puti C kp_X11_320_0 dX11_holds_81 ?_
          refine jr_aload_n C dX11_holds_84 rfl ?_
          refine jr_getr C kf_X11_120_0 dX11_holds_85 ?_
          refine jr_aload_n C dX11_holds_88 rfl ?_
          refine jr_geti C kf_X11_320_0 dX11_holds_89 ?_
          refine jr_iconst C (v := 1) dX11_holds_92 (by decide) ?_
          refine jr_isub C dX11_holds_93 ?_
          refine jr_ialv C ka_M_36 dX11_holds_94 (ji_in (i := (τ.1 0 56) - 1 - 1) (by have := hV.2 (by omega); have := p3 (by omega); omega) (by have := hV.2 (by omega); have := p3 (by omega); omega)) (v := τ.1 36 _) rfl ?_
          refine jr_istore C dX11_holds_95 (by decide) ?_
          refine jr_aload_n C dX11_holds_97 rfl ?_
          refine jr_getr C kf_X11_120_0 dX11_holds_98 ?_
          refine jr_aload_n C dX11_holds_101 rfl ?_
          refine jr_geti C kf_X11_320_0 dX11_holds_102 ?_
          refine jr_ialv C ka_M_36 dX11_holds_105 (ji_in (i := (τ.1 0 56) - 1) (by have := hV.2 (by omega); omega) (by omega)) (v := τ.1 36 _) rfl ?_
          refine jr_istore C dX11_holds_106 (by decide) ?_
          refine jr_aload_n C dX11_holds_108 rfl ?_
          refine jr_getr C kf_X11_120_0 dX11_holds_109 ?_
          refine jr_aload_n C dX11_holds_112 rfl ?_
          refine jr_geti C kf_X11_320_0 dX11_holds_113 ?_
          refine jr_iconst C (v := 1) dX11_holds_116 (by decide) ?_
          refine jr_isub C dX11_holds_117 ?_
          refine jr_iload C dX11_holds_118 rfl ?_
          refine jr_bipush C (v := -4) dX11_holds_120 (by decide) ?_
          refine jr_ncmp_ne C (b := -4) 133 dX11_holds_122 (by decide) rfl rfl (fun b122 => ?_) (fun b122 => ?_)
          · refine jr_iload C dX11_holds_133 rfl ?_
            refine jr_iload C dX11_holds_135 rfl ?_
            refine jr_iadd C dX11_holds_137 ?_
            refine jr_nif_le C 145 dX11_holds_138 (by decide) (fun b138 => ?_) (fun b138 => ?_)
            · refine jr_iconst C (v := 0) dX11_holds_145 (by decide) ?_
              refine jr_iast C ka_M_36 dX11_holds_146 (ji_in (i := (τ.1 0 56) - 1 - 1) (by have := hV.2 (by omega); have := p3 (by omega); omega) (by have := hV.2 (by omega); have := p3 (by omega); omega)) ?_
              refine jr_goto C 232 dX11_holds_147 (by decide) ?_
              first | (have h9 : ((σ.1 32) o.toNatClampNeg).toInt = -3 := b30; exact jr_sub [(0, jf_r E 0), (1, .int j), (2, .int f), (3, .int k), (4, .int o)] rfl (J232 _ (m_hv_not gh h9 (hV.1 h9)))) | (have h9 : ((σ.1 32) o.toNatClampNeg).toInt = -4 := b122; exact jr_sub [(0, jf_r E 0), (1, .int j), (2, .int f), (3, .int k), (4, .int o)] rfl (J232 _ (m_hv_and gh h9 (hV.2 (Or.inl h9))))) | (have h9 := b122; have h8 : ((σ.1 32) o.toNatClampNeg).toInt = -5 := (by omega); exact jr_sub [(0, jf_r E 0), (1, .int j), (2, .int f), (3, .int k), (4, .int o)] rfl (J232 _ (m_hv_or gh h8 (hV.2 (Or.inr h8)) (by first | exact m_or_t b138 | exact m_or_f b138)))) | (have h9 : ¬ ((σ.1 32) o.toNatClampNeg).toInt = -5 := b71; exact jr_sub [(0, jf_r E 0), (1, .int j), (2, .int f), (3, .int k), (4, .int o)] rfl (J232 _ (m_hv_push gh b30 (by omega) d3 (by first | exact q_lf_s b153 (q_b_t b213) | exact q_lf_s b153 (q_b_f b213) | exact q_lf_k b153 b171 (q_b_t b213) | exact q_lf_k b153 b171 (q_b_f b213) | exact q_lf_o b153 b171 (q_b_d1 (Int.not_lt.mp b193)) | exact q_lf_o b153 b171 (q_b_d0 (Int.not_le.mpr b193))))))
            · refine jr_iconst C (v := 1) dX11_holds_141 (by decide) ?_
              refine jr_goto C 146 dX11_holds_142 (by decide) ?_
              refine jr_iast C ka_M_36 dX11_holds_146 (ji_in (i := (τ.1 0 56) - 1 - 1) (by have := hV.2 (by omega); have := p3 (by omega); omega) (by have := hV.2 (by omega); have := p3 (by omega); omega)) ?_
              refine jr_goto C 232 dX11_holds_147 (by decide) ?_
              first | (have h9 : ((σ.1 32) o.toNatClampNeg).toInt = -3 := b30; exact jr_sub [(0, jf_r E 0), (1, .int j), (2, .int f), (3, .int k), (4, .int o)] rfl (J232 _ (m_hv_not gh h9 (hV.1 h9)))) | (have h9 : ((σ.1 32) o.toNatClampNeg).toInt = -4 := b122; exact jr_sub [(0, jf_r E 0), (1, .int j), (2, .int f), (3, .int k), (4, .int o)] rfl (J232 _ (m_hv_and gh h9 (hV.2 (Or.inl h9))))) | (have h9 := b122; have h8 : ((σ.1 32) o.toNatClampNeg).toInt = -5 := (by omega); exact jr_sub [(0, jf_r E 0), (1, .int j), (2, .int f), (3, .int k), (4, .int o)] rfl (J232 _ (m_hv_or gh h8 (hV.2 (Or.inr h8)) (by first | exact m_or_t b138 | exact m_or_f b138)))) | (have h9 : ¬ ((σ.1 32) o.toNatClampNeg).toInt = -5 := b71; exact jr_sub [(0, jf_r E 0), (1, .int j), (2, .int f), (3, .int k), (4, .int o)] rfl (J232 _ (m_hv_push gh b30 (by omega) d3 (by first | exact q_lf_s b153 (q_b_t b213) | exact q_lf_s b153 (q_b_f b213) | exact q_lf_k b153 b171 (q_b_t b213) | exact q_lf_k b153 b171 (q_b_f b213) | exact q_lf_o b153 b171 (q_b_d1 (Int.not_lt.mp b193)) | exact q_lf_o b153 b171 (q_b_d0 (Int.not_le.mpr b193))))))
          · refine jr_iload C dX11_holds_125 rfl ?_
            refine jr_iload C dX11_holds_127 rfl ?_
            refine jr_imul C dX11_holds_129 ?_
            refine jr_goto C 146 dX11_holds_130 (by decide) ?_
            refine jr_iast C ka_M_36 dX11_holds_146 (ji_in (i := (τ.1 0 56) - 1 - 1) (by have := hV.2 (by omega); have := p3 (by omega); omega) (by have := hV.2 (by omega); have := p3 (by omega); omega)) ?_
            refine jr_goto C 232 dX11_holds_147 (by decide) ?_
            first | (have h9 : ((σ.1 32) o.toNatClampNeg).toInt = -3 := b30; exact jr_sub [(0, jf_r E 0), (1, .int j), (2, .int f), (3, .int k), (4, .int o)] rfl (J232 _ (m_hv_not gh h9 (hV.1 h9)))) | (have h9 : ((σ.1 32) o.toNatClampNeg).toInt = -4 := b122; exact jr_sub [(0, jf_r E 0), (1, .int j), (2, .int f), (3, .int k), (4, .int o)] rfl (J232 _ (m_hv_and gh h9 (hV.2 (Or.inl h9))))) | (have h9 := b122; have h8 : ((σ.1 32) o.toNatClampNeg).toInt = -5 := (by omega); exact jr_sub [(0, jf_r E 0), (1, .int j), (2, .int f), (3, .int k), (4, .int o)] rfl (J232 _ (m_hv_or gh h8 (hV.2 (Or.inr h8)) (by first | exact m_or_t b138 | exact m_or_f b138)))) | (have h9 : ¬ ((σ.1 32) o.toNatClampNeg).toInt = -5 := b71; exact jr_sub [(0, jf_r E 0), (1, .int j), (2, .int f), (3, .int k), (4, .int o)] rfl (J232 _ (m_hv_push gh b30 (by omega) d3 (by first | exact q_lf_s b153 (q_b_t b213) | exact q_lf_s b153 (q_b_f b213) | exact q_lf_k b153 b171 (q_b_t b213) | exact q_lf_k b153 b171 (q_b_f b213) | exact q_lf_o b153 b171 (q_b_d1 (Int.not_lt.mp b193)) | exact q_lf_o b153 b171 (q_b_d0 (Int.not_le.mpr b193))))))
        · refine jr_iload C dX11_holds_67 rfl ?_
          refine jr_bipush C (v := -5) dX11_holds_69 (by decide) ?_
          refine jr_ncmp_ne C (b := -5) 150 dX11_holds_71 (by decide) rfl rfl (fun b71 => ?_) (fun b71 => ?_)
          · refine jr_iload C dX11_holds_150 rfl ?_
            refine jr_iconst C (v := -1) dX11_holds_152 (by decide) ?_
            refine jr_ncmp_ne C (b := -1) 167 dX11_holds_153 (by decide) rfl rfl (fun b153 => ?_) (fun b153 => ?_)
            · refine jr_iload C dX11_holds_167 rfl ?_
              refine jr_bipush C (v := -2) dX11_holds_169 (by decide) ?_
              refine jr_ncmp_ne C (b := -2) 185 dX11_holds_171 (by decide) rfl rfl (fun b171 => ?_) (fun b171 => ?_)
              · refine jr_aload_n C dX11_holds_185 rfl ?_
                refine jr_getr C kf_X11_87_0 dX11_holds_186 ?_
                refine jr_iload_n C dX11_holds_189 rfl ?_
                refine jr_ialv C ka_M_25 dX11_holds_190 (ji_in j0 j1) (v := τ.1 25 _) rfl ?_
                refine jr_iload C dX11_holds_191 rfl ?_
                refine jr_ncmp_lt C 200 dX11_holds_193 (by decide) rfl rfl (fun b193 => ?_) (fun b193 => ?_)
                · refine jr_iconst C (v := 0) dX11_holds_200 (by decide) ?_
                  refine jr_istore C dX11_holds_201 (by decide) ?_
                  refine jr_aload_n C dX11_holds_203 rfl ?_
                  refine jr_getr C kf_X11_120_0 dX11_holds_204 ?_
                  refine jr_aload_n C dX11_holds_207 rfl ?_
                  refine jr_getv C kf_X11_320_0 dX11_holds_208 (v := τ.1 0 56) rfl ?_
                  refine jr_iload C dX11_holds_211 rfl ?_
                  refine jr_if_eq C 220 dX11_holds_213 (by decide) (fun _ => ?_) (fun b => absurd b (by decide))
                  refine jr_iconst C (v := 0) dX11_holds_220 (by decide) ?_
                  refine jr_iast C ka_M_36 dX11_holds_221 (ji_in (i := (τ.1 0 56)) (by omega) (by omega)) ?_
                  refine jr_aload_n C dX11_holds_222 rfl ?_
                  refine jr_dup C dX11_holds_223 rfl ?_
                  refine jr_getv C kf_X11_320_0 dX11_holds_224 (v := τ.1 0 56) rfl ?_
                  refine jr_iconst C (v := 1) dX11_holds_227 (by decide) ?_
                  refine jr_iadd C dX11_holds_228 ?_
                  refine jr_puti C kp_X11_320_0 dX11_holds_229 ?_
                  first | (have h9 : ((σ.1 32) o.toNatClampNeg).toInt = -3 := b30; exact jr_sub [(0, jf_r E 0), (1, .int j), (2, .int f), (3, .int k), (4, .int o)] rfl (J232 _ (m_hv_not gh h9 (hV.1 h9)))) | (have h9 : ((σ.1 32) o.toNatClampNeg).toInt = -4 := b122; exact jr_sub [(0, jf_r E 0), (1, .int j), (2, .int f), (3, .int k), (4, .int o)] rfl (J232 _ (m_hv_and gh h9 (hV.2 (Or.inl h9))))) | (have h9 := b122; have h8 : ((σ.1 32) o.toNatClampNeg).toInt = -5 := (by omega); exact jr_sub [(0, jf_r E 0), (1, .int j), (2, .int f), (3, .int k), (4, .int o)] rfl (J232 _ (m_hv_or gh h8 (hV.2 (Or.inr h8)) (by first | exact m_or_t b138 | exact m_or_f b138)))) | (have h9 : ¬ ((σ.1 32) o.toNatClampNeg).toInt = -5 := b71; exact jr_sub [(0, jf_r E 0), (1, .int j), (2, .int f), (3, .int k), (4, .int o)] rfl (J232 _ (m_hv_push gh b30 (by omega) d3 (by first | exact q_lf_s b153 (q_b_t b213) | exact q_lf_s b153 (q_b_f b213) | exact q_lf_k b153 b171 (q_b_t b213) | exact q_lf_k b153 b171 (q_b_f b213) | exact q_lf_o b153 b171 (q_b_d1 (Int.not_lt.mp b193)) | exact q_lf_o b153 b171 (q_b_d0 (Int.not_le.mpr b193))))))
                · refine jr_iconst C (v := 1) dX11_holds_196 (by decide) ?_
                  refine jr_goto C 201 dX11_holds_197 (by decide) ?_
                  refine jr_istore C dX11_holds_201 (by decide) ?_
                  refine jr_aload_n C dX11_holds_203 rfl ?_
                  refine jr_getr C kf_X11_120_0 dX11_holds_204 ?_
                  refine jr_aload_n C dX11_holds_207 rfl ?_
                  refine jr_getv C kf_X11_320_0 dX11_holds_208 (v := τ.1 0 56) rfl ?_
                  refine jr_iload C dX11_holds_211 rfl ?_
                  refine jr_if_eq C 220 dX11_holds_213 (by decide) (fun b => absurd b (by decide)) (fun _ => ?_)
                  refine jr_iconst C (v := 1) dX11_holds_216 (by decide) ?_
                  refine jr_goto C 221 dX11_holds_217 (by decide) ?_
                  refine jr_iast C ka_M_36 dX11_holds_221 (ji_in (i := (τ.1 0 56)) (by omega) (by omega)) ?_
                  refine jr_aload_n C dX11_holds_222 rfl ?_
                  refine jr_dup C dX11_holds_223 rfl ?_
                  refine jr_getv C kf_X11_320_0 dX11_holds_224 (v := τ.1 0 56) rfl ?_
                  refine jr_iconst C (v := 1) dX11_holds_227 (by decide) ?_
                  refine jr_iadd C dX11_holds_228 ?_
                  refine jr_puti C kp_X11_320_0 dX11_holds_229 ?_
                  first | (have h9 : ((σ.1 32) o.toNatClampNeg).toInt = -3 := b30; exact jr_sub [(0, jf_r E 0), (1, .int j), (2, .int f), (3, .int k), (4, .int o)] rfl (J232 _ (m_hv_not gh h9 (hV.1 h9)))) | (have h9 : ((σ.1 32) o.toNatClampNeg).toInt = -4 := b122; exact jr_sub [(0, jf_r E 0), (1, .int j), (2, .int f), (3, .int k), (4, .int o)] rfl (J232 _ (m_hv_and gh h9 (hV.2 (Or.inl h9))))) | (have h9 := b122; have h8 : ((σ.1 32) o.toNatClampNeg).toInt = -5 := (by omega); exact jr_sub [(0, jf_r E 0), (1, .int j), (2, .int f), (3, .int k), (4, .int o)] rfl (J232 _ (m_hv_or gh h8 (hV.2 (Or.inr h8)) (by first | exact m_or_t b138 | exact m_or_f b138)))) | (have h9 : ¬ ((σ.1 32) o.toNatClampNeg).toInt = -5 := b71; exact jr_sub [(0, jf_r E 0), (1, .int j), (2, .int f), (3, .int k), (4, .int o)] rfl (J232 _ (m_hv_push gh b30 (by omega) d3 (by first | exact q_lf_s b153 (q_b_t b213) | exact q_lf_s b153 (q_b_f b213) | exact q_lf_k b153 b171 (q_b_t b213) | exact q_lf_k b153 b171 (q_b_f b213) | exact q_lf_o b153 b171 (q_b_d1 (Int.not_lt.mp b193)) | exact q_lf_o b153 b171 (q_b_d0 (Int.not_le.mpr b193))))))
              · refine jr_aload_n C dX11_holds_174 rfl ?_
                refine jr_iconst C (v := 1) dX11_holds_175 (by decide) ?_
                refine jr_iload_n C dX11_holds_176 rfl ?_
                refine jr_iload_n C dX11_holds_177 rfl ?_
                refine jr_iload_n C dX11_holds_178 rfl ?_
                refine jr_vip C [.int _, .int _, .int _, .int _] _ (ct_X11_isRow E _ _ _ _ _ r0 r1) ky_X11_isRow kv_X11_isRow kk_M_0 km_X11_371 (by decide) rfl (Nat.le_of_ble_eq_true rfl) dX11_holds_179 ?_
                refine jr_goto C 201 dX11_holds_182 (by decide) ?_
                refine jr_istore C dX11_holds_201 (by decide) ?_
                refine jr_aload_n C dX11_holds_203 rfl ?_
                refine jr_getr C kf_X11_120_0 dX11_holds_204 ?_
                refine jr_aload_n C dX11_holds_207 rfl ?_
                refine jr_getv C kf_X11_320_0 dX11_holds_208 (v := τ.1 0 56) rfl ?_
                refine jr_iload C dX11_holds_211 rfl ?_
                refine jr_nif_eq C 220 dX11_holds_213 (by decide) (fun b213 => ?_) (fun b213 => ?_)
                · refine jr_iconst C (v := 0) dX11_holds_220 (by decide) ?_
                  refine jr_iast C ka_M_36 dX11_holds_221 (ji_in (i := (τ.1 0 56)) (by omega) (by omega)) ?_
                  refine jr_aload_n C dX11_holds_222 rfl ?_
                  refine jr_dup C dX11_holds_223 rfl ?_
                  refine jr_getv C kf_X11_320_0 dX11_holds_224 (v := τ.1 0 56) rfl ?_
                  refine jr_iconst C (v := 1) dX11_holds_227 (by decide) ?_
                  refine jr_iadd C dX11_holds_228 ?_
                  refine jr_puti C kp_X11_320_0 dX11_holds_229 ?_
                  first | (have h9 : ((σ.1 32) o.toNatClampNeg).toInt = -3 := b30; exact jr_sub [(0, jf_r E 0), (1, .int j), (2, .int f), (3, .int k), (4, .int o)] rfl (J232 _ (m_hv_not gh h9 (hV.1 h9)))) | (have h9 : ((σ.1 32) o.toNatClampNeg).toInt = -4 := b122; exact jr_sub [(0, jf_r E 0), (1, .int j), (2, .int f), (3, .int k), (4, .int o)] rfl (J232 _ (m_hv_and gh h9 (hV.2 (Or.inl h9))))) | (have h9 := b122; have h8 : ((σ.1 32) o.toNatClampNeg).toInt = -5 := (by omega); exact jr_sub [(0, jf_r E 0), (1, .int j), (2, .int f), (3, .int k), (4, .int o)] rfl (J232 _ (m_hv_or gh h8 (hV.2 (Or.inr h8)) (by first | exact m_or_t b138 | exact m_or_f b138)))) | (have h9 : ¬ ((σ.1 32) o.toNatClampNeg).toInt = -5 := b71; exact jr_sub [(0, jf_r E 0), (1, .int j), (2, .int f), (3, .int k), (4, .int o)] rfl (J232 _ (m_hv_push gh b30 (by omega) d3 (by first | exact q_lf_s b153 (q_b_t b213) | exact q_lf_s b153 (q_b_f b213) | exact q_lf_k b153 b171 (q_b_t b213) | exact q_lf_k b153 b171 (q_b_f b213) | exact q_lf_o b153 b171 (q_b_d1 (Int.not_lt.mp b193)) | exact q_lf_o b153 b171 (q_b_d0 (Int.not_le.mpr b193))))))
                · refine jr_iconst C (v := 1) dX11_holds_216 (by decide) ?_
                  refine jr_goto C 221 dX11_holds_217 (by decide) ?_
                  refine jr_iast C ka_M_36 dX11_holds_221 (ji_in (i := (τ.1 0 56)) (by omega) (by omega)) ?_
                  refine jr_aload_n C dX11_holds_222 rfl ?_
                  refine jr_dup C dX11_holds_223 rfl ?_
                  refine jr_getv C kf_X11_320_0 dX11_holds_224 (v := τ.1 0 56) rfl ?_
                  refine jr_iconst C (v := 1) dX11_holds_227 (by decide) ?_
                  refine jr_iadd C dX11_holds_228 ?_
                  refine jr_puti C kp_X11_320_0 dX11_holds_229 ?_
                  first | (have h9 : ((σ.1 32) o.toNatClampNeg).toInt = -3 := b30; exact jr_sub [(0, jf_r E 0), (1, .int j), (2, .int f), (3, .int k), (4, .int o)] rfl (J232 _ (m_hv_not gh h9 (hV.1 h9)))) | (have h9 : ((σ.1 32) o.toNatClampNeg).toInt = -4 := b122; exact jr_sub [(0, jf_r E 0), (1, .int j), (2, .int f), (3, .int k), (4, .int o)] rfl (J232 _ (m_hv_and gh h9 (hV.2 (Or.inl h9))))) | (have h9 := b122; have h8 : ((σ.1 32) o.toNatClampNeg).toInt = -5 := (by omega); exact jr_sub [(0, jf_r E 0), (1, .int j), (2, .int f), (3, .int k), (4, .int o)] rfl (J232 _ (m_hv_or gh h8 (hV.2 (Or.inr h8)) (by first | exact m_or_t b138 | exact m_or_f b138)))) | (have h9 : ¬ ((σ.1 32) o.toNatClampNeg).toInt = -5 := b71; exact jr_sub [(0, jf_r E 0), (1, .int j), (2, .int f), (3, .int k), (4, .int o)] rfl (J232 _ (m_hv_push gh b30 (by omega) d3 (by first | exact q_lf_s b153 (q_b_t b213) | exact q_lf_s b153 (q_b_f b213) | exact q_lf_k b153 b171 (q_b_t b213) | exact q_lf_k b153 b171 (q_b_f b213) | exact q_lf_o b153 b171 (q_b_d1 (Int.not_lt.mp b193)) | exact q_lf_o b153 b171 (q_b_d0 (Int.not_le.mpr b193))))))
            · refine jr_aload_n C dX11_holds_156 rfl ?_
              refine jr_iconst C (v := 0) dX11_holds_157 (by decide) ?_
              refine jr_iload_n C dX11_holds_158 rfl ?_
              refine jr_iload_n C dX11_holds_159 rfl ?_
              refine jr_iload_n C dX11_holds_160 rfl ?_
              refine jr_vip C [.int _, .int _, .int _, .int _] _ (ct_X11_isRow E _ _ _ _ _ r0 r1) ky_X11_isRow kv_X11_isRow kk_M_0 km_X11_371 (by decide) rfl (Nat.le_of_ble_eq_true rfl) dX11_holds_161 ?_
              refine jr_goto C 201 dX11_holds_164 (by decide) ?_
              refine jr_istore C dX11_holds_201 (by decide) ?_
              refine jr_aload_n C dX11_holds_203 rfl ?_
              refine jr_getr C kf_X11_120_0 dX11_holds_204 ?_
              refine jr_aload_n C dX11_holds_207 rfl ?_
              refine jr_getv C kf_X11_320_0 dX11_holds_208 (v := τ.1 0 56) rfl ?_
              refine jr_iload C dX11_holds_211 rfl ?_
              refine jr_nif_eq C 220 dX11_holds_213 (by decide) (fun b213 => ?_) (fun b213 => ?_)
              · refine jr_iconst C (v := 0) dX11_holds_220 (by decide) ?_
                refine jr_iast C ka_M_36 dX11_holds_221 (ji_in (i := (τ.1 0 56)) (by omega) (by omega)) ?_
                refine jr_aload_n C dX11_holds_222 rfl ?_
                refine jr_dup C dX11_holds_223 rfl ?_
                refine jr_getv C kf_X11_320_0 dX11_holds_224 (v := τ.1 0 56) rfl ?_
                refine jr_iconst C (v := 1) dX11_holds_227 (by decide) ?_
                refine jr_iadd C dX11_holds_228 ?_
                refine jr_puti C kp_X11_320_0 dX11_holds_229 ?_
                first | (have h9 : ((σ.1 32) o.toNatClampNeg).toInt = -3 := b30; exact jr_sub [(0, jf_r E 0), (1, .int j), (2, .int f), (3, .int k), (4, .int o)] rfl (J232 _ (m_hv_not gh h9 (hV.1 h9)))) | (have h9 : ((σ.1 32) o.toNatClampNeg).toInt = -4 := b122; exact jr_sub [(0, jf_r E 0), (1, .int j), (2, .int f), (3, .int k), (4, .int o)] rfl (J232 _ (m_hv_and gh h9 (hV.2 (Or.inl h9))))) | (have h9 := b122; have h8 : ((σ.1 32) o.toNatClampNeg).toInt = -5 := (by omega); exact jr_sub [(0, jf_r E 0), (1, .int j), (2, .int f), (3, .int k), (4, .int o)] rfl (J232 _ (m_hv_or gh h8 (hV.2 (Or.inr h8)) (by first | exact m_or_t b138 | exact m_or_f b138)))) | (have h9 : ¬ ((σ.1 32) o.toNatClampNeg).toInt = -5 := b71; exact jr_sub [(0, jf_r E 0), (1, .int j), (2, .int f), (3, .int k), (4, .int o)] rfl (J232 _ (m_hv_push gh b30 (by omega) d3 (by first | exact q_lf_s b153 (q_b_t b213) | exact q_lf_s b153 (q_b_f b213) | exact q_lf_k b153 b171 (q_b_t b213) | exact q_lf_k b153 b171 (q_b_f b213) | exact q_lf_o b153 b171 (q_b_d1 (Int.not_lt.mp b193)) | exact q_lf_o b153 b171 (q_b_d0 (Int.not_le.mpr b193))))))
              · refine jr_iconst C (v := 1) dX11_holds_216 (by decide) ?_
                refine jr_goto C 221 dX11_holds_217 (by decide) ?_
                refine jr_iast C ka_M_36 dX11_holds_221 (ji_in (i := (τ.1 0 56)) (by omega) (by omega)) ?_
                refine jr_aload_n C dX11_holds_222 rfl ?_
                refine jr_dup C dX11_holds_223 rfl ?_
                refine jr_getv C kf_X11_320_0 dX11_holds_224 (v := τ.1 0 56) rfl ?_
                refine jr_iconst C (v := 1) dX11_holds_227 (by decide) ?_
                refine jr_iadd C dX11_holds_228 ?_
                refine jr_puti C kp_X11_320_0 dX11_holds_229 ?_
                first | (have h9 : ((σ.1 32) o.toNatClampNeg).toInt = -3 := b30; exact jr_sub [(0, jf_r E 0), (1, .int j), (2, .int f), (3, .int k), (4, .int o)] rfl (J232 _ (m_hv_not gh h9 (hV.1 h9)))) | (have h9 : ((σ.1 32) o.toNatClampNeg).toInt = -4 := b122; exact jr_sub [(0, jf_r E 0), (1, .int j), (2, .int f), (3, .int k), (4, .int o)] rfl (J232 _ (m_hv_and gh h9 (hV.2 (Or.inl h9))))) | (have h9 := b122; have h8 : ((σ.1 32) o.toNatClampNeg).toInt = -5 := (by omega); exact jr_sub [(0, jf_r E 0), (1, .int j), (2, .int f), (3, .int k), (4, .int o)] rfl (J232 _ (m_hv_or gh h8 (hV.2 (Or.inr h8)) (by first | exact m_or_t b138 | exact m_or_f b138)))) | (have h9 : ¬ ((σ.1 32) o.toNatClampNeg).toInt = -5 := b71; exact jr_sub [(0, jf_r E 0), (1, .int j), (2, .int f), (3, .int k), (4, .int o)] rfl (J232 _ (m_hv_push gh b30 (by omega) d3 (by first | exact q_lf_s b153 (q_b_t b213) | exact q_lf_s b153 (q_b_f b213) | exact q_lf_k b153 b171 (q_b_t b213) | exact q_lf_k b153 b171 (q_b_f b213) | exact q_lf_o b153 b171 (q_b_d1 (Int.not_lt.mp b193)) | exact q_lf_o b153 b171 (q_b_d0 (Int.not_le.mpr b193))))))
          · refine jr_aload_n C dX11_holds_74 rfl ?_
            refine jr_dup C dX11_holds_75 rfl ?_
            refine jr_getv C kf_X11_320_0 dX11_holds_76 (v := τ.1 0 56) rfl ?_
            refine jr_iconst C (v := 1) dX11_holds_79 (by decide) ?_
            refine jr_isub C dX11_holds_80 ?_
            refine jr_puti C kp_X11_320_0 dX11_holds_81 ?_
            refine jr_aload_n C dX11_holds_84 rfl ?_
            refine jr_getr C kf_X11_120_0 dX11_holds_85 ?_
            refine jr_aload_n C dX11_holds_88 rfl ?_
            refine jr_geti C kf_X11_320_0 dX11_holds_89 ?_
            refine jr_iconst C (v := 1) dX11_holds_92 (by decide) ?_
            refine jr_isub C dX11_holds_93 ?_
            refine jr_ialv C ka_M_36 dX11_holds_94 (ji_in (i := (τ.1 0 56) - 1 - 1) (by have := hV.2 (by omega); have := p3 (by omega); omega) (by have := hV.2 (by omega); have := p3 (by omega); omega)) (v := τ.1 36 _) rfl ?_
            refine jr_istore C dX11_holds_95 (by decide) ?_
            refine jr_aload_n C dX11_holds_97 rfl ?_
            refine jr_getr C kf_X11_120_0 dX11_holds_98 ?_
            refine jr_aload_n C dX11_holds_101 rfl ?_
            refine jr_geti C kf_X11_320_0 dX11_holds_102 ?_
            refine jr_ialv C ka_M_36 dX11_holds_105 (ji_in (i := (τ.1 0 56) - 1) (by have := hV.2 (by omega); omega) (by omega)) (v := τ.1 36 _) rfl ?_
            refine jr_istore C dX11_holds_106 (by decide) ?_
            refine jr_aload_n C dX11_holds_108 rfl ?_
            refine jr_getr C kf_X11_120_0 dX11_holds_109 ?_
            refine jr_aload_n C dX11_holds_112 rfl ?_
            refine jr_geti C kf_X11_320_0 dX11_holds_113 ?_
            refine jr_iconst C (v := 1) dX11_holds_116 (by decide) ?_
            refine jr_isub C dX11_holds_117 ?_
            refine jr_iload C dX11_holds_118 rfl ?_
            refine jr_bipush C (v := -4) dX11_holds_120 (by decide) ?_
            refine jr_ncmp_ne C (b := -4) 133 dX11_holds_122 (by decide) rfl rfl (fun b122 => ?_) (fun b122 => ?_)
            · refine jr_iload C dX11_holds_133 rfl ?_
              refine jr_iload C dX11_holds_135 rfl ?_
              refine jr_iadd C dX11_holds_137 ?_
              refine jr_nif_le C 145 dX11_holds_138 (by decide) (fun b138 => ?_) (fun b138 => ?_)
              · refine jr_iconst C (v := 0) dX11_holds_145 (by decide) ?_
                refine jr_iast C ka_M_36 dX11_holds_146 (ji_in (i := (τ.1 0 56) - 1 - 1) (by have := hV.2 (by omega); have := p3 (by omega); omega) (by have := hV.2 (by omega); have := p3 (by omega); omega)) ?_
                refine jr_goto C 232 dX11_holds_147 (by decide) ?_
                first | (have h9 : ((σ.1 32) o.toNatClampNeg).toInt = -3 := b30; exact jr_sub [(0, jf_r E 0), (1, .int j), (2, .int f), (3, .int k), (4, .int o)] rfl (J232 _ (m_hv_not gh h9 (hV.1 h9)))) | (have h9 : ((σ.1 32) o.toNatClampNeg).toInt = -4 := b122; exact jr_sub [(0, jf_r E 0), (1, .int j), (2, .int f), (3, .int k), (4, .int o)] rfl (J232 _ (m_hv_and gh h9 (hV.2 (Or.inl h9))))) | (have h9 := b122; have h8 : ((σ.1 32) o.toNatClampNeg).toInt = -5 := (by omega); exact jr_sub [(0, jf_r E 0), (1, .int j), (2, .int f), (3, .int k), (4, .int o)] rfl (J232 _ (m_hv_or gh h8 (hV.2 (Or.inr h8)) (by first | exact m_or_t b138 | exact m_or_f b138)))) | (have h9 : ¬ ((σ.1 32) o.toNatClampNeg).toInt = -5 := b71; exact jr_sub [(0, jf_r E 0), (1, .int j), (2, .int f), (3, .int k), (4, .int o)] rfl (J232 _ (m_hv_push gh b30 (by omega) d3 (by first | exact q_lf_s b153 (q_b_t b213) | exact q_lf_s b153 (q_b_f b213) | exact q_lf_k b153 b171 (q_b_t b213) | exact q_lf_k b153 b171 (q_b_f b213) | exact q_lf_o b153 b171 (q_b_d1 (Int.not_lt.mp b193)) | exact q_lf_o b153 b171 (q_b_d0 (Int.not_le.mpr b193))))))
              · refine jr_iconst C (v := 1) dX11_holds_141 (by decide) ?_
                refine jr_goto C 146 dX11_holds_142 (by decide) ?_
                refine jr_iast C ka_M_36 dX11_holds_146 (ji_in (i := (τ.1 0 56) - 1 - 1) (by have := hV.2 (by omega); have := p3 (by omega); omega) (by have := hV.2 (by omega); have := p3 (by omega); omega)) ?_
                refine jr_goto C 232 dX11_holds_147 (by decide) ?_
                first | (have h9 : ((σ.1 32) o.toNatClampNeg).toInt = -3 := b30; exact jr_sub [(0, jf_r E 0), (1, .int j), (2, .int f), (3, .int k), (4, .int o)] rfl (J232 _ (m_hv_not gh h9 (hV.1 h9)))) | (have h9 : ((σ.1 32) o.toNatClampNeg).toInt = -4 := b122; exact jr_sub [(0, jf_r E 0), (1, .int j), (2, .int f), (3, .int k), (4, .int o)] rfl (J232 _ (m_hv_and gh h9 (hV.2 (Or.inl h9))))) | (have h9 := b122; have h8 : ((σ.1 32) o.toNatClampNeg).toInt = -5 := (by omega); exact jr_sub [(0, jf_r E 0), (1, .int j), (2, .int f), (3, .int k), (4, .int o)] rfl (J232 _ (m_hv_or gh h8 (hV.2 (Or.inr h8)) (by first | exact m_or_t b138 | exact m_or_f b138)))) | (have h9 : ¬ ((σ.1 32) o.toNatClampNeg).toInt = -5 := b71; exact jr_sub [(0, jf_r E 0), (1, .int j), (2, .int f), (3, .int k), (4, .int o)] rfl (J232 _ (m_hv_push gh b30 (by omega) d3 (by first | exact q_lf_s b153 (q_b_t b213) | exact q_lf_s b153 (q_b_f b213) | exact q_lf_k b153 b171 (q_b_t b213) | exact q_lf_k b153 b171 (q_b_f b213) | exact q_lf_o b153 b171 (q_b_d1 (Int.not_lt.mp b193)) | exact q_lf_o b153 b171 (q_b_d0 (Int.not_le.mpr b193))))))
            · refine jr_iload C dX11_holds_125 rfl ?_
              refine jr_iload C dX11_holds_127 rfl ?_
              refine jr_imul C dX11_holds_129 ?_
              refine jr_goto C 146 dX11_holds_130 (by decide) ?_
              refine jr_iast C ka_M_36 dX11_holds_146 (ji_in (i := (τ.1 0 56) - 1 - 1) (by have := hV.2 (by omega); have := p3 (by omega); omega) (by have := hV.2 (by omega); have := p3 (by omega); omega)) ?_
              refine jr_goto C 232 dX11_holds_147 (by decide) ?_
              first | (have h9 : ((σ.1 32) o.toNatClampNeg).toInt = -3 := b30; exact jr_sub [(0, jf_r E 0), (1, .int j), (2, .int f), (3, .int k), (4, .int o)] rfl (J232 _ (m_hv_not gh h9 (hV.1 h9)))) | (have h9 : ((σ.1 32) o.toNatClampNeg).toInt = -4 := b122; exact jr_sub [(0, jf_r E 0), (1, .int j), (2, .int f), (3, .int k), (4, .int o)] rfl (J232 _ (m_hv_and gh h9 (hV.2 (Or.inl h9))))) | (have h9 := b122; have h8 : ((σ.1 32) o.toNatClampNeg).toInt = -5 := (by omega); exact jr_sub [(0, jf_r E 0), (1, .int j), (2, .int f), (3, .int k), (4, .int o)] rfl (J232 _ (m_hv_or gh h8 (hV.2 (Or.inr h8)) (by first | exact m_or_t b138 | exact m_or_f b138)))) | (have h9 : ¬ ((σ.1 32) o.toNatClampNeg).toInt = -5 := b71; exact jr_sub [(0, jf_r E 0), (1, .int j), (2, .int f), (3, .int k), (4, .int o)] rfl (J232 _ (m_hv_push gh b30 (by omega) d3 (by first | exact q_lf_s b153 (q_b_t b213) | exact q_lf_s b153 (q_b_f b213) | exact q_lf_k b153 b171 (q_b_t b213) | exact q_lf_k b153 b171 (q_b_f b213) | exact q_lf_o b153 b171 (q_b_d1 (Int.not_lt.mp b193)) | exact q_lf_o b153 b171 (q_b_d0 (Int.not_le.mpr b193))))))
      · refine jr_aload_n C dX11_holds_33 rfl ?_
        refine jr_getr C kf_X11_120_0 dX11_holds_34 ?_
        refine jr_aload_n C dX11_holds_37 rfl ?_
        refine jr_getv C kf_X11_320_0 dX11_holds_38 (v := τ.1 0 56) rfl ?_
        refine jr_iconst C (v := 1) dX11_holds_41 (by decide) ?_
        refine jr_isub C dX11_holds_42 ?_
        refine jr_iconst C (v := 1) dX11_holds_43 (by decide) ?_
        refine jr_aload_n C dX11_holds_44 rfl ?_
        refine jr_getr C kf_X11_120_0 dX11_holds_45 ?_
        refine jr_aload_n C dX11_holds_48 rfl ?_
        refine jr_getv C kf_X11_320_0 dX11_holds_49 (v := τ.1 0 56) rfl ?_
        refine jr_iconst C (v := 1) dX11_holds_52 (by decide) ?_
        refine jr_isub C dX11_holds_53 ?_
        refine jr_ialv C ka_M_36 dX11_holds_54 (ji_in (i := (τ.1 0 56) - 1) (by have := hV.1 (by omega); omega) (by omega)) (v := τ.1 36 _) rfl ?_
        refine jr_isub C dX11_holds_55 ?_
        refine jr_iast C ka_M_36 dX11_holds_56 (ji_in (i := (τ.1 0 56) - 1) (by have := hV.1 (by omega); omega) (by omega)) ?_
        refine jr_goto C 232 dX11_holds_57 (by decide) ?_
        first | (have h9 : ((σ.1 32) o.toNatClampNeg).toInt = -3 := b30; exact jr_sub [(0, jf_r E 0), (1, .int j), (2, .int f), (3, .int k), (4, .int o)] rfl (J232 _ (m_hv_not gh h9 (hV.1 h9)))) | (have h9 : ((σ.1 32) o.toNatClampNeg).toInt = -4 := b122; exact jr_sub [(0, jf_r E 0), (1, .int j), (2, .int f), (3, .int k), (4, .int o)] rfl (J232 _ (m_hv_and gh h9 (hV.2 (Or.inl h9))))) | (have h9 := b122; have h8 : ((σ.1 32) o.toNatClampNeg).toInt = -5 := (by omega); exact jr_sub [(0, jf_r E 0), (1, .int j), (2, .int f), (3, .int k), (4, .int o)] rfl (J232 _ (m_hv_or gh h8 (hV.2 (Or.inr h8)) (by first | exact m_or_t b138 | exact m_or_f b138)))) | (have h9 : ¬ ((σ.1 32) o.toNatClampNeg).toInt = -5 := b71; exact jr_sub [(0, jf_r E 0), (1, .int j), (2, .int f), (3, .int k), (4, .int o)] rfl (J232 _ (m_hv_push gh b30 (by omega) d3 (by first | exact q_lf_s b153 (q_b_t b213) | exact q_lf_s b153 (q_b_f b213) | exact q_lf_k b153 b171 (q_b_t b213) | exact q_lf_k b153 b171 (q_b_f b213) | exact q_lf_o b153 b171 (q_b_d1 (Int.not_lt.mp b193)) | exact q_lf_o b153 b171 (q_b_d0 (Int.not_le.mpr b193))))))
  refine jr_aload_n C dX11_holds_0 rfl ?_
  refine jr_iconst C (v := 0) dX11_holds_1 (by decide) ?_
  refine jr_puti C kp_X11_320_0 dX11_holds_2 ?_
  refine jr_iconst C (v := 0) dX11_holds_5 (by decide) ?_
  refine jr_istore C dX11_holds_6 (by decide) ?_
  exact jr_sub [(0, jf_r E 0), (1, .int j), (2, .int f), (3, .int k), (4, .int 0)] rfl (loop 301 _ 0 ⟨mS_p_f (mS_p_r σ), rfl, trivial, rfl⟩ (by decide) n0 (by show _ - 0 < _; omega))
def m_cf (σ : jf_S) (j f k : Int32) : Bool := sp_has ((σ.1 26)) ((σ.1 27) j.toNatClampNeg) j.toNatClampNeg f && m_h σ j f k
theorem ct_X11_countsFor2 (E : jf_E) (σ : jf_S) (j f k : Int32) (j0 : 0 ≤ j.toInt) (j1 : j.toInt < 10) (hR : mI_r σ) (hV : mI_v σ) (hd : m_dep ((σ.1 32)) ((σ.1 0 46)).toNatClampNeg = 1) : jf_I jh_M E yX11_countsFor cX11_countsFor 4 .boolean 2 [jf_r E 0, .int j, .int f, .int k] σ (fun r τ => r = q_b (m_cf σ j f k) ∧ mS_p σ τ) := by
  refine jf_mkI (by decide) (Nat.le_of_ble_eq_true rfl) ?_
  intro G C ret
  refine jr_aload_n C dX11_countsFor_0 rfl ?_
  refine jr_iload_n C dX11_countsFor_1 rfl ?_
  refine jr_iload_n C dX11_countsFor_2 rfl ?_
  refine jr_vi C [.int _, .int _] _ (ct_X11_placeOf E _ _ _ j0 j1 (hV.2.2.1 _).1 (hV.2.2.1 _).2) ky_X11_placeOf kv_X11_placeOf kk_M_0 km_X11_263 (by decide) rfl (Nat.le_of_ble_eq_true rfl) dX11_countsFor_3 (fun r3 τ3 h3 => ?_)
  obtain ⟨q3, rfl⟩ := h3
  unfold m_cf at ret
  cases e3 : sp_has ((σ.1 26)) ((σ.1 27) j.toNatClampNeg) j.toNatClampNeg f with
  | false =>
    have q4 : ¬ 0 ≤ r3.toInt := fun q => by rw [q3.mp q] at e3; cases e3
    rw [e3] at ret
    refine jr_nif_lt C 23 dX11_countsFor_6 (by decide) (fun b6 => ?_) (fun b6 => (by exfalso; omega))
    refine jr_iconst C (v := 0) dX11_countsFor_23 (by decide) ?_
    exact ret _ _ _ _ dX11_countsFor_24 (rfl) (⟨rfl, mS_p_r σ⟩)
  | true =>
    have q4 := q3.mpr e3
    rw [e3] at ret
    refine jr_nif_lt C 23 dX11_countsFor_6 (by decide) (fun b6 => (by exfalso; omega)) (fun b6 => ?_)
    refine jr_aload_n C dX11_countsFor_9 rfl ?_
    refine jr_iload_n C dX11_countsFor_10 rfl ?_
    refine jr_iload_n C dX11_countsFor_11 rfl ?_
    refine jr_iload_n C dX11_countsFor_12 rfl ?_
    refine jr_vi C [.int _, .int _, .int _] _ (ct_X11_holds2 E _ _ _ _ j0 j1 hR hd) ky_X11_holds kv_X11_holds kk_M_0 km_X11_375 (by decide) rfl (Nat.le_of_ble_eq_true rfl) dX11_countsFor_13 (fun r13 τ13 h13 => ?_)
    obtain ⟨h13a, h13⟩ := h13
    refine jr_nif_eq C 23 dX11_countsFor_16 (by decide) (fun b16 => ?_) (fun b16 => ?_)
    · refine jr_iconst C (v := 0) dX11_countsFor_23 (by decide) ?_
      exact ret _ _ _ _ dX11_countsFor_24 (rfl) (⟨by rw [h13a] at b16; rw [q_b_z b16]; rfl, h13⟩)
    · refine jr_iconst C (v := 1) dX11_countsFor_19 (by decide) ?_
      refine jr_goto C 24 dX11_countsFor_20 (by decide) ?_
      exact ret _ _ _ _ dX11_countsFor_24 (rfl) (⟨by rw [h13a] at b16; rw [q_b_nz b16]; rfl, h13⟩)
def m_cq (σ : jf_S) (j f k : Int32) : Int32 :=
  if ¬ (0 ≤ k.toInt ∧ k.toInt ≤ 100000) then -1
  else if ¬ ((0 ≤ j.toInt ∧ j.toInt < ((σ.1 0 35)).toInt) ∧ (0 ≤ f.toInt ∧ f.toInt < ((σ.1 0 7)).toInt)) then -2
  else if ((σ.1 0 44)).toInt = 0 then -6 else q_b (m_cf σ j f k)
theorem m_cf_0 (σ : jf_S) (j f k : Int32) : m_cf (jf_i σ 0 0 0) j f k = m_cf σ j f k := by
  unfold m_cf
  rw [m_h_e (σ := σ) (τ := jf_i σ 0 0 0) (fun k h => jf_i_o k (by omega)) rfl rfl, jf_i_o 26 (by decide), jf_i_o 27 (by decide)]
theorem ct_X11_counts2 (E : jf_E) (σ : jf_S) (j f k : Int32) (hR : mI_r σ) (hV : mI_v σ) (hd : ¬ ((σ.1 0 44)).toInt = 0 → m_dep ((σ.1 32)) ((σ.1 0 46)).toNatClampNeg = 1) : jf_I jh_M E yX11_counts cX11_counts 4 .int 3 [jf_r E 0, .int j, .int f, .int k] σ (fun r τ => r = m_cq σ j f k ∧ mS_p (jf_i σ 0 0 0) τ) := by
  refine jf_mkI (by decide) (Nat.le_of_ble_eq_true rfl) ?_
  intro G C ret
  have hJ := hV.1
  have z := mS_p_r (jf_i σ 0 0 0)
  have N1 : ¬ (0 ≤ k.toInt ∧ k.toInt ≤ 100000) → -1 = m_cq σ j f k := fun q => (if_pos q).symm
  have N2 : (0 ≤ k.toInt ∧ k.toInt ≤ 100000) → ¬ ((0 ≤ j.toInt ∧ j.toInt < ((σ.1 0 35)).toInt) ∧ (0 ≤ f.toInt ∧ f.toInt < ((σ.1 0 7)).toInt)) → -2 = m_cq σ j f k := fun q1 q2 => by
    unfold m_cq; rw [if_neg (fun h => h q1), if_pos q2]
  have N3 : (0 ≤ k.toInt ∧ k.toInt ≤ 100000) → ((0 ≤ j.toInt ∧ j.toInt < ((σ.1 0 35)).toInt) ∧ (0 ≤ f.toInt ∧ f.toInt < ((σ.1 0 7)).toInt)) → ((σ.1 0 44)).toInt = 0 → -6 = m_cq σ j f k := fun q1 q2 q3 => by
    unfold m_cq; rw [if_neg (fun h => h q1), if_neg (fun h => h q2), if_pos q3]
  have N4 : (0 ≤ k.toInt ∧ k.toInt ≤ 100000) → ((0 ≤ j.toInt ∧ j.toInt < ((σ.1 0 35)).toInt) ∧ (0 ≤ f.toInt ∧ f.toInt < ((σ.1 0 7)).toInt)) → ¬ ((σ.1 0 44)).toInt = 0 → ∀ r s : Int32, s = q_b (m_cf (jf_i σ 0 0 0) j f k) → ((¬ s.toInt = 0 ∧ r = 1) ∨ (s.toInt = 0 ∧ r = 0)) → r = m_cq σ j f k := fun q1 q2 q3 r s e h => by
    rw [m_cf_0] at e
    unfold m_cq; rw [if_neg (fun h => h q1), if_neg (fun h => h q2), if_neg q3]
    subst e
    rcases h with ⟨h, rfl⟩ | ⟨h, rfl⟩
    · rw [q_b_nz h]; rfl
    · rw [q_b_z h]; rfl
  refine jr_aload_n C dX11_counts_0 rfl ?_
  refine jr_iconst C (v := 0) dX11_counts_1 (by decide) ?_
  refine jr_puti C kp_X11_144_0 dX11_counts_2 ?_
  refine jr_iload_n C dX11_counts_5 rfl ?_
  refine jr_i2l C dX11_counts_6 ?_
  refine jr_lconst C (v := 0) dX11_counts_7 (by decide) ?_
  refine jr_ldc2 C kc_X11_267 dX11_counts_8 ?_
  refine jr_sip C [.long _, .long _, .long _] _ (ct_X11_inw E _ _ _ _ 0 100000 rfl rfl) ky_X11_in ks_X11_in km_X11_153 (by decide) rfl (Nat.le_of_ble_eq_true rfl) dX11_counts_11 ?_
  refine jr_if_ne C 19 dX11_counts_14 (by decide) (fun b14 => ?_) (fun b14 => ?_)
  · replace b14 := jb_t b14
    refine jr_aload_n C dX11_counts_19 rfl ?_
    refine jr_iload_n C dX11_counts_20 rfl ?_
    refine jr_vip C [.int _] _ (ct_X11_isJuror E _ _ (σ.1 0 35) rfl) ky_X11_isJuror kv_X11_isJuror kk_M_0 km_X11_260 (by decide) rfl (Nat.le_of_ble_eq_true rfl) dX11_counts_21 ?_
    refine jr_if_eq C 35 dX11_counts_24 (by decide) (fun b24 => ?_) (fun b24 => ?_)
    · replace b24 := jb_f b24
      refine jr_bipush C (v := -2) dX11_counts_35 (by decide) ?_
      exact ret _ _ _ _ dX11_counts_37 rfl (⟨N2 (by omega) (by omega), z⟩)
    · replace b24 := jb_t b24
      refine jr_aload_n C dX11_counts_27 rfl ?_
      refine jr_iload_n C dX11_counts_28 rfl ?_
      refine jr_vip C [.int _] _ (ct_X11_isFilm E _ _ (σ.1 0 7) rfl) ky_X11_isFilm kv_X11_isFilm kk_M_0 km_X11_187 (by decide) rfl (Nat.le_of_ble_eq_true rfl) dX11_counts_29 ?_
      refine jr_if_ne C 38 dX11_counts_32 (by decide) (fun b32 => ?_) (fun b32 => ?_)
      · replace b32 := jb_t b32
        refine jr_aload_n C dX11_counts_38 rfl ?_
        refine jr_getv C kf_X11_359_0 dX11_counts_39 (v := σ.1 0 44) rfl ?_
        refine jr_nif_ne C 50 dX11_counts_42 (by decide) (fun b42 => ?_) (fun b42 => ?_)
        · refine jr_aload_n C dX11_counts_50 rfl ?_
          refine jr_iload_n C dX11_counts_51 rfl ?_
          refine jr_iload_n C dX11_counts_52 rfl ?_
          refine jr_iload_n C dX11_counts_53 rfl ?_
          refine jr_vi C [.int _, .int _, .int _] _ (ct_X11_countsFor2 E _ _ _ _ (by omega) (by omega) hR hV (hd b42)) ky_X11_countsFor kv_X11_countsFor kk_M_0 km_X11_379 (by decide) rfl (Nat.le_of_ble_eq_true rfl) dX11_counts_54 (fun r54 τ54 h54 => ?_)
          refine jr_nif_eq C 64 dX11_counts_57 (by decide) (fun b57 => ?_) (fun b57 => ?_)
          · skip
            refine jr_iconst C (v := 0) dX11_counts_64 (by decide) ?_
            exact ret _ _ _ _ dX11_counts_65 rfl (by first | exact ⟨N3 (by omega) (by omega) b42, z⟩ | exact ⟨N4 (by omega) (by omega) b42 _ _ h54.1 (Or.inl ⟨b57, rfl⟩), h54.2⟩ | exact ⟨N4 (by omega) (by omega) b42 _ _ h54.1 (Or.inr ⟨b57, rfl⟩), h54.2⟩)
          · skip
            refine jr_iconst C (v := 1) dX11_counts_60 (by decide) ?_
            refine jr_goto C 65 dX11_counts_61 (by decide) ?_
            exact ret _ _ _ _ dX11_counts_65 rfl (by first | exact ⟨N3 (by omega) (by omega) b42, z⟩ | exact ⟨N4 (by omega) (by omega) b42 _ _ h54.1 (Or.inl ⟨b57, rfl⟩), h54.2⟩ | exact ⟨N4 (by omega) (by omega) b42 _ _ h54.1 (Or.inr ⟨b57, rfl⟩), h54.2⟩)
        · refine jr_bipush C (v := -6) dX11_counts_45 (by decide) ?_
          refine jr_goto C 65 dX11_counts_47 (by decide) ?_
          exact ret _ _ _ _ dX11_counts_65 rfl (by first | exact ⟨N3 (by omega) (by omega) b42, z⟩ | exact ⟨N4 (by omega) (by omega) b42 _ _ h54.1 (Or.inl ⟨b57, rfl⟩), h54.2⟩ | exact ⟨N4 (by omega) (by omega) b42 _ _ h54.1 (Or.inr ⟨b57, rfl⟩), h54.2⟩)
      · replace b32 := jb_f b32
        refine jr_bipush C (v := -2) dX11_counts_35 (by decide) ?_
        exact ret _ _ _ _ dX11_counts_37 rfl (⟨N2 (by omega) (by omega), z⟩)
  · replace b14 := jb_f b14
    refine jr_iconst C (v := -1) dX11_counts_17 (by decide) ?_
    exact ret _ _ _ _ dX11_counts_18 rfl (⟨N1 b14, z⟩)

