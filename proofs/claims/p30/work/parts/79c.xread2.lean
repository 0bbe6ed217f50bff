/-! the class: rules are read and stand, exactly -/
def x_np (σ : jf_S) (L : List Int32) : Prop := ((σ.1 11 4)).toInt = (L.length : Int) ∧ m_ls ((σ.1 56)) L
/-- the reader's token, the draft's numbers and tie changed at will -/
def xS_m (σ τ : jf_S) : Prop := τ.2 = σ.2 ∧ (∀ k, k ≠ 9 → k ≠ 11 → k ≠ 56 → τ.1 k = σ.1 k) ∧ (∀ j, j < 4 → τ.1 9 j = σ.1 9 j) ∧ (∀ j, j < 4 → τ.1 11 j = σ.1 11 j)
theorem xS_m_r (σ : jf_S) : xS_m σ σ := ⟨rfl, fun _ _ _ _ => rfl, fun _ _ => rfl, fun _ _ => rfl⟩
theorem xS_m_t {σ τ υ : jf_S} (h : xS_m σ τ) (g : xS_m τ υ) : xS_m σ υ := ⟨g.1.trans h.1, fun k a b c => (g.2.1 k a b c).trans (h.2.1 k a b c), fun j a => (g.2.2.1 j a).trans (h.2.2.1 j a), fun j a => (g.2.2.2 j a).trans (h.2.2.2 j a)⟩
theorem xS_m_s {σ τ : jf_S} (h : xS_t σ τ) : xS_m σ τ := ⟨h.1, fun k a _ _ => h.2.1 k a, h.2.2, fun j _ => by rw [h.2.1 11 (by decide)]⟩
/-- the reader's token and the draft's numbers changed at will -/
def xS_p (σ τ : jf_S) : Prop := τ.2 = σ.2 ∧ (∀ k, k ≠ 9 → k ≠ 11 → k ≠ 56 → τ.1 k = σ.1 k) ∧ (∀ j, j < 4 → τ.1 9 j = σ.1 9 j) ∧ (∀ j, j ≠ 4 → τ.1 11 j = σ.1 11 j)
theorem xS_p_r (σ : jf_S) : xS_p σ σ := ⟨rfl, fun _ _ _ _ => rfl, fun _ _ => rfl, fun _ _ => rfl⟩
theorem xS_p_t {σ τ υ : jf_S} (h : xS_p σ τ) (g : xS_p τ υ) : xS_p σ υ := ⟨g.1.trans h.1, fun k a b c => (g.2.1 k a b c).trans (h.2.1 k a b c), fun j a => (g.2.2.1 j a).trans (h.2.2.1 j a), fun j a => (g.2.2.2 j a).trans (h.2.2.2 j a)⟩
theorem xS_p_s {σ τ : jf_S} (h : xS_t σ τ) : xS_p σ τ := ⟨h.1, fun k a _ _ => h.2.1 k a, h.2.2, fun j _ => by rw [h.2.1 11 (by decide)]⟩
theorem xS_m_w {σ τ : jf_S} (h : xS_p σ τ) : xS_m σ τ := ⟨h.1, h.2.1, h.2.2.1, fun j a => h.2.2.2 j (by omega)⟩
theorem x_st_m {σ τ : jf_S} {S : List Int32} (z : xS_m σ τ) (h : x_st σ S) : x_st τ S := by
  unfold x_st; rw [z.2.2.2 3 (by decide), z.2.1 55 (by decide) (by decide) (by decide)]; exact h
theorem x_np_t {σ τ : jf_S} {L : List Int32} (z : xS_t σ τ) (h : x_np σ L) : x_np τ L := by
  unfold x_np; rw [z.2.1 11 (by decide), z.2.1 56 (by decide)]; exact h
theorem x_np_p {σ : jf_S} {o : List Int32} {v : Int32} (h : x_np σ o) (hl : o.length < 1000) : x_np (jf_i (jf_i σ 56 ((σ.1 11 4)).toNatClampNeg v) 11 4 ((σ.1 11 4) + 1)) (o ++ [v]) := by
  have e := ji_inc1 (k := (σ.1 11 4)) (by have := h.1; omega)
  refine ⟨?_, ?_⟩
  · show ((σ.1 11 4) + 1).toInt = ((o ++ [v]).length : Int)
    rw [List.length_append]
    have := h.1
    show _ = ((o.length + 1 : Nat) : Int)
    omega
  · show m_ls ((jf_i (jf_i σ 56 ((σ.1 11 4)).toNatClampNeg v) 11 4 ((σ.1 11 4) + 1)).1 56) _
    rw [jf_i_o 56 (by decide), jf_i_at, ji_cl h.1]
    exact m_ls_push h.2
theorem xS_p_p {σ : jf_S} {n : Nat} {v w : Int32} : xS_p σ (jf_i (jf_i σ 56 n v) 11 4 w) := by
  refine ⟨rfl, fun k a b c => ?_, fun j a => ?_, fun j a => ?_⟩
  · rw [jf_i_o k b, jf_i_o k c]
  · rw [jf_i_o 9 (by decide), jf_i_o 9 (by decide)]
  · rw [jf_i_ne a, jf_i_o 11 (by decide)]
theorem xS_m_i {σ : jf_S} {w : Int32} : xS_m σ (jf_i σ 11 5 w) := by
  refine ⟨rfl, fun k a b c => ?_, fun j a => ?_, fun j a => ?_⟩
  · rw [jf_i_o k b]
  · rw [jf_i_o 9 (by decide)]
  · rw [jf_i_ne (by omega)]
theorem ct_X7_addNumber2 (E : jf_E) (σ : jf_S) (v : Int32) (hn : 0 ≤ ((σ.1 11 4)).toInt ∧ ((σ.1 11 4)).toInt < 5) : jf_I jh_X E yX7_addNumber cX7_addNumber 2 .boolean 0 [jf_r E 11, .int v] σ (fun r τ => r = 1 ∧ τ = jf_i (jf_i σ 56 ((σ.1 11 4)).toNatClampNeg v) 11 4 ((σ.1 11 4) + 1)) := by
  refine jf_mkI (by decide) (Nat.le_of_ble_eq_true rfl) ?_
  intro G C ret
  refine jr_aload_n C dX7_addNumber_0 rfl ?_
  refine jr_getv C kf_X7_24_11 dX7_addNumber_1 (v := σ.1 11 4) rfl ?_
  refine jr_iconst C (v := 5) dX7_addNumber_4 (by decide) ?_
  refine jr_ncmp_lt C (b := 5) 10 dX7_addNumber_5 (by decide) rfl rfl (fun b5 => ?_) (fun b5 => ?_)
  · refine jr_aload_n C dX7_addNumber_10 rfl ?_
    refine jr_getr C kf_X7_13_11 dX7_addNumber_11 ?_
    refine jr_aload_n C dX7_addNumber_14 rfl ?_
    refine jr_getv C kf_X7_24_11 dX7_addNumber_15 (v := σ.1 11 4) rfl ?_
    refine jr_iload_n C dX7_addNumber_18 rfl ?_
    refine jr_iast C ka_X_56 dX7_addNumber_19 (ji_in (i := (σ.1 11 4)) (by omega) (by omega)) ?_
    refine jr_aload_n C dX7_addNumber_20 rfl ?_
    refine jr_dup C dX7_addNumber_21 rfl ?_
    refine jr_getv C kf_X7_24_11 dX7_addNumber_22 (v := σ.1 11 4) rfl ?_
    refine jr_iconst C (v := 1) dX7_addNumber_25 (by decide) ?_
    refine jr_iadd C dX7_addNumber_26 ?_
    refine jr_puti C kp_X7_24_11 dX7_addNumber_27 ?_
    refine jr_iconst C (v := 1) dX7_addNumber_30 (by decide) ?_
    exact ret _ _ _ _ dX7_addNumber_31 (rfl) (by first | exact ⟨rfl, rfl⟩ | (exfalso; omega))
  · refine jr_iconst C (v := 0) dX7_addNumber_8 (by decide) ?_
    exact ret _ _ _ _ dX7_addNumber_9 (rfl) (by first | exact ⟨rfl, rfl⟩ | (exfalso; omega))
theorem x_num0 {w : Int32} {v : Int} (h : w.toInt = v) (h0 : 0 ≤ v) (h1 : v ≤ 1000) : w = Int32.ofInt v := Int32.toInt_inj.mp (by rw [h, fb_ofI (by omega) (by omega)])
theorem ct_X6_takePoints2 (E : jf_E) (σ : jf_S) (a : Nat → Int32) (n f : Nat) (o : List Int32) (h : x_tk a n σ f) (hs : x_np σ o) (ho : o.length < 5) : jf_I jh_X E yX6_takePoints cX6_takePoints 2 .boolean 2 [jf_r E 9] σ (fun r τ => (r = 1 ∧ (tk_k a n f = 2 ∧ tk_v a n f ≤ 1000) ∧ x_tk a n τ (tk_x a n f) ∧ x_np τ (o ++ [Int32.ofInt (tk_v a n f)]) ∧ xS_p σ τ) ∨ (r = 0 ∧ ¬ (tk_k a n f = 2 ∧ tk_v a n f ≤ 1000) ∧ τ = σ)) := by
  refine jf_mkI (by decide) (Nat.le_of_ble_eq_true rfl) ?_
  intro G C ret
  refine jr_aload_n C dX6_takePoints_0 rfl ?_
  refine jr_getv C kf_X6_71_9 dX6_takePoints_1 (v := σ.1 9 6) rfl ?_
  refine jr_istore_n C dX6_takePoints_4 (by decide) ?_
  refine jr_aload_n C dX6_takePoints_5 rfl ?_
  refine jr_vi C [] _ (ct_X6_takeNumber2 E _ a n f h) ky_X6_takeNumber kv_X6_takeNumber kk_X_9 km_X6_74 (by decide) rfl (Nat.le_of_ble_eq_true rfl) dX6_takePoints_6 (fun r6 τ6 h6 => ?_)
  refine jr_nif_eq C 27 dX6_takePoints_9 (by decide) (fun b9 => ?_) (fun b9 => ?_)
  · first | (have q9 := x_y h6 b9; obtain ⟨w9, z9, k9⟩ := q9) | (have q9 := x_n h6 b9; obtain ⟨w9, e9⟩ := q9; subst e9)
    refine jr_iconst C (v := 0) dX6_takePoints_27 (by decide) ?_
    exact ret _ _ _ _ dX6_takePoints_28 (rfl) (by first | exact absurd b20 (by decide) | (have e0 := x_num0 (w := (σ.1 9 6)) (by rw [h.2.2.2.2, if_pos w9.1]) (tk_v2 w9.1) w9.2; rw [← e0]; exact Or.inl ⟨rfl, w9, k9, x_np_p (x_np_t z9 hs) (by omega), xS_p_t (xS_p_s z9) xS_p_p⟩) | exact Or.inr ⟨rfl, w9, rfl⟩)
  · first | (have q9 := x_y h6 b9; obtain ⟨w9, z9, k9⟩ := q9) | (have q9 := x_n h6 b9; obtain ⟨w9, e9⟩ := q9; subst e9)
    refine jr_aload_n C dX6_takePoints_12 rfl ?_
    refine jr_getr C kf_X6_18_9 dX6_takePoints_13 ?_
    refine jr_iload_n C dX6_takePoints_16 rfl ?_
    refine jr_vi C [.int _] _ (ct_X7_addNumber2 E _ _ (by have := (x_np_t z9 hs).1; omega)) ky_X7_addNumber kv_X7_addNumber kk_X_11 km_X6_77 (by decide) rfl (Nat.le_of_ble_eq_true rfl) dX6_takePoints_17 (fun r17 τ17 h17 => ?_)
    obtain ⟨e17, g17⟩ := h17; subst e17; subst g17
    refine jr_nif_eq C 27 dX6_takePoints_20 (by decide) (fun b20 => ?_) (fun b20 => ?_)
    · refine jr_iconst C (v := 0) dX6_takePoints_27 (by decide) ?_
      exact ret _ _ _ _ dX6_takePoints_28 (rfl) (by first | exact absurd b20 (by decide) | (have e0 := x_num0 (w := (σ.1 9 6)) (by rw [h.2.2.2.2, if_pos w9.1]) (tk_v2 w9.1) w9.2; rw [← e0]; exact Or.inl ⟨rfl, w9, k9, x_np_p (x_np_t z9 hs) (by omega), xS_p_t (xS_p_s z9) xS_p_p⟩) | exact Or.inr ⟨rfl, w9, rfl⟩)
    · refine jr_iconst C (v := 1) dX6_takePoints_23 (by decide) ?_
      refine jr_goto C 28 dX6_takePoints_24 (by decide) ?_
      exact ret _ _ _ _ dX6_takePoints_28 (rfl) (by first | exact absurd b20 (by decide) | (have e0 := x_num0 (w := (σ.1 9 6)) (by rw [h.2.2.2.2, if_pos w9.1]) (tk_v2 w9.1) w9.2; rw [← e0]; exact Or.inl ⟨rfl, w9, k9, x_np_p (x_np_t z9 hs) (by omega), xS_p_t (xS_p_s z9) xS_p_p⟩) | exact Or.inr ⟨rfl, w9, rfl⟩)
def x_man (a : Nat → Int32) (n : Nat) (σ τ : jf_S) (res : q_R) (r : Int32) : Prop := (∀ s, res = .inl s → r = 1 ∧ x_tk a n τ s.1 ∧ x_np τ s.2) ∧ (∀ e, res = .inr e → r = 0 ∧ ((τ.1 9 4)).toInt = (e : Int)) ∧ xS_p σ τ
theorem ct_X6_takeManner2 (E : jf_E) (σ : jf_S) (vq : Value) (ad av : Nat → Nat) (a : Nat → Int32) (n f : Nat) (h : x_tk a n σ f) (hs : x_np σ []) : jf_IZ (js_Z vq ad av (jf_A jh_X E)) jh_X E yX6_takeManner cX6_takeManner 2 .boolean 5 [jf_r E 9] σ (fun r τ => x_man a n σ τ (q_man a n f) r) := by
  refine jf_mkIZ (by decide) (Nat.le_of_ble_eq_true rfl) ?_
  intro G C hZ ret
  have ok : ∀ (υ : jf_S) (s : Nat × List Int32), q_man a n f = .inl s → x_tk a n υ s.1 → x_np υ s.2 → xS_p σ υ → x_man a n σ υ (q_man a n f) 1 := fun υ s q k m z => ⟨fun s' hs => (by rw [q] at hs; cases hs; exact ⟨rfl, k, m⟩), fun e he => (by rw [q] at he; cases he), z⟩
  have bad : ∀ (υ : jf_S) (e : Nat), q_man a n f = .inr e → ((υ.1 9 4)).toInt = (e : Int) → xS_p σ υ → x_man a n σ υ (q_man a n f) 0 := fun υ e q k z => ⟨fun s hs => (by rw [q] at hs; cases hs), fun e' he => (by rw [q] at he; cases he; exact ⟨rfl, k⟩), z⟩
  have l31 : ∀ (m : Nat) (τ : jf_S) (i : Int32) (g : Nat) (o : List Int32), x_tk a n τ g → x_np τ o → xS_p σ τ → i.toInt = (o.length : Int) → o.length ≤ 5 → q_man a n f = q_pts a n (5 - o.length) g o → 5 - o.length < m → jf_X jh_X E G 2 31 [(0, jf_r E 9), (1, .int i)] [] τ := by
    intro m
    induction m with
    | zero => intro τ i g o k np z hi ho q g3; exfalso; omega
    | succ m ih =>
      intro τ i g o k np z hi ho q g3
      have e1 := ji_inc (k := i) (by omega)
      have nn := k.2.2.2.2
      have n2 : ¬ ((τ.1 9 6)).toInt = -1 → tk_k a n g = 2 := fun w => Decidable.byContradiction (fun c => w (by rw [nn, if_neg c]))
      have n1 : ((τ.1 9 6)).toInt = -1 → ¬ tk_k a n g = 2 := fun w c => by rw [nn, if_pos c] at w; have := tk_v2 c; omega
      have s1 : o.length < 5 → q_pts a n (5 - o.length) g o = (if tk_k a n g = 2 then (if tk_v a n g ≤ 1000 then q_pts a n (5 - (o.length + 1)) (tk_x a n g) (o ++ [Int32.ofInt (tk_v a n g)]) else .inr g) else .inl (g, o)) := fun w => by rw [show 5 - o.length = (5 - (o.length + 1)) + 1 by omega]; rfl
      have s0 : ¬ o.length < 5 → q_pts a n (5 - o.length) g o = .inl (g, o) := fun w => by rw [show 5 - o.length = 0 by omega]; rfl
      refine jr_iload_n C dX6_takeManner_31 rfl ?_
      refine jr_iconst C (v := 5) dX6_takeManner_32 (by decide) ?_
      refine jr_ncmp_ge C (b := 5) 59 dX6_takeManner_33 (by decide) rfl rfl (fun b33 => ?_) (fun b33 => ?_)
      · refine jr_iconst C (v := 1) dX6_takeManner_59 (by decide) ?_
        exact ret _ _ _ _ dX6_takeManner_60 (rfl) (by first | exact ok _ (g, o) (by rw [q, s0 (by omega)]) k np z | exact ok _ (g, o) (by rw [q, s1 (by omega), if_neg (n1 b41)]) k np z)
      · refine jr_aload_n C dX6_takeManner_36 rfl ?_
        refine jr_getv C kf_X6_71_9 dX6_takeManner_37 (v := τ.1 9 6) rfl ?_
        refine jr_iconst C (v := -1) dX6_takeManner_40 (by decide) ?_
        refine jr_ncmp_eq C (b := -1) 59 dX6_takeManner_41 (by decide) rfl rfl (fun b41 => ?_) (fun b41 => ?_)
        · refine jr_iconst C (v := 1) dX6_takeManner_59 (by decide) ?_
          exact ret _ _ _ _ dX6_takeManner_60 (rfl) (by first | exact ok _ (g, o) (by rw [q, s0 (by omega)]) k np z | exact ok _ (g, o) (by rw [q, s1 (by omega), if_neg (n1 b41)]) k np z)
        · refine jr_aload_n C dX6_takeManner_44 rfl ?_
          refine jr_vi C [] _ (ct_X6_takePoints2 E _ a n g o k np (by omega)) ky_X6_takePoints kv_X6_takePoints kk_X_9 km_X6_68 (by decide) rfl (Nat.le_of_ble_eq_true rfl) dX6_takeManner_45 (fun r45 τ45 h45 => ?_)
          refine jr_nif_ne C 53 dX6_takeManner_48 (by decide) (fun b48 => ?_) (fun b48 => ?_)
          · first | (have q9 := x_y h45 b48; obtain ⟨w48, k48, np48, z48⟩ := q9) | (have q9 := x_n h45 b48; obtain ⟨w48, e48⟩ := q9; subst e48)
            refine jr_iinc C _ dX6_takeManner_53 rfl rfl (by decide) ?_
            refine jr_goto C 31 dX6_takeManner_56 (by decide) ?_
            exact jr_sub [(0, jf_r E 9), (1, .int _)] rfl (ih _ _ (tk_x a n g) (o ++ [Int32.ofInt (tk_v a n g)]) k48 np48 (xS_p_t z z48) (by rw [List.length_append]; show _ = ((o.length + 1 : Nat) : Int); omega) (by rw [List.length_append]; show o.length + 1 ≤ 5; omega) (by rw [q, s1 (by omega), if_pos w48.1, if_pos w48.2, List.length_append]; rfl) (by rw [List.length_append]; show 5 - (o.length + 1) < _; omega))
          · first | (have q9 := x_y h45 b48; obtain ⟨w48, k48, np48, z48⟩ := q9) | (have q9 := x_n h45 b48; obtain ⟨w48, e48⟩ := q9; subst e48)
            refine jr_iconst C (v := 0) dX6_takeManner_51 (by decide) ?_
            exact ret _ _ _ _ dX6_takeManner_52 (rfl) (bad _ g (by rw [q, s1 (by omega), if_pos (n2 b41), if_neg (fun w => w48 ⟨n2 b41, w⟩)]) k.2.2.1 z)
  have qr : tk_wb a n f [114, 111, 117, 110, 100, 115] = true → q_man a n f = .inl (tk_x a n f, []) := fun w => by unfold q_man; rw [if_pos w]
  have qp : ¬ tk_wb a n f [114, 111, 117, 110, 100, 115] = true → tk_wb a n f [112, 111, 105, 110, 116, 115] = true → q_man a n f = (if tk_k a n (tk_x a n f) = 2 ∧ tk_v a n (tk_x a n f) ≤ 1000 then q_pts a n 4 (tk_x a n (tk_x a n f)) [Int32.ofInt (tk_v a n (tk_x a n f))] else .inr (tk_x a n f)) := fun w v => by unfold q_man q_pn; rw [if_neg w, if_pos v]
  have qe : ¬ tk_wb a n f [114, 111, 117, 110, 100, 115] = true → ¬ tk_wb a n f [112, 111, 105, 110, 116, 115] = true → q_man a n f = .inr f := fun w v => by unfold q_man; rw [if_neg w, if_neg v]
  refine jr_aload_n C dX6_takeManner_0 rfl ?_
  refine jr_ldcS C (hZ.2 2 _ rfl).1 dX6_takeManner_1 ?_
  refine jr_viZ C (js_ZK vq ad av _) hZ [_] _ (ct_X6_takeWord2 E _ vq ad av 2 _ rfl a n f h) ky_X6_takeWord kv_X6_takeWord kk_X_9 km_X6_40 (by omega) rfl (Nat.le_of_ble_eq_true rfl) dX6_takeManner_3 (fun r3 τ3 h3 => ?_)
  refine jr_nif_eq C 11 dX6_takeManner_6 (by decide) (fun b6 => ?_) (fun b6 => ?_)
  · first | (have q9 := x_y h3 b6; obtain ⟨w6, z6, k6⟩ := q9) | (have q9 := x_n h3 b6; obtain ⟨w6, e6⟩ := q9; subst e6)
    refine jr_aload_n C dX6_takeManner_11 rfl ?_
    refine jr_ldcS C (hZ.2 3 _ rfl).1 dX6_takeManner_12 ?_
    refine jr_viZ C (js_ZK vq ad av _) hZ [_] _ (ct_X6_takeWord2 E _ vq ad av 3 _ rfl a n f h) ky_X6_takeWord kv_X6_takeWord kk_X_9 km_X6_40 (by omega) rfl (Nat.le_of_ble_eq_true rfl) dX6_takeManner_14 (fun r14 τ14 h14 => ?_)
    refine jr_nif_eq C 27 dX6_takeManner_17 (by decide) (fun b17 => ?_) (fun b17 => ?_)
    · first | (have q9 := x_y h14 b17; obtain ⟨w17, z17, k17⟩ := q9) | (have q9 := x_n h14 b17; obtain ⟨w17, e17⟩ := q9; subst e17)
      refine jr_iconst C (v := 0) dX6_takeManner_27 (by decide) ?_
      exact ret _ _ _ _ dX6_takeManner_28 (rfl) (by first | exact bad _ f (qe w6 w17) h.2.2.1 (xS_p_r _) | exact bad _ (tk_x a n f) (by rw [qp w6 w17, if_neg w24]) k17.2.2.1 (xS_p_s z17))
    · first | (have q9 := x_y h14 b17; obtain ⟨w17, z17, k17⟩ := q9) | (have q9 := x_n h14 b17; obtain ⟨w17, e17⟩ := q9; subst e17)
      refine jr_aload_n C dX6_takeManner_20 rfl ?_
      refine jr_vi C [] _ (ct_X6_takePoints2 E _ a n (tk_x a n f) [] k17 (x_np_t z17 hs) (by decide)) ky_X6_takePoints kv_X6_takePoints kk_X_9 km_X6_68 (by decide) rfl (Nat.le_of_ble_eq_true rfl) dX6_takeManner_21 (fun r21 τ21 h21 => ?_)
      refine jr_nif_ne C 29 dX6_takeManner_24 (by decide) (fun b24 => ?_) (fun b24 => ?_)
      · first | (have q9 := x_y h21 b24; obtain ⟨w24, k24, np24, z24⟩ := q9) | (have q9 := x_n h21 b24; obtain ⟨w24, e24⟩ := q9; subst e24)
        refine jr_iconst C (v := 1) dX6_takeManner_29 (by decide) ?_
        refine jr_istore_n C dX6_takeManner_30 (by decide) ?_
        exact jr_sub [(0, jf_r E 9), (1, .int 1)] rfl (l31 6 _ 1 _ [Int32.ofInt (tk_v a n (tk_x a n f))] k24 np24 (xS_p_t (xS_p_s z17) z24) rfl (by show 1 ≤ 5; decide) (by rw [qp w6 w17, if_pos w24]; rfl) (by show 5 - 1 < 6; decide))
      · first | (have q9 := x_y h21 b24; obtain ⟨w24, k24, np24, z24⟩ := q9) | (have q9 := x_n h21 b24; obtain ⟨w24, e24⟩ := q9; subst e24)
        refine jr_iconst C (v := 0) dX6_takeManner_27 (by decide) ?_
        exact ret _ _ _ _ dX6_takeManner_28 (rfl) (by first | exact bad _ f (qe w6 w17) h.2.2.1 (xS_p_r _) | exact bad _ (tk_x a n f) (by rw [qp w6 w17, if_neg w24]) k17.2.2.1 (xS_p_s z17))
  · first | (have q9 := x_y h3 b6; obtain ⟨w6, z6, k6⟩ := q9) | (have q9 := x_n h3 b6; obtain ⟨w6, e6⟩ := q9; subst e6)
    refine jr_iconst C (v := 1) dX6_takeManner_9 (by decide) ?_
    exact ret _ _ _ _ dX6_takeManner_10 (rfl) (ok _ _ (qr w6) k6 (x_np_t z6 hs) (xS_p_s z6))
/-- the class's number of a tie -/
def q_ti (t : Int32) : Int32 := if t = 0 then 1 else if t = 1 then 0 else 2
def x_tie (a : Nat → Int32) (n f : Nat) (σ τ : jf_S) (r : Int32) : Prop := ((tk_wb a n f [102, 97, 109, 101] = true ∨ tk_wb a n f [102, 105, 108, 109] = true ∨ tk_wb a n f [102, 105, 114, 115, 116] = true) → r = 1 ∧ x_tk a n τ (tk_x a n f) ∧ (τ.1 11 5) = (if tk_wb a n f [102, 97, 109, 101] = true then 1 else if tk_wb a n f [102, 105, 108, 109] = true then 0 else 2) ∧ (τ.1 11 4) = (σ.1 11 4) ∧ (τ.1 56) = (σ.1 56)) ∧ (¬ (tk_wb a n f [102, 97, 109, 101] = true ∨ tk_wb a n f [102, 105, 108, 109] = true ∨ tk_wb a n f [102, 105, 114, 115, 116] = true) → r = 0 ∧ τ = σ) ∧ xS_m σ τ
theorem ct_X6_takeTie2 (E : jf_E) (σ : jf_S) (vq : Value) (ad av : Nat → Nat) (a : Nat → Int32) (n f : Nat) (h : x_tk a n σ f) (ht : (σ.1 11 5) = 0) : jf_IZ (js_Z vq ad av (jf_A jh_X E)) jh_X E yX6_takeTie cX6_takeTie 1 .boolean 5 [jf_r E 9] σ (fun r τ => x_tie a n f σ τ r) := by
  refine jf_mkIZ (by decide) (Nat.le_of_ble_eq_true rfl) ?_
  intro G C hZ ret
  have nf : tk_wb a n f [102, 105, 114, 115, 116] = true → ¬ tk_wb a n f [102, 105, 108, 109] = true := fun q r => by have h1 := (tk_wb_i.mp q).1; have h2 := (tk_wb_i.mp r).1; rw [h1] at h2; exact absurd h2 (by decide)
  have cn : ∀ υ : jf_S, xS_t σ υ → (υ.1 11 4) = (σ.1 11 4) ∧ (υ.1 56) = (σ.1 56) ∧ (υ.1 11 5) = 0 := fun υ z => ⟨by rw [z.2.1 11 (by decide)], z.2.1 56 (by decide), by rw [z.2.1 11 (by decide)]; exact ht⟩
  refine jr_aload_n C dX6_takeTie_0 rfl ?_
  refine jr_ldcS C (hZ.2 4 _ rfl).1 dX6_takeTie_1 ?_
  refine jr_viZ C (js_ZK vq ad av _) hZ [_] _ (ct_X6_takeWord2 E _ vq ad av 4 _ rfl a n f h) ky_X6_takeWord kv_X6_takeWord kk_X_9 km_X6_40 (by omega) rfl (Nat.le_of_ble_eq_true rfl) dX6_takeTie_3 (fun r3 τ3 h3 => ?_)
  refine jr_nif_eq C 19 dX6_takeTie_6 (by decide) (fun b6 => ?_) (fun b6 => ?_)
  · first | (have q9 := x_y h3 b6; obtain ⟨w6, z6, k6⟩ := q9) | (have q9 := x_n h3 b6; obtain ⟨w6, e6⟩ := q9; subst e6)
    refine jr_aload_n C dX6_takeTie_19 rfl ?_
    refine jr_ldcS C (hZ.2 5 _ rfl).1 dX6_takeTie_20 ?_
    refine jr_viZ C (js_ZK vq ad av _) hZ [_] _ (ct_X6_takeWord2 E _ vq ad av 5 _ rfl a n f h) ky_X6_takeWord kv_X6_takeWord kk_X_9 km_X6_40 (by omega) rfl (Nat.le_of_ble_eq_true rfl) dX6_takeTie_22 (fun r22 τ22 h22 => ?_)
    refine jr_nif_eq C 38 dX6_takeTie_25 (by decide) (fun b25 => ?_) (fun b25 => ?_)
    · first | (have q9 := x_y h22 b25; obtain ⟨w25, z25, k25⟩ := q9) | (have q9 := x_n h22 b25; obtain ⟨w25, e25⟩ := q9; subst e25)
      refine jr_aload_n C dX6_takeTie_38 rfl ?_
      refine jr_ldcS C (hZ.2 6 _ rfl).1 dX6_takeTie_39 ?_
      refine jr_viZ C (js_ZK vq ad av _) hZ [_] _ (ct_X6_takeWord2 E _ vq ad av 6 _ rfl a n f h) ky_X6_takeWord kv_X6_takeWord kk_X_9 km_X6_40 (by omega) rfl (Nat.le_of_ble_eq_true rfl) dX6_takeTie_41 (fun r41 τ41 h41 => ?_)
      exact ret _ _ _ _ dX6_takeTie_44 ((by rcases h41 with q | q; (rw [q.1]; rfl); (rw [q.1]; rfl))) ((by rcases h41 with ⟨q1, q2, q3, q4⟩ | ⟨q1, q2, q3⟩; exact ⟨fun _ => ⟨q1, q4, (by rw [if_neg w6, if_pos q2]; exact (cn _ q3).2.2), (cn _ q3).1, (cn _ q3).2.1⟩, fun q => absurd (Or.inr (Or.inl q2)) q, xS_m_s q3⟩; exact ⟨fun q => absurd q (fun q => by rcases q with q | q | q; exact w6 q; exact q2 q; exact w25 q), fun _ => ⟨q1, q3⟩, (by rw [q3]; exact xS_m_r _)⟩))
    · first | (have q9 := x_y h22 b25; obtain ⟨w25, z25, k25⟩ := q9) | (have q9 := x_n h22 b25; obtain ⟨w25, e25⟩ := q9; subst e25)
      refine jr_aload_n C dX6_takeTie_28 rfl ?_
      refine jr_getr C kf_X6_18_9 dX6_takeTie_29 ?_
      refine jr_iconst C (v := 2) dX6_takeTie_32 (by decide) ?_
      refine jr_puti C kp_X6_82_11 dX6_takeTie_33 ?_
      refine jr_iconst C (v := 1) dX6_takeTie_36 (by decide) ?_
      exact ret _ _ _ _ dX6_takeTie_37 (rfl) (⟨fun _ => ⟨rfl, k25, (by rw [if_neg w6, if_neg (nf w25)]; rfl), (cn _ z25).1, (cn _ z25).2.1⟩, fun q => absurd (Or.inr (Or.inr w25)) q, xS_m_t (xS_m_s z25) xS_m_i⟩)
  · first | (have q9 := x_y h3 b6; obtain ⟨w6, z6, k6⟩ := q9) | (have q9 := x_n h3 b6; obtain ⟨w6, e6⟩ := q9; subst e6)
    refine jr_aload_n C dX6_takeTie_9 rfl ?_
    refine jr_getr C kf_X6_18_9 dX6_takeTie_10 ?_
    refine jr_iconst C (v := 1) dX6_takeTie_13 (by decide) ?_
    refine jr_puti C kp_X6_82_11 dX6_takeTie_14 ?_
    refine jr_iconst C (v := 1) dX6_takeTie_17 (by decide) ?_
    exact ret _ _ _ _ dX6_takeTie_18 (rfl) (⟨fun _ => ⟨rfl, k6, (by rw [if_pos w6]; rfl), (cn _ z6).1, (cn _ z6).2.1⟩, fun q => absurd (Or.inl w6) q, xS_m_t (xS_m_s z6) xS_m_i⟩)
theorem ct_X6_takeCond2 (E : jf_E) (σ : jf_S) (vq : Value) (ad av : Nat → Nat) (p : Int32) (a : Nat → Int32) (n f : Nat) (S : List Int32) (hp : p.toInt = 0) (h : x_tk a n σ f) (hs : x_st σ S) (hS : S.length + 1 ≤ f) : jf_IZ (js_Z vq ad av (jf_A jh_X E)) jh_X E yX6_takeCond cX6_takeCond 4 .boolean 32 [jf_r E 9, .int p] σ (fun r τ => x_out a n S σ τ (q_cond a n (q_not a n 8) f) r) := (co_conds2 8).2 E σ vq ad av p a n f S (by rw [hp]; rfl) h hs hS
def x_res (a : Nat → Int32) (n : Nat) (σ τ : jf_S) (res : q_T) (r : Int32) : Prop := (∀ t, res = .inl t → r = 1 ∧ (τ.1 9 3) = -1 ∧ x_st τ (t.1.map q_st) ∧ x_np τ t.2.1 ∧ (τ.1 11 5) = q_ti t.2.2) ∧ (∀ e, res = .inr e → r = 0 ∧ ((τ.1 9 3)).toInt = (e : Int)) ∧ xS_r σ τ
theorem xS_d_e {σ τ : jf_S} (h : xS_e σ τ) : xS_d σ τ := ⟨h.1, fun k a b c _ => h.2.1 k a b c, h.2.2.1⟩
theorem xS_d_m {σ τ : jf_S} (h : xS_m σ τ) : xS_d σ τ := ⟨h.1, fun k a b _ d => h.2.1 k a b d, h.2.2.1⟩
theorem x_man_1 {a : Nat → Int32} {n : Nat} {σ τ : jf_S} {res : q_R} {r : Int32} (h : x_man a n σ τ res r) (b : ¬ r.toInt = 0) : ∃ p, res = .inl p ∧ x_tk a n τ p.1 ∧ x_np τ p.2 := by
  cases e : res with
  | inl p => exact ⟨p, rfl, (h.1 p e).2⟩
  | inr z => rw [(h.2.1 z e).1] at b; exact absurd rfl b
theorem x_man_0 {a : Nat → Int32} {n : Nat} {σ τ : jf_S} {res : q_R} {r : Int32} (h : x_man a n σ τ res r) (b : r.toInt = 0) : ∃ e, res = .inr e ∧ ((τ.1 9 4)).toInt = (e : Int) := by
  cases e : res with
  | inl p => rw [(h.1 p e).1] at b; exact absurd b (by decide)
  | inr z => exact ⟨z, rfl, (h.2.1 z e).2⟩
theorem x_tie_1 {a : Nat → Int32} {n f : Nat} {σ τ : jf_S} {r : Int32} (h : x_tie a n f σ τ r) (b : ¬ r.toInt = 0) : (tk_wb a n f [102, 97, 109, 101] = true ∨ tk_wb a n f [102, 105, 108, 109] = true ∨ tk_wb a n f [102, 105, 114, 115, 116] = true) ∧ x_tk a n τ (tk_x a n f) ∧ (τ.1 11 5) = (if tk_wb a n f [102, 97, 109, 101] = true then 1 else if tk_wb a n f [102, 105, 108, 109] = true then 0 else 2) ∧ (τ.1 11 4) = (σ.1 11 4) ∧ (τ.1 56) = (σ.1 56) := by
  by_cases c : tk_wb a n f [102, 97, 109, 101] = true ∨ tk_wb a n f [102, 105, 108, 109] = true ∨ tk_wb a n f [102, 105, 114, 115, 116] = true
  · exact ⟨c, (h.1 c).2⟩
  · rw [(h.2.1 c).1] at b; exact absurd rfl b
theorem x_tie_0 {a : Nat → Int32} {n f : Nat} {σ τ : jf_S} {r : Int32} (h : x_tie a n f σ τ r) (b : r.toInt = 0) : ¬ (tk_wb a n f [102, 97, 109, 101] = true ∨ tk_wb a n f [102, 105, 108, 109] = true ∨ tk_wb a n f [102, 105, 114, 115, 116] = true) ∧ τ = σ := by
  by_cases c : tk_wb a n f [102, 97, 109, 101] = true ∨ tk_wb a n f [102, 105, 108, 109] = true ∨ tk_wb a n f [102, 105, 114, 115, 116] = true
  · rw [(h.1 c).1] at b; exact absurd b (by decide)
  · exact ⟨c, (h.2.1 c).2⟩
theorem q_fin_ok {a : Nat → Int32} {n g : Nat} {K p : List Int32} (h : tk_wb a n g [102, 97, 109, 101] = true ∨ tk_wb a n g [102, 105, 108, 109] = true ∨ tk_wb a n g [102, 105, 114, 115, 116] = true) : ∃ t : Int32, (if tk_wb a n g [102, 97, 109, 101] = true then (1 : Int32) else if tk_wb a n g [102, 105, 108, 109] = true then 0 else 2) = q_ti t ∧ q_fin a n K p g = (if tk_k a n (tk_x a n g) = 0 then .inl (K, p, t) else .inr (tk_x a n g)) := by
  unfold q_fin
  by_cases w1 : tk_wb a n g [102, 97, 109, 101] = true
  · exact ⟨0, by rw [if_pos w1]; rfl, by rw [if_pos w1]⟩
  · by_cases w2 : tk_wb a n g [102, 105, 108, 109] = true
    · exact ⟨1, by rw [if_neg w1, if_pos w2]; rfl, by rw [if_neg w1, if_pos w2]⟩
    · have w3 := (h.resolve_left w1).resolve_left w2
      exact ⟨2, by rw [if_neg w1, if_neg w2]; rfl, by rw [if_neg w1, if_neg w2, if_pos w3]⟩
theorem q_fin_no {a : Nat → Int32} {n g : Nat} {K p : List Int32} (h : ¬ (tk_wb a n g [102, 97, 109, 101] = true ∨ tk_wb a n g [102, 105, 108, 109] = true ∨ tk_wb a n g [102, 105, 114, 115, 116] = true)) : q_fin a n K p g = .inr g := by
  unfold q_fin
  rw [if_neg (fun w => h (Or.inl w)), if_neg (fun w => h (Or.inr (Or.inl w))), if_neg (fun w => h (Or.inr (Or.inr w)))]
theorem tk_k_z {a : Nat → Int32} {n f : Nat} : tk_k a n f = 0 ↔ ¬ f < n := ⟨tk_k0, fun h => by unfold tk_k; rw [if_neg h]⟩
theorem ct_X6_read2 (E : jf_E) (σ : jf_S) (vq : Value) (ad av : Nat → Nat) (a : Nat → Int32) (n : Nat) (ha : (σ.1 49) = a) (hn : ((σ.1 9 2)).toInt = (n : Int)) (h3 : n ≤ 300) : jf_IZ (js_Z vq ad av (jf_A jh_X E)) jh_X E yX6_read cX6_read 2 .boolean 33 [jf_r E 9] σ (fun r τ => x_res a n σ τ (q_rules a n (tk_a a n 0)) r) := by
  refine jf_mkIZ (by decide) (Nat.le_of_ble_eq_true rfl) ?_
  intro G C hZ ret
  have rr : ∀ (τ : jf_S) (v : Int32), xS_d σ τ → xS_r σ (jf_i τ 9 3 v) := fun τ v z => ⟨z.1, fun k a b c e => by rw [jf_i_o k a]; exact z.2.1 k a b c e, fun j hj => by rw [jf_i_at]; unfold upd; rw [if_neg (by omega)]; exact z.2.2 j (by omega)⟩
  have Jb : ∀ (τ : jf_S) (e : Nat), q_rules a n (tk_a a n 0) = .inr e → ((τ.1 9 4)).toInt = (e : Int) → xS_d σ τ → jf_X jh_X E G 2 90 [(0, jf_r E 9)] [.int 0] τ := by
    intro τ e hq k z
    refine jr_istore_n C dX6_read_90 (by decide) ?_
    refine jr_aload_n C dX6_read_91 rfl ?_
    refine jr_iload_n C dX6_read_92 rfl ?_
    refine jr_nif_eq C 100 dX6_read_93 (by decide) (fun _ => ?_) (fun b => absurd rfl b)
    refine jr_aload_n C dX6_read_100 rfl ?_
    refine jr_geti C kf_X6_61_9 dX6_read_101 ?_
    refine jr_puti C kp_X6_26_9 dX6_read_104 ?_
    refine jr_iload_n C dX6_read_107 rfl ?_
    exact ret _ _ _ _ dX6_read_108 (rfl) (⟨fun t ht => (by rw [hq] at ht; cases ht), fun e' he => (by rw [hq] at he; cases he; exact ⟨rfl, k⟩), rr _ _ z⟩)
  have Jg : ∀ (τ : jf_S) (t : List Int32 × List Int32 × Int32), q_rules a n (tk_a a n 0) = .inl t → x_st τ (t.1.map q_st) → x_np τ t.2.1 → (τ.1 11 5) = q_ti t.2.2 → xS_d σ τ → jf_X jh_X E G 2 90 [(0, jf_r E 9)] [.int 1] τ := by
    intro τ t hq s1 s2 s3 z
    refine jr_istore_n C dX6_read_90 (by decide) ?_
    refine jr_aload_n C dX6_read_91 rfl ?_
    refine jr_iload_n C dX6_read_92 rfl ?_
    refine jr_nif_eq C 100 dX6_read_93 (by decide) (fun b => absurd b (by decide)) (fun _ => ?_)
    refine jr_iconst C (v := -1) dX6_read_96 (by decide) ?_
    refine jr_goto C 104 dX6_read_97 (by decide) ?_
    refine jr_puti C kp_X6_26_9 dX6_read_104 ?_
    refine jr_iload_n C dX6_read_107 rfl ?_
    exact ret _ _ _ _ dX6_read_108 (rfl) (⟨fun t' ht => (by rw [hq] at ht; cases ht; exact ⟨rfl, rfl, s1, s2, s3⟩), fun e' he => (by rw [hq] at he; cases he), rr _ _ z⟩)
  have zs : xS_d σ (jf_i (jf_i (jf_i (jf_i σ 11 3 0) 11 4 0) 11 5 0) 9 5 0) := ⟨rfl, fun k a b _ _ => by rw [jf_i_o k a, jf_i_o k b, jf_i_o k b, jf_i_o k b], fun j hj => by rw [jf_i_at]; unfold upd; rw [if_neg (by omega), jf_i_o 9 (by decide), jf_i_o 9 (by decide), jf_i_o 9 (by decide)]⟩
  have fle := (tk_a_ok (a := a) (n := n) (p := 0) (Nat.zero_le _)).2
  have x1 := tk_x_ok (a := a) fle
  have Q : ∀ p : Nat × List Int32, tk_wb a n (tk_a a n 0) [99, 111, 117, 110, 116] = true → q_cond a n (q_not a n 8) (tk_x a n (tk_a a n 0)) = .inl p → q_rules a n (tk_a a n 0) = q_mid a n p.2 p.1 := fun p w e => by unfold q_rules; rw [if_pos w, e]
  have Q2 : ∀ (p s : Nat × List Int32), q_rules a n (tk_a a n 0) = q_mid a n p.2 p.1 → tk_sb a n p.1 59 = true → q_man a n (tk_x a n p.1) = .inl s → q_rules a n (tk_a a n 0) = q_end a n p.2 s.2 s.1 := fun p s h w e => by rw [h]; unfold q_mid; rw [if_pos w, e]
  have Q3 : ∀ (K o : List Int32) (g : Nat), q_rules a n (tk_a a n 0) = q_end a n K o g → tk_sb a n g 59 = true → tk_wb a n (tk_x a n g) [116, 105, 101] = true → q_rules a n (tk_a a n 0) = q_fin a n K o (tk_x a n (tk_x a n g)) := fun K o g h w v => by rw [h]; unfold q_end; rw [if_pos w, if_pos v]
  have N0 : ¬ tk_wb a n (tk_a a n 0) [99, 111, 117, 110, 116] = true → q_rules a n (tk_a a n 0) = .inr (tk_a a n 0) := fun w => by unfold q_rules; rw [if_neg w]
  have N1 : ∀ e : Nat, tk_wb a n (tk_a a n 0) [99, 111, 117, 110, 116] = true → q_cond a n (q_not a n 8) (tk_x a n (tk_a a n 0)) = .inr e → q_rules a n (tk_a a n 0) = .inr e := fun e w q => by unfold q_rules; rw [if_pos w, q]
  have N2 : ∀ p : Nat × List Int32, q_rules a n (tk_a a n 0) = q_mid a n p.2 p.1 → ¬ tk_sb a n p.1 59 = true → q_rules a n (tk_a a n 0) = .inr p.1 := fun p h w => by rw [h]; unfold q_mid; rw [if_neg w]
  have N3 : ∀ (p : Nat × List Int32) (e : Nat), q_rules a n (tk_a a n 0) = q_mid a n p.2 p.1 → tk_sb a n p.1 59 = true → q_man a n (tk_x a n p.1) = .inr e → q_rules a n (tk_a a n 0) = .inr e := fun p e h w q => by rw [h]; unfold q_mid; rw [if_pos w, q]
  have N4 : ∀ (K o : List Int32) (g : Nat), q_rules a n (tk_a a n 0) = q_end a n K o g → ¬ tk_sb a n g 59 = true → q_rules a n (tk_a a n 0) = .inr g := fun K o g h w => by rw [h]; unfold q_end; rw [if_neg w]
  have N5 : ∀ (K o : List Int32) (g : Nat), q_rules a n (tk_a a n 0) = q_end a n K o g → tk_sb a n g 59 = true → ¬ tk_wb a n (tk_x a n g) [116, 105, 101] = true → q_rules a n (tk_a a n 0) = .inr (tk_x a n g) := fun K o g h w v => by rw [h]; unfold q_end; rw [if_pos w, if_neg v]
  refine jr_aload_n C dX6_read_0 rfl ?_
  refine jr_getr C kf_X6_18_9 dX6_read_1 ?_
  refine jr_vvp C [] _ (ct_X7_emptyd E _) ky_X7_empty kv_X7_empty kk_X_11 km_X6_29 (by decide) rfl (Nat.le_of_ble_eq_true rfl) dX6_read_4 ?_
  refine jr_aload_n C dX6_read_7 rfl ?_
  refine jr_iconst C (v := 0) dX6_read_8 (by decide) ?_
  refine jr_puti C kp_X6_32_9 dX6_read_9 ?_
  refine jr_aload_n C dX6_read_12 rfl ?_
  refine jr_vv C [] _ (ct_X6_advance2 E _ a n 0 ha hn h3 rfl (Nat.zero_le _)) ky_X6_advance kv_X6_advance kk_X_9 km_X6_35 (by decide) rfl (Nat.le_of_ble_eq_true rfl) dX6_read_13 (fun τ13 h13 => ?_)
  have z13 : xS_d σ τ13 := xS_d_t zs (xS_d_s h13.1); have k13 := h13.2; have s13 : x_st τ13 [] := (by unfold x_st; rw [h13.1.2.1 11 (by decide), jf_i_o 11 (by decide)]; exact ⟨rfl, fun i hi => absurd hi (Nat.not_lt_zero i)⟩); have p13 : x_np τ13 [] := (by unfold x_np; rw [h13.1.2.1 11 (by decide), jf_i_o 11 (by decide)]; exact ⟨rfl, fun i hi => absurd hi (Nat.not_lt_zero i)⟩); have t13 : (τ13.1 11 5) = 0 := (by rw [h13.1.2.1 11 (by decide), jf_i_o 11 (by decide)]; rfl)
  refine jr_aload_n C dX6_read_16 rfl ?_
  refine jr_ldcS C (hZ.2 0 _ rfl).1 dX6_read_17 ?_
  refine jr_viZ C (js_ZK vq ad av _) hZ [_] _ (ct_X6_takeWord2 E _ vq ad av 0 _ rfl a n (tk_a a n 0) k13) ky_X6_takeWord kv_X6_takeWord kk_X_9 km_X6_40 (by omega) rfl (Nat.le_of_ble_eq_true rfl) dX6_read_19 (fun r19 τ19 h19 => ?_)
  refine jr_nif_eq C 89 dX6_read_22 (by decide) (fun b22 => ?_) (fun b22 => ?_)
  · first | (have q9 := x_y h19 b22; obtain ⟨w22, z22, k22⟩ := q9) | (have q9 := x_n h19 b22; obtain ⟨w22, e22⟩ := q9; subst e22)
    refine jr_iconst C (v := 0) dX6_read_89 (by decide) ?_
    first | (have h9 : ¬ ((τ68.1 9 4)).toInt < ((τ68.1 9 2)).toInt := b82; obtain ⟨ti, f1, f2⟩ := q_fin_ok (K := p30.2) (p := p46.2) w71; rw [if_pos (tk_k_z.mpr (by rw [k71.2.2.1, k71.1.2.1] at h9; omega))] at f2; exact Jg _ (p30.2, p46.2, ti) ((Q3 _ _ _ (Q2 p30 p46 (Q p30 w22 e30) w39 e46) w55 w64).trans f2) (x_st_m h68.2.2 (x_st_t z64 (x_st_t z55 s43))) (by have := x_np_t z64 (x_np_t z55 s46); unfold x_np; rw [n71, q71]; exact this) (t71.trans f1) (xS_d_t (xS_d_t (xS_d_t z43 (xS_d_s z55)) (xS_d_s z64)) (xS_d_m h68.2.2))) | (have h9 : ((τ68.1 9 4)).toInt < ((τ68.1 9 2)).toInt := b82; obtain ⟨ti, f1, f2⟩ := q_fin_ok (K := p30.2) (p := p46.2) w71; rw [if_neg (fun w => tk_k_z.mp w (by rw [k71.2.2.1, k71.1.2.1] at h9; omega))] at f2; exact Jb _ _ ((Q3 _ _ _ (Q2 p30 p46 (Q p30 w22 e30) w39 e46) w55 w64).trans f2) k71.2.2.1 (xS_d_t (xS_d_t (xS_d_t z43 (xS_d_s z55)) (xS_d_s z64)) (xS_d_m h68.2.2))) | (have h9 : r68.toInt = 0 := b71; exact Jb _ _ ((Q3 _ _ _ (Q2 p30 p46 (Q p30 w22 e30) w39 e46) w55 w64).trans (q_fin_no w71)) k64.2.2.1 (xS_d_t (xS_d_t z43 (xS_d_s z55)) (xS_d_s z64))) | (have h9 : r61.toInt = 0 := b64; exact Jb _ (tk_x a n p46.1) (N5 _ _ _ (Q2 p30 p46 (Q p30 w22 e30) w39 e46) w55 w64) k55.2.2.1 (xS_d_t z43 (xS_d_s z55))) | (have h9 : r52.toInt = 0 := b55; exact Jb _ p46.1 (N4 _ _ _ (Q2 p30 p46 (Q p30 w22 e30) w39 e46) w55) k46.2.2.1 z43) | (have h9 : r43.toInt = 0 := b46; exact Jb _ p46 (N3 p30 p46 (Q p30 w22 e30) w39 e46) k46 z43) | (have h9 : r36.toInt = 0 := b39; exact Jb _ p30.1 (N2 p30 (Q p30 w22 e30) w39) k30.2.2.1 z27) | (have h9 : r27.toInt = 0 := b30; exact Jb _ p30 (N1 p30 w22 e30) k30 z27) | (have h9 : r19.toInt = 0 := b22; exact Jb _ (tk_a a n 0) (N0 w22) k13.2.2.1 z13)
  · first | (have q9 := x_y h19 b22; obtain ⟨w22, z22, k22⟩ := q9) | (have q9 := x_n h19 b22; obtain ⟨w22, e22⟩ := q9; subst e22)
    refine jr_aload_n C dX6_read_25 rfl ?_
    refine jr_iconst C (v := 0) dX6_read_26 (by decide) ?_
    refine jr_viZ C (js_ZK vq ad av _) hZ [.int _] _ (ct_X6_takeCond2 E _ vq ad av _ a n (tk_x a n (tk_a a n 0)) [] rfl k22 (x_st_t z22 s13) (by have := tk_wb_lt (by decide) w22; show 0 + 1 ≤ _; omega)) ky_X6_takeCond kv_X6_takeCond kk_X_9 km_X6_44 (by omega) rfl (Nat.le_of_ble_eq_true rfl) dX6_read_27 (fun r27 τ27 h27 => ?_)
    have z27 : xS_d σ τ27 := xS_d_t (xS_d_t z13 (xS_d_s z22)) (xS_d_e h27.2.2.2); have p27 : x_np τ27 [] := (by have := x_np_t z22 p13; unfold x_np; rw [h27.2.2.2.2.2.2 4 (by decide), h27.2.2.2.2.1 56 (by decide) (by decide) (by decide)]; exact this); have t27 : (τ27.1 11 5) = 0 := (by rw [h27.2.2.2.2.2.2 5 (by decide), z22.2.1 11 (by decide)]; exact t13)
    refine jr_nif_eq C 89 dX6_read_30 (by decide) (fun b30 => ?_) (fun b30 => ?_)
    · first | (have q9 := x_out_1 h27 b30; obtain ⟨p30, e30, k30, s30⟩ := q9) | (have q9 := x_out_0 h27 b30; obtain ⟨p30, e30, k30⟩ := q9)
      refine jr_iconst C (v := 0) dX6_read_89 (by decide) ?_
      first | (have h9 : ¬ ((τ68.1 9 4)).toInt < ((τ68.1 9 2)).toInt := b82; obtain ⟨ti, f1, f2⟩ := q_fin_ok (K := p30.2) (p := p46.2) w71; rw [if_pos (tk_k_z.mpr (by rw [k71.2.2.1, k71.1.2.1] at h9; omega))] at f2; exact Jg _ (p30.2, p46.2, ti) ((Q3 _ _ _ (Q2 p30 p46 (Q p30 w22 e30) w39 e46) w55 w64).trans f2) (x_st_m h68.2.2 (x_st_t z64 (x_st_t z55 s43))) (by have := x_np_t z64 (x_np_t z55 s46); unfold x_np; rw [n71, q71]; exact this) (t71.trans f1) (xS_d_t (xS_d_t (xS_d_t z43 (xS_d_s z55)) (xS_d_s z64)) (xS_d_m h68.2.2))) | (have h9 : ((τ68.1 9 4)).toInt < ((τ68.1 9 2)).toInt := b82; obtain ⟨ti, f1, f2⟩ := q_fin_ok (K := p30.2) (p := p46.2) w71; rw [if_neg (fun w => tk_k_z.mp w (by rw [k71.2.2.1, k71.1.2.1] at h9; omega))] at f2; exact Jb _ _ ((Q3 _ _ _ (Q2 p30 p46 (Q p30 w22 e30) w39 e46) w55 w64).trans f2) k71.2.2.1 (xS_d_t (xS_d_t (xS_d_t z43 (xS_d_s z55)) (xS_d_s z64)) (xS_d_m h68.2.2))) | (have h9 : r68.toInt = 0 := b71; exact Jb _ _ ((Q3 _ _ _ (Q2 p30 p46 (Q p30 w22 e30) w39 e46) w55 w64).trans (q_fin_no w71)) k64.2.2.1 (xS_d_t (xS_d_t z43 (xS_d_s z55)) (xS_d_s z64))) | (have h9 : r61.toInt = 0 := b64; exact Jb _ (tk_x a n p46.1) (N5 _ _ _ (Q2 p30 p46 (Q p30 w22 e30) w39 e46) w55 w64) k55.2.2.1 (xS_d_t z43 (xS_d_s z55))) | (have h9 : r52.toInt = 0 := b55; exact Jb _ p46.1 (N4 _ _ _ (Q2 p30 p46 (Q p30 w22 e30) w39 e46) w55) k46.2.2.1 z43) | (have h9 : r43.toInt = 0 := b46; exact Jb _ p46 (N3 p30 p46 (Q p30 w22 e30) w39 e46) k46 z43) | (have h9 : r36.toInt = 0 := b39; exact Jb _ p30.1 (N2 p30 (Q p30 w22 e30) w39) k30.2.2.1 z27) | (have h9 : r27.toInt = 0 := b30; exact Jb _ p30 (N1 p30 w22 e30) k30 z27) | (have h9 : r19.toInt = 0 := b22; exact Jb _ (tk_a a n 0) (N0 w22) k13.2.2.1 z13)
    · first | (have q9 := x_out_1 h27 b30; obtain ⟨p30, e30, k30, s30⟩ := q9) | (have q9 := x_out_0 h27 b30; obtain ⟨p30, e30, k30⟩ := q9)
      refine jr_aload_n C dX6_read_33 rfl ?_
      refine jr_bipush C (v := 59) dX6_read_34 (by decide) ?_
      refine jr_vi C [.int _] _ (ct_X6_takeByte2 E _ _ a n p30.1 k30) ky_X6_takeByte kv_X6_takeByte kk_X_9 km_X6_48 (by decide) rfl (Nat.le_of_ble_eq_true rfl) dX6_read_36 (fun r36 τ36 h36 => ?_)
      refine jr_nif_eq C 89 dX6_read_39 (by decide) (fun b39 => ?_) (fun b39 => ?_)
      · first | (have q9 := x_y h36 b39; obtain ⟨w39, z39, k39⟩ := q9) | (have q9 := x_n h36 b39; obtain ⟨w39, e39⟩ := q9; subst e39)
        refine jr_iconst C (v := 0) dX6_read_89 (by decide) ?_
        first | (have h9 : ¬ ((τ68.1 9 4)).toInt < ((τ68.1 9 2)).toInt := b82; obtain ⟨ti, f1, f2⟩ := q_fin_ok (K := p30.2) (p := p46.2) w71; rw [if_pos (tk_k_z.mpr (by rw [k71.2.2.1, k71.1.2.1] at h9; omega))] at f2; exact Jg _ (p30.2, p46.2, ti) ((Q3 _ _ _ (Q2 p30 p46 (Q p30 w22 e30) w39 e46) w55 w64).trans f2) (x_st_m h68.2.2 (x_st_t z64 (x_st_t z55 s43))) (by have := x_np_t z64 (x_np_t z55 s46); unfold x_np; rw [n71, q71]; exact this) (t71.trans f1) (xS_d_t (xS_d_t (xS_d_t z43 (xS_d_s z55)) (xS_d_s z64)) (xS_d_m h68.2.2))) | (have h9 : ((τ68.1 9 4)).toInt < ((τ68.1 9 2)).toInt := b82; obtain ⟨ti, f1, f2⟩ := q_fin_ok (K := p30.2) (p := p46.2) w71; rw [if_neg (fun w => tk_k_z.mp w (by rw [k71.2.2.1, k71.1.2.1] at h9; omega))] at f2; exact Jb _ _ ((Q3 _ _ _ (Q2 p30 p46 (Q p30 w22 e30) w39 e46) w55 w64).trans f2) k71.2.2.1 (xS_d_t (xS_d_t (xS_d_t z43 (xS_d_s z55)) (xS_d_s z64)) (xS_d_m h68.2.2))) | (have h9 : r68.toInt = 0 := b71; exact Jb _ _ ((Q3 _ _ _ (Q2 p30 p46 (Q p30 w22 e30) w39 e46) w55 w64).trans (q_fin_no w71)) k64.2.2.1 (xS_d_t (xS_d_t z43 (xS_d_s z55)) (xS_d_s z64))) | (have h9 : r61.toInt = 0 := b64; exact Jb _ (tk_x a n p46.1) (N5 _ _ _ (Q2 p30 p46 (Q p30 w22 e30) w39 e46) w55 w64) k55.2.2.1 (xS_d_t z43 (xS_d_s z55))) | (have h9 : r52.toInt = 0 := b55; exact Jb _ p46.1 (N4 _ _ _ (Q2 p30 p46 (Q p30 w22 e30) w39 e46) w55) k46.2.2.1 z43) | (have h9 : r43.toInt = 0 := b46; exact Jb _ p46 (N3 p30 p46 (Q p30 w22 e30) w39 e46) k46 z43) | (have h9 : r36.toInt = 0 := b39; exact Jb _ p30.1 (N2 p30 (Q p30 w22 e30) w39) k30.2.2.1 z27) | (have h9 : r27.toInt = 0 := b30; exact Jb _ p30 (N1 p30 w22 e30) k30 z27) | (have h9 : r19.toInt = 0 := b22; exact Jb _ (tk_a a n 0) (N0 w22) k13.2.2.1 z13)
      · first | (have q9 := x_y h36 b39; obtain ⟨w39, z39, k39⟩ := q9) | (have q9 := x_n h36 b39; obtain ⟨w39, e39⟩ := q9; subst e39)
        refine jr_aload_n C dX6_read_42 rfl ?_
        refine jr_viZ C (js_ZK vq ad av _) hZ [] _ (ct_X6_takeManner2 E _ vq ad av a n (tk_x a n p30.1) k39 (x_np_t z39 p27)) ky_X6_takeManner kv_X6_takeManner kk_X_9 km_X6_52 (by omega) rfl (Nat.le_of_ble_eq_true rfl) dX6_read_43 (fun r43 τ43 h43 => ?_)
        have z43 := xS_d_t (xS_d_t z27 (xS_d_s z39)) (xS_d_m (xS_m_w h43.2.2)); have t43 : (τ43.1 11 5) = 0 := (by rw [h43.2.2.2.2.2 5 (by decide), z39.2.1 11 (by decide)]; exact t27); have s43 := x_st_m (xS_m_w h43.2.2) (x_st_t z39 s30)
        refine jr_nif_eq C 89 dX6_read_46 (by decide) (fun b46 => ?_) (fun b46 => ?_)
        · first | (have q9 := x_man_1 h43 b46; obtain ⟨p46, e46, k46, s46⟩ := q9) | (have q9 := x_man_0 h43 b46; obtain ⟨p46, e46, k46⟩ := q9)
          refine jr_iconst C (v := 0) dX6_read_89 (by decide) ?_
          first | (have h9 : ¬ ((τ68.1 9 4)).toInt < ((τ68.1 9 2)).toInt := b82; obtain ⟨ti, f1, f2⟩ := q_fin_ok (K := p30.2) (p := p46.2) w71; rw [if_pos (tk_k_z.mpr (by rw [k71.2.2.1, k71.1.2.1] at h9; omega))] at f2; exact Jg _ (p30.2, p46.2, ti) ((Q3 _ _ _ (Q2 p30 p46 (Q p30 w22 e30) w39 e46) w55 w64).trans f2) (x_st_m h68.2.2 (x_st_t z64 (x_st_t z55 s43))) (by have := x_np_t z64 (x_np_t z55 s46); unfold x_np; rw [n71, q71]; exact this) (t71.trans f1) (xS_d_t (xS_d_t (xS_d_t z43 (xS_d_s z55)) (xS_d_s z64)) (xS_d_m h68.2.2))) | (have h9 : ((τ68.1 9 4)).toInt < ((τ68.1 9 2)).toInt := b82; obtain ⟨ti, f1, f2⟩ := q_fin_ok (K := p30.2) (p := p46.2) w71; rw [if_neg (fun w => tk_k_z.mp w (by rw [k71.2.2.1, k71.1.2.1] at h9; omega))] at f2; exact Jb _ _ ((Q3 _ _ _ (Q2 p30 p46 (Q p30 w22 e30) w39 e46) w55 w64).trans f2) k71.2.2.1 (xS_d_t (xS_d_t (xS_d_t z43 (xS_d_s z55)) (xS_d_s z64)) (xS_d_m h68.2.2))) | (have h9 : r68.toInt = 0 := b71; exact Jb _ _ ((Q3 _ _ _ (Q2 p30 p46 (Q p30 w22 e30) w39 e46) w55 w64).trans (q_fin_no w71)) k64.2.2.1 (xS_d_t (xS_d_t z43 (xS_d_s z55)) (xS_d_s z64))) | (have h9 : r61.toInt = 0 := b64; exact Jb _ (tk_x a n p46.1) (N5 _ _ _ (Q2 p30 p46 (Q p30 w22 e30) w39 e46) w55 w64) k55.2.2.1 (xS_d_t z43 (xS_d_s z55))) | (have h9 : r52.toInt = 0 := b55; exact Jb _ p46.1 (N4 _ _ _ (Q2 p30 p46 (Q p30 w22 e30) w39 e46) w55) k46.2.2.1 z43) | (have h9 : r43.toInt = 0 := b46; exact Jb _ p46 (N3 p30 p46 (Q p30 w22 e30) w39 e46) k46 z43) | (have h9 : r36.toInt = 0 := b39; exact Jb _ p30.1 (N2 p30 (Q p30 w22 e30) w39) k30.2.2.1 z27) | (have h9 : r27.toInt = 0 := b30; exact Jb _ p30 (N1 p30 w22 e30) k30 z27) | (have h9 : r19.toInt = 0 := b22; exact Jb _ (tk_a a n 0) (N0 w22) k13.2.2.1 z13)
        · first | (have q9 := x_man_1 h43 b46; obtain ⟨p46, e46, k46, s46⟩ := q9) | (have q9 := x_man_0 h43 b46; obtain ⟨p46, e46, k46⟩ := q9)
          refine jr_aload_n C dX6_read_49 rfl ?_
          refine jr_bipush C (v := 59) dX6_read_50 (by decide) ?_
          refine jr_vi C [.int _] _ (ct_X6_takeByte2 E _ _ a n p46.1 k46) ky_X6_takeByte kv_X6_takeByte kk_X_9 km_X6_48 (by decide) rfl (Nat.le_of_ble_eq_true rfl) dX6_read_52 (fun r52 τ52 h52 => ?_)
          refine jr_nif_eq C 89 dX6_read_55 (by decide) (fun b55 => ?_) (fun b55 => ?_)
          · first | (have q9 := x_y h52 b55; obtain ⟨w55, z55, k55⟩ := q9) | (have q9 := x_n h52 b55; obtain ⟨w55, e55⟩ := q9; subst e55)
            refine jr_iconst C (v := 0) dX6_read_89 (by decide) ?_
            first | (have h9 : ¬ ((τ68.1 9 4)).toInt < ((τ68.1 9 2)).toInt := b82; obtain ⟨ti, f1, f2⟩ := q_fin_ok (K := p30.2) (p := p46.2) w71; rw [if_pos (tk_k_z.mpr (by rw [k71.2.2.1, k71.1.2.1] at h9; omega))] at f2; exact Jg _ (p30.2, p46.2, ti) ((Q3 _ _ _ (Q2 p30 p46 (Q p30 w22 e30) w39 e46) w55 w64).trans f2) (x_st_m h68.2.2 (x_st_t z64 (x_st_t z55 s43))) (by have := x_np_t z64 (x_np_t z55 s46); unfold x_np; rw [n71, q71]; exact this) (t71.trans f1) (xS_d_t (xS_d_t (xS_d_t z43 (xS_d_s z55)) (xS_d_s z64)) (xS_d_m h68.2.2))) | (have h9 : ((τ68.1 9 4)).toInt < ((τ68.1 9 2)).toInt := b82; obtain ⟨ti, f1, f2⟩ := q_fin_ok (K := p30.2) (p := p46.2) w71; rw [if_neg (fun w => tk_k_z.mp w (by rw [k71.2.2.1, k71.1.2.1] at h9; omega))] at f2; exact Jb _ _ ((Q3 _ _ _ (Q2 p30 p46 (Q p30 w22 e30) w39 e46) w55 w64).trans f2) k71.2.2.1 (xS_d_t (xS_d_t (xS_d_t z43 (xS_d_s z55)) (xS_d_s z64)) (xS_d_m h68.2.2))) | (have h9 : r68.toInt = 0 := b71; exact Jb _ _ ((Q3 _ _ _ (Q2 p30 p46 (Q p30 w22 e30) w39 e46) w55 w64).trans (q_fin_no w71)) k64.2.2.1 (xS_d_t (xS_d_t z43 (xS_d_s z55)) (xS_d_s z64))) | (have h9 : r61.toInt = 0 := b64; exact Jb _ (tk_x a n p46.1) (N5 _ _ _ (Q2 p30 p46 (Q p30 w22 e30) w39 e46) w55 w64) k55.2.2.1 (xS_d_t z43 (xS_d_s z55))) | (have h9 : r52.toInt = 0 := b55; exact Jb _ p46.1 (N4 _ _ _ (Q2 p30 p46 (Q p30 w22 e30) w39 e46) w55) k46.2.2.1 z43) | (have h9 : r43.toInt = 0 := b46; exact Jb _ p46 (N3 p30 p46 (Q p30 w22 e30) w39 e46) k46 z43) | (have h9 : r36.toInt = 0 := b39; exact Jb _ p30.1 (N2 p30 (Q p30 w22 e30) w39) k30.2.2.1 z27) | (have h9 : r27.toInt = 0 := b30; exact Jb _ p30 (N1 p30 w22 e30) k30 z27) | (have h9 : r19.toInt = 0 := b22; exact Jb _ (tk_a a n 0) (N0 w22) k13.2.2.1 z13)
          · first | (have q9 := x_y h52 b55; obtain ⟨w55, z55, k55⟩ := q9) | (have q9 := x_n h52 b55; obtain ⟨w55, e55⟩ := q9; subst e55)
            refine jr_aload_n C dX6_read_58 rfl ?_
            refine jr_ldcS C (hZ.2 1 _ rfl).1 dX6_read_59 ?_
            refine jr_viZ C (js_ZK vq ad av _) hZ [_] _ (ct_X6_takeWord2 E _ vq ad av 1 _ rfl a n (tk_x a n p46.1) k55) ky_X6_takeWord kv_X6_takeWord kk_X_9 km_X6_40 (by omega) rfl (Nat.le_of_ble_eq_true rfl) dX6_read_61 (fun r61 τ61 h61 => ?_)
            refine jr_nif_eq C 89 dX6_read_64 (by decide) (fun b64 => ?_) (fun b64 => ?_)
            · first | (have q9 := x_y h61 b64; obtain ⟨w64, z64, k64⟩ := q9) | (have q9 := x_n h61 b64; obtain ⟨w64, e64⟩ := q9; subst e64)
              refine jr_iconst C (v := 0) dX6_read_89 (by decide) ?_
              first | (have h9 : ¬ ((τ68.1 9 4)).toInt < ((τ68.1 9 2)).toInt := b82; obtain ⟨ti, f1, f2⟩ := q_fin_ok (K := p30.2) (p := p46.2) w71; rw [if_pos (tk_k_z.mpr (by rw [k71.2.2.1, k71.1.2.1] at h9; omega))] at f2; exact Jg _ (p30.2, p46.2, ti) ((Q3 _ _ _ (Q2 p30 p46 (Q p30 w22 e30) w39 e46) w55 w64).trans f2) (x_st_m h68.2.2 (x_st_t z64 (x_st_t z55 s43))) (by have := x_np_t z64 (x_np_t z55 s46); unfold x_np; rw [n71, q71]; exact this) (t71.trans f1) (xS_d_t (xS_d_t (xS_d_t z43 (xS_d_s z55)) (xS_d_s z64)) (xS_d_m h68.2.2))) | (have h9 : ((τ68.1 9 4)).toInt < ((τ68.1 9 2)).toInt := b82; obtain ⟨ti, f1, f2⟩ := q_fin_ok (K := p30.2) (p := p46.2) w71; rw [if_neg (fun w => tk_k_z.mp w (by rw [k71.2.2.1, k71.1.2.1] at h9; omega))] at f2; exact Jb _ _ ((Q3 _ _ _ (Q2 p30 p46 (Q p30 w22 e30) w39 e46) w55 w64).trans f2) k71.2.2.1 (xS_d_t (xS_d_t (xS_d_t z43 (xS_d_s z55)) (xS_d_s z64)) (xS_d_m h68.2.2))) | (have h9 : r68.toInt = 0 := b71; exact Jb _ _ ((Q3 _ _ _ (Q2 p30 p46 (Q p30 w22 e30) w39 e46) w55 w64).trans (q_fin_no w71)) k64.2.2.1 (xS_d_t (xS_d_t z43 (xS_d_s z55)) (xS_d_s z64))) | (have h9 : r61.toInt = 0 := b64; exact Jb _ (tk_x a n p46.1) (N5 _ _ _ (Q2 p30 p46 (Q p30 w22 e30) w39 e46) w55 w64) k55.2.2.1 (xS_d_t z43 (xS_d_s z55))) | (have h9 : r52.toInt = 0 := b55; exact Jb _ p46.1 (N4 _ _ _ (Q2 p30 p46 (Q p30 w22 e30) w39 e46) w55) k46.2.2.1 z43) | (have h9 : r43.toInt = 0 := b46; exact Jb _ p46 (N3 p30 p46 (Q p30 w22 e30) w39 e46) k46 z43) | (have h9 : r36.toInt = 0 := b39; exact Jb _ p30.1 (N2 p30 (Q p30 w22 e30) w39) k30.2.2.1 z27) | (have h9 : r27.toInt = 0 := b30; exact Jb _ p30 (N1 p30 w22 e30) k30 z27) | (have h9 : r19.toInt = 0 := b22; exact Jb _ (tk_a a n 0) (N0 w22) k13.2.2.1 z13)
            · first | (have q9 := x_y h61 b64; obtain ⟨w64, z64, k64⟩ := q9) | (have q9 := x_n h61 b64; obtain ⟨w64, e64⟩ := q9; subst e64)
              refine jr_aload_n C dX6_read_67 rfl ?_
              refine jr_viZ C (js_ZK vq ad av _) hZ [] _ (ct_X6_takeTie2 E _ vq ad av a n (tk_x a n (tk_x a n p46.1)) k64 (by rw [z64.2.1 11 (by decide), z55.2.1 11 (by decide)]; exact t43)) ky_X6_takeTie kv_X6_takeTie kk_X_9 km_X6_58 (by omega) rfl (Nat.le_of_ble_eq_true rfl) dX6_read_68 (fun r68 τ68 h68 => ?_)
              refine jr_nif_eq C 89 dX6_read_71 (by decide) (fun b71 => ?_) (fun b71 => ?_)
              · first | (have q9 := x_tie_1 h68 b71; obtain ⟨w71, k71, t71, n71, q71⟩ := q9) | (have q9 := x_tie_0 h68 b71; obtain ⟨w71, e71⟩ := q9; subst e71)
                refine jr_iconst C (v := 0) dX6_read_89 (by decide) ?_
                first | (have h9 : ¬ ((τ68.1 9 4)).toInt < ((τ68.1 9 2)).toInt := b82; obtain ⟨ti, f1, f2⟩ := q_fin_ok (K := p30.2) (p := p46.2) w71; rw [if_pos (tk_k_z.mpr (by rw [k71.2.2.1, k71.1.2.1] at h9; omega))] at f2; exact Jg _ (p30.2, p46.2, ti) ((Q3 _ _ _ (Q2 p30 p46 (Q p30 w22 e30) w39 e46) w55 w64).trans f2) (x_st_m h68.2.2 (x_st_t z64 (x_st_t z55 s43))) (by have := x_np_t z64 (x_np_t z55 s46); unfold x_np; rw [n71, q71]; exact this) (t71.trans f1) (xS_d_t (xS_d_t (xS_d_t z43 (xS_d_s z55)) (xS_d_s z64)) (xS_d_m h68.2.2))) | (have h9 : ((τ68.1 9 4)).toInt < ((τ68.1 9 2)).toInt := b82; obtain ⟨ti, f1, f2⟩ := q_fin_ok (K := p30.2) (p := p46.2) w71; rw [if_neg (fun w => tk_k_z.mp w (by rw [k71.2.2.1, k71.1.2.1] at h9; omega))] at f2; exact Jb _ _ ((Q3 _ _ _ (Q2 p30 p46 (Q p30 w22 e30) w39 e46) w55 w64).trans f2) k71.2.2.1 (xS_d_t (xS_d_t (xS_d_t z43 (xS_d_s z55)) (xS_d_s z64)) (xS_d_m h68.2.2))) | (have h9 : r68.toInt = 0 := b71; exact Jb _ _ ((Q3 _ _ _ (Q2 p30 p46 (Q p30 w22 e30) w39 e46) w55 w64).trans (q_fin_no w71)) k64.2.2.1 (xS_d_t (xS_d_t z43 (xS_d_s z55)) (xS_d_s z64))) | (have h9 : r61.toInt = 0 := b64; exact Jb _ (tk_x a n p46.1) (N5 _ _ _ (Q2 p30 p46 (Q p30 w22 e30) w39 e46) w55 w64) k55.2.2.1 (xS_d_t z43 (xS_d_s z55))) | (have h9 : r52.toInt = 0 := b55; exact Jb _ p46.1 (N4 _ _ _ (Q2 p30 p46 (Q p30 w22 e30) w39 e46) w55) k46.2.2.1 z43) | (have h9 : r43.toInt = 0 := b46; exact Jb _ p46 (N3 p30 p46 (Q p30 w22 e30) w39 e46) k46 z43) | (have h9 : r36.toInt = 0 := b39; exact Jb _ p30.1 (N2 p30 (Q p30 w22 e30) w39) k30.2.2.1 z27) | (have h9 : r27.toInt = 0 := b30; exact Jb _ p30 (N1 p30 w22 e30) k30 z27) | (have h9 : r19.toInt = 0 := b22; exact Jb _ (tk_a a n 0) (N0 w22) k13.2.2.1 z13)
              · first | (have q9 := x_tie_1 h68 b71; obtain ⟨w71, k71, t71, n71, q71⟩ := q9) | (have q9 := x_tie_0 h68 b71; obtain ⟨w71, e71⟩ := q9; subst e71)
                refine jr_aload_n C dX6_read_74 rfl ?_
                refine jr_geti C kf_X6_61_9 dX6_read_75 ?_
                refine jr_aload_n C dX6_read_78 rfl ?_
                refine jr_geti C kf_X6_22_9 dX6_read_79 ?_
                refine jr_ncmp_lt C 89 dX6_read_82 (by decide) rfl rfl (fun b82 => ?_) (fun b82 => ?_)
                · refine jr_iconst C (v := 0) dX6_read_89 (by decide) ?_
                  first | (have h9 : ¬ ((τ68.1 9 4)).toInt < ((τ68.1 9 2)).toInt := b82; obtain ⟨ti, f1, f2⟩ := q_fin_ok (K := p30.2) (p := p46.2) w71; rw [if_pos (tk_k_z.mpr (by rw [k71.2.2.1, k71.1.2.1] at h9; omega))] at f2; exact Jg _ (p30.2, p46.2, ti) ((Q3 _ _ _ (Q2 p30 p46 (Q p30 w22 e30) w39 e46) w55 w64).trans f2) (x_st_m h68.2.2 (x_st_t z64 (x_st_t z55 s43))) (by have := x_np_t z64 (x_np_t z55 s46); unfold x_np; rw [n71, q71]; exact this) (t71.trans f1) (xS_d_t (xS_d_t (xS_d_t z43 (xS_d_s z55)) (xS_d_s z64)) (xS_d_m h68.2.2))) | (have h9 : ((τ68.1 9 4)).toInt < ((τ68.1 9 2)).toInt := b82; obtain ⟨ti, f1, f2⟩ := q_fin_ok (K := p30.2) (p := p46.2) w71; rw [if_neg (fun w => tk_k_z.mp w (by rw [k71.2.2.1, k71.1.2.1] at h9; omega))] at f2; exact Jb _ _ ((Q3 _ _ _ (Q2 p30 p46 (Q p30 w22 e30) w39 e46) w55 w64).trans f2) k71.2.2.1 (xS_d_t (xS_d_t (xS_d_t z43 (xS_d_s z55)) (xS_d_s z64)) (xS_d_m h68.2.2))) | (have h9 : r68.toInt = 0 := b71; exact Jb _ _ ((Q3 _ _ _ (Q2 p30 p46 (Q p30 w22 e30) w39 e46) w55 w64).trans (q_fin_no w71)) k64.2.2.1 (xS_d_t (xS_d_t z43 (xS_d_s z55)) (xS_d_s z64))) | (have h9 : r61.toInt = 0 := b64; exact Jb _ (tk_x a n p46.1) (N5 _ _ _ (Q2 p30 p46 (Q p30 w22 e30) w39 e46) w55 w64) k55.2.2.1 (xS_d_t z43 (xS_d_s z55))) | (have h9 : r52.toInt = 0 := b55; exact Jb _ p46.1 (N4 _ _ _ (Q2 p30 p46 (Q p30 w22 e30) w39 e46) w55) k46.2.2.1 z43) | (have h9 : r43.toInt = 0 := b46; exact Jb _ p46 (N3 p30 p46 (Q p30 w22 e30) w39 e46) k46 z43) | (have h9 : r36.toInt = 0 := b39; exact Jb _ p30.1 (N2 p30 (Q p30 w22 e30) w39) k30.2.2.1 z27) | (have h9 : r27.toInt = 0 := b30; exact Jb _ p30 (N1 p30 w22 e30) k30 z27) | (have h9 : r19.toInt = 0 := b22; exact Jb _ (tk_a a n 0) (N0 w22) k13.2.2.1 z13)
                · refine jr_iconst C (v := 1) dX6_read_85 (by decide) ?_
                  refine jr_goto C 90 dX6_read_86 (by decide) ?_
                  first | (have h9 : ¬ ((τ68.1 9 4)).toInt < ((τ68.1 9 2)).toInt := b82; obtain ⟨ti, f1, f2⟩ := q_fin_ok (K := p30.2) (p := p46.2) w71; rw [if_pos (tk_k_z.mpr (by rw [k71.2.2.1, k71.1.2.1] at h9; omega))] at f2; exact Jg _ (p30.2, p46.2, ti) ((Q3 _ _ _ (Q2 p30 p46 (Q p30 w22 e30) w39 e46) w55 w64).trans f2) (x_st_m h68.2.2 (x_st_t z64 (x_st_t z55 s43))) (by have := x_np_t z64 (x_np_t z55 s46); unfold x_np; rw [n71, q71]; exact this) (t71.trans f1) (xS_d_t (xS_d_t (xS_d_t z43 (xS_d_s z55)) (xS_d_s z64)) (xS_d_m h68.2.2))) | (have h9 : ((τ68.1 9 4)).toInt < ((τ68.1 9 2)).toInt := b82; obtain ⟨ti, f1, f2⟩ := q_fin_ok (K := p30.2) (p := p46.2) w71; rw [if_neg (fun w => tk_k_z.mp w (by rw [k71.2.2.1, k71.1.2.1] at h9; omega))] at f2; exact Jb _ _ ((Q3 _ _ _ (Q2 p30 p46 (Q p30 w22 e30) w39 e46) w55 w64).trans f2) k71.2.2.1 (xS_d_t (xS_d_t (xS_d_t z43 (xS_d_s z55)) (xS_d_s z64)) (xS_d_m h68.2.2))) | (have h9 : r68.toInt = 0 := b71; exact Jb _ _ ((Q3 _ _ _ (Q2 p30 p46 (Q p30 w22 e30) w39 e46) w55 w64).trans (q_fin_no w71)) k64.2.2.1 (xS_d_t (xS_d_t z43 (xS_d_s z55)) (xS_d_s z64))) | (have h9 : r61.toInt = 0 := b64; exact Jb _ (tk_x a n p46.1) (N5 _ _ _ (Q2 p30 p46 (Q p30 w22 e30) w39 e46) w55 w64) k55.2.2.1 (xS_d_t z43 (xS_d_s z55))) | (have h9 : r52.toInt = 0 := b55; exact Jb _ p46.1 (N4 _ _ _ (Q2 p30 p46 (Q p30 w22 e30) w39 e46) w55) k46.2.2.1 z43) | (have h9 : r43.toInt = 0 := b46; exact Jb _ p46 (N3 p30 p46 (Q p30 w22 e30) w39 e46) k46 z43) | (have h9 : r36.toInt = 0 := b39; exact Jb _ p30.1 (N2 p30 (Q p30 w22 e30) w39) k30.2.2.1 z27) | (have h9 : r27.toInt = 0 := b30; exact Jb _ p30 (N1 p30 w22 e30) k30 z27) | (have h9 : r19.toInt = 0 := b22; exact Jb _ (tk_a a n 0) (N0 w22) k13.2.2.1 z13)

