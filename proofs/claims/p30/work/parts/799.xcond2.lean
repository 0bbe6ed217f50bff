/-! the class: conditions are read exactly -/
/-- a mark of the reference as a step of the class -/
def q_st (x : Int32) : Int32 := if x.toInt = -1 then 0 else if x.toInt = -2 then 1 else if x.toInt = -3 then 2 else if x.toInt = -4 then 3 else if x.toInt = -5 then 4 else 5 + x
/-- the draft's steps -/
def x_st (σ : jf_S) (S : List Int32) : Prop := ((σ.1 11 3)).toInt = (S.length : Int) ∧ m_ls ((σ.1 55)) S
/-- the reader's token and the draft's steps changed at will -/
def xS_e (σ τ : jf_S) : Prop := τ.2 = σ.2 ∧ (∀ k, k ≠ 9 → k ≠ 11 → k ≠ 55 → τ.1 k = σ.1 k) ∧ (∀ j, j < 4 → τ.1 9 j = σ.1 9 j) ∧ (∀ j, j ≠ 3 → τ.1 11 j = σ.1 11 j)
theorem xS_e_r (σ : jf_S) : xS_e σ σ := ⟨rfl, fun _ _ _ _ => rfl, fun _ _ => rfl, fun _ _ => rfl⟩
theorem xS_e_t {σ τ υ : jf_S} (h : xS_e σ τ) (g : xS_e τ υ) : xS_e σ υ := ⟨g.1.trans h.1, fun k a b c => (g.2.1 k a b c).trans (h.2.1 k a b c), fun j a => (g.2.2.1 j a).trans (h.2.2.1 j a), fun j a => (g.2.2.2 j a).trans (h.2.2.2 j a)⟩
theorem xS_e_s {σ τ : jf_S} (h : xS_t σ τ) : xS_e σ τ := ⟨h.1, fun k a _ _ => h.2.1 k a, h.2.2, fun j _ => by rw [h.2.1 11 (by decide)]⟩
theorem xS_e_p {σ : jf_S} {n : Nat} {v w : Int32} : xS_e σ (jf_i (jf_i σ 55 n v) 11 3 w) := by
  refine ⟨rfl, fun k a b c => ?_, fun j a => ?_, fun j a => ?_⟩
  · rw [jf_i_o k b, jf_i_o k c]
  · rw [jf_i_o 9 (by decide), jf_i_o 9 (by decide)]
  · rw [jf_i_ne a, jf_i_o 11 (by decide)]
theorem x_st_t {σ τ : jf_S} {S : List Int32} (z : xS_t σ τ) (h : x_st σ S) : x_st τ S := by
  unfold x_st; rw [z.2.1 11 (by decide), z.2.1 55 (by decide)]; exact h
theorem x_tk_p {a : Nat → Int32} {n f i : Nat} {σ : jf_S} {v w : Int32} (h : x_tk a n σ f) : x_tk a n (jf_i (jf_i σ 55 i v) 11 3 w) f := h
theorem x_st_p {σ : jf_S} {S : List Int32} {v : Int32} (h : x_st σ S) (hl : S.length < 1000) : x_st (jf_i (jf_i σ 55 ((σ.1 11 3)).toNatClampNeg v) 11 3 ((σ.1 11 3) + 1)) (S ++ [v]) := by
  have e := ji_inc1 (k := (σ.1 11 3)) (by have := h.1; omega)
  refine ⟨?_, ?_⟩
  · show ((σ.1 11 3) + 1).toInt = ((S ++ [v]).length : Int)
    rw [List.length_append]
    have := h.1
    show _ = ((S.length + 1 : Nat) : Int)
    omega
  · show m_ls ((jf_i (jf_i σ 55 ((σ.1 11 3)).toNatClampNeg v) 11 3 ((σ.1 11 3) + 1)).1 55) _
    rw [jf_i_o 55 (by decide), jf_i_at, ji_cl h.1]
    exact m_ls_push h.2
theorem ct_X7_addStep2 (E : jf_E) (σ : jf_S) (v : Int32) (hn : 0 ≤ ((σ.1 11 3)).toInt ∧ ((σ.1 11 3)).toInt ≤ 300) : jf_V jh_X E yX7_addStep cX7_addStep 2 0 [jf_r E 11, .int v] σ (fun τ => (((σ.1 11 3)).toInt < 300 → τ = jf_i (jf_i σ 55 ((σ.1 11 3)).toNatClampNeg v) 11 3 ((σ.1 11 3) + 1)) ∧ (¬ ((σ.1 11 3)).toInt < 300 → τ = σ)) := by
  refine jf_mkV (by decide) (Nat.le_of_ble_eq_true rfl) ?_
  intro G C ret
  refine jr_aload_n C dX7_addStep_0 rfl ?_
  refine jr_getv C kf_X7_20_11 dX7_addStep_1 (v := σ.1 11 3) rfl ?_
  refine jr_sipush C (v := 300) dX7_addStep_4 (by decide) ?_
  refine jr_ncmp_ge C (b := 300) 30 dX7_addStep_7 (by decide) rfl rfl (fun b7 => ?_) (fun b7 => ?_)
  · exact ret _ _ _ dX7_addStep_30 (by first | exact ⟨fun h => (by exfalso; omega), fun _ => rfl⟩ | exact ⟨fun _ => rfl, fun h => (by exfalso; omega)⟩)
  · refine jr_aload_n C dX7_addStep_10 rfl ?_
    refine jr_getr C kf_X7_9_11 dX7_addStep_11 ?_
    refine jr_aload_n C dX7_addStep_14 rfl ?_
    refine jr_getv C kf_X7_20_11 dX7_addStep_15 (v := σ.1 11 3) rfl ?_
    refine jr_iload_n C dX7_addStep_18 rfl ?_
    refine jr_iast C ka_X_55 dX7_addStep_19 (ji_in (i := (σ.1 11 3)) (by omega) (by omega)) ?_
    refine jr_aload_n C dX7_addStep_20 rfl ?_
    refine jr_dup C dX7_addStep_21 rfl ?_
    refine jr_getv C kf_X7_20_11 dX7_addStep_22 (v := σ.1 11 3) rfl ?_
    refine jr_iconst C (v := 1) dX7_addStep_25 (by decide) ?_
    refine jr_iadd C dX7_addStep_26 ?_
    refine jr_puti C kp_X7_20_11 dX7_addStep_27 ?_
    exact ret _ _ _ dX7_addStep_30 (by first | exact ⟨fun h => (by exfalso; omega), fun _ => rfl⟩ | exact ⟨fun _ => rfl, fun h => (by exfalso; omega)⟩)
/-- what reading leaves -/
def x_out (a : Nat → Int32) (n : Nat) (S : List Int32) (σ τ : jf_S) (res : q_R) (r : Int32) : Prop := (∀ p, res = .inl p → r = 1 ∧ x_tk a n τ p.1 ∧ x_st τ (S ++ p.2.map q_st)) ∧ (∀ e, res = .inr e → r = 0 ∧ ((τ.1 9 4)).toInt = (e : Int)) ∧ (0 ≤ ((τ.1 11 3)).toInt ∧ ((τ.1 11 3)).toInt ≤ 300) ∧ xS_e σ τ
theorem x_y {r : Int32} {A B D : Prop} {σ τ : jf_S} (h : (r = 1 ∧ A ∧ B) ∨ (r = 0 ∧ D ∧ τ = σ)) (b : ¬ r.toInt = 0) : A ∧ B := by
  rcases h with h | h
  · exact h.2
  · rw [h.1] at b; exact absurd rfl b
theorem x_n {r : Int32} {A B D : Prop} {σ τ : jf_S} (h : (r = 1 ∧ A ∧ B) ∨ (r = 0 ∧ D ∧ τ = σ)) (b : r.toInt = 0) : D ∧ τ = σ := by
  rcases h with h | h
  · rw [h.1] at b; exact absurd b (by decide)
  · exact h.2
theorem x_out_b {a : Nat → Int32} {n : Nat} {S : List Int32} {σ τ : jf_S} {res : q_R} {r : Int32} (h : x_out a n S σ τ res r) : r = 0 ∨ r = 1 := by
  cases e : res with
  | inl p => exact Or.inr (h.1 p e).1
  | inr z => exact Or.inl (h.2.1 z e).1
theorem x_out_1 {a : Nat → Int32} {n : Nat} {S : List Int32} {σ τ : jf_S} {res : q_R} {r : Int32} (h : x_out a n S σ τ res r) (b : ¬ r.toInt = 0) : ∃ p, res = .inl p ∧ x_tk a n τ p.1 ∧ x_st τ (S ++ p.2.map q_st) := by
  cases e : res with
  | inl p => exact ⟨p, rfl, (h.1 p e).2⟩
  | inr z => rw [(h.2.1 z e).1] at b; exact absurd rfl b
theorem x_out_0 {a : Nat → Int32} {n : Nat} {S : List Int32} {σ τ : jf_S} {res : q_R} {r : Int32} (h : x_out a n S σ τ res r) (b : r.toInt = 0) : ∃ e, res = .inr e ∧ ((τ.1 9 4)).toInt = (e : Int) := by
  cases e : res with
  | inl p => rw [(h.1 p e).1] at b; exact absurd b (by decide)
  | inr z => exact ⟨z, rfl, (h.2.1 z e).2⟩
theorem x_num {w : Int32} {v : Int} (h : w.toInt = v) (h0 : 0 ≤ v) (h1 : v ≤ 1000) : 5 + w = q_st (Int32.ofInt v) := by
  have e : w = Int32.ofInt v := Int32.toInt_inj.mp (by rw [h, fb_ofI (by omega) (by omega)])
  have e2 : (Int32.ofInt v).toInt = v := fb_ofI (by omega) (by omega)
  unfold q_st
  rw [e2, if_neg (by omega), if_neg (by omega), if_neg (by omega), if_neg (by omega), if_neg (by omega), e]
theorem ct_X6_takeAsked2 (E : jf_E) (σ : jf_S) (vq : Value) (ad av : Nat → Nat) (a : Nat → Int32) (n f : Nat) (S : List Int32) (h : x_tk a n σ f) (hs : x_st σ S) (hS : S.length < 300) : jf_IZ (js_Z vq ad av (jf_A jh_X E)) jh_X E yX6_takeAsked cX6_takeAsked 2 .boolean 5 [jf_r E 9] σ (fun r τ => x_out a n S σ τ (q_asked a n f) r) := by
  refine jf_mkIZ (by decide) (Nat.le_of_ble_eq_true rfl) ?_
  intro G C hZ ret
  have s1 := hs.1
  have q1 : tk_wb a n f [115, 97, 119] = true → q_asked a n f = .inl (tk_x a n f, [-1]) := fun h => by unfold q_asked; rw [if_pos h]
  have q2 : ¬ tk_wb a n f [115, 97, 119] = true → tk_wb a n f [107, 105, 110] = true → q_asked a n f = .inl (tk_x a n f, [-2]) := fun h g => by unfold q_asked; rw [if_neg h, if_pos g]
  have q3 : ¬ tk_wb a n f [115, 97, 119] = true → ¬ tk_wb a n f [107, 105, 110] = true → ¬ tk_wb a n f [111, 108, 100] = true → q_asked a n f = .inr f := fun h g i => by unfold q_asked; rw [if_neg h, if_neg g, if_neg i]
  have q4 : ¬ tk_wb a n f [115, 97, 119] = true → ¬ tk_wb a n f [107, 105, 110] = true → tk_wb a n f [111, 108, 100] = true → (tk_k a n (tk_x a n f) = 2 ∧ tk_v a n (tk_x a n f) ≤ 1000) → q_asked a n f = .inl (tk_x a n (tk_x a n f), [Int32.ofInt (tk_v a n (tk_x a n f))]) := fun h g i j => by unfold q_asked; rw [if_neg h, if_neg g, if_pos i, if_pos j]
  have q5 : ¬ tk_wb a n f [115, 97, 119] = true → ¬ tk_wb a n f [107, 105, 110] = true → tk_wb a n f [111, 108, 100] = true → ¬ (tk_k a n (tk_x a n f) = 2 ∧ tk_v a n (tk_x a n f) ≤ 1000) → q_asked a n f = .inr (tk_x a n f) := fun h g i j => by unfold q_asked; rw [if_neg h, if_neg g, if_pos i, if_neg j]
  have fin : ∀ (υ : jf_S) (x v : Int32) (g : Nat), xS_t σ υ → x_tk a n υ g → q_asked a n f = .inl (g, [x]) → v = q_st x → x_out a n S σ (jf_i (jf_i υ 55 ((υ.1 11 3)).toNatClampNeg v) 11 3 ((υ.1 11 3) + 1)) (q_asked a n f) 1 := by
    intro υ x v g z k q hv
    have st := x_st_p (v := v) (x_st_t z hs) (by omega)
    refine ⟨fun p hp => ?_, fun e he => (by rw [q] at he; cases he), ?_, xS_e_t (xS_e_s z) xS_e_p⟩
    · rw [q] at hp; cases hp
      subst hv; exact ⟨rfl, x_tk_p k, st⟩
    · have := st.1
      rw [List.length_append] at this
      have this : _ = ((S.length + 1 : Nat) : Int) := this
      omega
  have m0 : ∀ υ : jf_S, xS_t σ υ → 0 ≤ ((υ.1 11 3)).toInt ∧ ((υ.1 11 3)).toInt < 300 := fun υ z => by rw [z.2.1 11 (by decide)]; omega
  have bad : ∀ (υ : jf_S) (e : Nat), xS_t σ υ → ((υ.1 9 4)).toInt = (e : Int) → q_asked a n f = .inr e → x_out a n S σ υ (q_asked a n f) 0 := fun υ e z y q => ⟨fun p hp => (by rw [q] at hp; cases hp), fun e' he => (by rw [q] at he; cases he; exact ⟨rfl, y⟩), by have := m0 υ z; omega, xS_e_s z⟩
  refine jr_aload_n C dX6_takeAsked_0 rfl ?_
  refine jr_ldcS C (hZ.2 10 _ rfl).1 dX6_takeAsked_1 ?_
  refine jr_viZ C (js_ZK vq ad av _) hZ [_] _ (ct_X6_takeWord2 E _ vq ad av 10 _ rfl a n f h) ky_X6_takeWord kv_X6_takeWord kk_X_9 km_X6_40 (by omega) rfl (Nat.le_of_ble_eq_true rfl) dX6_takeAsked_3 (fun r3 τ3 h3 => ?_)
  refine jr_nif_eq C 19 dX6_takeAsked_6 (by decide) (fun b6 => ?_) (fun b6 => ?_)
  · first | (have q9 := x_y h3 b6; obtain ⟨w6, z6, k6⟩ := q9) | (have q9 := x_n h3 b6; obtain ⟨w6, e6⟩ := q9; subst e6)
    refine jr_aload_n C dX6_takeAsked_19 rfl ?_
    refine jr_ldcS C (hZ.2 11 _ rfl).1 dX6_takeAsked_20 ?_
    refine jr_viZ C (js_ZK vq ad av _) hZ [_] _ (ct_X6_takeWord2 E _ vq ad av 11 _ rfl a n f h) ky_X6_takeWord kv_X6_takeWord kk_X_9 km_X6_40 (by omega) rfl (Nat.le_of_ble_eq_true rfl) dX6_takeAsked_22 (fun r22 τ22 h22 => ?_)
    refine jr_nif_eq C 38 dX6_takeAsked_25 (by decide) (fun b25 => ?_) (fun b25 => ?_)
    · first | (have q9 := x_y h22 b25; obtain ⟨w25, z25, k25⟩ := q9) | (have q9 := x_n h22 b25; obtain ⟨w25, e25⟩ := q9; subst e25)
      refine jr_aload_n C dX6_takeAsked_38 rfl ?_
      refine jr_ldcS C (hZ.2 12 _ rfl).1 dX6_takeAsked_39 ?_
      refine jr_viZ C (js_ZK vq ad av _) hZ [_] _ (ct_X6_takeWord2 E _ vq ad av 12 _ rfl a n f h) ky_X6_takeWord kv_X6_takeWord kk_X_9 km_X6_40 (by omega) rfl (Nat.le_of_ble_eq_true rfl) dX6_takeAsked_41 (fun r41 τ41 h41 => ?_)
      refine jr_nif_ne C 49 dX6_takeAsked_44 (by decide) (fun b44 => ?_) (fun b44 => ?_)
      · first | (have q9 := x_y h41 b44; obtain ⟨w44, z44, k44⟩ := q9) | (have q9 := x_n h41 b44; obtain ⟨w44, e44⟩ := q9; subst e44)
        refine jr_aload_n C dX6_takeAsked_49 rfl ?_
        refine jr_geti C kf_X6_71_9 dX6_takeAsked_50 ?_
        refine jr_istore_n C dX6_takeAsked_53 (by decide) ?_
        refine jr_aload_n C dX6_takeAsked_54 rfl ?_
        refine jr_vi C [] _ (ct_X6_takeNumber2 E _ a n (tk_x a n f) k44) ky_X6_takeNumber kv_X6_takeNumber kk_X_9 km_X6_74 (by decide) rfl (Nat.le_of_ble_eq_true rfl) dX6_takeAsked_55 (fun r55 τ55 h55 => ?_)
        refine jr_nif_ne C 63 dX6_takeAsked_58 (by decide) (fun b58 => ?_) (fun b58 => ?_)
        · first | (have q9 := x_y h55 b58; obtain ⟨w58, z58, k58⟩ := q9) | (have q9 := x_n h55 b58; obtain ⟨w58, e58⟩ := q9; subst e58)
          refine jr_aload_n C dX6_takeAsked_63 rfl ?_
          refine jr_getr C kf_X6_18_9 dX6_takeAsked_64 ?_
          refine jr_iconst C (v := 5) dX6_takeAsked_67 (by decide) ?_
          refine jr_iload_n C dX6_takeAsked_68 rfl ?_
          refine jr_iadd C dX6_takeAsked_69 ?_
          refine jr_vv C [.int _] _ (ct_X7_addStep2 E _ _ (by have := m0 _ (xS_t_t z44 z58); omega)) ky_X7_addStep kv_X7_addStep kk_X_11 km_X6_93 (by decide) rfl (Nat.le_of_ble_eq_true rfl) dX6_takeAsked_70 (fun τ70 h70 => ?_)
          have e70 := h70.1 (m0 _ (xS_t_t z44 z58)).2; subst e70
          refine jr_iconst C (v := 1) dX6_takeAsked_73 (by decide) ?_
          exact ret _ _ _ _ dX6_takeAsked_74 (rfl) (fin _ (Int32.ofInt (tk_v a n (tk_x a n f))) _ _ (xS_t_t z44 z58) k58 (q4 w6 w25 w44 w58) (x_num (by rw [k44.2.2.2.2, if_pos w58.1]) (tk_v2 w58.1) w58.2))
        · first | (have q9 := x_y h55 b58; obtain ⟨w58, z58, k58⟩ := q9) | (have q9 := x_n h55 b58; obtain ⟨w58, e58⟩ := q9; subst e58)
          refine jr_iconst C (v := 0) dX6_takeAsked_61 (by decide) ?_
          exact ret _ _ _ _ dX6_takeAsked_62 (rfl) (bad _ (tk_x a n f) z44 k44.2.2.1 (q5 w6 w25 w44 w58))
      · first | (have q9 := x_y h41 b44; obtain ⟨w44, z44, k44⟩ := q9) | (have q9 := x_n h41 b44; obtain ⟨w44, e44⟩ := q9; subst e44)
        refine jr_iconst C (v := 0) dX6_takeAsked_47 (by decide) ?_
        exact ret _ _ _ _ dX6_takeAsked_48 (rfl) (bad _ f (xS_t_r _) h.2.2.1 (q3 w6 w25 w44))
    · first | (have q9 := x_y h22 b25; obtain ⟨w25, z25, k25⟩ := q9) | (have q9 := x_n h22 b25; obtain ⟨w25, e25⟩ := q9; subst e25)
      refine jr_aload_n C dX6_takeAsked_28 rfl ?_
      refine jr_getr C kf_X6_18_9 dX6_takeAsked_29 ?_
      refine jr_iconst C (v := 1) dX6_takeAsked_32 (by decide) ?_
      refine jr_vv C [.int _] _ (ct_X7_addStep2 E _ _ (by have := m0 _ z25; omega)) ky_X7_addStep kv_X7_addStep kk_X_11 km_X6_93 (by decide) rfl (Nat.le_of_ble_eq_true rfl) dX6_takeAsked_33 (fun τ33 h33 => ?_)
      have e33 := h33.1 (m0 _ z25).2; subst e33
      refine jr_iconst C (v := 1) dX6_takeAsked_36 (by decide) ?_
      exact ret _ _ _ _ dX6_takeAsked_37 (rfl) (fin _ (-2) 1 _ z25 k25 (q2 w6 w25) rfl)
  · first | (have q9 := x_y h3 b6; obtain ⟨w6, z6, k6⟩ := q9) | (have q9 := x_n h3 b6; obtain ⟨w6, e6⟩ := q9; subst e6)
    refine jr_aload_n C dX6_takeAsked_9 rfl ?_
    refine jr_getr C kf_X6_18_9 dX6_takeAsked_10 ?_
    refine jr_iconst C (v := 0) dX6_takeAsked_13 (by decide) ?_
    refine jr_vv C [.int _] _ (ct_X7_addStep2 E _ _ (by have := m0 _ z6; omega)) ky_X7_addStep kv_X7_addStep kk_X_11 km_X6_93 (by decide) rfl (Nat.le_of_ble_eq_true rfl) dX6_takeAsked_14 (fun τ14 h14 => ?_)
    have e14 := h14.1 (m0 _ z6).2; subst e14
    refine jr_iconst C (v := 1) dX6_takeAsked_17 (by decide) ?_
    exact ret _ _ _ _ dX6_takeAsked_18 (rfl) (fin _ (-1) 0 _ z6 k6 (q1 w6) rfl)

