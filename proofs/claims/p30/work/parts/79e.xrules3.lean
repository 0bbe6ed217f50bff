/-! the class: rules exactly -/
/-- rules that stand in the class -/
def x_sd (τ : jf_S) (t : List Int32 × List Int32 × Int32) : Prop := (τ.1 8 2) = 1 ∧ ((τ.1 8 3)).toInt = (t.1.length : Int) ∧ m_ls ((τ.1 47)) (t.1.map q_st) ∧ ((τ.1 8 4)).toInt = (t.2.1.length : Int) ∧ m_ls ((τ.1 48)) t.2.1 ∧ (τ.1 8 5) = q_ti t.2.2
theorem m_ls_cpy {f g : Nat → Int32} {L : List Int32} {n : Nat} (h : m_ls f L) (hn : L.length ≤ n) : m_ls (va_cpy f g 0 0 n) L := by
  intro i hi
  unfold va_cpy
  rw [if_pos ⟨Nat.zero_le _, by omega⟩, Nat.sub_zero, Nat.zero_add]
  exact h i hi
theorem x_sd_good {τ : jf_S} {t : List Int32 × List Int32 × Int32} {v : Int32} (s1 : x_st τ (t.1.map q_st)) (s2 : x_np τ t.2.1) (s3 : (τ.1 11 5) = q_ti t.2.2) (hs : q_std t) : x_sd (jf_i (x_become (jf_i τ 9 2 0)) 0 10 v) t := by
  have l1 : (t.1.map q_st).length = t.1.length := List.length_map ..
  refine ⟨rfl, ?_, ?_, s2.1, ?_, s3⟩
  · rw [← l1]; exact s1.1
  · show m_ls ((jf_i (x_become (jf_i τ 9 2 0)) 0 10 v).1 47) _
    unfold x_become
    rw [jf_i_o 47 (by decide), jf_i_o 47 (by decide), jf_i_o 47 (by decide), jf_i_o 47 (by decide), jf_i_o 47 (by decide), jf_a_o 47 (by decide), jf_a_at]
    exact m_ls_cpy s1.2 (by rw [l1]; exact hs.1.1)
  · show m_ls ((jf_i (x_become (jf_i τ 9 2 0)) 0 10 v).1 48) _
    unfold x_become
    rw [jf_i_o 48 (by decide), jf_i_o 48 (by decide), jf_i_o 48 (by decide), jf_i_o 48 (by decide), jf_i_o 48 (by decide), jf_a_at]
    exact m_ls_cpy s2.2 hs.2.1.1
theorem x_sd_R {τ : jf_S} {t : List Int32 × List Int32 × Int32} (h : x_sd τ t) (hs : q_std t) : xR τ := by
  have h1 := h.2.1
  have h2 := h.2.2.2.1
  have h3 := hs.1.1
  have h4 := hs.2.1.1
  unfold xR
  omega
def x_rl (a : Nat → Int32) (n : Nat) (σ τ : jf_S) (r : Int32) : Prop := (∀ t, q_rules a n (tk_a a n 0) = .inl t → r = 0 ∧ (τ.1 9 3) = -1 ∧ x_sd τ t) ∧ (∀ e, q_rules a n (tk_a a n 0) = .inr e → r = -6 ∧ ((τ.1 9 3)).toInt = (e : Int) ∧ τ.1 8 = σ.1 8 ∧ τ.1 47 = σ.1 47 ∧ τ.1 48 = σ.1 48) ∧ xS_R σ τ ∧ (τ.1 9 2) = 0 ∧ xR τ
theorem ct_X10_rules2 (E : jf_E) (σ : jf_S) (vq : Value) (ad av : Nat → Nat) (a : Nat → Int32) (n : Nat) (ha : (σ.1 49) = a) (hn : ((σ.1 9 2)).toInt = (n : Int)) (h3 : n ≤ 300) (hR : xR σ) : jf_IZ (js_Z vq ad av (jf_A jh_X E)) jh_X E yX10_rules cX10_rules 2 .int 34 [jf_r E 0] σ (fun r τ => x_rl a n σ τ r) := by
  refine jf_mkIZ (by decide) (Nat.le_of_ble_eq_true rfl) ?_
  intro G C hZ ret
  have std : ∀ t, q_rules a n (tk_a a n 0) = .inl t → q_std t := fun t h => q_rules_std h3 (tk_a_ok (a := a) (n := n) (p := 0) (Nat.zero_le _)).2 h
  have z1 : ∀ τ4 : jf_S, xS_r σ τ4 → ∀ v : Int32, xS_R σ (jf_i (jf_i τ4 9 2 0) 0 10 v) := fun τ4 z v => ⟨z.1, fun k a0 a8 a9 a11 a47 a48 a55 a56 => by rw [jf_i_o k a0, jf_i_o k a9]; exact z.2.1 k a9 a11 a55 a56⟩
  have z2 : ∀ τ4 : jf_S, xS_r σ τ4 → ∀ v : Int32, xS_R σ (jf_i (x_become (jf_i τ4 9 2 0)) 0 10 v) := fun τ4 z v => ⟨z.1, fun k a0 a8 a9 a11 a47 a48 a55 a56 => by unfold x_become; rw [jf_i_o k a0, jf_i_o k a8, jf_i_o k a8, jf_i_o k a8, jf_i_o k a8, jf_a_o k a48, jf_a_o k a47, jf_i_o k a9]; exact z.2.1 k a9 a11 a55 a56⟩
  have z3 : ∀ τ4 : jf_S, xS_r σ τ4 → ∀ v : Int32, (jf_i (jf_i τ4 9 2 0) 0 10 v).1 8 = σ.1 8 ∧ (jf_i (jf_i τ4 9 2 0) 0 10 v).1 47 = σ.1 47 ∧ (jf_i (jf_i τ4 9 2 0) 0 10 v).1 48 = σ.1 48 := fun τ4 z v => ⟨by rw [jf_i_o 8 (by decide), jf_i_o 8 (by decide)]; exact z.2.1 8 (by decide) (by decide) (by decide) (by decide), by rw [jf_i_o 47 (by decide), jf_i_o 47 (by decide)]; exact z.2.1 47 (by decide) (by decide) (by decide) (by decide), by rw [jf_i_o 48 (by decide), jf_i_o 48 (by decide)]; exact z.2.1 48 (by decide) (by decide) (by decide) (by decide)⟩
  have bad : ∀ (τ4 : jf_S) (r4 v : Int32), x_res a n σ τ4 (q_rules a n (tk_a a n 0)) r4 → r4.toInt = 0 → x_rl a n σ (jf_i (jf_i τ4 9 2 0) 0 10 v) (-6) := by
    intro τ4 r4 v h b
    refine ⟨fun t ht => ?_, fun e he => ⟨rfl, (h.2.1 e he).2, z3 τ4 h.2.2 v⟩, z1 τ4 h.2.2 v, rfl, ?_⟩
    · rw [(h.1 t ht).1] at b; exact absurd b (by decide)
    · unfold xR; rw [(z3 τ4 h.2.2 v).1]; exact hR
  have good : ∀ (τ4 : jf_S) (r4 v : Int32), x_res a n σ τ4 (q_rules a n (tk_a a n 0)) r4 → ¬ r4.toInt = 0 → x_rl a n σ (jf_i (x_become (jf_i τ4 9 2 0)) 0 10 v) 0 := by
    intro τ4 r4 v h b
    cases e : q_rules a n (tk_a a n 0) with
    | inr q => rw [(h.2.1 q e).1] at b; exact absurd rfl b
    | inl t =>
      obtain ⟨-, f1, f2, f3, f4⟩ := h.1 t e
      have sd := x_sd_good (v := v) f2 f3 f4 (std t e)
      refine ⟨fun t' ht => ?_, fun e' he => ?_, z2 τ4 h.2.2 v, rfl, x_sd_R sd (std t e)⟩
      · rw [e] at ht; cases ht; exact ⟨rfl, f1, sd⟩
      · rw [e] at he; cases he
  refine jr_aload_n C dX10_rules_0 rfl ?_
  refine jr_getr C kf_X10_72_0 dX10_rules_1 ?_
  refine jr_viZ C (js_ZK vq ad av _) hZ [] _ (ct_X6_read2 E _ vq ad av a n ha hn h3) ky_X6_read kv_X6_read kk_X_9 km_X10_228 (by omega) rfl (Nat.le_of_ble_eq_true rfl) dX10_rules_4 (fun r4 τ4 h4 => ?_)
  refine jr_istore_n C dX10_rules_7 (by decide) ?_
  refine jr_aload_n C dX10_rules_8 rfl ?_
  refine jr_getr C kf_X10_72_0 dX10_rules_9 ?_
  refine jr_iconst C (v := 0) dX10_rules_12 (by decide) ?_
  refine jr_puti C kp_X10_225_9 dX10_rules_13 ?_
  refine jr_iload_n C dX10_rules_16 rfl ?_
  refine jr_nif_ne C 27 dX10_rules_17 (by decide) (fun b17 => ?_) (fun b17 => ?_)
  · refine jr_aload_n C dX10_rules_27 rfl ?_
    refine jr_getr C kf_X10_65_0 dX10_rules_28 ?_
    refine jr_aload_n C dX10_rules_31 rfl ?_
    refine jr_getr C kf_X10_72_0 dX10_rules_32 ?_
    refine jr_getr C kf_X10_232_9 dX10_rules_35 ?_
    refine jr_vvp C [_] _ (ct_X7_become E _) ky_X7_become kv_X7_become kk_X_8 km_X10_235 (by decide) rfl (Nat.le_of_ble_eq_true rfl) dX10_rules_38 ?_
    refine jr_aload_n C dX10_rules_41 rfl ?_
    refine jr_iconst C (v := 0) dX10_rules_42 (by decide) ?_
    refine jr_vip C [.int _] _ (ct_X10_told E _ _) ky_X10_told kv_X10_told kk_X_0 km_X10_97 (by decide) rfl (Nat.le_of_ble_eq_true rfl) dX10_rules_43 ?_
    exact ret _ _ _ _ dX10_rules_46 rfl (good τ4 r4 _ h4 b17)
  · refine jr_aload_n C dX10_rules_20 rfl ?_
    refine jr_bipush C (v := -6) dX10_rules_21 (by decide) ?_
    refine jr_vip C [.int _] _ (ct_X10_told E _ _) ky_X10_told kv_X10_told kk_X_0 km_X10_97 (by decide) rfl (Nat.le_of_ble_eq_true rfl) dX10_rules_23 ?_
    exact ret _ _ _ _ dX10_rules_26 rfl (bad τ4 r4 _ h4 b17)

