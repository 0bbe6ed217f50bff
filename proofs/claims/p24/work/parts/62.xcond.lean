/-! the class: conditions and manners are read, safe -/
/-- the reader and its draft changed at will -/
def xS_d (σ τ : jf_S) : Prop := τ.2 = σ.2 ∧ (∀ k, k ≠ 9 → k ≠ 11 → k ≠ 55 → k ≠ 56 → τ.1 k = σ.1 k) ∧ (∀ j, j < 4 → τ.1 9 j = σ.1 9 j)
theorem xS_d_r (σ : jf_S) : xS_d σ σ := ⟨rfl, fun _ _ _ _ _ => rfl, fun _ _ => rfl⟩
theorem xS_d_t {σ τ υ : jf_S} (h : xS_d σ τ) (g : xS_d τ υ) : xS_d σ υ := ⟨g.1.trans h.1, fun k a b c d => (g.2.1 k a b c d).trans (h.2.1 k a b c d), fun j a => (g.2.2 j a).trans (h.2.2 j a)⟩
theorem xS_d_s {σ τ : jf_S} (h : xS_t σ τ) : xS_d σ τ := ⟨h.1, fun k a _ _ _ => h.2.1 k a, h.2.2⟩
theorem xS_d_i {σ τ : jf_S} (h : xS_d σ τ) {k j : Nat} {v : Int32} (hk : k = 11 ∨ k = 55 ∨ k = 56) : xS_d σ (jf_i τ k j v) := by
  refine ⟨h.1, fun i a b c d => ?_, fun i a => ?_⟩
  · rw [jf_i_o i (by omega)]; exact h.2.1 i a b c d
  · rw [jf_i_o 9 (by omega)]; exact h.2.2 i a
/-- how far the draft is -/
def xD (τ : jf_S) : Prop := (0 ≤ ((τ.1 11 3)).toInt ∧ ((τ.1 11 3)).toInt ≤ 300) ∧ (0 ≤ ((τ.1 11 4)).toInt ∧ ((τ.1 11 4)).toInt ≤ 5)
def xQ (τ : jf_S) : Prop := xT τ ∧ xD τ
theorem xQ_s {σ τ : jf_S} (h : xQ σ) (g : xS_t σ τ ∧ xT τ) : xQ τ := by
  refine ⟨g.2, ?_⟩
  unfold xD
  rw [g.1.2.1 11 (by decide)]
  exact h.2
/-- what a reading step leaves -/
def xWd (σ τ : jf_S) : Prop := xS_d σ τ ∧ xQ τ
theorem xWd_r {σ : jf_S} (h : xQ σ) : xWd σ σ := ⟨xS_d_r σ, h⟩
theorem xWd_t {σ τ υ : jf_S} (h : xWd σ τ) (g : xWd τ υ) : xWd σ υ := ⟨xS_d_t h.1 g.1, g.2⟩
theorem xWd_s {σ τ : jf_S} (h : xQ σ) (g : xS_t σ τ ∧ xT τ) : xWd σ τ := ⟨xS_d_s g.1, xQ_s h g⟩
theorem xWd_step {σ τ : jf_S} {v : Int32} (h : xQ σ) (g : τ = σ ∨ (((σ.1 11 3)).toInt < 300 ∧ τ = jf_i (jf_i σ 55 ((σ.1 11 3)).toNatClampNeg v) 11 3 ((σ.1 11 3) + 1))) : xWd σ τ := by
  rcases g with g | ⟨g1, g⟩
  · subst g; exact xWd_r h
  · subst g
    have hd := h.2.1
    have e1 := ji_inc1 (k := (σ.1 11 3)) (by omega)
    exact ⟨xS_d_i (xS_d_i (xS_d_r σ) (by decide)) (by decide), h.1, ⟨show 0 ≤ ((σ.1 11 3) + 1).toInt ∧ ((σ.1 11 3) + 1).toInt ≤ 300 by omega, h.2.2⟩⟩
theorem xWd_num {σ τ : jf_S} {v : Int32} (h : xQ σ) (g : τ = σ ∨ (((σ.1 11 4)).toInt < 5 ∧ τ = jf_i (jf_i σ 56 ((σ.1 11 4)).toNatClampNeg v) 11 4 ((σ.1 11 4) + 1))) : xWd σ τ := by
  rcases g with g | ⟨g1, g⟩
  · subst g; exact xWd_r h
  · subst g
    have hd := h.2.2
    have e1 := ji_inc1 (k := (σ.1 11 4)) (by omega)
    exact ⟨xS_d_i (xS_d_i (xS_d_r σ) (by decide)) (by decide), h.1, ⟨h.2.1, show 0 ≤ ((σ.1 11 4) + 1).toInt ∧ ((σ.1 11 4) + 1).toInt ≤ 5 by omega⟩⟩
theorem x_nb {r : Int32} (h : r = 0 ∨ r = 1) : narrow .boolean (.int r) = .int r := by rcases h with h | h <;> rw [h] <;> rfl
theorem ct_X6_takePoints (E : jf_E) (σ : jf_S) (hQ : xQ σ) : jf_I jh_X E yX6_takePoints cX6_takePoints 2 .boolean 2 [jf_r E 9] σ (fun r τ => (r = 0 ∨ r = 1) ∧ xWd σ τ) := by
  refine jf_mkI (by decide) (Nat.le_of_ble_eq_true rfl) ?_
  intro G C ret
  refine jr_aload_n C dX6_takePoints_0 rfl ?_
  refine jr_getv C kf_X6_71_9 dX6_takePoints_1 (v := σ.1 9 6) rfl ?_
  refine jr_istore_n C dX6_takePoints_4 (by decide) ?_
  refine jr_aload_n C dX6_takePoints_5 rfl ?_
  refine jr_vi C [] _ (ct_X6_takeNumber E _ hQ.1) ky_X6_takeNumber kv_X6_takeNumber kk_X_9 km_X6_74 (by decide) rfl (Nat.le_of_ble_eq_true rfl) dX6_takePoints_6 (fun r6 τ6 h6 => ?_)
  have w6 := xWd_s hQ h6.2
  refine jr_nif_eq C 27 dX6_takePoints_9 (by decide) (fun b9 => ?_) (fun b9 => ?_)
  · refine jr_iconst C (v := 0) dX6_takePoints_27 (by decide) ?_
    exact ret _ _ _ _ dX6_takePoints_28 (rfl) (by first | exact ⟨by decide, w17⟩ | exact ⟨by decide, w6⟩)
  · refine jr_aload_n C dX6_takePoints_12 rfl ?_
    refine jr_getr C kf_X6_18_9 dX6_takePoints_13 ?_
    refine jr_iload_n C dX6_takePoints_16 rfl ?_
    refine jr_vi C [.int _] _ (ct_X7_addNumber E _ _ w6.2.2.2) ky_X7_addNumber kv_X7_addNumber kk_X_11 km_X6_77 (by decide) rfl (Nat.le_of_ble_eq_true rfl) dX6_takePoints_17 (fun r17 τ17 h17 => ?_)
    have w17 := xWd_t w6 (xWd_num w6.2 h17.2)
    refine jr_nif_eq C 27 dX6_takePoints_20 (by decide) (fun b20 => ?_) (fun b20 => ?_)
    · refine jr_iconst C (v := 0) dX6_takePoints_27 (by decide) ?_
      exact ret _ _ _ _ dX6_takePoints_28 (rfl) (by first | exact ⟨by decide, w17⟩ | exact ⟨by decide, w6⟩)
    · refine jr_iconst C (v := 1) dX6_takePoints_23 (by decide) ?_
      refine jr_goto C 28 dX6_takePoints_24 (by decide) ?_
      exact ret _ _ _ _ dX6_takePoints_28 (rfl) (by first | exact ⟨by decide, w17⟩ | exact ⟨by decide, w6⟩)
theorem ct_X6_takeTie (E : jf_E) (σ : jf_S) (vq : Value) (ad av : Nat → Nat) (hQ : xQ σ) : jf_IZ (js_Z vq ad av (jf_A jh_X E)) jh_X E yX6_takeTie cX6_takeTie 1 .boolean 5 [jf_r E 9] σ (fun r τ => (r = 0 ∨ r = 1) ∧ xWd σ τ) := by
  refine jf_mkIZ (by decide) (Nat.le_of_ble_eq_true rfl) ?_
  intro G C hZ ret
  refine jr_aload_n C dX6_takeTie_0 rfl ?_
  refine jr_ldcS C (hZ.2 4 _ rfl).1 dX6_takeTie_1 ?_
  refine jr_viZ C (js_ZK vq ad av _) hZ [_] _ (ct_X6_takeWord E _ vq ad av 4 _ rfl hQ.1) ky_X6_takeWord kv_X6_takeWord kk_X_9 km_X6_40 (by omega) rfl (Nat.le_of_ble_eq_true rfl) dX6_takeTie_3 (fun r3 τ3 h3 => ?_)
  have w3 := xWd_s hQ h3.2
  refine jr_nif_eq C 19 dX6_takeTie_6 (by decide) (fun b6 => ?_) (fun b6 => ?_)
  · refine jr_aload_n C dX6_takeTie_19 rfl ?_
    refine jr_ldcS C (hZ.2 5 _ rfl).1 dX6_takeTie_20 ?_
    refine jr_viZ C (js_ZK vq ad av _) hZ [_] _ (ct_X6_takeWord E _ vq ad av 5 _ rfl w3.2.1) ky_X6_takeWord kv_X6_takeWord kk_X_9 km_X6_40 (by omega) rfl (Nat.le_of_ble_eq_true rfl) dX6_takeTie_22 (fun r22 τ22 h22 => ?_)
    have w22 := xWd_t w3 (xWd_s w3.2 h22.2)
    refine jr_nif_eq C 38 dX6_takeTie_25 (by decide) (fun b25 => ?_) (fun b25 => ?_)
    · refine jr_aload_n C dX6_takeTie_38 rfl ?_
      refine jr_ldcS C (hZ.2 6 _ rfl).1 dX6_takeTie_39 ?_
      refine jr_viZ C (js_ZK vq ad av _) hZ [_] _ (ct_X6_takeWord E _ vq ad av 6 _ rfl w22.2.1) ky_X6_takeWord kv_X6_takeWord kk_X_9 km_X6_40 (by omega) rfl (Nat.le_of_ble_eq_true rfl) dX6_takeTie_41 (fun r41 τ41 h41 => ?_)
      have w41 := xWd_t w22 (xWd_s w22.2 h41.2)
      exact ret _ _ _ _ dX6_takeTie_44 (x_nb h41.1) (⟨h41.1, w41⟩)
    · refine jr_aload_n C dX6_takeTie_28 rfl ?_
      refine jr_getr C kf_X6_18_9 dX6_takeTie_29 ?_
      refine jr_iconst C (v := 2) dX6_takeTie_32 (by decide) ?_
      refine jr_puti C kp_X6_82_11 dX6_takeTie_33 ?_
      refine jr_iconst C (v := 1) dX6_takeTie_36 (by decide) ?_
      exact ret _ _ _ _ dX6_takeTie_37 (rfl) (⟨by decide, xS_d_i w22.1 (by decide), w22.2⟩)
  · refine jr_aload_n C dX6_takeTie_9 rfl ?_
    refine jr_getr C kf_X6_18_9 dX6_takeTie_10 ?_
    refine jr_iconst C (v := 1) dX6_takeTie_13 (by decide) ?_
    refine jr_puti C kp_X6_82_11 dX6_takeTie_14 ?_
    refine jr_iconst C (v := 1) dX6_takeTie_17 (by decide) ?_
    exact ret _ _ _ _ dX6_takeTie_18 (rfl) (⟨by decide, xS_d_i w3.1 (by decide), w3.2⟩)
theorem ct_X6_takeManner (E : jf_E) (σ : jf_S) (vq : Value) (ad av : Nat → Nat) (hQ : xQ σ) : jf_IZ (js_Z vq ad av (jf_A jh_X E)) jh_X E yX6_takeManner cX6_takeManner 2 .boolean 5 [jf_r E 9] σ (fun r τ => (r = 0 ∨ r = 1) ∧ xWd σ τ) := by
  refine jf_mkIZ (by decide) (Nat.le_of_ble_eq_true rfl) ?_
  intro G C hZ ret
  have l31 : ∀ (m : Nat) (τ : jf_S) (k : Int32), xWd σ τ → 0 ≤ k.toInt → k.toInt ≤ 5 → 5 - k.toInt < m → jf_X jh_X E G 2 31 [(0, jf_r E 9), (1, .int k)] [] τ := by
    intro m
    induction m with
    | zero => intro τ k w g1 g2 g3; exfalso; omega
    | succ m ih =>
      intro τ k w g1 g2 g3
      have e1 := ji_inc (k := k) (by omega)
      refine jr_iload_n C dX6_takeManner_31 rfl ?_
      refine jr_iconst C (v := 5) dX6_takeManner_32 (by decide) ?_
      refine jr_ncmp_ge C (b := 5) 59 dX6_takeManner_33 (by decide) rfl rfl (fun b33 => ?_) (fun b33 => ?_)
      · refine jr_iconst C (v := 1) dX6_takeManner_59 (by decide) ?_
        exact ret _ _ _ _ dX6_takeManner_60 (rfl) (by first | exact ⟨by decide, w45⟩ | exact ⟨by decide, w⟩)
      · refine jr_aload_n C dX6_takeManner_36 rfl ?_
        refine jr_getv C kf_X6_71_9 dX6_takeManner_37 (v := τ.1 9 6) rfl ?_
        refine jr_iconst C (v := -1) dX6_takeManner_40 (by decide) ?_
        refine jr_ncmp_eq C (b := -1) 59 dX6_takeManner_41 (by decide) rfl rfl (fun b41 => ?_) (fun b41 => ?_)
        · refine jr_iconst C (v := 1) dX6_takeManner_59 (by decide) ?_
          exact ret _ _ _ _ dX6_takeManner_60 (rfl) (by first | exact ⟨by decide, w45⟩ | exact ⟨by decide, w⟩)
        · refine jr_aload_n C dX6_takeManner_44 rfl ?_
          refine jr_vi C [] _ (ct_X6_takePoints E _ w.2) ky_X6_takePoints kv_X6_takePoints kk_X_9 km_X6_68 (by decide) rfl (Nat.le_of_ble_eq_true rfl) dX6_takeManner_45 (fun r45 τ45 h45 => ?_)
          have w45 := xWd_t w h45.2
          refine jr_nif_ne C 53 dX6_takeManner_48 (by decide) (fun b48 => ?_) (fun b48 => ?_)
          · refine jr_iinc C _ dX6_takeManner_53 rfl rfl (by decide) ?_
            refine jr_goto C 31 dX6_takeManner_56 (by decide) ?_
            exact jr_sub [(0, jf_r E 9), (1, .int _)] rfl (ih _ _ w45 (by omega) (by omega) (by omega))
          · refine jr_iconst C (v := 0) dX6_takeManner_51 (by decide) ?_
            exact ret _ _ _ _ dX6_takeManner_52 (rfl) (by first | exact ⟨by decide, w45⟩ | exact ⟨by decide, w⟩)
  refine jr_aload_n C dX6_takeManner_0 rfl ?_
  refine jr_ldcS C (hZ.2 2 _ rfl).1 dX6_takeManner_1 ?_
  refine jr_viZ C (js_ZK vq ad av _) hZ [_] _ (ct_X6_takeWord E _ vq ad av 2 _ rfl hQ.1) ky_X6_takeWord kv_X6_takeWord kk_X_9 km_X6_40 (by omega) rfl (Nat.le_of_ble_eq_true rfl) dX6_takeManner_3 (fun r3 τ3 h3 => ?_)
  have w3 := xWd_s hQ h3.2
  refine jr_nif_eq C 11 dX6_takeManner_6 (by decide) (fun b6 => ?_) (fun b6 => ?_)
  · refine jr_aload_n C dX6_takeManner_11 rfl ?_
    refine jr_ldcS C (hZ.2 3 _ rfl).1 dX6_takeManner_12 ?_
    refine jr_viZ C (js_ZK vq ad av _) hZ [_] _ (ct_X6_takeWord E _ vq ad av 3 _ rfl w3.2.1) ky_X6_takeWord kv_X6_takeWord kk_X_9 km_X6_40 (by omega) rfl (Nat.le_of_ble_eq_true rfl) dX6_takeManner_14 (fun r14 τ14 h14 => ?_)
    have w14 := xWd_t w3 (xWd_s w3.2 h14.2)
    refine jr_nif_eq C 27 dX6_takeManner_17 (by decide) (fun b17 => ?_) (fun b17 => ?_)
    · refine jr_iconst C (v := 0) dX6_takeManner_27 (by decide) ?_
      exact ret _ _ _ _ dX6_takeManner_28 (rfl) (by first | exact ⟨by decide, w21⟩ | exact ⟨by decide, w14⟩ | exact ⟨by decide, w3⟩)
    · refine jr_aload_n C dX6_takeManner_20 rfl ?_
      refine jr_vi C [] _ (ct_X6_takePoints E _ w14.2) ky_X6_takePoints kv_X6_takePoints kk_X_9 km_X6_68 (by decide) rfl (Nat.le_of_ble_eq_true rfl) dX6_takeManner_21 (fun r21 τ21 h21 => ?_)
      have w21 := xWd_t w14 h21.2
      refine jr_nif_ne C 29 dX6_takeManner_24 (by decide) (fun b24 => ?_) (fun b24 => ?_)
      · refine jr_iconst C (v := 1) dX6_takeManner_29 (by decide) ?_
        refine jr_istore_n C dX6_takeManner_30 (by decide) ?_
        exact jr_sub [(0, jf_r E 9), (1, .int 1)] rfl (l31 6 _ _ w21 (by decide) (by decide) (by decide))
      · refine jr_iconst C (v := 0) dX6_takeManner_27 (by decide) ?_
        exact ret _ _ _ _ dX6_takeManner_28 (rfl) (by first | exact ⟨by decide, w21⟩ | exact ⟨by decide, w14⟩ | exact ⟨by decide, w3⟩)
  · refine jr_iconst C (v := 1) dX6_takeManner_9 (by decide) ?_
    exact ret _ _ _ _ dX6_takeManner_10 (rfl) (by first | exact ⟨by decide, w21⟩ | exact ⟨by decide, w14⟩ | exact ⟨by decide, w3⟩)
theorem ct_X6_takeAsked (E : jf_E) (σ : jf_S) (vq : Value) (ad av : Nat → Nat) (hQ : xQ σ) : jf_IZ (js_Z vq ad av (jf_A jh_X E)) jh_X E yX6_takeAsked cX6_takeAsked 2 .boolean 5 [jf_r E 9] σ (fun r τ => (r = 0 ∨ r = 1) ∧ xWd σ τ) := by
  refine jf_mkIZ (by decide) (Nat.le_of_ble_eq_true rfl) ?_
  intro G C hZ ret
  refine jr_aload_n C dX6_takeAsked_0 rfl ?_
  refine jr_ldcS C (hZ.2 10 _ rfl).1 dX6_takeAsked_1 ?_
  refine jr_viZ C (js_ZK vq ad av _) hZ [_] _ (ct_X6_takeWord E _ vq ad av 10 _ rfl hQ.1) ky_X6_takeWord kv_X6_takeWord kk_X_9 km_X6_40 (by omega) rfl (Nat.le_of_ble_eq_true rfl) dX6_takeAsked_3 (fun r3 τ3 h3 => ?_)
  have w3 := xWd_s hQ h3.2
  refine jr_nif_eq C 19 dX6_takeAsked_6 (by decide) (fun b6 => ?_) (fun b6 => ?_)
  · refine jr_aload_n C dX6_takeAsked_19 rfl ?_
    refine jr_ldcS C (hZ.2 11 _ rfl).1 dX6_takeAsked_20 ?_
    refine jr_viZ C (js_ZK vq ad av _) hZ [_] _ (ct_X6_takeWord E _ vq ad av 11 _ rfl w3.2.1) ky_X6_takeWord kv_X6_takeWord kk_X_9 km_X6_40 (by omega) rfl (Nat.le_of_ble_eq_true rfl) dX6_takeAsked_22 (fun r22 τ22 h22 => ?_)
    have w22 := xWd_t w3 (xWd_s w3.2 h22.2)
    refine jr_nif_eq C 38 dX6_takeAsked_25 (by decide) (fun b25 => ?_) (fun b25 => ?_)
    · refine jr_aload_n C dX6_takeAsked_38 rfl ?_
      refine jr_ldcS C (hZ.2 12 _ rfl).1 dX6_takeAsked_39 ?_
      refine jr_viZ C (js_ZK vq ad av _) hZ [_] _ (ct_X6_takeWord E _ vq ad av 12 _ rfl w22.2.1) ky_X6_takeWord kv_X6_takeWord kk_X_9 km_X6_40 (by omega) rfl (Nat.le_of_ble_eq_true rfl) dX6_takeAsked_41 (fun r41 τ41 h41 => ?_)
      have w41 := xWd_t w22 (xWd_s w22.2 h41.2)
      refine jr_nif_ne C 49 dX6_takeAsked_44 (by decide) (fun b44 => ?_) (fun b44 => ?_)
      · refine jr_aload_n C dX6_takeAsked_49 rfl ?_
        refine jr_geti C kf_X6_71_9 dX6_takeAsked_50 ?_
        refine jr_istore_n C dX6_takeAsked_53 (by decide) ?_
        refine jr_aload_n C dX6_takeAsked_54 rfl ?_
        refine jr_vi C [] _ (ct_X6_takeNumber E _ w41.2.1) ky_X6_takeNumber kv_X6_takeNumber kk_X_9 km_X6_74 (by decide) rfl (Nat.le_of_ble_eq_true rfl) dX6_takeAsked_55 (fun r55 τ55 h55 => ?_)
        have w55 := xWd_t w41 (xWd_s w41.2 h55.2)
        refine jr_nif_ne C 63 dX6_takeAsked_58 (by decide) (fun b58 => ?_) (fun b58 => ?_)
        · refine jr_aload_n C dX6_takeAsked_63 rfl ?_
          refine jr_getr C kf_X6_18_9 dX6_takeAsked_64 ?_
          refine jr_iconst C (v := 5) dX6_takeAsked_67 (by decide) ?_
          refine jr_iload_n C dX6_takeAsked_68 rfl ?_
          refine jr_iadd C dX6_takeAsked_69 ?_
          refine jr_vv C [.int _] _ (ct_X7_addStep E _ _ w55.2.2.1) ky_X7_addStep kv_X7_addStep kk_X_11 km_X6_93 (by decide) rfl (Nat.le_of_ble_eq_true rfl) dX6_takeAsked_70 (fun τ70 h70 => ?_)
          have w70 := xWd_t w55 (xWd_step w55.2 h70)
          refine jr_iconst C (v := 1) dX6_takeAsked_73 (by decide) ?_
          exact ret _ _ _ _ dX6_takeAsked_74 (rfl) (⟨by decide, w70⟩)
        · refine jr_iconst C (v := 0) dX6_takeAsked_61 (by decide) ?_
          exact ret _ _ _ _ dX6_takeAsked_62 (rfl) (⟨by decide, w55⟩)
      · refine jr_iconst C (v := 0) dX6_takeAsked_47 (by decide) ?_
        exact ret _ _ _ _ dX6_takeAsked_48 (rfl) (⟨by decide, w41⟩)
    · refine jr_aload_n C dX6_takeAsked_28 rfl ?_
      refine jr_getr C kf_X6_18_9 dX6_takeAsked_29 ?_
      refine jr_iconst C (v := 1) dX6_takeAsked_32 (by decide) ?_
      refine jr_vv C [.int _] _ (ct_X7_addStep E _ _ w22.2.2.1) ky_X7_addStep kv_X7_addStep kk_X_11 km_X6_93 (by decide) rfl (Nat.le_of_ble_eq_true rfl) dX6_takeAsked_33 (fun τ33 h33 => ?_)
      have w33 := xWd_t w22 (xWd_step w22.2 h33)
      refine jr_iconst C (v := 1) dX6_takeAsked_36 (by decide) ?_
      exact ret _ _ _ _ dX6_takeAsked_37 (rfl) (⟨by decide, w33⟩)
  · refine jr_aload_n C dX6_takeAsked_9 rfl ?_
    refine jr_getr C kf_X6_18_9 dX6_takeAsked_10 ?_
    refine jr_iconst C (v := 0) dX6_takeAsked_13 (by decide) ?_
    refine jr_vv C [.int _] _ (ct_X7_addStep E _ _ w3.2.2.1) ky_X7_addStep kv_X7_addStep kk_X_11 km_X6_93 (by decide) rfl (Nat.le_of_ble_eq_true rfl) dX6_takeAsked_14 (fun τ14 h14 => ?_)
    have w14 := xWd_t w3 (xWd_step w3.2 h14)
    refine jr_iconst C (v := 1) dX6_takeAsked_17 (by decide) ?_
    exact ret _ _ _ _ dX6_takeAsked_18 (rfl) (⟨by decide, w14⟩)
theorem co_takeNot (E : jf_E) (σ : jf_S) (vq : Value) (ad av : Nat → Nat) (p : Int32) (n : Nat) (hp : p.toInt = 8 - (n : Int)) (hQ : xQ σ) (ihN : n ≠ 0 → ∀ (E : jf_E) (σ : jf_S) (vq : Value) (ad av : Nat → Nat) (p : Int32), p.toInt = 8 - ((n - 1 : Nat) : Int) → xQ σ → jf_IZ (js_Z vq ad av (jf_A jh_X E)) jh_X E yX6_takeNot cX6_takeNot 3 .boolean (6 + 3 * (n - 1)) [jf_r E 9, .int p] σ (fun r τ => (r = 0 ∨ r = 1) ∧ xWd σ τ)) (ihC : n ≠ 0 → ∀ (E : jf_E) (σ : jf_S) (vq : Value) (ad av : Nat → Nat) (p : Int32), p.toInt = 8 - ((n - 1 : Nat) : Int) → xQ σ → jf_IZ (js_Z vq ad av (jf_A jh_X E)) jh_X E yX6_takeCond cX6_takeCond 4 .boolean (8 + 3 * (n - 1)) [jf_r E 9, .int p] σ (fun r τ => (r = 0 ∨ r = 1) ∧ xWd σ τ)) : jf_IZ (js_Z vq ad av (jf_A jh_X E)) jh_X E yX6_takeNot cX6_takeNot 3 .boolean (6 + 3 * n) [jf_r E 9, .int p] σ (fun r τ => (r = 0 ∨ r = 1) ∧ xWd σ τ) := by
  refine jf_mkIZ (by decide) (Nat.le_of_ble_eq_true rfl) ?_
  intro G C hZ ret
  have e1 := ji_inc1 (k := p) (by omega)
  refine jr_iload_n C dX6_takeNot_0 rfl ?_
  refine jr_bipush C (v := 8) dX6_takeNot_1 (by decide) ?_
  refine jr_ncmp_ge C (b := 8) 33 dX6_takeNot_3 (by decide) rfl rfl (fun b3 => ?_) (fun b3 => ?_)
  · refine jr_iload_n C dX6_takeNot_33 rfl ?_
    refine jr_bipush C (v := 8) dX6_takeNot_34 (by decide) ?_
    refine jr_ncmp_ge C (b := 8) 73 dX6_takeNot_36 (by decide) rfl rfl (fun b36 => ?_) (fun b36 => ?_)
    · refine jr_aload_n C dX6_takeNot_73 rfl ?_
      refine jr_viZ C (js_ZK vq ad av _) hZ [] _ (ct_X6_takeAsked E _ vq ad av (by first | exact w42.2 | exact w9.2 | exact hQ)) ky_X6_takeAsked kv_X6_takeAsked kk_X_9 km_X6_104 (by omega) rfl (Nat.le_of_ble_eq_true rfl) dX6_takeNot_74 (fun r74 τ74 h74 => ?_)
      have w74 : xWd σ τ74 := by first | exact xWd_t w42 h74.2 | exact xWd_t w9 h74.2 | exact h74.2
      exact ret _ _ _ _ dX6_takeNot_77 (x_nb h74.1) (⟨h74.1, w74⟩)
    · refine jr_aload_n C dX6_takeNot_39 rfl ?_
      refine jr_bipush C (v := 40) dX6_takeNot_40 (by decide) ?_
      refine jr_vi C [.int _] _ (ct_X6_takeByte E _ _ (by first | exact w9.2.1 | exact hQ.1)) ky_X6_takeByte kv_X6_takeByte kk_X_9 km_X6_48 (by omega) rfl (Nat.le_of_ble_eq_true rfl) dX6_takeNot_42 (fun r42 τ42 h42 => ?_)
      have w42 : xWd σ τ42 := by first | exact xWd_t w9 (xWd_s w9.2 h42.2) | exact xWd_s hQ h42.2
      refine jr_nif_eq C 73 dX6_takeNot_45 (by decide) (fun b45 => ?_) (fun b45 => ?_)
      · refine jr_aload_n C dX6_takeNot_73 rfl ?_
        refine jr_viZ C (js_ZK vq ad av _) hZ [] _ (ct_X6_takeAsked E _ vq ad av (by first | exact w42.2 | exact w9.2 | exact hQ)) ky_X6_takeAsked kv_X6_takeAsked kk_X_9 km_X6_104 (by omega) rfl (Nat.le_of_ble_eq_true rfl) dX6_takeNot_74 (fun r74 τ74 h74 => ?_)
        have w74 : xWd σ τ74 := by first | exact xWd_t w42 h74.2 | exact xWd_t w9 h74.2 | exact h74.2
        exact ret _ _ _ _ dX6_takeNot_77 (x_nb h74.1) (⟨h74.1, w74⟩)
      · refine jr_aload_n C dX6_takeNot_48 rfl ?_
        refine jr_iload_n C dX6_takeNot_49 rfl ?_
        refine jr_iconst C (v := 1) dX6_takeNot_50 (by decide) ?_
        refine jr_iadd C dX6_takeNot_51 ?_
        refine jr_viZ C (js_ZK vq ad av _) hZ [.int _] _ ((ihC (by omega)) E _ vq ad av _ (by omega) w42.2) ky_X6_takeCond kv_X6_takeCond kk_X_9 km_X6_44 (by omega) rfl (Nat.le_of_ble_eq_true rfl) dX6_takeNot_52 (fun r52 τ52 h52 => ?_)
        have w52 := xWd_t w42 h52.2
        refine jr_nif_eq C 71 dX6_takeNot_55 (by decide) (fun b55 => ?_) (fun b55 => ?_)
        · refine jr_iconst C (v := 0) dX6_takeNot_71 (by decide) ?_
          exact ret _ _ _ _ dX6_takeNot_72 (rfl) (by first | exact ⟨by decide, w61⟩ | exact ⟨by decide, w52⟩)
        · refine jr_aload_n C dX6_takeNot_58 rfl ?_
          refine jr_bipush C (v := 41) dX6_takeNot_59 (by decide) ?_
          refine jr_vi C [.int _] _ (ct_X6_takeByte E _ _ w52.2.1) ky_X6_takeByte kv_X6_takeByte kk_X_9 km_X6_48 (by omega) rfl (Nat.le_of_ble_eq_true rfl) dX6_takeNot_61 (fun r61 τ61 h61 => ?_)
          have w61 := xWd_t w52 (xWd_s w52.2 h61.2)
          refine jr_nif_eq C 71 dX6_takeNot_64 (by decide) (fun b64 => ?_) (fun b64 => ?_)
          · refine jr_iconst C (v := 0) dX6_takeNot_71 (by decide) ?_
            exact ret _ _ _ _ dX6_takeNot_72 (rfl) (by first | exact ⟨by decide, w61⟩ | exact ⟨by decide, w52⟩)
          · refine jr_iconst C (v := 1) dX6_takeNot_67 (by decide) ?_
            refine jr_goto C 72 dX6_takeNot_68 (by decide) ?_
            exact ret _ _ _ _ dX6_takeNot_72 (rfl) (by first | exact ⟨by decide, w61⟩ | exact ⟨by decide, w52⟩)
  · refine jr_aload_n C dX6_takeNot_6 rfl ?_
    refine jr_ldcS C (hZ.2 9 _ rfl).1 dX6_takeNot_7 ?_
    refine jr_viZ C (js_ZK vq ad av _) hZ [_] _ (ct_X6_takeWord E _ vq ad av 9 _ rfl hQ.1) ky_X6_takeWord kv_X6_takeWord kk_X_9 km_X6_40 (by omega) rfl (Nat.le_of_ble_eq_true rfl) dX6_takeNot_9 (fun r9 τ9 h9 => ?_)
    have w9 := xWd_s hQ h9.2
    refine jr_nif_eq C 33 dX6_takeNot_12 (by decide) (fun b12 => ?_) (fun b12 => ?_)
    · refine jr_iload_n C dX6_takeNot_33 rfl ?_
      refine jr_bipush C (v := 8) dX6_takeNot_34 (by decide) ?_
      refine jr_ncmp_ge C (b := 8) 73 dX6_takeNot_36 (by decide) rfl rfl (fun b36 => ?_) (fun b36 => ?_)
      · refine jr_aload_n C dX6_takeNot_73 rfl ?_
        refine jr_viZ C (js_ZK vq ad av _) hZ [] _ (ct_X6_takeAsked E _ vq ad av (by first | exact w42.2 | exact w9.2 | exact hQ)) ky_X6_takeAsked kv_X6_takeAsked kk_X_9 km_X6_104 (by omega) rfl (Nat.le_of_ble_eq_true rfl) dX6_takeNot_74 (fun r74 τ74 h74 => ?_)
        have w74 : xWd σ τ74 := by first | exact xWd_t w42 h74.2 | exact xWd_t w9 h74.2 | exact h74.2
        exact ret _ _ _ _ dX6_takeNot_77 (x_nb h74.1) (⟨h74.1, w74⟩)
      · refine jr_aload_n C dX6_takeNot_39 rfl ?_
        refine jr_bipush C (v := 40) dX6_takeNot_40 (by decide) ?_
        refine jr_vi C [.int _] _ (ct_X6_takeByte E _ _ (by first | exact w9.2.1 | exact hQ.1)) ky_X6_takeByte kv_X6_takeByte kk_X_9 km_X6_48 (by omega) rfl (Nat.le_of_ble_eq_true rfl) dX6_takeNot_42 (fun r42 τ42 h42 => ?_)
        have w42 : xWd σ τ42 := by first | exact xWd_t w9 (xWd_s w9.2 h42.2) | exact xWd_s hQ h42.2
        refine jr_nif_eq C 73 dX6_takeNot_45 (by decide) (fun b45 => ?_) (fun b45 => ?_)
        · refine jr_aload_n C dX6_takeNot_73 rfl ?_
          refine jr_viZ C (js_ZK vq ad av _) hZ [] _ (ct_X6_takeAsked E _ vq ad av (by first | exact w42.2 | exact w9.2 | exact hQ)) ky_X6_takeAsked kv_X6_takeAsked kk_X_9 km_X6_104 (by omega) rfl (Nat.le_of_ble_eq_true rfl) dX6_takeNot_74 (fun r74 τ74 h74 => ?_)
          have w74 : xWd σ τ74 := by first | exact xWd_t w42 h74.2 | exact xWd_t w9 h74.2 | exact h74.2
          exact ret _ _ _ _ dX6_takeNot_77 (x_nb h74.1) (⟨h74.1, w74⟩)
        · refine jr_aload_n C dX6_takeNot_48 rfl ?_
          refine jr_iload_n C dX6_takeNot_49 rfl ?_
          refine jr_iconst C (v := 1) dX6_takeNot_50 (by decide) ?_
          refine jr_iadd C dX6_takeNot_51 ?_
          refine jr_viZ C (js_ZK vq ad av _) hZ [.int _] _ ((ihC (by omega)) E _ vq ad av _ (by omega) w42.2) ky_X6_takeCond kv_X6_takeCond kk_X_9 km_X6_44 (by omega) rfl (Nat.le_of_ble_eq_true rfl) dX6_takeNot_52 (fun r52 τ52 h52 => ?_)
          have w52 := xWd_t w42 h52.2
          refine jr_nif_eq C 71 dX6_takeNot_55 (by decide) (fun b55 => ?_) (fun b55 => ?_)
          · refine jr_iconst C (v := 0) dX6_takeNot_71 (by decide) ?_
            exact ret _ _ _ _ dX6_takeNot_72 (rfl) (by first | exact ⟨by decide, w61⟩ | exact ⟨by decide, w52⟩)
          · refine jr_aload_n C dX6_takeNot_58 rfl ?_
            refine jr_bipush C (v := 41) dX6_takeNot_59 (by decide) ?_
            refine jr_vi C [.int _] _ (ct_X6_takeByte E _ _ w52.2.1) ky_X6_takeByte kv_X6_takeByte kk_X_9 km_X6_48 (by omega) rfl (Nat.le_of_ble_eq_true rfl) dX6_takeNot_61 (fun r61 τ61 h61 => ?_)
            have w61 := xWd_t w52 (xWd_s w52.2 h61.2)
            refine jr_nif_eq C 71 dX6_takeNot_64 (by decide) (fun b64 => ?_) (fun b64 => ?_)
            · refine jr_iconst C (v := 0) dX6_takeNot_71 (by decide) ?_
              exact ret _ _ _ _ dX6_takeNot_72 (rfl) (by first | exact ⟨by decide, w61⟩ | exact ⟨by decide, w52⟩)
            · refine jr_iconst C (v := 1) dX6_takeNot_67 (by decide) ?_
              refine jr_goto C 72 dX6_takeNot_68 (by decide) ?_
              exact ret _ _ _ _ dX6_takeNot_72 (rfl) (by first | exact ⟨by decide, w61⟩ | exact ⟨by decide, w52⟩)
    · refine jr_aload_n C dX6_takeNot_15 rfl ?_
      refine jr_iload_n C dX6_takeNot_16 rfl ?_
      refine jr_iconst C (v := 1) dX6_takeNot_17 (by decide) ?_
      refine jr_iadd C dX6_takeNot_18 ?_
      refine jr_viZ C (js_ZK vq ad av _) hZ [.int _] _ ((ihN (by omega)) E _ vq ad av _ (by omega) w9.2) ky_X6_takeNot kv_X6_takeNot kk_X_9 km_X6_97 (by omega) rfl (Nat.le_of_ble_eq_true rfl) dX6_takeNot_19 (fun r19 τ19 h19 => ?_)
      have w19 := xWd_t w9 h19.2
      refine jr_istore_n C dX6_takeNot_22 (by decide) ?_
      refine jr_aload_n C dX6_takeNot_23 rfl ?_
      refine jr_getr C kf_X6_18_9 dX6_takeNot_24 ?_
      refine jr_iconst C (v := 2) dX6_takeNot_27 (by decide) ?_
      refine jr_vv C [.int _] _ (ct_X7_addStep E _ _ w19.2.2.1) ky_X7_addStep kv_X7_addStep kk_X_11 km_X6_93 (by omega) rfl (Nat.le_of_ble_eq_true rfl) dX6_takeNot_28 (fun τ28 h28 => ?_)
      have w28 := xWd_t w19 (xWd_step w19.2 h28)
      refine jr_iload_n C dX6_takeNot_31 rfl ?_
      exact ret _ _ _ _ dX6_takeNot_32 (x_nb h19.1) (⟨h19.1, w28⟩)
theorem co_takeAnd (E : jf_E) (σ : jf_S) (vq : Value) (ad av : Nat → Nat) (p : Int32) (n : Nat) (hp : p.toInt = 8 - (n : Int)) (hQ : xQ σ) (ihN : ∀ (E : jf_E) (σ : jf_S) (vq : Value) (ad av : Nat → Nat) (p : Int32), p.toInt = 8 - (n : Int) → xQ σ → jf_IZ (js_Z vq ad av (jf_A jh_X E)) jh_X E yX6_takeNot cX6_takeNot 3 .boolean (6 + 3 * n) [jf_r E 9, .int p] σ (fun r τ => (r = 0 ∨ r = 1) ∧ xWd σ τ)) : jf_IZ (js_Z vq ad av (jf_A jh_X E)) jh_X E yX6_takeAnd cX6_takeAnd 4 .boolean (7 + 3 * n) [jf_r E 9, .int p] σ (fun r τ => (r = 0 ∨ r = 1) ∧ xWd σ τ) := by
  refine jf_mkIZ (by decide) (Nat.le_of_ble_eq_true rfl) ?_
  intro G C hZ ret
  have l8 : ∀ (m : Nat) (τ : jf_S) (g i : Int32), (g = 0 ∨ g = 1) → xWd σ τ → 0 ≤ i.toInt → i.toInt ≤ 300 → 300 - i.toInt < m → jf_X jh_X E G 4 8 [(0, jf_r E 9), (1, .int p), (2, .int g), (3, .int i)] [] τ := by
    intro m
    induction m with
    | zero => intro τ g i q w g1 g2 g3; exfalso; omega
    | succ m ih =>
      intro τ g i q w g1 g2 g3
      have e1 := ji_inc (k := i) (by omega)
      refine jr_iload_n C dX6_takeAnd_8 rfl ?_
      refine jr_sipush C (v := 300) dX6_takeAnd_9 (by decide) ?_
      refine jr_ncmp_ge C (b := 300) 48 dX6_takeAnd_12 (by decide) rfl rfl (fun b12 => ?_) (fun b12 => ?_)
      · refine jr_iload_n C dX6_takeAnd_48 rfl ?_
        exact ret _ _ _ _ dX6_takeAnd_49 (x_nb q) (by first | exact ⟨q, w22⟩ | exact ⟨q, w⟩)
      · refine jr_iload_n C dX6_takeAnd_15 rfl ?_
        refine jr_nif_eq C 48 dX6_takeAnd_16 (by decide) (fun b16 => ?_) (fun b16 => ?_)
        · refine jr_iload_n C dX6_takeAnd_48 rfl ?_
          exact ret _ _ _ _ dX6_takeAnd_49 (x_nb q) (by first | exact ⟨q, w22⟩ | exact ⟨q, w⟩)
        · refine jr_aload_n C dX6_takeAnd_19 rfl ?_
          refine jr_ldcS C (hZ.2 8 _ rfl).1 dX6_takeAnd_20 ?_
          refine jr_viZ C (js_ZK vq ad av _) hZ [_] _ (ct_X6_takeWord E _ vq ad av 8 _ rfl w.2.1) ky_X6_takeWord kv_X6_takeWord kk_X_9 km_X6_40 (by omega) rfl (Nat.le_of_ble_eq_true rfl) dX6_takeAnd_22 (fun r22 τ22 h22 => ?_)
          have w22 := xWd_t w (xWd_s w.2 h22.2)
          refine jr_nif_eq C 48 dX6_takeAnd_25 (by decide) (fun b25 => ?_) (fun b25 => ?_)
          · refine jr_iload_n C dX6_takeAnd_48 rfl ?_
            exact ret _ _ _ _ dX6_takeAnd_49 (x_nb q) (by first | exact ⟨q, w22⟩ | exact ⟨q, w⟩)
          · refine jr_aload_n C dX6_takeAnd_28 rfl ?_
            refine jr_iload_n C dX6_takeAnd_29 rfl ?_
            refine jr_viZ C (js_ZK vq ad av _) hZ [.int _] _ (ihN E _ vq ad av _ hp w22.2) ky_X6_takeNot kv_X6_takeNot kk_X_9 km_X6_97 (by omega) rfl (Nat.le_of_ble_eq_true rfl) dX6_takeAnd_30 (fun r30 τ30 h30 => ?_)
            have w30 := xWd_t w22 h30.2
            refine jr_istore_n C dX6_takeAnd_33 (by decide) ?_
            refine jr_aload_n C dX6_takeAnd_34 rfl ?_
            refine jr_getr C kf_X6_18_9 dX6_takeAnd_35 ?_
            refine jr_iconst C (v := 3) dX6_takeAnd_38 (by decide) ?_
            refine jr_vv C [.int _] _ (ct_X7_addStep E _ _ w30.2.2.1) ky_X7_addStep kv_X7_addStep kk_X_11 km_X6_93 (by omega) rfl (Nat.le_of_ble_eq_true rfl) dX6_takeAnd_39 (fun τ39 h39 => ?_)
            have w39 := xWd_t w30 (xWd_step w30.2 h39)
            refine jr_iinc C _ dX6_takeAnd_42 rfl rfl (by decide) ?_
            refine jr_goto C 8 dX6_takeAnd_45 (by decide) ?_
            exact jr_sub [(0, jf_r E 9), (1, .int p), (2, .int _), (3, .int _)] rfl (ih _ _ _ h30.1 w39 (by omega) (by omega) (by omega))
  refine jr_aload_n C dX6_takeAnd_0 rfl ?_
  refine jr_iload_n C dX6_takeAnd_1 rfl ?_
  refine jr_viZ C (js_ZK vq ad av _) hZ [.int _] _ (ihN E _ vq ad av _ hp hQ) ky_X6_takeNot kv_X6_takeNot kk_X_9 km_X6_97 (by omega) rfl (Nat.le_of_ble_eq_true rfl) dX6_takeAnd_2 (fun r2 τ2 h2 => ?_)
  refine jr_istore_n C dX6_takeAnd_5 (by decide) ?_
  refine jr_iconst C (v := 0) dX6_takeAnd_6 (by decide) ?_
  refine jr_istore_n C dX6_takeAnd_7 (by decide) ?_
  exact jr_sub [(0, jf_r E 9), (1, .int p), (2, .int _), (3, .int 0)] rfl (l8 302 _ _ _ h2.1 h2.2 (by decide) (by decide) (by decide))
theorem co_takeCond (E : jf_E) (σ : jf_S) (vq : Value) (ad av : Nat → Nat) (p : Int32) (n : Nat) (hp : p.toInt = 8 - (n : Int)) (hQ : xQ σ) (ihN : ∀ (E : jf_E) (σ : jf_S) (vq : Value) (ad av : Nat → Nat) (p : Int32), p.toInt = 8 - (n : Int) → xQ σ → jf_IZ (js_Z vq ad av (jf_A jh_X E)) jh_X E yX6_takeAnd cX6_takeAnd 4 .boolean (7 + 3 * n) [jf_r E 9, .int p] σ (fun r τ => (r = 0 ∨ r = 1) ∧ xWd σ τ)) : jf_IZ (js_Z vq ad av (jf_A jh_X E)) jh_X E yX6_takeCond cX6_takeCond 4 .boolean (8 + 3 * n) [jf_r E 9, .int p] σ (fun r τ => (r = 0 ∨ r = 1) ∧ xWd σ τ) := by
  refine jf_mkIZ (by decide) (Nat.le_of_ble_eq_true rfl) ?_
  intro G C hZ ret
  have l8 : ∀ (m : Nat) (τ : jf_S) (g i : Int32), (g = 0 ∨ g = 1) → xWd σ τ → 0 ≤ i.toInt → i.toInt ≤ 300 → 300 - i.toInt < m → jf_X jh_X E G 4 8 [(0, jf_r E 9), (1, .int p), (2, .int g), (3, .int i)] [] τ := by
    intro m
    induction m with
    | zero => intro τ g i q w g1 g2 g3; exfalso; omega
    | succ m ih =>
      intro τ g i q w g1 g2 g3
      have e1 := ji_inc (k := i) (by omega)
      refine jr_iload_n C dX6_takeCond_8 rfl ?_
      refine jr_sipush C (v := 300) dX6_takeCond_9 (by decide) ?_
      refine jr_ncmp_ge C (b := 300) 48 dX6_takeCond_12 (by decide) rfl rfl (fun b12 => ?_) (fun b12 => ?_)
      · refine jr_iload_n C dX6_takeCond_48 rfl ?_
        exact ret _ _ _ _ dX6_takeCond_49 (x_nb q) (by first | exact ⟨q, w22⟩ | exact ⟨q, w⟩)
      · refine jr_iload_n C dX6_takeCond_15 rfl ?_
        refine jr_nif_eq C 48 dX6_takeCond_16 (by decide) (fun b16 => ?_) (fun b16 => ?_)
        · refine jr_iload_n C dX6_takeCond_48 rfl ?_
          exact ret _ _ _ _ dX6_takeCond_49 (x_nb q) (by first | exact ⟨q, w22⟩ | exact ⟨q, w⟩)
        · refine jr_aload_n C dX6_takeCond_19 rfl ?_
          refine jr_ldcS C (hZ.2 7 _ rfl).1 dX6_takeCond_20 ?_
          refine jr_viZ C (js_ZK vq ad av _) hZ [_] _ (ct_X6_takeWord E _ vq ad av 7 _ rfl w.2.1) ky_X6_takeWord kv_X6_takeWord kk_X_9 km_X6_40 (by omega) rfl (Nat.le_of_ble_eq_true rfl) dX6_takeCond_22 (fun r22 τ22 h22 => ?_)
          have w22 := xWd_t w (xWd_s w.2 h22.2)
          refine jr_nif_eq C 48 dX6_takeCond_25 (by decide) (fun b25 => ?_) (fun b25 => ?_)
          · refine jr_iload_n C dX6_takeCond_48 rfl ?_
            exact ret _ _ _ _ dX6_takeCond_49 (x_nb q) (by first | exact ⟨q, w22⟩ | exact ⟨q, w⟩)
          · refine jr_aload_n C dX6_takeCond_28 rfl ?_
            refine jr_iload_n C dX6_takeCond_29 rfl ?_
            refine jr_viZ C (js_ZK vq ad av _) hZ [.int _] _ (ihN E _ vq ad av _ hp w22.2) ky_X6_takeAnd kv_X6_takeAnd kk_X_9 km_X6_88 (by omega) rfl (Nat.le_of_ble_eq_true rfl) dX6_takeCond_30 (fun r30 τ30 h30 => ?_)
            have w30 := xWd_t w22 h30.2
            refine jr_istore_n C dX6_takeCond_33 (by decide) ?_
            refine jr_aload_n C dX6_takeCond_34 rfl ?_
            refine jr_getr C kf_X6_18_9 dX6_takeCond_35 ?_
            refine jr_iconst C (v := 4) dX6_takeCond_38 (by decide) ?_
            refine jr_vv C [.int _] _ (ct_X7_addStep E _ _ w30.2.2.1) ky_X7_addStep kv_X7_addStep kk_X_11 km_X6_93 (by omega) rfl (Nat.le_of_ble_eq_true rfl) dX6_takeCond_39 (fun τ39 h39 => ?_)
            have w39 := xWd_t w30 (xWd_step w30.2 h39)
            refine jr_iinc C _ dX6_takeCond_42 rfl rfl (by decide) ?_
            refine jr_goto C 8 dX6_takeCond_45 (by decide) ?_
            exact jr_sub [(0, jf_r E 9), (1, .int p), (2, .int _), (3, .int _)] rfl (ih _ _ _ h30.1 w39 (by omega) (by omega) (by omega))
  refine jr_aload_n C dX6_takeCond_0 rfl ?_
  refine jr_iload_n C dX6_takeCond_1 rfl ?_
  refine jr_viZ C (js_ZK vq ad av _) hZ [.int _] _ (ihN E _ vq ad av _ hp hQ) ky_X6_takeAnd kv_X6_takeAnd kk_X_9 km_X6_88 (by omega) rfl (Nat.le_of_ble_eq_true rfl) dX6_takeCond_2 (fun r2 τ2 h2 => ?_)
  refine jr_istore_n C dX6_takeCond_5 (by decide) ?_
  refine jr_iconst C (v := 0) dX6_takeCond_6 (by decide) ?_
  refine jr_istore_n C dX6_takeCond_7 (by decide) ?_
  exact jr_sub [(0, jf_r E 9), (1, .int p), (2, .int _), (3, .int 0)] rfl (l8 302 _ _ _ h2.1 h2.2 (by decide) (by decide) (by decide))
theorem co_conds : ∀ n : Nat, (∀ (E : jf_E) (σ : jf_S) (vq : Value) (ad av : Nat → Nat) (p : Int32), p.toInt = 8 - (n : Int) → xQ σ → jf_IZ (js_Z vq ad av (jf_A jh_X E)) jh_X E yX6_takeNot cX6_takeNot 3 .boolean (6 + 3 * n) [jf_r E 9, .int p] σ (fun r τ => (r = 0 ∨ r = 1) ∧ xWd σ τ)) ∧ (∀ (E : jf_E) (σ : jf_S) (vq : Value) (ad av : Nat → Nat) (p : Int32), p.toInt = 8 - (n : Int) → xQ σ → jf_IZ (js_Z vq ad av (jf_A jh_X E)) jh_X E yX6_takeCond cX6_takeCond 4 .boolean (8 + 3 * n) [jf_r E 9, .int p] σ (fun r τ => (r = 0 ∨ r = 1) ∧ xWd σ τ)) := by
  have st : ∀ n : Nat, (∀ (E : jf_E) (σ : jf_S) (vq : Value) (ad av : Nat → Nat) (p : Int32), p.toInt = 8 - (n : Int) → xQ σ → jf_IZ (js_Z vq ad av (jf_A jh_X E)) jh_X E yX6_takeNot cX6_takeNot 3 .boolean (6 + 3 * n) [jf_r E 9, .int p] σ (fun r τ => (r = 0 ∨ r = 1) ∧ xWd σ τ)) → (∀ (E : jf_E) (σ : jf_S) (vq : Value) (ad av : Nat → Nat) (p : Int32), p.toInt = 8 - (n : Int) → xQ σ → jf_IZ (js_Z vq ad av (jf_A jh_X E)) jh_X E yX6_takeCond cX6_takeCond 4 .boolean (8 + 3 * n) [jf_r E 9, .int p] σ (fun r τ => (r = 0 ∨ r = 1) ∧ xWd σ τ)) :=
    fun n hN E σ vq ad av p hp hQ => co_takeCond E σ vq ad av p n hp hQ (fun E σ vq ad av p hp hQ => co_takeAnd E σ vq ad av p n hp hQ hN)
  intro n
  induction n with
  | zero =>
    have hN : ∀ (E : jf_E) (σ : jf_S) (vq : Value) (ad av : Nat → Nat) (p : Int32), p.toInt = 8 - ((0 : Nat) : Int) → xQ σ → jf_IZ (js_Z vq ad av (jf_A jh_X E)) jh_X E yX6_takeNot cX6_takeNot 3 .boolean (6 + 3 * 0) [jf_r E 9, .int p] σ (fun r τ => (r = 0 ∨ r = 1) ∧ xWd σ τ) := fun E σ vq ad av p hp hQ => co_takeNot E σ vq ad av p 0 hp hQ (fun h => absurd rfl h) (fun h => absurd rfl h)
    exact ⟨hN, st 0 hN⟩
  | succ n ih =>
    have hN : ∀ (E : jf_E) (σ : jf_S) (vq : Value) (ad av : Nat → Nat) (p : Int32), p.toInt = 8 - ((n + 1 : Nat) : Int) → xQ σ → jf_IZ (js_Z vq ad av (jf_A jh_X E)) jh_X E yX6_takeNot cX6_takeNot 3 .boolean (6 + 3 * (n + 1)) [jf_r E 9, .int p] σ (fun r τ => (r = 0 ∨ r = 1) ∧ xWd σ τ) := fun E σ vq ad av p hp hQ => co_takeNot E σ vq ad av p (n + 1) hp hQ (fun _ => ih.1) (fun _ => ih.2)
    exact ⟨hN, st (n + 1) hN⟩
theorem ct_X6_takeCond (E : jf_E) (σ : jf_S) (vq : Value) (ad av : Nat → Nat) (p : Int32) (hp : p.toInt = 0) (hQ : xQ σ) : jf_IZ (js_Z vq ad av (jf_A jh_X E)) jh_X E yX6_takeCond cX6_takeCond 4 .boolean 32 [jf_r E 9, .int p] σ (fun r τ => (r = 0 ∨ r = 1) ∧ xWd σ τ) := (co_conds 8).2 E σ vq ad av p (by rw [hp]; rfl) hQ

