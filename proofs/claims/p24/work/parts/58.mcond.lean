/-! the reference: conditions are read, safe -/
theorem m_at_of {σ τ : jf_S} (h : m_at σ) (e1 : (τ.1 0 59) = (σ.1 0 59)) (e2 : (τ.1 0 60) = (σ.1 0 60)) (e3 : (τ.1 0 58) = (σ.1 0 58)) : m_at τ := by
  unfold m_at; rw [e1, e2, e3]; exact h
theorem m_kd_of {σ τ : jf_S} (h : m_kd σ) (e1 : (τ.1 0 59) = (σ.1 0 59)) (e2 : (τ.1 0 60) = (σ.1 0 60)) (e3 : (τ.1 0 58) = (σ.1 0 58)) (e4 : (τ.1 0 61) = (σ.1 0 61)) (e5 : (τ.2 0 62) = (σ.2 0 62)) : m_kd τ := by
  unfold m_kd; rw [e1, e2, e3, e4, e5]; exact h
theorem ct_X11_must (E : jf_E) (σ : jf_S) (v : Int32) (h0 : m_at σ) : jf_V jh_M E yX11_must cX11_must 2 2 [jf_r E 0, .int v] σ (fun τ => mS_g [] [59, 60, 61, 63, 64] σ τ ∧ m_at τ ∧ ((¬ ((τ.1 0 64)).toInt = 0) ∨ (((τ.1 0 64)).toInt = 0 ∧ ((σ.1 0 64)).toInt = 0 ∧ ¬ v.toInt = 0 ∧ ((σ.1 0 60)).toInt ≤ ((τ.1 0 59)).toInt ∧ m_kd τ))) := by
  refine jf_mkV (by decide) (Nat.le_of_ble_eq_true rfl) ?_
  intro G C ret
  have J24 : ∀ (τ : jf_S), mS_g [] [63, 64] σ τ → (((τ.1 0 64)).toInt = 0 → ((σ.1 0 64)).toInt = 0 ∧ ¬ v.toInt = 0) → jf_X jh_M E G 2 24 [(0, jf_r E 0), (1, .int v)] [] τ := by
    intro τ z q
    have f1 : (τ.1 0 59) = (σ.1 0 59) := z.2 59 (by decide)
    have f2 : (τ.1 0 60) = (σ.1 0 60) := z.2 60 (by decide)
    have f3 : (τ.1 0 58) = (σ.1 0 58) := z.2 58 (by decide)
    have a := m_at_of h0 f1 f2 f3
    have z' : mS_g [] [59, 60, 61, 63, 64] σ τ := mS_g_m z (by decide) (by decide)
    refine jr_aload_n C dX11_must_24 rfl ?_
    refine jr_getv C kf_X11_310_0 dX11_must_25 (v := τ.1 0 64) rfl ?_
    refine jr_nif_ne C 35 dX11_must_28 (by decide) (fun b28 => ?_) (fun b28 => ?_)
    · exact ret _ _ _ dX11_must_35 (by first | exact ⟨z', a, Or.inl b28⟩ | exact ⟨mS_g_t z' (mS_g_n h32.1 (by decide)), h32.2.2.1, Or.inr ⟨by rw [h32.1.2 64 (by decide) (by decide) (by decide)]; exact b28, (q b28).1, (q b28).2, by rw [← f2]; exact h32.2.1, h32.2.2.2⟩⟩)
    · refine jr_aload_n C dX11_must_31 rfl ?_
      refine jr_vv C [] _ (ct_X11_next E _ ⟨by have := a.1; have := a.2.1; omega, a.2.2.1, a.2.2.2⟩) ky_X11_next kv_X11_next kk_M_0 km_X11_314 (by decide) rfl (Nat.le_of_ble_eq_true rfl) dX11_must_32 (fun τ32 h32 => ?_)
      exact ret _ _ _ dX11_must_35 (by first | exact ⟨z', a, Or.inl b28⟩ | exact ⟨mS_g_t z' (mS_g_n h32.1 (by decide)), h32.2.2.1, Or.inr ⟨by rw [h32.1.2 64 (by decide) (by decide) (by decide)]; exact b28, (q b28).1, (q b28).2, by rw [← f2]; exact h32.2.1, h32.2.2.2⟩⟩)
  refine jr_aload_n C dX11_must_0 rfl ?_
  refine jr_getv C kf_X11_310_0 dX11_must_1 (v := σ.1 0 64) rfl ?_
  refine jr_nif_ne C 24 dX11_must_4 (by decide) (fun b4 => ?_) (fun b4 => ?_)
  · first | (have h9 : ¬ ((σ.1 0 64)).toInt = 0 := b4; exact J24 σ (mS_g_r σ) (fun h => absurd h b4)) | (have h9 : ¬ v.toInt = 0 := b8; exact J24 σ (mS_g_r σ) (fun h => ⟨h, b8⟩)) | exact J24 _ (mS_g_i (mS_g_i (mS_g_r σ) (by decide)) (by decide)) (fun h => absurd (show (1 : Int32).toInt = 0 from h) (by decide))
  · refine jr_iload_n C dX11_must_7 rfl ?_
    refine jr_nif_ne C 24 dX11_must_8 (by decide) (fun b8 => ?_) (fun b8 => ?_)
    · first | (have h9 : ¬ ((σ.1 0 64)).toInt = 0 := b4; exact J24 σ (mS_g_r σ) (fun h => absurd h b4)) | (have h9 : ¬ v.toInt = 0 := b8; exact J24 σ (mS_g_r σ) (fun h => ⟨h, b8⟩)) | exact J24 _ (mS_g_i (mS_g_i (mS_g_r σ) (by decide)) (by decide)) (fun h => absurd (show (1 : Int32).toInt = 0 from h) (by decide))
    · refine jr_aload_n C dX11_must_11 rfl ?_
      refine jr_iconst C (v := 1) dX11_must_12 (by decide) ?_
      refine jr_putz C kp_X11_310_0 (by decide) dX11_must_13 ?_
      refine jr_aload_n C dX11_must_16 rfl ?_
      refine jr_aload_n C dX11_must_17 rfl ?_
      refine jr_getv C kf_X11_282_0 dX11_must_18 (v := σ.1 0 59) rfl ?_
      refine jr_puti C kp_X11_126_0 dX11_must_21 ?_
      first | (have h9 : ¬ ((σ.1 0 64)).toInt = 0 := b4; exact J24 σ (mS_g_r σ) (fun h => absurd h b4)) | (have h9 : ¬ v.toInt = 0 := b8; exact J24 σ (mS_g_r σ) (fun h => ⟨h, b8⟩)) | exact J24 _ (mS_g_i (mS_g_i (mS_g_r σ) (by decide)) (by decide)) (fun h => absurd (show (1 : Int32).toInt = 0 from h) (by decide))
theorem jl_cgt {x y : Int64} : 0 < (lg_cmp x y).toInt ↔ y.toInt < x.toInt := by
  have h := jl_gt (x := x) (y := y)
  rw [Int32.lt_iff_toInt_lt] at h
  have : (0 : Int32).toInt = 0 := rfl
  omega
theorem m_isw {r : Int32} {p : Prop} (h : r = 0 ∨ (p ∧ r = 1)) (b : ¬ r.toInt = 0) : p := by
  rcases h with h | h
  · subst h; exact absurd rfl b
  · exact h.1
theorem m_l2i {w : Int64} (h0 : 0 ≤ w.toInt) (h1 : w.toInt ≤ 1000) : w.toInt32.toInt = w.toInt := by
  rw [Int64.toInt_toInt32]
  exact fb_bmod (by omega) (by omega)
theorem m_lf34 {τ : jf_S} {n : Nat} {x y : Int32} : (jf_i (jf_i τ 34 n x) 0 51 y).1 34 = upd (τ.1 34) n x := by
  rw [jf_i_o 34 (by decide), jf_i_at]
/-- what must leaves -/
def m_M (τ υ : jf_S) (v : Int32) : Prop := mS_g [] [59, 60, 61, 63, 64] τ υ ∧ m_at υ ∧ ((¬ ((υ.1 0 64)).toInt = 0) ∨ (((υ.1 0 64)).toInt = 0 ∧ ((τ.1 0 64)).toInt = 0 ∧ ¬ v.toInt = 0 ∧ ((τ.1 0 60)).toInt ≤ ((υ.1 0 59)).toInt ∧ m_kd υ))
theorem ct_X11_readLeaf (E : jf_E) (σ : jf_S) (h0 : m_at σ) (hk : m_kd σ) (hb : ((σ.1 0 64)).toInt = 0) (K : Nat) (hc : ((σ.1 0 51)).toInt = (K : Int)) (hC : K < 300) : jf_V jh_M E yX11_readLeaf cX11_readLeaf 2 3 [jf_r E 0] σ (fun τ => mS_g [34] [51, 59, 60, 61, 63, 64] σ τ ∧ m_at τ ∧ ((τ.1 0 51)).toInt = (K : Int) + 1 ∧ (((τ.1 0 64)).toInt = 0 → ((σ.1 0 59)).toInt < ((τ.1 0 59)).toInt ∧ m_kd τ ∧ ∀ (p : Nat → Int32) (P : Nat), m_D ((σ.1 34)) p P K 0 → m_D ((τ.1 34)) p P (K + 1) 1)) := by
  refine jf_mkV (by decide) (Nat.le_of_ble_eq_true rfl) ?_
  intro G C ret
  obtain ⟨a1, a2, a3, a4⟩ := id h0
  have e1 := ji_inc1 (k := (σ.1 0 51)) (by omega)
  have cm : ((σ.1 0 51)).toNatClampNeg = K := ji_cl hc
  have kd := hk
  unfold m_kd at kd
  have J55 : ∀ (x : Int32), (((σ.1 0 61)).toInt = 1) → (¬ x.toInt = -3 ∧ ¬ x.toInt = -4 ∧ ¬ x.toInt = -5) → jf_X jh_M E G 2 55 [(0, jf_r E 0)] [.int x, jf_r E 0] σ := by
    intro x k1 hx
    have zz : mS_g [34] [51, 59, 60, 61, 63, 64] σ (jf_i (jf_i σ 34 ((σ.1 0 51)).toNatClampNeg x) 0 51 ((σ.1 0 51) + 1)) := mS_g_i (mS_g_a (mS_g_r σ) (by decide) (by decide)) (by decide)
    refine jr_vvp C [.int _] _ (ct_X11_mark E _ _ ⟨by omega, by omega⟩) ky_X11_mark kv_X11_mark kk_M_0 km_X11_323 (by decide) rfl (Nat.le_of_ble_eq_true rfl) dX11_readLeaf_55 ?_
    refine jr_aload_n C dX11_readLeaf_58 rfl ?_
    refine jr_vv C [] _ (ct_X11_next E _ (show 0 ≤ ((σ.1 0 60)).toInt ∧ ((σ.1 0 60)).toInt ≤ ((σ.1 0 58)).toInt ∧ ((σ.1 0 58)).toInt ≤ 300 by omega)) ky_X11_next kv_X11_next kk_M_0 km_X11_314 (by decide) rfl (Nat.le_of_ble_eq_true rfl) dX11_readLeaf_59 (fun τ59 h59 => ?_)
    exact ret _ _ _ dX11_readLeaf_62 (⟨mS_g_t zz (mS_g_n h59.1 (by decide)), h59.2.2.1, by rw [h59.1.2 51 (by decide) (by decide) (by decide)]; show ((σ.1 0 51) + 1).toInt = _; omega, fun _ => ⟨by have h := h59.2.1; have h : ((σ.1 0 60)).toInt ≤ ((τ59.1 0 59)).toInt := h; omega, h59.2.2.2, fun p P d => by rw [show (τ59.1 34) = _ from h59.1.1 34 (by decide), m_lf34, cm]; exact m_D_leaf d hx⟩⟩)
  have J80 : ∀ (τ : jf_S), mS_g [] [59, 60, 61, 63, 64] σ τ → m_at τ → (((τ.1 0 64)).toInt = 0 → ((σ.1 0 59)).toInt < ((τ.1 0 59)).toInt ∧ m_kd τ) → jf_X jh_M E G 2 80 [(0, jf_r E 0)] [] τ := by
    intro τ z a q
    have n1 : (τ.1 0 51) = (σ.1 0 51) := z.2 51 (by decide)
    have n2 : (τ.1 34) = (σ.1 34) := z.1 34 (by decide) (by decide)
    have J111 : ∀ (x : Int32), (((τ.1 0 64)).toInt = 0 → ¬ x.toInt = 0 → 0 ≤ ((τ.2 0 62)).toInt32.toInt) → jf_X jh_M E G 2 111 [(0, jf_r E 0), (1, .int ((τ.2 0 62)).toInt32)] [.int x, jf_r E 0] τ := by
      intro x hx
      have fin : ∀ υ : jf_S, m_M τ υ x → (υ.1 0 51) = (σ.1 0 51) → mS_g [34] [51, 59, 60, 61, 63, 64] σ (jf_i (jf_i υ 34 ((υ.1 0 51)).toNatClampNeg ((τ.2 0 62)).toInt32) 0 51 ((υ.1 0 51) + 1)) ∧ m_at (jf_i (jf_i υ 34 ((υ.1 0 51)).toNatClampNeg ((τ.2 0 62)).toInt32) 0 51 ((υ.1 0 51) + 1)) ∧ (((jf_i (jf_i υ 34 ((υ.1 0 51)).toNatClampNeg ((τ.2 0 62)).toInt32) 0 51 ((υ.1 0 51) + 1)).1 0 51)).toInt = (K : Int) + 1 ∧ ((((jf_i (jf_i υ 34 ((υ.1 0 51)).toNatClampNeg ((τ.2 0 62)).toInt32) 0 51 ((υ.1 0 51) + 1)).1 0 64)).toInt = 0 → ((σ.1 0 59)).toInt < (((jf_i (jf_i υ 34 ((υ.1 0 51)).toNatClampNeg ((τ.2 0 62)).toInt32) 0 51 ((υ.1 0 51) + 1)).1 0 59)).toInt ∧ m_kd (jf_i (jf_i υ 34 ((υ.1 0 51)).toNatClampNeg ((τ.2 0 62)).toInt32) 0 51 ((υ.1 0 51) + 1)) ∧ ∀ (p : Nat → Int32) (P : Nat), m_D ((σ.1 34)) p P K 0 → m_D (((jf_i (jf_i υ 34 ((υ.1 0 51)).toNatClampNeg ((τ.2 0 62)).toInt32) 0 51 ((υ.1 0 51) + 1)).1 34)) p P (K + 1) 1) := by
        intro υ M n3
        refine ⟨mS_g_i (mS_g_a (mS_g_t (mS_g_m z (by decide) (by decide)) (mS_g_m M.1 (by decide) (by decide))) (by decide) (by decide)) (by decide), M.2.1, show ((υ.1 0 51) + 1).toInt = _ by rw [n3]; omega, fun hb' => ?_⟩
        have hb2 : ((υ.1 0 64)).toInt = 0 := hb'
        obtain ⟨b1, b2, b3, b4, b5⟩ := M.2.2.resolve_left (fun h => h hb2)
        have q' := q b2
        have at' := a.2.1
        refine ⟨show ((σ.1 0 59)).toInt < ((υ.1 0 59)).toInt by omega, b5, fun p P d => ?_⟩
        show m_D ((jf_i (jf_i υ 34 ((υ.1 0 51)).toNatClampNeg _) 0 51 _).1 34) _ _ _ _
        rw [m_lf34, n3, cm, show (υ.1 34) = _ from (M.1.1 34 (by decide) (by decide)).trans n2]
        have := hx b2 b3
        exact m_D_leaf d (by omega)
      refine jr_vv C [.int _] _ (ct_X11_must E _ _ a) ky_X11_must kv_X11_must kk_M_0 km_X11_333 (by decide) rfl (Nat.le_of_ble_eq_true rfl) dX11_readLeaf_111 (fun τ111 h111 => ?_)
      have n3 : (τ111.1 0 51) = (σ.1 0 51) := (h111.1.2 51 (by decide)).trans n1
      refine jr_aload_n C dX11_readLeaf_114 rfl ?_
      refine jr_iload_n C dX11_readLeaf_115 rfl ?_
      refine jr_vvp C [.int _] _ (ct_X11_mark E _ _ (show 0 ≤ ((τ111.1 0 51)).toInt ∧ ((τ111.1 0 51)).toInt < 300 by rw [n3]; omega)) ky_X11_mark kv_X11_mark kk_M_0 km_X11_323 (by decide) rfl (Nat.le_of_ble_eq_true rfl) dX11_readLeaf_116 ?_
      exact ret _ _ _ dX11_readLeaf_119 (fin τ111 h111 n3)
    refine jr_aload_n C dX11_readLeaf_80 rfl ?_
    refine jr_getl C kf_X11_285_0 dX11_readLeaf_81 ?_
    refine jr_l2i C dX11_readLeaf_84 ?_
    refine jr_istore_n C dX11_readLeaf_85 (by decide) ?_
    refine jr_aload_n C dX11_readLeaf_86 rfl ?_
    refine jr_aload_n C dX11_readLeaf_87 rfl ?_
    refine jr_getv C kf_X11_295_0 dX11_readLeaf_88 (v := τ.1 0 61) rfl ?_
    refine jr_iconst C (v := 2) dX11_readLeaf_91 (by decide) ?_
    refine jr_ncmp_ne C (b := 2) 110 dX11_readLeaf_92 (by decide) rfl rfl (fun b92 => ?_) (fun b92 => ?_)
    · refine jr_iconst C (v := 0) dX11_readLeaf_110 (by decide) ?_
      first | exact jr_sub [(0, jf_r E 0), (1, .int ((τ.2 0 62)).toInt32)] rfl (J111 _ (fun _ h => absurd rfl h)) | exact jr_sub [(0, jf_r E 0), (1, .int ((τ.2 0 62)).toInt32)] rfl (J111 _ (fun hb _ => by have k := (q hb).2; unfold m_kd at k; rw [m_l2i (by omega) (by omega)]; omega))
    · refine jr_aload_n C dX11_readLeaf_95 rfl ?_
      refine jr_getl C kf_X11_285_0 dX11_readLeaf_96 ?_
      refine jr_ldc2 C kc_X11_181 dX11_readLeaf_99 ?_
      refine jr_lcmp C dX11_readLeaf_102 ?_
      refine jr_nif_gt C 110 dX11_readLeaf_103 (by decide) (fun b103 => ?_) (fun b103 => ?_)
      · rw [jl_cgt] at b103; have k0 : (1000 : Int64).toInt = 1000 := rfl
        refine jr_iconst C (v := 0) dX11_readLeaf_110 (by decide) ?_
        first | exact jr_sub [(0, jf_r E 0), (1, .int ((τ.2 0 62)).toInt32)] rfl (J111 _ (fun _ h => absurd rfl h)) | exact jr_sub [(0, jf_r E 0), (1, .int ((τ.2 0 62)).toInt32)] rfl (J111 _ (fun hb _ => by have k := (q hb).2; unfold m_kd at k; rw [m_l2i (by omega) (by omega)]; omega))
      · rw [jl_cgt] at b103; have k0 : (1000 : Int64).toInt = 1000 := rfl
        refine jr_iconst C (v := 1) dX11_readLeaf_106 (by decide) ?_
        refine jr_goto C 111 dX11_readLeaf_107 (by decide) ?_
        first | exact jr_sub [(0, jf_r E 0), (1, .int ((τ.2 0 62)).toInt32)] rfl (J111 _ (fun _ h => absurd rfl h)) | exact jr_sub [(0, jf_r E 0), (1, .int ((τ.2 0 62)).toInt32)] rfl (J111 _ (fun hb _ => by have k := (q hb).2; unfold m_kd at k; rw [m_l2i (by omega) (by omega)]; omega))
  refine jr_aload_n C dX11_readLeaf_0 rfl ?_
  refine jr_bipush C (v := 115) dX11_readLeaf_1 (by decide) ?_
  refine jr_bipush C (v := 97) dX11_readLeaf_3 (by decide) ?_
  refine jr_bipush C (v := 119) dX11_readLeaf_5 (by decide) ?_
  refine jr_iconst C (v := 0) dX11_readLeaf_7 (by decide) ?_
  refine jr_iconst C (v := 0) dX11_readLeaf_8 (by decide) ?_
  refine jr_iconst C (v := 0) dX11_readLeaf_9 (by decide) ?_
  refine jr_vi C [.int _, .int _, .int _, .int _, .int _, .int _] _ (ct_X11_isWord E _ _ _ _ _ _ _) ky_X11_isWord kv_X11_isWord kk_M_0 km_X11_326 (by decide) rfl (Nat.le_of_ble_eq_true rfl) dX11_readLeaf_10 (fun r10 τ10 h10 => ?_)
  obtain ⟨q10, rfl⟩ := h10
  refine jr_nif_ne C 32 dX11_readLeaf_13 (by decide) (fun b13 => ?_) (fun b13 => ?_)
  · refine jr_aload_n C dX11_readLeaf_32 rfl ?_
    refine jr_aload_n C dX11_readLeaf_33 rfl ?_
    refine jr_bipush C (v := 115) dX11_readLeaf_34 (by decide) ?_
    refine jr_bipush C (v := 97) dX11_readLeaf_36 (by decide) ?_
    refine jr_bipush C (v := 119) dX11_readLeaf_38 (by decide) ?_
    refine jr_iconst C (v := 0) dX11_readLeaf_40 (by decide) ?_
    refine jr_iconst C (v := 0) dX11_readLeaf_41 (by decide) ?_
    refine jr_iconst C (v := 0) dX11_readLeaf_42 (by decide) ?_
    refine jr_vi C [.int _, .int _, .int _, .int _, .int _, .int _] _ (ct_X11_isWord E _ _ _ _ _ _ _) ky_X11_isWord kv_X11_isWord kk_M_0 km_X11_326 (by decide) rfl (Nat.le_of_ble_eq_true rfl) dX11_readLeaf_43 (fun r43 τ43 h43 => ?_)
    obtain ⟨q43, rfl⟩ := h43
    refine jr_nif_eq C 53 dX11_readLeaf_46 (by decide) (fun b46 => ?_) (fun b46 => ?_)
    · refine jr_bipush C (v := -2) dX11_readLeaf_53 (by decide) ?_
      first | exact J55 _ (m_isw q10 b13) (by decide) | exact J55 _ (m_isw q26 b29) (by decide)
    · refine jr_iconst C (v := -1) dX11_readLeaf_49 (by decide) ?_
      refine jr_goto C 55 dX11_readLeaf_50 (by decide) ?_
      first | exact J55 _ (m_isw q10 b13) (by decide) | exact J55 _ (m_isw q26 b29) (by decide)
  · refine jr_aload_n C dX11_readLeaf_16 rfl ?_
    refine jr_bipush C (v := 107) dX11_readLeaf_17 (by decide) ?_
    refine jr_bipush C (v := 105) dX11_readLeaf_19 (by decide) ?_
    refine jr_bipush C (v := 110) dX11_readLeaf_21 (by decide) ?_
    refine jr_iconst C (v := 0) dX11_readLeaf_23 (by decide) ?_
    refine jr_iconst C (v := 0) dX11_readLeaf_24 (by decide) ?_
    refine jr_iconst C (v := 0) dX11_readLeaf_25 (by decide) ?_
    refine jr_vi C [.int _, .int _, .int _, .int _, .int _, .int _] _ (ct_X11_isWord E _ _ _ _ _ _ _) ky_X11_isWord kv_X11_isWord kk_M_0 km_X11_326 (by decide) rfl (Nat.le_of_ble_eq_true rfl) dX11_readLeaf_26 (fun r26 τ26 h26 => ?_)
    obtain ⟨q26, rfl⟩ := h26
    refine jr_nif_eq C 63 dX11_readLeaf_29 (by decide) (fun b29 => ?_) (fun b29 => ?_)
    · refine jr_aload_n C dX11_readLeaf_63 rfl ?_
      refine jr_aload_n C dX11_readLeaf_64 rfl ?_
      refine jr_bipush C (v := 111) dX11_readLeaf_65 (by decide) ?_
      refine jr_bipush C (v := 108) dX11_readLeaf_67 (by decide) ?_
      refine jr_bipush C (v := 100) dX11_readLeaf_69 (by decide) ?_
      refine jr_iconst C (v := 0) dX11_readLeaf_71 (by decide) ?_
      refine jr_iconst C (v := 0) dX11_readLeaf_72 (by decide) ?_
      refine jr_iconst C (v := 0) dX11_readLeaf_73 (by decide) ?_
      refine jr_vi C [.int _, .int _, .int _, .int _, .int _, .int _] _ (ct_X11_isWord E _ _ _ _ _ _ _) ky_X11_isWord kv_X11_isWord kk_M_0 km_X11_326 (by decide) rfl (Nat.le_of_ble_eq_true rfl) dX11_readLeaf_74 (fun r74 τ74 h74 => ?_)
      obtain ⟨q74, rfl⟩ := h74
      refine jr_vv C [.int _] _ (ct_X11_must E _ _ h0) ky_X11_must kv_X11_must kk_M_0 km_X11_333 (by decide) rfl (Nat.le_of_ble_eq_true rfl) dX11_readLeaf_77 (fun τ77 h77 => ?_)
      exact J80 _ h77.1 h77.2.1 (fun h => by obtain ⟨b1, b2, b3, b4, b5⟩ := h77.2.2.resolve_left (fun g => g h); exact ⟨by have := m_isw q74 b3; omega, b5⟩)
    · refine jr_aload_n C dX11_readLeaf_32 rfl ?_
      refine jr_aload_n C dX11_readLeaf_33 rfl ?_
      refine jr_bipush C (v := 115) dX11_readLeaf_34 (by decide) ?_
      refine jr_bipush C (v := 97) dX11_readLeaf_36 (by decide) ?_
      refine jr_bipush C (v := 119) dX11_readLeaf_38 (by decide) ?_
      refine jr_iconst C (v := 0) dX11_readLeaf_40 (by decide) ?_
      refine jr_iconst C (v := 0) dX11_readLeaf_41 (by decide) ?_
      refine jr_iconst C (v := 0) dX11_readLeaf_42 (by decide) ?_
      refine jr_vi C [.int _, .int _, .int _, .int _, .int _, .int _] _ (ct_X11_isWord E _ _ _ _ _ _ _) ky_X11_isWord kv_X11_isWord kk_M_0 km_X11_326 (by decide) rfl (Nat.le_of_ble_eq_true rfl) dX11_readLeaf_43 (fun r43 τ43 h43 => ?_)
      obtain ⟨q43, rfl⟩ := h43
      refine jr_nif_eq C 53 dX11_readLeaf_46 (by decide) (fun b46 => ?_) (fun b46 => ?_)
      · refine jr_bipush C (v := -2) dX11_readLeaf_53 (by decide) ?_
        first | exact J55 _ (m_isw q10 b13) (by decide) | exact J55 _ (m_isw q26 b29) (by decide)
      · refine jr_iconst C (v := -1) dX11_readLeaf_49 (by decide) ?_
        refine jr_goto C 55 dX11_readLeaf_50 (by decide) ?_
        first | exact J55 _ (m_isw q10 b13) (by decide) | exact J55 _ (m_isw q26 b29) (by decide)
/-- a condition's reader between two tokens -/
def m_L (τ : jf_S) (P C : Nat) (o w mo : Int32) : Prop := m_at τ ∧ m_pq τ P C ∧ m_rg ((τ.1 36)) P ∧ o.toInt = (m_opn ((τ.1 36)) P : Int) ∧ (((τ.1 0 64)).toInt = 0 → m_kd τ ∧ (w.toInt = 0 → m_D ((τ.1 34)) ((τ.1 36)) P C 1) ∧ (¬ w.toInt = 0 → m_D ((τ.1 34)) ((τ.1 36)) P C 0) ∧ (¬ mo.toInt = 0 → (P : Int) + C + 1 ≤ ((τ.1 0 59)).toInt) ∧ (mo.toInt = 0 → w.toInt = 0))
theorem m_L_depth {τ υ : jf_S} {P C P' C' : Nat} {o w mo : Int32} (L : m_L τ P C o w mo) (h1 : m_pq υ P' C') (h2 : P' + C' = P + C) (h3 : P' ≤ P) (z : mS_g [34] [51, 56] τ υ ∧ υ.2 = τ.2) (h4 : m_opn ((τ.1 36)) P' = m_opn ((τ.1 36)) P) (h5 : m_D ((τ.1 34)) ((τ.1 36)) P C 1 → m_D ((υ.1 34)) ((υ.1 36)) P' C' 1) (h6 : ¬ w.toInt = 0 → υ = τ) : m_L υ P' C' o w mo := by
  obtain ⟨L1, L2, L3, L4, L5⟩ := L
  have c36 : (υ.1 36) = (τ.1 36) := z.1.1 36 (by decide) (by decide)
  have f1 : (υ.1 0 59) = (τ.1 0 59) := z.1.2 59 (by decide)
  have f2 : (υ.1 0 60) = (τ.1 0 60) := z.1.2 60 (by decide)
  have f3 : (υ.1 0 58) = (τ.1 0 58) := z.1.2 58 (by decide)
  have f4 : (υ.1 0 61) = (τ.1 0 61) := z.1.2 61 (by decide)
  have f5 : (υ.1 0 64) = (τ.1 0 64) := z.1.2 64 (by decide)
  have f6 : (υ.2 0 62) = (τ.2 0 62) := by rw [z.2]
  refine ⟨m_at_of L1 f1 f2 f3, h1, by rw [c36]; exact fun i hi => L3 i (by omega), by rw [c36, h4]; exact L4, fun hb => ?_⟩
  obtain ⟨k1, k2, k3, k4, k5⟩ := L5 (by rw [← f5]; exact hb)
  refine ⟨m_kd_of k1 f1 f2 f3 f4 f6, fun h => h5 (k2 h), fun h => ?_, fun h => by rw [f1]; have := k4 h; omega, k5⟩
  have e := h6 h
  subst e
  have e1 : P' = P := by have := h1.1; have := L2.1; omega
  have e2 : C' = C := by omega
  subst e1; subst e2
  exact k3 h
theorem m_pu36 {τ : jf_S} {n : Nat} {x y : Int32} : (jf_i (jf_i τ 36 n x) 0 56 y).1 36 = upd (τ.1 36) n x := by
  rw [jf_i_o 36 (by decide), jf_i_at]
theorem m_pu34 {τ : jf_S} {n : Nat} {x y : Int32} : (jf_i (jf_i τ 36 n x) 0 56 y).1 34 = τ.1 34 := by
  rw [jf_i_o 34 (by decide), jf_i_o 34 (by decide)]
theorem m_rg_u {p : Nat → Int32} {P : Nat} {x : Int32} (h : m_rg p P) (hx : -6 ≤ x.toInt ∧ x.toInt ≤ -3) : m_rg (upd p P x) (P + 1) := by
  intro i hi
  rcases Nat.lt_or_ge i P with q | q
  · rw [m_upd_lt q]; exact h i q
  · rw [show i = P by omega, m_upd_eq]; exact hx
theorem m_L_push {τ υ : jf_S} {P C : Nat} {o w mo o' x v : Int32} (L : m_L τ P C o w mo) (hw : ¬ w.toInt = 0) (hm : ¬ mo.toInt = 0) (hb : ((τ.1 0 64)).toInt = 0) (hx : (x.toInt = -3 ∧ o'.toInt = o.toInt) ∨ (x.toInt = -6 ∧ o'.toInt = o.toInt + 1)) (hk : ((τ.1 0 61)).toInt = 1 ∨ ((τ.1 0 61)).toInt = 3) (M : m_M τ υ v) : m_L (jf_i (jf_i υ 36 ((υ.1 0 56)).toNatClampNeg x) 0 56 ((υ.1 0 56) + 1)) (P + 1) C o' w mo := by
  obtain ⟨L1, L2, L3, L4, L5⟩ := L
  obtain ⟨M1, M2, M3⟩ := M
  obtain ⟨k1, k2, k3, k4, k5⟩ := L5 hb
  have k4 := k4 hm
  unfold m_kd at k1
  have b4 := L1.2.2
  obtain ⟨s1, s2, s3⟩ := L2
  have c36 : (υ.1 36) = (τ.1 36) := M1.1 36 (by decide) (by decide)
  have c34 : (υ.1 34) = (τ.1 34) := M1.1 34 (by decide) (by decide)
  have f1 : (υ.1 0 56) = (τ.1 0 56) := M1.2 56 (by decide)
  have f2 : (υ.1 0 51) = (τ.1 0 51) := M1.2 51 (by decide)
  have cl : ((υ.1 0 56)).toNatClampNeg = P := ji_cl (by rw [f1]; exact s1)
  have e1 := ji_inc1 (k := (τ.1 0 56)) (by omega)
  have b5 := L1.2.1
  refine ⟨M2, ⟨show ((υ.1 0 56) + 1).toInt = _ by rw [f1]; omega, show ((υ.1 0 51)).toInt = _ by rw [f2]; exact s2, by omega⟩, ?_, ?_, fun hb' => ?_⟩
  · show m_rg ((jf_i (jf_i υ 36 ((υ.1 0 56)).toNatClampNeg x) 0 56 ((υ.1 0 56) + 1)).1 36) _
    rw [m_pu36, cl, c36]; exact m_rg_u L3 (by omega)
  · show _ = (m_opn ((jf_i (jf_i υ 36 ((υ.1 0 56)).toNatClampNeg x) 0 56 ((υ.1 0 56) + 1)).1 36) _ : Int)
    rw [m_pu36, cl, c36, m_opn_u]
    rcases hx with h | h
    · rw [if_neg (by omega)]; omega
    · rw [if_pos h.1]; omega
  · have hb2 : ((υ.1 0 64)).toInt = 0 := hb'
    obtain ⟨n1, n2, n3, n4, n5⟩ := M3.resolve_left (fun h => h hb2)
    refine ⟨n5, fun h => absurd h hw, fun _ => ?_, fun _ => show ((P + 1 : Nat) : Int) + C + 1 ≤ ((υ.1 0 59)).toInt by omega, fun h => absurd h hm⟩
    show m_D ((jf_i (jf_i υ 36 ((υ.1 0 56)).toNatClampNeg x) 0 56 ((υ.1 0 56) + 1)).1 34) ((jf_i (jf_i υ 36 ((υ.1 0 56)).toNatClampNeg x) 0 56 ((υ.1 0 56) + 1)).1 36) _ _ _
    rw [m_pu36, m_pu34, cl, c36, c34]
    exact m_D_push (k3 hw) (Or.inr ⟨by omega, rfl⟩)
theorem m_L_leaf {τ υ : jf_S} {P C : Nat} {o w mo : Int32} (L : m_L τ P C o w mo) (hw : ¬ w.toInt = 0) (hm : ¬ mo.toInt = 0) (hb : ((τ.1 0 64)).toInt = 0) (z : mS_g [34] [51, 59, 60, 61, 63, 64] τ υ) (h1 : m_at υ) (h2 : ((υ.1 0 51)).toInt = (C : Int) + 1) (h3 : ((υ.1 0 64)).toInt = 0 → ((τ.1 0 59)).toInt < ((υ.1 0 59)).toInt ∧ m_kd υ ∧ ∀ (p : Nat → Int32) (P : Nat), m_D ((τ.1 34)) p P C 0 → m_D ((υ.1 34)) p P (C + 1) 1) : m_L υ P (C + 1) o 0 mo := by
  obtain ⟨L1, L2, L3, L4, L5⟩ := L
  obtain ⟨k1, k2, k3, k4, k5⟩ := L5 hb
  have k4 := k4 hm
  obtain ⟨s1, s2, s3⟩ := L2
  have b4 := L1.2
  have c36 : (υ.1 36) = (τ.1 36) := z.1 36 (by decide) (by decide)
  have f1 : (υ.1 0 56) = (τ.1 0 56) := z.2 56 (by decide)
  refine ⟨h1, ⟨by rw [f1]; exact s1, by omega, by omega⟩, by rw [c36]; exact L3, by rw [c36]; exact L4, fun hb' => ?_⟩
  obtain ⟨n1, n2, n3⟩ := h3 hb'
  exact ⟨n2, fun _ => by rw [c36]; exact n3 _ _ (k3 hw), fun h => absurd rfl h, fun _ => by omega, fun h => absurd h hm⟩
theorem m_L_and {τ ρ υ : jf_S} {P C P' C' : Nat} {o w mo x : Int32} (L : m_L τ P C o w mo) (hw : w.toInt = 0) (hm : ¬ mo.toInt = 0) (hb : ((τ.1 0 64)).toInt = 0) (hk : ((τ.1 0 61)).toInt = 1) (h1 : m_pq ρ P' C') (h2 : P' + C' = P + C) (h3 : P' ≤ P) (z : mS_g [34] [51, 56] τ ρ ∧ ρ.2 = τ.2) (h4 : m_opn ((τ.1 36)) P' = m_opn ((τ.1 36)) P) (h5 : m_D ((τ.1 34)) ((τ.1 36)) P C 1 → m_D ((ρ.1 34)) ((ρ.1 36)) P' C' 1) (hx : x.toInt = -4 ∨ x.toInt = -5) (n : mS_n (jf_i (jf_i ρ 36 ((ρ.1 0 56)).toNatClampNeg x) 0 56 ((ρ.1 0 56) + 1)) υ ∧ ((ρ.1 0 60)).toInt ≤ ((υ.1 0 59)).toInt ∧ m_at υ ∧ m_kd υ) : m_L υ (P' + 1) C' o 1 mo := by
  obtain ⟨L1, L2, L3, L4, L5⟩ := L
  obtain ⟨k1, k2, k3, k4, k5⟩ := L5 hb
  have k4 := k4 hm
  unfold m_kd at k1
  obtain ⟨s1, s2, s3⟩ := L2
  obtain ⟨t1, t2, t3⟩ := h1
  have b4 := L1.2
  have c36 : (ρ.1 36) = (τ.1 36) := z.1.1 36 (by decide) (by decide)
  have f2 : (ρ.1 0 60) = (τ.1 0 60) := z.1.2 60 (by decide)
  have cl : ((ρ.1 0 56)).toNatClampNeg = P' := ji_cl t1
  have e1 := ji_inc1 (k := (ρ.1 0 56)) (by omega)
  obtain ⟨n1, n2, n3, n4⟩ := n
  rw [f2] at n2
  have u36 : (υ.1 36) = upd ((τ.1 36)) P' x := by rw [show (υ.1 36) = _ from n1.1 36 (by decide), m_pu36, cl, c36]
  have u34 : (υ.1 34) = (ρ.1 34) := by rw [show (υ.1 34) = _ from n1.1 34 (by decide), m_pu34]
  refine ⟨n3, ⟨by rw [show (υ.1 0 56) = _ from n1.2 56 (by decide) (by decide) (by decide)]; show ((ρ.1 0 56) + 1).toInt = _; omega, by rw [show (υ.1 0 51) = _ from n1.2 51 (by decide) (by decide) (by decide)]; exact t2, by omega⟩, ?_, ?_, fun hb' => ?_⟩
  · rw [u36]; exact m_rg_u (fun i hi => L3 i (by omega)) (by omega)
  · rw [u36, m_opn_u, if_neg (by omega), h4]; exact L4
  · refine ⟨n4, fun h => absurd h (by decide), fun _ => ?_, fun _ => by omega, fun h => absurd h hm⟩
    rw [u36, u34]
    have d := h5 (k2 hw)
    rw [c36] at d
    exact m_D_push d (Or.inl ⟨hx, rfl⟩)
theorem m_L_shut {τ ρ υ : jf_S} {P C P' C' : Nat} {o o' w mo v : Int32} (L : m_L τ P C o w mo) (hw : w.toInt = 0) (hm : ¬ mo.toInt = 0) (hb : ((τ.1 0 64)).toInt = 0) (ho : 0 < o.toInt) (ho' : o'.toInt = o.toInt - 1) (hk : ¬ v.toInt = 0 → ((τ.1 0 61)).toInt = 3) (M : m_M τ ρ v) (h1 : m_pq υ P' C') (h2 : P' + C' = P + C) (h3 : P' ≤ P) (z : mS_g [34] [51, 56] ρ υ ∧ υ.2 = ρ.2) (hend : P' = 0 ∨ ((ρ.1 36) (P' - 1)).toInt = -6 ∨ ((ρ.1 36) (P' - 1)).toInt < (-5 : Int32).toInt) (h4 : m_opn ((ρ.1 36)) P' = m_opn ((ρ.1 36)) P) (h5 : m_D ((ρ.1 34)) ((ρ.1 36)) P C 1 → m_D ((υ.1 34)) ((υ.1 36)) P' C' 1) : m_L (jf_i υ 0 56 ((υ.1 0 56) - 1)) (P' - 1) C' o' w mo := by
  obtain ⟨L1, L2, L3, L4, L5⟩ := L
  obtain ⟨M1, M2, M3⟩ := M
  obtain ⟨k1, k2, k3, k4, k5⟩ := L5 hb
  have k4 := k4 hm
  unfold m_kd at k1
  obtain ⟨s1, s2, s3⟩ := L2
  obtain ⟨t1, t2, t3⟩ := h1
  have b4 := L1.2
  have c36 : (ρ.1 36) = (τ.1 36) := M1.1 36 (by decide) (by decide)
  have c34 : (ρ.1 34) = (τ.1 34) := M1.1 34 (by decide) (by decide)
  have d36 : (υ.1 36) = (τ.1 36) := (z.1.1 36 (by decide) (by decide)).trans c36
  rw [c36] at hend h4 h5
  rw [c34] at h5
  have hP : P' ≠ 0 := by
    intro h
    rw [h] at h4
    have : m_opn ((τ.1 36)) 0 = 0 := rfl
    omega
  have r := L3 (P' - 1) (by omega)
  have e5 : (-5 : Int32).toInt = -5 := rfl
  have top : ((τ.1 36) (P' - 1)).toInt = -6 := by omega
  have on := m_opn_s ((τ.1 36)) (P' - 1)
  rw [if_pos top, Nat.sub_add_cancel (by omega)] at on
  have bn := m_bin_s ((τ.1 36)) (P' - 1)
  rw [if_neg (by omega), Nat.sub_add_cancel (by omega)] at bn
  have p1 := ji_dec1 (k := (υ.1 0 56)) (by omega)
  have f1 : (υ.1 0 59) = (ρ.1 0 59) := z.1.2 59 (by decide)
  have f2 : (υ.1 0 60) = (ρ.1 0 60) := z.1.2 60 (by decide)
  have f3 : (υ.1 0 58) = (ρ.1 0 58) := z.1.2 58 (by decide)
  have f4 : (υ.1 0 61) = (ρ.1 0 61) := z.1.2 61 (by decide)
  have f5 : (υ.1 0 64) = (ρ.1 0 64) := z.1.2 64 (by decide)
  have f6 : (υ.2 0 62) = (ρ.2 0 62) := by rw [z.2]
  refine ⟨m_at_of (τ := υ) M2 f1 f2 f3, ⟨show ((υ.1 0 56) - 1).toInt = _ by omega, t2, by omega⟩, ?_, ?_, fun hb' => ?_⟩
  · show m_rg ((jf_i υ 0 56 ((υ.1 0 56) - 1)).1 36) _
    rw [jf_i_o 36 (by decide), d36]; exact fun i hi => L3 i (by omega)
  · show _ = (m_opn ((jf_i υ 0 56 ((υ.1 0 56) - 1)).1 36) _ : Int)
    rw [jf_i_o 36 (by decide), d36]; omega
  · have hb2 : ((ρ.1 0 64)).toInt = 0 := by rw [← f5]; exact hb'
    obtain ⟨n1, n2, n3, n4, n5⟩ := M3.resolve_left (fun h => h hb2)
    have hk := hk n3
    refine ⟨m_kd_of (τ := υ) n5 f1 f2 f3 f4 f6, fun _ => ?_, fun h => absurd hw h, fun _ => ?_, fun h => absurd h hm⟩
    · show m_D ((jf_i υ 0 56 ((υ.1 0 56) - 1)).1 34) ((jf_i υ 0 56 ((υ.1 0 56) - 1)).1 36) _ _ _
      rw [jf_i_o 34 (by decide), jf_i_o 36 (by decide)]
      have d := h5 (k2 hw)
      rw [d36] at d ⊢
      exact ⟨d.1, by have := d.2; omega⟩
    · show ((P' - 1 : Nat) : Int) + C' + 1 ≤ ((υ.1 0 59)).toInt
      rw [f1]; omega
theorem m_L_end {τ υ : jf_S} {P C P' C' : Nat} {o w mo : Int32} (L : m_L τ P C o w mo) (hw : w.toInt = 0) (hb : ((τ.1 0 64)).toInt = 0) (ho : ¬ 0 < o.toInt) (h1 : m_pq υ P' C') (h2 : P' + C' = P + C) (h3 : P' ≤ P) (z : mS_g [34] [51, 56] τ υ ∧ υ.2 = τ.2) (h4 : m_opn ((τ.1 36)) P' = m_opn ((τ.1 36)) P) (h5 : m_D ((τ.1 34)) ((τ.1 36)) P C 1 → m_D ((υ.1 34)) ((υ.1 36)) P' C' 1) : m_L υ P' C' o w 0 := by
  obtain ⟨L1, L2, L3, L4, L5⟩ := L
  obtain ⟨k1, k2, k3, k4, k5⟩ := L5 hb
  have L' : m_L τ P C o w 0 := ⟨L1, L2, L3, L4, fun _ => ⟨k1, k2, k3, fun h => absurd rfl h, fun _ => hw⟩⟩
  exact m_L_depth L' h1 h2 h3 z h4 h5 (fun h => absurd hw h)

