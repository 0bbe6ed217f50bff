/-! the reference: pile and marks, safe -/
/-- cells K of arrays and places J of the object changed at will (ints) -/
def mS_g (K J : List Nat) (σ τ : jf_S) : Prop := (∀ k, k ≠ 0 → k ∉ K → τ.1 k = σ.1 k) ∧ (∀ j, j ∉ J → τ.1 0 j = σ.1 0 j)
theorem mS_g_r {K J : List Nat} (σ : jf_S) : mS_g K J σ σ := ⟨fun _ _ _ => rfl, fun _ _ => rfl⟩
theorem mS_g_t {K J : List Nat} {σ τ υ : jf_S} (h : mS_g K J σ τ) (g : mS_g K J τ υ) : mS_g K J σ υ := ⟨fun k a b => (g.1 k a b).trans (h.1 k a b), fun j a => (g.2 j a).trans (h.2 j a)⟩
theorem mS_g_m {K J K' J' : List Nat} {σ τ : jf_S} (h : mS_g K J σ τ) (hK : ∀ k ∈ K, k ∈ K') (hJ : ∀ j ∈ J, j ∈ J') : mS_g K' J' σ τ := ⟨fun k a b => h.1 k a (fun c => b (hK k c)), fun j a => h.2 j (fun c => a (hJ j c))⟩
theorem mS_g_a {K J : List Nat} {σ τ : jf_S} (h : mS_g K J σ τ) {k j : Nat} {v : Int32} (hk : k ∈ K) (h0 : k ≠ 0) : mS_g K J σ (jf_i τ k j v) := by
  refine ⟨fun i a b => ?_, fun i a => ?_⟩
  · rw [jf_i_o i (fun e => b (e ▸ hk))]; exact h.1 i a b
  · rw [jf_i_o 0 (fun e => h0 e.symm)]; exact h.2 i a
theorem mS_g_i {K J : List Nat} {σ τ : jf_S} (h : mS_g K J σ τ) {j : Nat} {v : Int32} (hj : j ∈ J) : mS_g K J σ (jf_i τ 0 j v) := by
  refine ⟨fun i a b => ?_, fun i a => ?_⟩
  · rw [jf_i_o i a]; exact h.1 i a b
  · rw [jf_i_at]; unfold upd; rw [if_neg (show ¬ i = j from fun e => a (e ▸ hj))]; exact h.2 i a
theorem mS_g_n {K J : List Nat} {σ τ : jf_S} (h : mS_n σ τ) (hJ : 59 ∈ J ∧ 60 ∈ J ∧ 61 ∈ J) : mS_g K J σ τ :=
  ⟨fun k a _ => h.1 k a, fun j a => h.2 j (fun e => a (e ▸ hJ.1)) (fun e => a (e ▸ hJ.2.1)) (fun e => a (e ▸ hJ.2.2))⟩
/-- how many of the pile join two -/
def m_bin (p : Nat → Int32) (n : Nat) : Nat := jx_ct (fun i => decide ((p i).toInt = -4 ∨ (p i).toInt = -5)) n
/-- how many are open -/
def m_opn (p : Nat → Int32) (n : Nat) : Nat := jx_ct (fun i => decide ((p i).toInt = -6)) n
theorem m_bin_s (p : Nat → Int32) (n : Nat) : m_bin p (n + 1) = m_bin p n + if (p n).toInt = -4 ∨ (p n).toInt = -5 then 1 else 0 := by
  show jx_ct _ n + _ = jx_ct _ n + _
  by_cases h : (p n).toInt = -4 ∨ (p n).toInt = -5
  · rw [if_pos (decide_eq_true h), if_pos h]
  · rw [if_neg (fun e => h (of_decide_eq_true e)), if_neg h]
theorem m_opn_s (p : Nat → Int32) (n : Nat) : m_opn p (n + 1) = m_opn p n + if (p n).toInt = -6 then 1 else 0 := by
  show jx_ct _ n + _ = jx_ct _ n + _
  by_cases h : (p n).toInt = -6
  · rw [if_pos (decide_eq_true h), if_pos h]
  · rw [if_neg (fun e => h (of_decide_eq_true e)), if_neg h]
theorem m_bin_c {p q : Nat → Int32} {n : Nat} (h : ∀ i, i < n → p i = q i) : m_bin p n = m_bin q n := jx_ct_cong (fun k hk => by rw [h k hk])
theorem m_opn_c {p q : Nat → Int32} {n : Nat} (h : ∀ i, i < n → p i = q i) : m_opn p n = m_opn q n := jx_ct_cong (fun k hk => by rw [h k hk])
theorem m_dep_c {a b : Nat → Int32} : ∀ {n : Nat}, (∀ i, i < n → a i = b i) → m_dep a n = m_dep b n
  | 0, _ => rfl
  | n + 1, h => by
    have e := m_dep_c (n := n) (fun i hi => h i (by omega))
    have e2 := h n (by omega)
    show (if (a n).toInt = -3 then m_dep a n else if (a n).toInt = -4 ∨ (a n).toInt = -5 then m_dep a n - 1 else m_dep a n + 1) = (if (b n).toInt = -3 then m_dep b n else if (b n).toInt = -4 ∨ (b n).toInt = -5 then m_dep b n - 1 else m_dep b n + 1)
    rw [e, e2]
theorem m_val_c {a b : Nat → Int32} {n : Nat} (h : ∀ i, i < n → a i = b i) (v : m_val a n) : m_val b n := by
  intro i hi
  have := v i hi
  rw [m_dep_c (n := i) (fun k hk => h k (by omega)), h i hi] at this
  exact this
theorem m_upd_lt {a : Nat → Int32} {n i : Nat} {x : Int32} (h : i < n) : upd a n x i = a i := by unfold upd; rw [if_neg (by omega)]
theorem m_upd_eq {a : Nat → Int32} {n : Nat} {x : Int32} : upd a n x n = x := by unfold upd; rw [if_pos rfl]
theorem m_dep_u {a : Nat → Int32} {n : Nat} {x : Int32} : m_dep (upd a n x) (n + 1) = if x.toInt = -3 then m_dep a n else if x.toInt = -4 ∨ x.toInt = -5 then m_dep a n - 1 else m_dep a n + 1 := by
  have e := m_dep_c (a := upd a n x) (b := a) (n := n) (fun i hi => m_upd_lt hi)
  show (if (upd a n x n).toInt = -3 then m_dep (upd a n x) n else if (upd a n x n).toInt = -4 ∨ (upd a n x n).toInt = -5 then m_dep (upd a n x) n - 1 else m_dep (upd a n x) n + 1) = _
  rw [e, m_upd_eq]
theorem m_val_u {a : Nat → Int32} {n : Nat} {x : Int32} (v : m_val a n) (h3 : x.toInt = -3 → 1 ≤ m_dep a n) (h4 : x.toInt = -4 ∨ x.toInt = -5 → 2 ≤ m_dep a n) : m_val (upd a n x) (n + 1) := by
  intro i hi
  rcases Nat.lt_or_ge i n with q | q
  · exact m_val_c (a := a) (n := n) (fun k hk => (m_upd_lt hk).symm) v i q
  · have e : i = n := by omega
    subst e
    rw [m_upd_eq, m_dep_c (a := upd a i x) (b := a) (n := i) (fun k hk => m_upd_lt hk)]
    exact ⟨h3, h4⟩
/-- marks and pile fit -/
def m_D (a p : Nat → Int32) (P C e : Nat) : Prop := m_val a C ∧ m_dep a C = m_bin p P + e
theorem m_D_pop {a p : Nat → Int32} {P C : Nat} (h : m_D a p (P + 1) C 1) (h1 : -5 ≤ (p P).toInt ∧ (p P).toInt ≤ -3) : m_D (upd a C (p P)) p P (C + 1) 1 := by
  obtain ⟨v, e⟩ := h
  have b := m_bin_s p P
  have u := m_dep_u (a := a) (n := C) (x := p P)
  refine ⟨m_val_u v (fun q => by omega) (fun q => ?_), ?_⟩
  · rw [if_pos q] at b; omega
  · by_cases q : (p P).toInt = -4 ∨ (p P).toInt = -5
    · rw [if_pos q] at b
      rw [if_neg (by omega), if_pos q] at u
      omega
    · rw [if_neg q] at b
      rw [if_pos (by omega)] at u
      omega
theorem m_D_leaf {a p : Nat → Int32} {P C : Nat} {x : Int32} (h : m_D a p P C 0) (h1 : ¬ x.toInt = -3 ∧ ¬ x.toInt = -4 ∧ ¬ x.toInt = -5) : m_D (upd a C x) p P (C + 1) 1 := by
  have u := m_dep_u (a := a) (n := C) (x := x)
  rw [if_neg h1.1, if_neg (by omega)] at u
  exact ⟨m_val_u h.1 (fun q => absurd q h1.1) (fun q => by omega), by have := h.2; omega⟩
theorem m_D_push {a p : Nat → Int32} {P C e : Nat} {x : Int32} (h : m_D a p P C e) (h1 : ((x.toInt = -4 ∨ x.toInt = -5) ∧ e = 1) ∨ ((x.toInt = -3 ∨ x.toInt = -6) ∧ e = 0)) : m_D a (upd p P x) (P + 1) C 0 := by
  refine ⟨h.1, ?_⟩
  have b := m_bin_s (upd p P x) P
  rw [m_upd_eq, m_bin_c (q := p) (fun i hi => m_upd_lt hi)] at b
  have := h.2
  by_cases q : x.toInt = -4 ∨ x.toInt = -5
  · rw [if_pos q] at b; omega
  · rw [if_neg q] at b; omega
theorem m_opn_u {p : Nat → Int32} {P : Nat} {x : Int32} : m_opn (upd p P x) (P + 1) = m_opn p P + if x.toInt = -6 then 1 else 0 := by
  rw [m_opn_s, m_upd_eq, m_opn_c (q := p) (fun i hi => m_upd_lt hi)]
/-- how high both stand -/
def m_pq (σ : jf_S) (P C : Nat) : Prop := ((σ.1 0 56)).toInt = (P : Int) ∧ ((σ.1 0 51)).toInt = (C : Int) ∧ P + C ≤ 300
/-- what may lie in the pile -/
def m_rg (p : Nat → Int32) (P : Nat) : Prop := ∀ i, i < P → -6 ≤ (p i).toInt ∧ (p i).toInt ≤ -3
theorem m_mk34 {τ : jf_S} {n : Nat} {x y z : Int32} : (jf_i (jf_i (jf_i τ 0 56 z) 34 n x) 0 51 y).1 34 = upd (τ.1 34) n x := by
  rw [jf_i_o 34 (by decide), jf_i_at, jf_i_o 34 (by decide)]
theorem m_mk36 {τ : jf_S} {n : Nat} {x y z : Int32} : (jf_i (jf_i (jf_i τ 0 56 z) 34 n x) 0 51 y).1 36 = τ.1 36 := by
  rw [jf_i_o 36 (by decide), jf_i_o 36 (by decide), jf_i_o 36 (by decide)]
theorem ct_X11_settle (E : jf_E) (σ : jf_S) (v : Int32) (P K : Nat) (hq : m_pq σ P K) (hR : m_rg ((σ.1 36)) P) : jf_V jh_M E yX11_settle cX11_settle 2 1 [jf_r E 0, .int v] σ (fun τ => ∃ P' K' : Nat, m_pq τ P' K' ∧ P' + K' = P + K ∧ P' ≤ P ∧ (mS_g [34] [51, 56] σ τ ∧ τ.2 = σ.2) ∧ (P' = 0 ∨ ((σ.1 36) (P' - 1)).toInt = -6 ∨ ((σ.1 36) (P' - 1)).toInt < v.toInt) ∧ m_opn ((σ.1 36)) P' = m_opn ((σ.1 36)) P ∧ (m_D ((σ.1 34)) ((σ.1 36)) P K 1 → m_D ((τ.1 34)) ((τ.1 36)) P' K' 1)) := by
  refine jf_mkV (by decide) (Nat.le_of_ble_eq_true rfl) ?_
  intro G C ret
  have lp : ∀ (m : Nat) (τ : jf_S) (P' K' : Nat), P' < m → m_pq τ P' K' → P' + K' = P + K → P' ≤ P → (mS_g [34] [51, 56] σ τ ∧ τ.2 = σ.2) → m_opn ((σ.1 36)) P' = m_opn ((σ.1 36)) P → (m_D ((σ.1 34)) ((σ.1 36)) P K 1 → m_D ((τ.1 34)) ((τ.1 36)) P' K' 1) → jf_X jh_M E G 2 0 [(0, jf_r E 0), (1, .int v)] [] τ := by
    intro m
    induction m with
    | zero => intro τ P' K' g; exfalso; omega
    | succ m ih =>
      intro τ P' K' g q1 q2 q3 z q4 q5
      obtain ⟨s1, s2, s3⟩ := id q1
      have p1 := ji_dec1 (k := (τ.1 0 56)) (by omega)
      have e1 := ji_inc1 (k := (τ.1 0 51)) (by omega)
      have c36 : (τ.1 36) = (σ.1 36) := z.1.1 36 (by decide) (by decide)
      have cl : P' ≠ 0 → ((τ.1 0 56) - 1).toNatClampNeg = P' - 1 := fun h => ji_cl (by omega)
      have cm : ((τ.1 0 51)).toNatClampNeg = K' := ji_cl s2
      have cx : P' ≠ 0 → (τ.1 36) ((τ.1 0 56) - 1).toNatClampNeg = (σ.1 36) (P' - 1) := fun h => by rw [c36, cl h]
      have k1 : P' ≠ 0 → ¬ ((σ.1 36) (P' - 1)).toInt = -6 → m_opn ((σ.1 36)) (P' - 1) = m_opn ((σ.1 36)) P := by
        intro h0 b20
        rw [← q4]
        have b := m_opn_s ((σ.1 36)) (P' - 1)
        rw [if_neg b20, Nat.sub_add_cancel (by omega)] at b
        omega
      have k2 : P' ≠ 0 → ¬ ((σ.1 36) (P' - 1)).toInt = -6 → m_D ((σ.1 34)) ((σ.1 36)) P K 1 → m_D ((jf_i (jf_i (jf_i τ 0 56 ((τ.1 0 56) - 1)) 34 ((τ.1 0 51)).toNatClampNeg ((τ.1 36) ((τ.1 0 56) - 1).toNatClampNeg)) 0 51 ((τ.1 0 51) + 1)).1 34) ((jf_i (jf_i (jf_i τ 0 56 ((τ.1 0 56) - 1)) 34 ((τ.1 0 51)).toNatClampNeg ((τ.1 36) ((τ.1 0 56) - 1).toNatClampNeg)) 0 51 ((τ.1 0 51) + 1)).1 36) (P' - 1) (K' + 1) 1 := by
        intro h0 b20 d
        have r := hR (P' - 1) (by omega)
        rw [m_mk34, m_mk36, cm, cx h0, c36]
        have d' := q5 d
        rw [c36, ← Nat.sub_add_cancel (show 1 ≤ P' by omega)] at d'
        exact m_D_pop d' (by omega)
      refine jr_aload_n C dX11_settle_0 rfl ?_
      refine jr_getv C kf_X11_320_0 dX11_settle_1 (v := τ.1 0 56) rfl ?_
      refine jr_nif_le C 64 dX11_settle_4 (by decide) (fun b4 => ?_) (fun b4 => ?_)
      · exact ret _ _ _ dX11_settle_64 (⟨P', K', q1, q2, q3, z, by omega, q4, q5⟩)
      · refine jr_aload_n C dX11_settle_7 rfl ?_
        refine jr_getr C kf_X11_120_0 dX11_settle_8 ?_
        refine jr_aload_n C dX11_settle_11 rfl ?_
        refine jr_getv C kf_X11_320_0 dX11_settle_12 (v := τ.1 0 56) rfl ?_
        refine jr_iconst C (v := 1) dX11_settle_15 (by decide) ?_
        refine jr_isub C dX11_settle_16 ?_
        refine jr_ialv C ka_M_36 dX11_settle_17 (ji_in (i := (τ.1 0 56) - 1) (by omega) (by omega)) (v := τ.1 36 _) rfl ?_
        refine jr_bipush C (v := -6) dX11_settle_18 (by decide) ?_
        refine jr_ncmp_eq C (b := -6) 64 dX11_settle_20 (by decide) rfl rfl (fun b20 => ?_) (fun b20 => ?_)
        · rw [cx (by omega)] at b20
          exact ret _ _ _ dX11_settle_64 (⟨P', K', q1, q2, q3, z, by omega, q4, q5⟩)
        · rw [cx (by omega)] at b20
          refine jr_aload_n C dX11_settle_23 rfl ?_
          refine jr_getr C kf_X11_120_0 dX11_settle_24 ?_
          refine jr_aload_n C dX11_settle_27 rfl ?_
          refine jr_getv C kf_X11_320_0 dX11_settle_28 (v := τ.1 0 56) rfl ?_
          refine jr_iconst C (v := 1) dX11_settle_31 (by decide) ?_
          refine jr_isub C dX11_settle_32 ?_
          refine jr_ialv C ka_M_36 dX11_settle_33 (ji_in (i := (τ.1 0 56) - 1) (by omega) (by omega)) (v := τ.1 36 _) rfl ?_
          refine jr_iload_n C dX11_settle_34 rfl ?_
          refine jr_ncmp_lt C 64 dX11_settle_35 (by decide) rfl rfl (fun b35 => ?_) (fun b35 => ?_)
          · rw [cx (by omega)] at b35
            exact ret _ _ _ dX11_settle_64 (⟨P', K', q1, q2, q3, z, by omega, q4, q5⟩)
          · rw [cx (by omega)] at b35
            refine jr_aload_n C dX11_settle_38 rfl ?_
            refine jr_dup C dX11_settle_39 rfl ?_
            refine jr_getv C kf_X11_320_0 dX11_settle_40 (v := τ.1 0 56) rfl ?_
            refine jr_iconst C (v := 1) dX11_settle_43 (by decide) ?_
            refine jr_isub C dX11_settle_44 ?_
            refine jr_puti C kp_X11_320_0 dX11_settle_45 ?_
            refine jr_aload_n C dX11_settle_48 rfl ?_
            refine jr_aload_n C dX11_settle_49 rfl ?_
            refine jr_getr C kf_X11_120_0 dX11_settle_50 ?_
            refine jr_aload_n C dX11_settle_53 rfl ?_
            refine jr_geti C kf_X11_320_0 dX11_settle_54 ?_
            refine jr_ialv C ka_M_36 dX11_settle_57 (ji_in (i := (τ.1 0 56) - 1) (by omega) (by omega)) (v := τ.1 36 _) rfl ?_
            refine jr_vvp C [.int _] _ (ct_X11_mark E _ _ (show 0 ≤ ((τ.1 0 51)).toInt ∧ ((τ.1 0 51)).toInt < 300 by omega)) ky_X11_mark kv_X11_mark kk_M_0 km_X11_323 (by decide) rfl (Nat.le_of_ble_eq_true rfl) dX11_settle_58 ?_
            refine jr_goto C 0 dX11_settle_61 (by decide) ?_
            exact ih _ (P' - 1) (K' + 1) (by omega) ⟨show ((τ.1 0 56) - 1).toInt = _ by omega, show ((τ.1 0 51) + 1).toInt = _ by omega, by omega⟩ (by omega) (by omega) ⟨mS_g_i (mS_g_a (mS_g_i z.1 (by decide)) (by decide) (by decide)) (by decide), z.2⟩ (k1 (by omega) b20) (k2 (by omega) b20)
  exact lp (P + 1) σ P K (by omega) hq rfl (Nat.le_refl _) ⟨mS_g_r σ, rfl⟩ rfl id
theorem ct_X11_depthNow (E : jf_E) (σ : jf_S) (v : Int32) (P K : Nat) (hq : m_pq σ P K) (hR : m_rg ((σ.1 36)) P) : jf_I jh_M E yX11_depthNow cX11_depthNow 4 .int 1 [jf_r E 0, .int v] σ (fun r τ => ∃ P' K' : Nat, m_pq τ P' K' ∧ P' + K' = P + K ∧ P' ≤ P ∧ (mS_g [34] [51, 56] σ τ ∧ τ.2 = σ.2) ∧ m_opn ((σ.1 36)) P' = m_opn ((σ.1 36)) P ∧ (m_D ((σ.1 34)) ((σ.1 36)) P K 1 → m_D ((τ.1 34)) ((τ.1 36)) P' K' 1) ∧ (¬ v.toInt = 0 → τ = σ)) := by
  refine jf_mkI (by decide) (Nat.le_of_ble_eq_true rfl) ?_
  intro G C ret
  have J46 : ∀ (τ : jf_S) (P' K' : Nat), m_pq τ P' K' → P' + K' = P + K → P' ≤ P → (mS_g [34] [51, 56] σ τ ∧ τ.2 = σ.2) → m_opn ((σ.1 36)) P' = m_opn ((σ.1 36)) P → (m_D ((σ.1 34)) ((σ.1 36)) P K 1 → m_D ((τ.1 34)) ((τ.1 36)) P' K' 1) → (¬ v.toInt = 0 → τ = σ) → jf_X jh_M E G 4 46 [(0, jf_r E 0), (1, .int v)] [] τ := by
    intro τ P' K' q1 q2 q3 z q4 q5 q6
    obtain ⟨s1, s2, s3⟩ := id q1
    have l50 : ∀ (m : Nat) (n i : Int32), 0 ≤ i.toInt → i.toInt ≤ P' → (P' : Int) - i.toInt < m → jf_X jh_M E G 4 50 [(0, jf_r E 0), (1, .int v), (2, .int n), (3, .int i)] [] τ := by
      intro m
      induction m with
      | zero => intro n i g1 g2 g3; exfalso; omega
      | succ m ih =>
        intro n i g1 g2 g3
        have e1 := ji_inc (k := i) (by omega)
        refine jr_iload_n C dX11_depthNow_50 rfl ?_
        refine jr_aload_n C dX11_depthNow_51 rfl ?_
        refine jr_getv C kf_X11_320_0 dX11_depthNow_52 (v := τ.1 0 56) rfl ?_
        refine jr_ncmp_ge C 94 dX11_depthNow_55 (by decide) rfl rfl (fun b55 => ?_) (fun b55 => ?_)
        · refine jr_iload_n C dX11_depthNow_94 rfl ?_
          exact ret _ _ _ _ dX11_depthNow_95 rfl (⟨P', K', q1, q2, q3, z, q4, q5, q6⟩)
        · refine jr_iload_n C dX11_depthNow_58 rfl ?_
          refine jr_aload_n C dX11_depthNow_59 rfl ?_
          refine jr_getr C kf_X11_120_0 dX11_depthNow_60 ?_
          refine jr_iload_n C dX11_depthNow_63 rfl ?_
          refine jr_ialv C ka_M_36 dX11_depthNow_64 (ji_in (i := i) (by omega) (by omega)) (v := τ.1 36 _) rfl ?_
          refine jr_bipush C (v := -6) dX11_depthNow_65 (by decide) ?_
          refine jr_ncmp_eq C (b := -6) 81 dX11_depthNow_67 (by decide) rfl rfl (fun b67 => ?_) (fun b67 => ?_)
          · refine jr_iconst C (v := 1) dX11_depthNow_81 (by decide) ?_
            refine jr_goto C 86 dX11_depthNow_82 (by decide) ?_
            refine jr_iadd C dX11_depthNow_86 ?_
            refine jr_istore_n C dX11_depthNow_87 (by decide) ?_
            refine jr_iinc C _ dX11_depthNow_88 rfl rfl (by decide) ?_
            refine jr_goto C 50 dX11_depthNow_91 (by decide) ?_
            exact jr_sub [(0, jf_r E 0), (1, .int v), (2, .int _), (3, .int _)] rfl (ih _ _ (by omega) (by omega) (by omega))
          · refine jr_aload_n C dX11_depthNow_70 rfl ?_
            refine jr_getr C kf_X11_120_0 dX11_depthNow_71 ?_
            refine jr_iload_n C dX11_depthNow_74 rfl ?_
            refine jr_ialv C ka_M_36 dX11_depthNow_75 (ji_in (i := i) (by omega) (by omega)) (v := τ.1 36 _) rfl ?_
            refine jr_bipush C (v := -3) dX11_depthNow_76 (by decide) ?_
            refine jr_ncmp_ne C (b := -3) 85 dX11_depthNow_78 (by decide) rfl rfl (fun b78 => ?_) (fun b78 => ?_)
            · refine jr_iconst C (v := 0) dX11_depthNow_85 (by decide) ?_
              refine jr_iadd C dX11_depthNow_86 ?_
              refine jr_istore_n C dX11_depthNow_87 (by decide) ?_
              refine jr_iinc C _ dX11_depthNow_88 rfl rfl (by decide) ?_
              refine jr_goto C 50 dX11_depthNow_91 (by decide) ?_
              exact jr_sub [(0, jf_r E 0), (1, .int v), (2, .int _), (3, .int _)] rfl (ih _ _ (by omega) (by omega) (by omega))
            · refine jr_iconst C (v := 1) dX11_depthNow_81 (by decide) ?_
              refine jr_goto C 86 dX11_depthNow_82 (by decide) ?_
              refine jr_iadd C dX11_depthNow_86 ?_
              refine jr_istore_n C dX11_depthNow_87 (by decide) ?_
              refine jr_iinc C _ dX11_depthNow_88 rfl rfl (by decide) ?_
              refine jr_goto C 50 dX11_depthNow_91 (by decide) ?_
              exact jr_sub [(0, jf_r E 0), (1, .int v), (2, .int _), (3, .int _)] rfl (ih _ _ (by omega) (by omega) (by omega))
    refine jr_iconst C (v := 0) dX11_depthNow_46 (by decide) ?_
    refine jr_istore_n C dX11_depthNow_47 (by decide) ?_
    refine jr_iconst C (v := 0) dX11_depthNow_48 (by decide) ?_
    refine jr_istore_n C dX11_depthNow_49 (by decide) ?_
    exact jr_sub [(0, jf_r E 0), (1, .int v), (2, .int 0), (3, .int 0)] rfl (l50 302 _ _ (by decide) (show (0 : Int) ≤ _ by omega) (show (P' : Int) - 0 < _ by omega))
  have lp : ∀ (m : Nat) (τ : jf_S) (P' K' : Nat), P' < m → v.toInt = 0 → m_pq τ P' K' → P' + K' = P + K → P' ≤ P → (mS_g [34] [51, 56] σ τ ∧ τ.2 = σ.2) → m_opn ((σ.1 36)) P' = m_opn ((σ.1 36)) P → (m_D ((σ.1 34)) ((σ.1 36)) P K 1 → m_D ((τ.1 34)) ((τ.1 36)) P' K' 1) → jf_X jh_M E G 4 4 [(0, jf_r E 0), (1, .int v)] [] τ := by
    intro m
    induction m with
    | zero => intro τ P' K' g; exfalso; omega
    | succ m ih =>
      intro τ P' K' g v0 q1 q2 q3 z q4 q5
      obtain ⟨s1, s2, s3⟩ := id q1
      have p1 := ji_dec1 (k := (τ.1 0 56)) (by omega)
      have e1 := ji_inc1 (k := (τ.1 0 51)) (by omega)
      have c36 : (τ.1 36) = (σ.1 36) := z.1.1 36 (by decide) (by decide)
      have cl : P' ≠ 0 → ((τ.1 0 56) - 1).toNatClampNeg = P' - 1 := fun h => ji_cl (by omega)
      have cm : ((τ.1 0 51)).toNatClampNeg = K' := ji_cl s2
      have cx : P' ≠ 0 → (τ.1 36) ((τ.1 0 56) - 1).toNatClampNeg = (σ.1 36) (P' - 1) := fun h => by rw [c36, cl h]
      have k1 : P' ≠ 0 → ((σ.1 36) (P' - 1)).toInt = -3 → m_opn ((σ.1 36)) (P' - 1) = m_opn ((σ.1 36)) P := by
        intro h0 b20
        rw [← q4]
        have b := m_opn_s ((σ.1 36)) (P' - 1)
        rw [if_neg (by omega), Nat.sub_add_cancel (by omega)] at b
        omega
      have k2 : P' ≠ 0 → ((σ.1 36) (P' - 1)).toInt = -3 → m_D ((σ.1 34)) ((σ.1 36)) P K 1 → m_D ((jf_i (jf_i (jf_i τ 0 56 ((τ.1 0 56) - 1)) 34 ((τ.1 0 51)).toNatClampNeg (-3)) 0 51 ((τ.1 0 51) + 1)).1 34) ((jf_i (jf_i (jf_i τ 0 56 ((τ.1 0 56) - 1)) 34 ((τ.1 0 51)).toNatClampNeg (-3)) 0 51 ((τ.1 0 51) + 1)).1 36) (P' - 1) (K' + 1) 1 := by
        intro h0 b20 d
        have e3 : (σ.1 36) (P' - 1) = -3 := Int32.toInt_inj.mp b20
        rw [m_mk34, m_mk36, cm, ← e3, c36]
        have d' := q5 d
        rw [c36, ← Nat.sub_add_cancel (show 1 ≤ P' by omega)] at d'
        exact m_D_pop d' (by omega)
      refine jr_aload_n C dX11_depthNow_4 rfl ?_
      refine jr_getv C kf_X11_320_0 dX11_depthNow_5 (v := τ.1 0 56) rfl ?_
      refine jr_nif_le C 46 dX11_depthNow_8 (by decide) (fun b8 => ?_) (fun b8 => ?_)
      · exact J46 τ P' K' q1 q2 q3 z q4 q5 (fun h => absurd v0 h)
      · refine jr_aload_n C dX11_depthNow_11 rfl ?_
        refine jr_getr C kf_X11_120_0 dX11_depthNow_12 ?_
        refine jr_aload_n C dX11_depthNow_15 rfl ?_
        refine jr_getv C kf_X11_320_0 dX11_depthNow_16 (v := τ.1 0 56) rfl ?_
        refine jr_iconst C (v := 1) dX11_depthNow_19 (by decide) ?_
        refine jr_isub C dX11_depthNow_20 ?_
        refine jr_ialv C ka_M_36 dX11_depthNow_21 (ji_in (i := (τ.1 0 56) - 1) (by omega) (by omega)) (v := τ.1 36 _) rfl ?_
        refine jr_bipush C (v := -3) dX11_depthNow_22 (by decide) ?_
        refine jr_ncmp_ne C (b := -3) 46 dX11_depthNow_24 (by decide) rfl rfl (fun b24 => ?_) (fun b24 => ?_)
        · rw [cx (by omega)] at b24
          exact J46 τ P' K' q1 q2 q3 z q4 q5 (fun h => absurd v0 h)
        · rw [cx (by omega)] at b24
          refine jr_aload_n C dX11_depthNow_27 rfl ?_
          refine jr_dup C dX11_depthNow_28 rfl ?_
          refine jr_getv C kf_X11_320_0 dX11_depthNow_29 (v := τ.1 0 56) rfl ?_
          refine jr_iconst C (v := 1) dX11_depthNow_32 (by decide) ?_
          refine jr_isub C dX11_depthNow_33 ?_
          refine jr_puti C kp_X11_320_0 dX11_depthNow_34 ?_
          refine jr_aload_n C dX11_depthNow_37 rfl ?_
          refine jr_bipush C (v := -3) dX11_depthNow_38 (by decide) ?_
          refine jr_vvp C [.int _] _ (ct_X11_mark E _ _ (show 0 ≤ ((τ.1 0 51)).toInt ∧ ((τ.1 0 51)).toInt < 300 by omega)) ky_X11_mark kv_X11_mark kk_M_0 km_X11_323 (by decide) rfl (Nat.le_of_ble_eq_true rfl) dX11_depthNow_40 ?_
          refine jr_goto C 4 dX11_depthNow_43 (by decide) ?_
          exact ih _ (P' - 1) (K' + 1) (by omega) v0 ⟨show ((τ.1 0 56) - 1).toInt = _ by omega, show ((τ.1 0 51) + 1).toInt = _ by omega, by omega⟩ (by omega) (by omega) ⟨mS_g_i (mS_g_a (mS_g_i z.1 (by decide)) (by decide) (by decide)) (by decide), z.2⟩ (k1 (by omega) b24) (k2 (by omega) b24)
  refine jr_iload_n C dX11_depthNow_0 rfl ?_
  refine jr_nif_ne C 46 dX11_depthNow_1 (by decide) (fun b1 => ?_) (fun b1 => ?_)
  · exact J46 σ P K hq rfl (Nat.le_refl _) ⟨mS_g_r σ, rfl⟩ rfl id (fun _ => rfl)
  · exact lp (P + 1) σ P K (by omega) b1 hq rfl (Nat.le_refl _) ⟨mS_g_r σ, rfl⟩ rfl id

