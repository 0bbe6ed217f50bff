/-! the reference: ahead, foremost, hindmost, exactly -/
def w_ex (a : Int32) (A : Nat → Nat → Bool) (S : Nat → Int32) (n : Nat) : Int := if a.toInt = 0 then w_hind A S n else w_fore A S n
theorem w_fore_e {A : Nat → Nat → Bool} {S : Nat → Int32} {n : Nat} : w_fore A S (n + 1) = if (S n).toInt = -1 then w_fore A S n else if w_fore A S n < 0 ∨ w_bt A S n (w_fore A S n).toNat = true then (n : Int) else w_fore A S n := rfl
theorem w_hind_e {A : Nat → Nat → Bool} {S : Nat → Int32} {n : Nat} : w_hind A S (n + 1) = if (S n).toInt = -1 then w_hind A S n else if w_hind A S n < 0 ∨ w_bt A S (w_hind A S n).toNat n = true then (n : Int) else w_hind A S n := rfl
theorem w_ex_n {a : Int32} {A : Nat → Nat → Bool} {S : Nat → Int32} {n : Nat} (h : (S n).toInt = -1) : w_ex a A S (n + 1) = w_ex a A S n := by
  unfold w_ex
  rw [w_hind_e, w_fore_e, if_pos h, if_pos h]
theorem w_ex_t {a : Int32} {A : Nat → Nat → Bool} {S : Nat → Int32} {n : Nat} (h : ¬ (S n).toInt = -1) (g : w_ex a A S n < 0) : w_ex a A S (n + 1) = (n : Int) := by
  unfold w_ex at g ⊢
  rw [w_hind_e, w_fore_e, if_neg h, if_neg h]
  split at g
  · rename_i c
    rw [if_pos c, if_pos (Or.inl g)]
  · rename_i c
    rw [if_neg c, if_pos (Or.inl g)]
theorem w_ex_r {a : Int32} {A : Nat → Nat → Bool} {S : Nat → Int32} (n : Nat) : (w_ex a A S n = -1 ∧ ∀ f, f < n → (S f).toInt = -1) ∨ (0 ≤ w_ex a A S n ∧ w_ex a A S n < n ∧ ¬ (S (w_ex a A S n).toNat).toInt = -1) := by
  unfold w_ex
  split
  · exact w_hind_r n
  · exact (w_fore_r n).imp id (fun q => ⟨q.1, q.2.1, q.2.2.1⟩)
theorem w_ex_b {a : Int32} {A : Nat → Nat → Bool} {S : Nat → Int32} {n : Nat} (h : ¬ (S n).toInt = -1) (c : a.toInt = 0 → w_bt A S (w_ex a A S n).toNat n = true) (d : ¬ a.toInt = 0 → w_bt A S n (w_ex a A S n).toNat = true) : w_ex a A S (n + 1) = (n : Int) := by
  unfold w_ex at c d ⊢
  rw [w_hind_e, w_fore_e, if_neg h, if_neg h]
  by_cases e : a.toInt = 0
  · have c := c e
    rw [if_pos e] at c
    rw [if_pos e, if_pos (Or.inr c)]
  · have d := d e
    rw [if_neg e] at d
    rw [if_neg e, if_pos (Or.inr d)]
theorem w_ex_k {a : Int32} {A : Nat → Nat → Bool} {S : Nat → Int32} {n : Nat} (h : ¬ (S n).toInt = -1) (g : ¬ w_ex a A S n < 0) (c : a.toInt = 0 → ¬ w_bt A S (w_ex a A S n).toNat n = true) (d : ¬ a.toInt = 0 → ¬ w_bt A S n (w_ex a A S n).toNat = true) : w_ex a A S (n + 1) = w_ex a A S n := by
  unfold w_ex at c d g ⊢
  rw [w_hind_e, w_fore_e, if_neg h, if_neg h]
  by_cases e : a.toInt = 0
  · have c := c e
    rw [if_pos e] at c g
    rw [if_pos e, if_pos e, if_neg (fun q => q.elim g c)]
  · have d := d e
    rw [if_neg e] at d g
    rw [if_neg e, if_neg e, if_neg (fun q => q.elim g d)]
/-- the better one, as the reference weighs it -/
def w_D (a : Int32) (A : Nat → Nat → Bool) (s t : Int) (f g : Nat) : Prop := (¬ s = t ∧ ((a.toInt = 0 ∧ s < t) ∨ (¬ a.toInt = 0 ∧ t < s))) ∨ (s = t ∧ (jb (A f g = true)).toInt = a.toInt)
theorem w_D_1 {a : Int32} {A : Nat → Nat → Bool} {S : Nat → Int32} {n t : Nat} (hA : ∀ x y : Nat, ¬ x = y → A x y = !A y x) (ha : a = 0 ∨ a = 1) (h : ¬ (S n).toInt = -1) (hn : t < n) (ht : w_ex a A S n = (t : Int)) (d : w_D a A (S n).toInt (S t).toInt n t) : w_ex a A S (n + 1) = (n : Int) := by
  have e : (w_ex a A S n).toNat = t := by rw [ht]; rfl
  refine w_ex_b h (fun q => ?_) (fun q => ?_)
  · rw [e]
    unfold w_bt
    rcases d with ⟨d1, d2⟩ | ⟨d1, d2⟩
    · rw [if_neg (fun z => d1 z.symm)]; exact decide_eq_true (by omega)
    · rw [if_pos d1.symm, hA t n (by omega)]
      rw [q] at d2
      have := jb_fp d2
      cases hq : A n t
      · rfl
      · exact absurd hq this
  · rw [e]
    unfold w_bt
    rcases d with ⟨d1, d2⟩ | ⟨d1, d2⟩
    · rw [if_neg d1]; exact decide_eq_true (by omega)
    · rw [if_pos d1]
      refine jb_tp (fun z => q ?_)
      rw [← d2]; exact z
theorem w_D_0 {a : Int32} {A : Nat → Nat → Bool} {S : Nat → Int32} {n t : Nat} (hA : ∀ x y : Nat, ¬ x = y → A x y = !A y x) (ha : a = 0 ∨ a = 1) (h : ¬ (S n).toInt = -1) (hn : t < n) (ht : w_ex a A S n = (t : Int)) (d : ¬ w_D a A (S n).toInt (S t).toInt n t) : w_ex a A S (n + 1) = (t : Int) := by
  have e : (w_ex a A S n).toNat = t := by rw [ht]; rfl
  have j01 : (jb (A n t = true)).toInt = 0 ∨ (jb (A n t = true)).toInt = 1 := by
    rcases jb_01 (p := A n t = true) with z | z
    · left; rw [z]; rfl
    · right; rw [z]; rfl
  have a01 : a.toInt = 0 ∨ a.toInt = 1 := by
    rcases ha with z | z
    · left; rw [z]; rfl
    · right; rw [z]; rfl
  have k := w_ex_k (a := a) (A := A) (S := S) (n := n) h (by omega) (fun q => ?_) (fun q => ?_)
  · rw [k]; exact ht
  · rw [e]
    unfold w_bt
    intro z
    apply d
    split at z
    · rename_i c
      refine Or.inr ⟨c.symm, ?_⟩
      rw [hA t n (by omega)] at z
      have : ¬ A n t = true := fun w => by rw [w] at z; exact absurd z (by decide)
      have := jb_z this
      omega
    · rename_i c
      have := of_decide_eq_true z
      exact Or.inl ⟨by omega, Or.inl ⟨q, by omega⟩⟩
  · rw [e]
    unfold w_bt
    intro z
    apply d
    split at z
    · rename_i c
      refine Or.inr ⟨c, ?_⟩
      have := jb_nz z
      omega
    · rename_i c
      have := of_decide_eq_true z
      exact Or.inl ⟨by omega, Or.inr ⟨q, by omega⟩⟩
theorem ct_X11_isAhead3 (E : jf_E) (σ : jf_S) (a b : Int32) (a0 : 0 ≤ a.toInt ∧ a.toInt < 20) (b0 : 0 ≤ b.toInt ∧ b.toInt < 20) : jf_I jh_M E yX11_isAhead cX11_isAhead 3 .boolean 0 [jf_r E 0, .int a, .int b] σ (fun r τ => r = jb (w_ah ((σ.1 0 49)) ((σ.1 7)) (w_cut ((σ.1 40))) a.toNatClampNeg b.toNatClampNeg = true) ∧ τ = σ) := by
  refine jf_mkI (by decide) (Nat.le_of_ble_eq_true rfl) ?_
  intro G C ret
  have ta := ji_tn a0.1
  have tb := ji_tn b0.1
  have fa : w_cut ((σ.1 40)) a.toNatClampNeg = (σ.1 40) a.toNatClampNeg := w_cut_lt (by omega)
  have fb : w_cut ((σ.1 40)) b.toNatClampNeg = (σ.1 40) b.toNatClampNeg := w_cut_lt (by omega)
  refine jr_aload_n C dX11_isAhead_0 rfl ?_
  refine jr_getv C kf_X11_368_0 dX11_isAhead_1 (v := σ.1 0 49) rfl ?_
  refine jr_nif_ne C 43 dX11_isAhead_4 (by decide) (fun b4 => ?_) (fun b4 => ?_)
  · refine jr_aload_n C dX11_isAhead_43 rfl ?_
    refine jr_getv C kf_X11_368_0 dX11_isAhead_44 (v := σ.1 0 49) rfl ?_
    refine jr_iconst C (v := 2) dX11_isAhead_47 (by decide) ?_
    refine jr_ncmp_ne C (b := 2) 87 dX11_isAhead_48 (by decide) rfl rfl (fun b48 => ?_) (fun b48 => ?_)
    · refine jr_iload_n C dX11_isAhead_87 rfl ?_
      refine jr_iload_n C dX11_isAhead_88 rfl ?_
      refine jr_ncmp_ge C 96 dX11_isAhead_89 (by decide) rfl rfl (fun b89 => ?_) (fun b89 => ?_)
      · refine jr_iconst C (v := 0) dX11_isAhead_96 (by decide) ?_
        exact ret _ _ _ _ dX11_isAhead_97 (rfl) ((by first | exact ⟨jb_tt (by unfold w_ah; rw [fa, fb]; (repeat' split) <;> first | (exfalso; omega) | exact decide_eq_true (by omega)), rfl⟩ | exact ⟨jb_ff (by unfold w_ah; rw [fa, fb]; (repeat' split) <;> first | (exfalso; omega) | (intro q; have := of_decide_eq_true q; omega)), rfl⟩))
      · refine jr_iconst C (v := 1) dX11_isAhead_92 (by decide) ?_
        refine jr_goto C 97 dX11_isAhead_93 (by decide) ?_
        exact ret _ _ _ _ dX11_isAhead_97 (rfl) ((by first | exact ⟨jb_tt (by unfold w_ah; rw [fa, fb]; (repeat' split) <;> first | (exfalso; omega) | exact decide_eq_true (by omega)), rfl⟩ | exact ⟨jb_ff (by unfold w_ah; rw [fa, fb]; (repeat' split) <;> first | (exfalso; omega) | (intro q; have := of_decide_eq_true q; omega)), rfl⟩))
    · refine jr_aload_n C dX11_isAhead_51 rfl ?_
      refine jr_getr C kf_X11_135_0 dX11_isAhead_52 ?_
      refine jr_iload_n C dX11_isAhead_55 rfl ?_
      refine jr_ialv C ka_M_40 dX11_isAhead_56 (by first | exact ji_in a0.1 a0.2 | exact ji_in b0.1 b0.2) (v := σ.1 40 _) rfl ?_
      refine jr_aload_n C dX11_isAhead_57 rfl ?_
      refine jr_getr C kf_X11_135_0 dX11_isAhead_58 ?_
      refine jr_iload_n C dX11_isAhead_61 rfl ?_
      refine jr_ialv C ka_M_40 dX11_isAhead_62 (by first | exact ji_in a0.1 a0.2 | exact ji_in b0.1 b0.2) (v := σ.1 40 _) rfl ?_
      refine jr_ncmp_eq C 87 dX11_isAhead_63 (by decide) rfl rfl (fun b63 => ?_) (fun b63 => ?_)
      · refine jr_iload_n C dX11_isAhead_87 rfl ?_
        refine jr_iload_n C dX11_isAhead_88 rfl ?_
        refine jr_ncmp_ge C 96 dX11_isAhead_89 (by decide) rfl rfl (fun b89 => ?_) (fun b89 => ?_)
        · refine jr_iconst C (v := 0) dX11_isAhead_96 (by decide) ?_
          exact ret _ _ _ _ dX11_isAhead_97 (rfl) ((by first | exact ⟨jb_tt (by unfold w_ah; rw [fa, fb]; (repeat' split) <;> first | (exfalso; omega) | exact decide_eq_true (by omega)), rfl⟩ | exact ⟨jb_ff (by unfold w_ah; rw [fa, fb]; (repeat' split) <;> first | (exfalso; omega) | (intro q; have := of_decide_eq_true q; omega)), rfl⟩))
        · refine jr_iconst C (v := 1) dX11_isAhead_92 (by decide) ?_
          refine jr_goto C 97 dX11_isAhead_93 (by decide) ?_
          exact ret _ _ _ _ dX11_isAhead_97 (rfl) ((by first | exact ⟨jb_tt (by unfold w_ah; rw [fa, fb]; (repeat' split) <;> first | (exfalso; omega) | exact decide_eq_true (by omega)), rfl⟩ | exact ⟨jb_ff (by unfold w_ah; rw [fa, fb]; (repeat' split) <;> first | (exfalso; omega) | (intro q; have := of_decide_eq_true q; omega)), rfl⟩))
      · refine jr_aload_n C dX11_isAhead_66 rfl ?_
        refine jr_getr C kf_X11_135_0 dX11_isAhead_67 ?_
        refine jr_iload_n C dX11_isAhead_70 rfl ?_
        refine jr_ialv C ka_M_40 dX11_isAhead_71 (by first | exact ji_in a0.1 a0.2 | exact ji_in b0.1 b0.2) (v := σ.1 40 _) rfl ?_
        refine jr_aload_n C dX11_isAhead_72 rfl ?_
        refine jr_getr C kf_X11_135_0 dX11_isAhead_73 ?_
        refine jr_iload_n C dX11_isAhead_76 rfl ?_
        refine jr_ialv C ka_M_40 dX11_isAhead_77 (by first | exact ji_in a0.1 a0.2 | exact ji_in b0.1 b0.2) (v := σ.1 40 _) rfl ?_
        refine jr_ncmp_le C 85 dX11_isAhead_78 (by decide) rfl rfl (fun b78 => ?_) (fun b78 => ?_)
        · refine jr_iconst C (v := 0) dX11_isAhead_85 (by decide) ?_
          exact ret _ _ _ _ dX11_isAhead_86 (rfl) ((by first | exact ⟨jb_tt (by unfold w_ah; rw [fa, fb]; (repeat' split) <;> first | (exfalso; omega) | exact decide_eq_true (by omega)), rfl⟩ | exact ⟨jb_ff (by unfold w_ah; rw [fa, fb]; (repeat' split) <;> first | (exfalso; omega) | (intro q; have := of_decide_eq_true q; omega)), rfl⟩))
        · refine jr_iconst C (v := 1) dX11_isAhead_81 (by decide) ?_
          refine jr_goto C 86 dX11_isAhead_82 (by decide) ?_
          exact ret _ _ _ _ dX11_isAhead_86 (rfl) ((by first | exact ⟨jb_tt (by unfold w_ah; rw [fa, fb]; (repeat' split) <;> first | (exfalso; omega) | exact decide_eq_true (by omega)), rfl⟩ | exact ⟨jb_ff (by unfold w_ah; rw [fa, fb]; (repeat' split) <;> first | (exfalso; omega) | (intro q; have := of_decide_eq_true q; omega)), rfl⟩))
  · refine jr_aload_n C dX11_isAhead_7 rfl ?_
    refine jr_getr C kf_X11_28_0 dX11_isAhead_8 ?_
    refine jr_iload_n C dX11_isAhead_11 rfl ?_
    refine jr_ialv C ka_M_7 dX11_isAhead_12 (by first | exact ji_in a0.1 a0.2 | exact ji_in b0.1 b0.2) (v := σ.1 7 _) rfl ?_
    refine jr_aload_n C dX11_isAhead_13 rfl ?_
    refine jr_getr C kf_X11_28_0 dX11_isAhead_14 ?_
    refine jr_iload_n C dX11_isAhead_17 rfl ?_
    refine jr_ialv C ka_M_7 dX11_isAhead_18 (by first | exact ji_in a0.1 a0.2 | exact ji_in b0.1 b0.2) (v := σ.1 7 _) rfl ?_
    refine jr_ncmp_eq C 43 dX11_isAhead_19 (by decide) rfl rfl (fun b19 => ?_) (fun b19 => ?_)
    · refine jr_aload_n C dX11_isAhead_43 rfl ?_
      refine jr_getv C kf_X11_368_0 dX11_isAhead_44 (v := σ.1 0 49) rfl ?_
      refine jr_iconst C (v := 2) dX11_isAhead_47 (by decide) ?_
      refine jr_ncmp_ne C (b := 2) 87 dX11_isAhead_48 (by decide) rfl rfl (fun b48 => ?_) (fun b48 => ?_)
      · refine jr_iload_n C dX11_isAhead_87 rfl ?_
        refine jr_iload_n C dX11_isAhead_88 rfl ?_
        refine jr_ncmp_ge C 96 dX11_isAhead_89 (by decide) rfl rfl (fun b89 => ?_) (fun b89 => ?_)
        · refine jr_iconst C (v := 0) dX11_isAhead_96 (by decide) ?_
          exact ret _ _ _ _ dX11_isAhead_97 (rfl) ((by first | exact ⟨jb_tt (by unfold w_ah; rw [fa, fb]; (repeat' split) <;> first | (exfalso; omega) | exact decide_eq_true (by omega)), rfl⟩ | exact ⟨jb_ff (by unfold w_ah; rw [fa, fb]; (repeat' split) <;> first | (exfalso; omega) | (intro q; have := of_decide_eq_true q; omega)), rfl⟩))
        · refine jr_iconst C (v := 1) dX11_isAhead_92 (by decide) ?_
          refine jr_goto C 97 dX11_isAhead_93 (by decide) ?_
          exact ret _ _ _ _ dX11_isAhead_97 (rfl) ((by first | exact ⟨jb_tt (by unfold w_ah; rw [fa, fb]; (repeat' split) <;> first | (exfalso; omega) | exact decide_eq_true (by omega)), rfl⟩ | exact ⟨jb_ff (by unfold w_ah; rw [fa, fb]; (repeat' split) <;> first | (exfalso; omega) | (intro q; have := of_decide_eq_true q; omega)), rfl⟩))
      · refine jr_aload_n C dX11_isAhead_51 rfl ?_
        refine jr_getr C kf_X11_135_0 dX11_isAhead_52 ?_
        refine jr_iload_n C dX11_isAhead_55 rfl ?_
        refine jr_ialv C ka_M_40 dX11_isAhead_56 (by first | exact ji_in a0.1 a0.2 | exact ji_in b0.1 b0.2) (v := σ.1 40 _) rfl ?_
        refine jr_aload_n C dX11_isAhead_57 rfl ?_
        refine jr_getr C kf_X11_135_0 dX11_isAhead_58 ?_
        refine jr_iload_n C dX11_isAhead_61 rfl ?_
        refine jr_ialv C ka_M_40 dX11_isAhead_62 (by first | exact ji_in a0.1 a0.2 | exact ji_in b0.1 b0.2) (v := σ.1 40 _) rfl ?_
        refine jr_ncmp_eq C 87 dX11_isAhead_63 (by decide) rfl rfl (fun b63 => ?_) (fun b63 => ?_)
        · refine jr_iload_n C dX11_isAhead_87 rfl ?_
          refine jr_iload_n C dX11_isAhead_88 rfl ?_
          refine jr_ncmp_ge C 96 dX11_isAhead_89 (by decide) rfl rfl (fun b89 => ?_) (fun b89 => ?_)
          · refine jr_iconst C (v := 0) dX11_isAhead_96 (by decide) ?_
            exact ret _ _ _ _ dX11_isAhead_97 (rfl) ((by first | exact ⟨jb_tt (by unfold w_ah; rw [fa, fb]; (repeat' split) <;> first | (exfalso; omega) | exact decide_eq_true (by omega)), rfl⟩ | exact ⟨jb_ff (by unfold w_ah; rw [fa, fb]; (repeat' split) <;> first | (exfalso; omega) | (intro q; have := of_decide_eq_true q; omega)), rfl⟩))
          · refine jr_iconst C (v := 1) dX11_isAhead_92 (by decide) ?_
            refine jr_goto C 97 dX11_isAhead_93 (by decide) ?_
            exact ret _ _ _ _ dX11_isAhead_97 (rfl) ((by first | exact ⟨jb_tt (by unfold w_ah; rw [fa, fb]; (repeat' split) <;> first | (exfalso; omega) | exact decide_eq_true (by omega)), rfl⟩ | exact ⟨jb_ff (by unfold w_ah; rw [fa, fb]; (repeat' split) <;> first | (exfalso; omega) | (intro q; have := of_decide_eq_true q; omega)), rfl⟩))
        · refine jr_aload_n C dX11_isAhead_66 rfl ?_
          refine jr_getr C kf_X11_135_0 dX11_isAhead_67 ?_
          refine jr_iload_n C dX11_isAhead_70 rfl ?_
          refine jr_ialv C ka_M_40 dX11_isAhead_71 (by first | exact ji_in a0.1 a0.2 | exact ji_in b0.1 b0.2) (v := σ.1 40 _) rfl ?_
          refine jr_aload_n C dX11_isAhead_72 rfl ?_
          refine jr_getr C kf_X11_135_0 dX11_isAhead_73 ?_
          refine jr_iload_n C dX11_isAhead_76 rfl ?_
          refine jr_ialv C ka_M_40 dX11_isAhead_77 (by first | exact ji_in a0.1 a0.2 | exact ji_in b0.1 b0.2) (v := σ.1 40 _) rfl ?_
          refine jr_ncmp_le C 85 dX11_isAhead_78 (by decide) rfl rfl (fun b78 => ?_) (fun b78 => ?_)
          · refine jr_iconst C (v := 0) dX11_isAhead_85 (by decide) ?_
            exact ret _ _ _ _ dX11_isAhead_86 (rfl) ((by first | exact ⟨jb_tt (by unfold w_ah; rw [fa, fb]; (repeat' split) <;> first | (exfalso; omega) | exact decide_eq_true (by omega)), rfl⟩ | exact ⟨jb_ff (by unfold w_ah; rw [fa, fb]; (repeat' split) <;> first | (exfalso; omega) | (intro q; have := of_decide_eq_true q; omega)), rfl⟩))
          · refine jr_iconst C (v := 1) dX11_isAhead_81 (by decide) ?_
            refine jr_goto C 86 dX11_isAhead_82 (by decide) ?_
            exact ret _ _ _ _ dX11_isAhead_86 (rfl) ((by first | exact ⟨jb_tt (by unfold w_ah; rw [fa, fb]; (repeat' split) <;> first | (exfalso; omega) | exact decide_eq_true (by omega)), rfl⟩ | exact ⟨jb_ff (by unfold w_ah; rw [fa, fb]; (repeat' split) <;> first | (exfalso; omega) | (intro q; have := of_decide_eq_true q; omega)), rfl⟩))
    · refine jr_aload_n C dX11_isAhead_22 rfl ?_
      refine jr_getr C kf_X11_28_0 dX11_isAhead_23 ?_
      refine jr_iload_n C dX11_isAhead_26 rfl ?_
      refine jr_ialv C ka_M_7 dX11_isAhead_27 (by first | exact ji_in a0.1 a0.2 | exact ji_in b0.1 b0.2) (v := σ.1 7 _) rfl ?_
      refine jr_aload_n C dX11_isAhead_28 rfl ?_
      refine jr_getr C kf_X11_28_0 dX11_isAhead_29 ?_
      refine jr_iload_n C dX11_isAhead_32 rfl ?_
      refine jr_ialv C ka_M_7 dX11_isAhead_33 (by first | exact ji_in a0.1 a0.2 | exact ji_in b0.1 b0.2) (v := σ.1 7 _) rfl ?_
      refine jr_ncmp_le C 41 dX11_isAhead_34 (by decide) rfl rfl (fun b34 => ?_) (fun b34 => ?_)
      · refine jr_iconst C (v := 0) dX11_isAhead_41 (by decide) ?_
        exact ret _ _ _ _ dX11_isAhead_42 (rfl) ((by first | exact ⟨jb_tt (by unfold w_ah; rw [fa, fb]; (repeat' split) <;> first | (exfalso; omega) | exact decide_eq_true (by omega)), rfl⟩ | exact ⟨jb_ff (by unfold w_ah; rw [fa, fb]; (repeat' split) <;> first | (exfalso; omega) | (intro q; have := of_decide_eq_true q; omega)), rfl⟩))
      · refine jr_iconst C (v := 1) dX11_isAhead_37 (by decide) ?_
        refine jr_goto C 42 dX11_isAhead_38 (by decide) ?_
        exact ret _ _ _ _ dX11_isAhead_42 (rfl) ((by first | exact ⟨jb_tt (by unfold w_ah; rw [fa, fb]; (repeat' split) <;> first | (exfalso; omega) | exact decide_eq_true (by omega)), rfl⟩ | exact ⟨jb_ff (by unfold w_ah; rw [fa, fb]; (repeat' split) <;> first | (exfalso; omega) | (intro q; have := of_decide_eq_true q; omega)), rfl⟩))
/-- the order of films in the reference -/
def m_A (σ : jf_S) : Nat → Nat → Bool := w_ah ((σ.1 0 49)) ((σ.1 7)) (w_cut ((σ.1 40)))
theorem ct_X11_extreme3 (E : jf_E) (σ : jf_S) (k a : Int32) (ha : a = 0 ∨ a = 1) (k0 : 0 ≤ k.toInt) (k1 : k.toInt ≤ 20) (f0 : 0 ≤ ((σ.1 0 7)).toInt) (f1 : ((σ.1 0 7)).toInt ≤ 20) : jf_I jh_M E yX11_extreme cX11_extreme 6 .int 1 [jf_r E 0, .int k, .int a] σ (fun r τ => r.toInt = w_ex a (m_A σ) (w_row ((σ.1 41)) k.toNatClampNeg) ((σ.1 0 7)).toNatClampNeg ∧ σ = τ) := by
  refine jf_mkI (by decide) (Nat.le_of_ble_eq_true rfl) ?_
  intro G C ret
  have a01 : a.toInt = 0 ∨ a.toInt = 1 := by
    rcases ha with z | z
    · left; rw [z]; rfl
    · right; rw [z]; rfl
  have loop : ∀ (m : Nat) (t f : Int32), 0 ≤ f.toInt → f.toInt ≤ ((σ.1 0 7)).toInt → ((σ.1 0 7)).toInt - f.toInt < m → t.toInt = w_ex a (m_A σ) (w_row ((σ.1 41)) k.toNatClampNeg) f.toNatClampNeg → jf_X jh_M E G 6 5 [(0, jf_r E 0), (1, .int k), (2, .int a), (3, .int t), (4, .int f)] [] σ := by
    intro m
    induction m with
    | zero => intro t f g1 g2 g3 g4; exfalso; omega
    | succ m ih =>
      intro t f g1 g2 g3 g4
      have e1 := ji_inc (k := f) (by omega)
      have tf := ji_tn g1
      have e2 : (f + Int32.ofInt 1).toNatClampNeg = f.toNatClampNeg + 1 := ji_cl (by omega)
      refine jr_iload C dX11_extreme_5 rfl ?_
      refine jr_aload_n C dX11_extreme_7 rfl ?_
      refine jr_geti C kf_X11_157_0 dX11_extreme_8 ?_
      refine jr_ncmp_ge C 160 dX11_extreme_11 (by decide) rfl rfl (fun b11 => ?_) (fun b11 => ?_)
      · refine jr_iload_n C dX11_extreme_160 rfl ?_
        exact ret _ _ _ _ dX11_extreme_161 rfl (⟨by rw [← show f.toNatClampNeg = ((σ.1 0 7)).toNatClampNeg from congrArg Int.toNat (show f.toInt = ((σ.1 0 7)).toInt by omega)]; exact g4, rfl⟩)
      have hF := m_ix20 k0 k1 g1 (by omega)
      have rF : w_row ((σ.1 41)) k.toNatClampNeg f.toNatClampNeg = (σ.1 41) (20 * k.toNatClampNeg + f.toNatClampNeg) := w_row_lt (by omega)
      refine jr_aload_n C dX11_extreme_14 rfl ?_
      refine jr_getr C kf_X11_138_0 dX11_extreme_15 ?_
      refine jr_bipush C (v := 20) dX11_extreme_18 (by decide) ?_
      refine jr_iload_n C dX11_extreme_20 rfl ?_
      refine jr_imul C dX11_extreme_21 ?_
      refine jr_iload C dX11_extreme_22 rfl ?_
      refine jr_iadd C dX11_extreme_24 ?_
      refine jr_iald C ka_M_41 dX11_extreme_25 hF.1 ?_
      refine jr_val (y := (σ.1 41) (20 * k.toNatClampNeg + f.toNatClampNeg)) (by rw [hF.2]) ?_
      refine jr_iconst C (v := -1) dX11_extreme_26 (by decide) ?_
      refine jr_ncmp_ne C (b := -1) 33 dX11_extreme_27 (by decide) rfl rfl (fun b27 => ?_) (fun b27 => ?_)
      · rw [← rF] at b27
        have J140 : ∀ (v : Int32), (¬ v.toInt = 0 → w_ex a (m_A σ) (w_row ((σ.1 41)) k.toNatClampNeg) (f.toNatClampNeg + 1) = f.toInt) → (v.toInt = 0 → w_ex a (m_A σ) (w_row ((σ.1 41)) k.toNatClampNeg) (f.toNatClampNeg + 1) = t.toInt) → jf_X jh_M E G 6 140 [(0, jf_r E 0), (1, .int k), (2, .int a), (3, .int t), (4, .int f)] [.int v] σ := by
          intro v h1 h0
          refine jr_istore C dX11_extreme_140 (by decide) ?_
          refine jr_iload C dX11_extreme_142 rfl ?_
          refine jr_nif_eq C 152 dX11_extreme_144 (by decide) (fun b144 => ?_) (fun b144 => ?_)
          · refine jr_iload_n C dX11_extreme_152 rfl ?_
            refine jr_istore_n C dX11_extreme_153 (by decide) ?_
            refine jr_iinc C _ dX11_extreme_154 rfl rfl (by decide) ?_
            refine jr_goto C 5 dX11_extreme_157 (by decide) ?_
            first | exact jr_sub [(0, jf_r E 0), (1, .int k), (2, .int a), (3, .int t), (4, .int _)] rfl (ih _ _ (by omega) (by omega) (by omega) (by rw [e2]; exact (h0 b144).symm)) | exact jr_sub [(0, jf_r E 0), (1, .int k), (2, .int a), (3, .int f), (4, .int _)] rfl (ih _ _ (by omega) (by omega) (by omega) (by rw [e2]; exact (h1 b144).symm))
          · refine jr_iload C dX11_extreme_147 rfl ?_
            refine jr_goto C 153 dX11_extreme_149 (by decide) ?_
            refine jr_istore_n C dX11_extreme_153 (by decide) ?_
            refine jr_iinc C _ dX11_extreme_154 rfl rfl (by decide) ?_
            refine jr_goto C 5 dX11_extreme_157 (by decide) ?_
            first | exact jr_sub [(0, jf_r E 0), (1, .int k), (2, .int a), (3, .int t), (4, .int _)] rfl (ih _ _ (by omega) (by omega) (by omega) (by rw [e2]; exact (h0 b144).symm)) | exact jr_sub [(0, jf_r E 0), (1, .int k), (2, .int a), (3, .int f), (4, .int _)] rfl (ih _ _ (by omega) (by omega) (by omega) (by rw [e2]; exact (h1 b144).symm))
        refine jr_iload_n C dX11_extreme_33 rfl ?_
        refine jr_nif_lt C 135 dX11_extreme_34 (by decide) (fun b34 => ?_) (fun b34 => ?_)
        · refine jr_iconst C (v := 1) dX11_extreme_135 (by decide) ?_
          refine jr_goto C 140 dX11_extreme_136 (by decide) ?_
          exact J140 _ (fun _ => by rw [w_ex_t b27 (by omega)]; exact tf) (fun q => absurd q (by decide))
        have tr := w_ex_r (a := a) (A := m_A σ) (S := w_row ((σ.1 41)) k.toNatClampNeg) f.toNatClampNeg
        have t1 : t.toInt < f.toInt := by omega
        have tt := ji_tn (x := t) (by omega)
        have hT := m_ix20 (f := t) k0 k1 (by omega) (by omega)
        have rT : w_row ((σ.1 41)) k.toNatClampNeg t.toNatClampNeg = (σ.1 41) (20 * k + t).toNatClampNeg := by rw [hT.2]; exact w_row_lt (by omega)
        have rF2 : w_row ((σ.1 41)) k.toNatClampNeg f.toNatClampNeg = (σ.1 41) (20 * k + f).toNatClampNeg := by rw [hF.2]; exact rF
        have JV : ∀ v : Int32, ((v = 1 ∧ w_D a (m_A σ) ((σ.1 41) (20 * k + f).toNatClampNeg).toInt ((σ.1 41) (20 * k + t).toNatClampNeg).toInt f.toNatClampNeg t.toNatClampNeg) ∨ (v = 0 ∧ ¬ w_D a (m_A σ) ((σ.1 41) (20 * k + f).toNatClampNeg).toInt ((σ.1 41) (20 * k + t).toNatClampNeg).toInt f.toNatClampNeg t.toNatClampNeg)) → jf_X jh_M E G 6 140 [(0, jf_r E 0), (1, .int k), (2, .int a), (3, .int t), (4, .int f)] [.int v] σ := by
          intro v hv
          rw [← rT, ← rF2] at hv
          rcases hv with ⟨rfl, d⟩ | ⟨rfl, d⟩
          · exact J140 _ (fun _ => (w_D_1 (A := m_A σ) (fun x y h => w_ah_n h) ha b27 (by omega) (by omega) d).trans tf) (fun q => absurd q (by decide))
          · exact J140 _ (fun q => absurd rfl q) (fun _ => (w_D_0 (A := m_A σ) (fun x y h => w_ah_n h) ha b27 (by omega) (by omega) d).trans tt)
        have z0 : (0 : Int32).toInt = 0 := rfl
        have z1 : (1 : Int32).toInt = 1 := rfl
        refine jr_aload_n C dX11_extreme_37 rfl ?_
        refine jr_getr C kf_X11_138_0 dX11_extreme_38 ?_
        refine jr_bipush C (v := 20) dX11_extreme_41 (by decide) ?_
        refine jr_iload_n C dX11_extreme_43 rfl ?_
        refine jr_imul C dX11_extreme_44 ?_
        refine jr_iload C dX11_extreme_45 rfl ?_
        refine jr_iadd C dX11_extreme_47 ?_
        refine jr_ialv C ka_M_41 dX11_extreme_48 (by first | exact hF.1 | exact hT.1) (v := σ.1 41 _) rfl ?_
        refine jr_aload_n C dX11_extreme_49 rfl ?_
        refine jr_getr C kf_X11_138_0 dX11_extreme_50 ?_
        refine jr_bipush C (v := 20) dX11_extreme_53 (by decide) ?_
        refine jr_iload_n C dX11_extreme_55 rfl ?_
        refine jr_imul C dX11_extreme_56 ?_
        refine jr_iload_n C dX11_extreme_57 rfl ?_
        refine jr_iadd C dX11_extreme_58 ?_
        refine jr_ialv C ka_M_41 dX11_extreme_59 (by first | exact hF.1 | exact hT.1) (v := σ.1 41 _) rfl ?_
        refine jr_ncmp_eq C 98 dX11_extreme_60 (by decide) rfl rfl (fun b60 => ?_) (fun b60 => ?_)
        · refine jr_aload_n C dX11_extreme_98 rfl ?_
          refine jr_getr C kf_X11_138_0 dX11_extreme_99 ?_
          refine jr_bipush C (v := 20) dX11_extreme_102 (by decide) ?_
          refine jr_iload_n C dX11_extreme_104 rfl ?_
          refine jr_imul C dX11_extreme_105 ?_
          refine jr_iload C dX11_extreme_106 rfl ?_
          refine jr_iadd C dX11_extreme_108 ?_
          refine jr_ialv C ka_M_41 dX11_extreme_109 (by first | exact hF.1 | exact hT.1) (v := σ.1 41 _) rfl ?_
          refine jr_aload_n C dX11_extreme_110 rfl ?_
          refine jr_getr C kf_X11_138_0 dX11_extreme_111 ?_
          refine jr_bipush C (v := 20) dX11_extreme_114 (by decide) ?_
          refine jr_iload_n C dX11_extreme_116 rfl ?_
          refine jr_imul C dX11_extreme_117 ?_
          refine jr_iload_n C dX11_extreme_118 rfl ?_
          refine jr_iadd C dX11_extreme_119 ?_
          refine jr_ialv C ka_M_41 dX11_extreme_120 (by first | exact hF.1 | exact hT.1) (v := σ.1 41 _) rfl ?_
          refine jr_ncmp_ne C 139 dX11_extreme_121 (by decide) rfl rfl (fun b121 => ?_) (fun b121 => ?_)
          · refine jr_iconst C (v := 0) dX11_extreme_139 (by decide) ?_
            first | exact JV _ (Or.inl ⟨rfl, by unfold w_D m_A; omega⟩) | exact JV _ (Or.inr ⟨rfl, by unfold w_D m_A; omega⟩)
          · refine jr_aload_n C dX11_extreme_124 rfl ?_
            refine jr_iload C dX11_extreme_125 rfl ?_
            refine jr_iload_n C dX11_extreme_127 rfl ?_
            refine jr_vip C [.int _, .int _] _ (ct_X11_isAhead3 E _ _ _ ⟨by omega, by omega⟩ ⟨by omega, by omega⟩) ky_X11_isAhead kv_X11_isAhead kk_M_0 km_X11_382 (by decide) rfl (Nat.le_of_ble_eq_true rfl) dX11_extreme_128 ?_
            refine jr_iload_n C dX11_extreme_131 rfl ?_
            refine jr_ncmp_ne C 139 dX11_extreme_132 (by decide) rfl rfl (fun b132 => ?_) (fun b132 => ?_)
            · refine jr_iconst C (v := 0) dX11_extreme_139 (by decide) ?_
              first | exact JV _ (Or.inl ⟨rfl, by unfold w_D m_A; omega⟩) | exact JV _ (Or.inr ⟨rfl, by unfold w_D m_A; omega⟩)
            · refine jr_iconst C (v := 1) dX11_extreme_135 (by decide) ?_
              refine jr_goto C 140 dX11_extreme_136 (by decide) ?_
              first | exact JV _ (Or.inl ⟨rfl, by unfold w_D m_A; omega⟩) | exact JV _ (Or.inr ⟨rfl, by unfold w_D m_A; omega⟩)
        · refine jr_aload_n C dX11_extreme_63 rfl ?_
          refine jr_getr C kf_X11_138_0 dX11_extreme_64 ?_
          refine jr_bipush C (v := 20) dX11_extreme_67 (by decide) ?_
          refine jr_iload_n C dX11_extreme_69 rfl ?_
          refine jr_imul C dX11_extreme_70 ?_
          refine jr_iload C dX11_extreme_71 rfl ?_
          refine jr_iadd C dX11_extreme_73 ?_
          refine jr_ialv C ka_M_41 dX11_extreme_74 (by first | exact hF.1 | exact hT.1) (v := σ.1 41 _) rfl ?_
          refine jr_aload_n C dX11_extreme_75 rfl ?_
          refine jr_getr C kf_X11_138_0 dX11_extreme_76 ?_
          refine jr_bipush C (v := 20) dX11_extreme_79 (by decide) ?_
          refine jr_iload_n C dX11_extreme_81 rfl ?_
          refine jr_imul C dX11_extreme_82 ?_
          refine jr_iload_n C dX11_extreme_83 rfl ?_
          refine jr_iadd C dX11_extreme_84 ?_
          refine jr_ialv C ka_M_41 dX11_extreme_85 (by first | exact hF.1 | exact hT.1) (v := σ.1 41 _) rfl ?_
          refine jr_ncmp_le C 93 dX11_extreme_86 (by decide) rfl rfl (fun b86 => ?_) (fun b86 => ?_)
          · refine jr_iconst C (v := 0) dX11_extreme_93 (by decide) ?_
            refine jr_iload_n C dX11_extreme_94 rfl ?_
            refine jr_ncmp_eq C 135 dX11_extreme_95 (by decide) rfl rfl (fun b95 => ?_) (fun b95 => ?_)
            · refine jr_iconst C (v := 1) dX11_extreme_135 (by decide) ?_
              refine jr_goto C 140 dX11_extreme_136 (by decide) ?_
              first | exact JV _ (Or.inl ⟨rfl, by unfold w_D m_A; omega⟩) | exact JV _ (Or.inr ⟨rfl, by unfold w_D m_A; omega⟩)
            · refine jr_aload_n C dX11_extreme_98 rfl ?_
              refine jr_getr C kf_X11_138_0 dX11_extreme_99 ?_
              refine jr_bipush C (v := 20) dX11_extreme_102 (by decide) ?_
              refine jr_iload_n C dX11_extreme_104 rfl ?_
              refine jr_imul C dX11_extreme_105 ?_
              refine jr_iload C dX11_extreme_106 rfl ?_
              refine jr_iadd C dX11_extreme_108 ?_
              refine jr_ialv C ka_M_41 dX11_extreme_109 (by first | exact hF.1 | exact hT.1) (v := σ.1 41 _) rfl ?_
              refine jr_aload_n C dX11_extreme_110 rfl ?_
              refine jr_getr C kf_X11_138_0 dX11_extreme_111 ?_
              refine jr_bipush C (v := 20) dX11_extreme_114 (by decide) ?_
              refine jr_iload_n C dX11_extreme_116 rfl ?_
              refine jr_imul C dX11_extreme_117 ?_
              refine jr_iload_n C dX11_extreme_118 rfl ?_
              refine jr_iadd C dX11_extreme_119 ?_
              refine jr_ialv C ka_M_41 dX11_extreme_120 (by first | exact hF.1 | exact hT.1) (v := σ.1 41 _) rfl ?_
              refine jr_ncmp_ne C 139 dX11_extreme_121 (by decide) rfl rfl (fun b121 => ?_) (fun b121 => ?_)
              · refine jr_iconst C (v := 0) dX11_extreme_139 (by decide) ?_
                first | exact JV _ (Or.inl ⟨rfl, by unfold w_D m_A; omega⟩) | exact JV _ (Or.inr ⟨rfl, by unfold w_D m_A; omega⟩)
              · refine jr_aload_n C dX11_extreme_124 rfl ?_
                refine jr_iload C dX11_extreme_125 rfl ?_
                refine jr_iload_n C dX11_extreme_127 rfl ?_
                refine jr_vip C [.int _, .int _] _ (ct_X11_isAhead3 E _ _ _ ⟨by omega, by omega⟩ ⟨by omega, by omega⟩) ky_X11_isAhead kv_X11_isAhead kk_M_0 km_X11_382 (by decide) rfl (Nat.le_of_ble_eq_true rfl) dX11_extreme_128 ?_
                refine jr_iload_n C dX11_extreme_131 rfl ?_
                refine jr_ncmp_ne C 139 dX11_extreme_132 (by decide) rfl rfl (fun b132 => ?_) (fun b132 => ?_)
                · refine jr_iconst C (v := 0) dX11_extreme_139 (by decide) ?_
                  first | exact JV _ (Or.inl ⟨rfl, by unfold w_D m_A; omega⟩) | exact JV _ (Or.inr ⟨rfl, by unfold w_D m_A; omega⟩)
                · refine jr_iconst C (v := 1) dX11_extreme_135 (by decide) ?_
                  refine jr_goto C 140 dX11_extreme_136 (by decide) ?_
                  first | exact JV _ (Or.inl ⟨rfl, by unfold w_D m_A; omega⟩) | exact JV _ (Or.inr ⟨rfl, by unfold w_D m_A; omega⟩)
          · refine jr_iconst C (v := 1) dX11_extreme_89 (by decide) ?_
            refine jr_goto C 94 dX11_extreme_90 (by decide) ?_
            refine jr_iload_n C dX11_extreme_94 rfl ?_
            refine jr_ncmp_eq C 135 dX11_extreme_95 (by decide) rfl rfl (fun b95 => ?_) (fun b95 => ?_)
            · refine jr_iconst C (v := 1) dX11_extreme_135 (by decide) ?_
              refine jr_goto C 140 dX11_extreme_136 (by decide) ?_
              first | exact JV _ (Or.inl ⟨rfl, by unfold w_D m_A; omega⟩) | exact JV _ (Or.inr ⟨rfl, by unfold w_D m_A; omega⟩)
            · refine jr_aload_n C dX11_extreme_98 rfl ?_
              refine jr_getr C kf_X11_138_0 dX11_extreme_99 ?_
              refine jr_bipush C (v := 20) dX11_extreme_102 (by decide) ?_
              refine jr_iload_n C dX11_extreme_104 rfl ?_
              refine jr_imul C dX11_extreme_105 ?_
              refine jr_iload C dX11_extreme_106 rfl ?_
              refine jr_iadd C dX11_extreme_108 ?_
              refine jr_ialv C ka_M_41 dX11_extreme_109 (by first | exact hF.1 | exact hT.1) (v := σ.1 41 _) rfl ?_
              refine jr_aload_n C dX11_extreme_110 rfl ?_
              refine jr_getr C kf_X11_138_0 dX11_extreme_111 ?_
              refine jr_bipush C (v := 20) dX11_extreme_114 (by decide) ?_
              refine jr_iload_n C dX11_extreme_116 rfl ?_
              refine jr_imul C dX11_extreme_117 ?_
              refine jr_iload_n C dX11_extreme_118 rfl ?_
              refine jr_iadd C dX11_extreme_119 ?_
              refine jr_ialv C ka_M_41 dX11_extreme_120 (by first | exact hF.1 | exact hT.1) (v := σ.1 41 _) rfl ?_
              refine jr_ncmp_ne C 139 dX11_extreme_121 (by decide) rfl rfl (fun b121 => ?_) (fun b121 => ?_)
              · refine jr_iconst C (v := 0) dX11_extreme_139 (by decide) ?_
                first | exact JV _ (Or.inl ⟨rfl, by unfold w_D m_A; omega⟩) | exact JV _ (Or.inr ⟨rfl, by unfold w_D m_A; omega⟩)
              · refine jr_aload_n C dX11_extreme_124 rfl ?_
                refine jr_iload C dX11_extreme_125 rfl ?_
                refine jr_iload_n C dX11_extreme_127 rfl ?_
                refine jr_vip C [.int _, .int _] _ (ct_X11_isAhead3 E _ _ _ ⟨by omega, by omega⟩ ⟨by omega, by omega⟩) ky_X11_isAhead kv_X11_isAhead kk_M_0 km_X11_382 (by decide) rfl (Nat.le_of_ble_eq_true rfl) dX11_extreme_128 ?_
                refine jr_iload_n C dX11_extreme_131 rfl ?_
                refine jr_ncmp_ne C 139 dX11_extreme_132 (by decide) rfl rfl (fun b132 => ?_) (fun b132 => ?_)
                · refine jr_iconst C (v := 0) dX11_extreme_139 (by decide) ?_
                  first | exact JV _ (Or.inl ⟨rfl, by unfold w_D m_A; omega⟩) | exact JV _ (Or.inr ⟨rfl, by unfold w_D m_A; omega⟩)
                · refine jr_iconst C (v := 1) dX11_extreme_135 (by decide) ?_
                  refine jr_goto C 140 dX11_extreme_136 (by decide) ?_
                  first | exact JV _ (Or.inl ⟨rfl, by unfold w_D m_A; omega⟩) | exact JV _ (Or.inr ⟨rfl, by unfold w_D m_A; omega⟩)
      · rw [← rF] at b27
        refine jr_goto C 154 dX11_extreme_30 (by decide) ?_
        refine jr_iinc C _ dX11_extreme_154 rfl rfl (by decide) ?_
        refine jr_goto C 5 dX11_extreme_157 (by decide) ?_
        exact jr_sub [(0, jf_r E 0), (1, .int k), (2, .int a), (3, .int t), (4, .int _)] rfl (ih _ _ (by omega) (by omega) (by omega) (by rw [e2, w_ex_n b27]; exact g4))
  refine jr_iconst C (v := -1) dX11_extreme_0 (by decide) ?_
  refine jr_istore_n C dX11_extreme_1 (by decide) ?_
  refine jr_iconst C (v := 0) dX11_extreme_2 (by decide) ?_
  refine jr_istore C dX11_extreme_3 (by decide) ?_
  exact jr_sub [(0, jf_r E 0), (1, .int k), (2, .int a), (3, .int (-1)), (4, .int 0)] rfl (loop 21 (-1) 0 (by decide) f0 (by show _ - 0 < _; omega) (by unfold w_ex; split <;> rfl))

