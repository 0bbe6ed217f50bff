/-! the reference: by points, by rounds, the prize, safe -/
theorem ct_X11_byPoints2 (E : jf_E) (σ : jf_S) (hV : mI_v σ) (k0 : 0 ≤ ((σ.1 0 69)).toInt ∧ ((σ.1 0 69)).toInt ≤ 20) (p0 : 0 ≤ ((σ.1 0 48)).toInt ∧ ((σ.1 0 48)).toInt ≤ 5) : jf_I jh_M E yX11_byPoints cX11_byPoints 4 .int 2 [jf_r E 0] σ (fun r τ => mS_a σ τ ∧ (τ.1 0 69) = (σ.1 0 69) + 1) := by
  refine jf_mkI (by decide) (Nat.le_of_ble_eq_true rfl) ?_
  intro G C ret
  have hJ := hV.1
  have l18 : ∀ (m : Nat) (τ : jf_S) (j n i : Int32), (mS_a σ τ ∧ (τ.1 0 69) = (σ.1 0 69) + 1) → 0 ≤ i.toInt → i.toInt ≤ (5 : Int) → (5 : Int) - i.toInt < m → (0 ≤ j.toInt ∧ j.toInt < 10) → (0 ≤ n.toInt ∧ n.toInt ≤ i.toInt) → (∀ υ : jf_S, mS_a σ υ ∧ (υ.1 0 69) = (σ.1 0 69) + 1 → jf_X jh_M E G 4 6 [(0, jf_r E 0), (1, .int (j + Int32.ofInt 1))] [] υ) → jf_X jh_M E G 4 18 [(0, jf_r E 0), (1, .int j), (2, .int n), (3, .int i)] [] τ := by
    intro m
    induction m with
    | zero => intro τ j n i z g1 g2 g3 x1 x2 x3; exfalso; omega
    | succ m ih =>
      intro τ j n i z g1 g2 g3 x1 x2 x3
      have e1 := ji_inc (k := i) (by omega)
      have hT := mS_a_V z.1 hV
      have c5 := hT.2.2.1 j.toNatClampNeg
      have v0 := hT.2.2.2 (5 * j + i).toNatClampNeg
      have c6 : ((τ.1 0 48)).toInt = ((σ.1 0 48)).toInt := congrArg Int32.toInt (z.1.2.2 _ (by decide) (by decide))
      have e2 := ji_inc (k := n) (by omega)
      refine jr_iload_n C dX11_byPoints_18 rfl ?_
      refine jr_aload_n C dX11_byPoints_19 rfl ?_
      refine jr_getr C kf_X11_93_0 dX11_byPoints_20 ?_
      refine jr_iload_n C dX11_byPoints_23 rfl ?_
      refine jr_ialv C ka_M_27 dX11_byPoints_24 (ji_in x1.1 x1.2) (v := τ.1 27 _) rfl ?_
      refine jr_ncmp_ge C 86 dX11_byPoints_25 (by decide) rfl rfl (fun b25 => ?_) (fun b25 => ?_)
      · refine jr_iinc C _ dX11_byPoints_86 rfl rfl (by decide) ?_
        refine jr_goto C 6 dX11_byPoints_89 (by decide) ?_
        exact jr_sub [(0, jf_r E 0), (1, .int (j + Int32.ofInt 1))] rfl (x3 _ z)
      · refine jr_aload_n C dX11_byPoints_28 rfl ?_
        refine jr_getr C kf_X11_129_0 dX11_byPoints_29 ?_
        refine jr_iconst C (v := 5) dX11_byPoints_32 (by decide) ?_
        refine jr_iload_n C dX11_byPoints_33 rfl ?_
        refine jr_imul C dX11_byPoints_34 ?_
        refine jr_iload_n C dX11_byPoints_35 rfl ?_
        refine jr_iadd C dX11_byPoints_36 ?_
        refine jr_zalv C ka_M_38 dX11_byPoints_37 (ji_lin 5 5 rfl (by omega) (by omega) (by omega) (by omega)) (v := τ.1 38 _) rfl ?_
        refine jr_nif_eq C 80 dX11_byPoints_38 (by decide) (fun b38 => ?_) (fun b38 => ?_)
        · refine jr_iinc C _ dX11_byPoints_80 rfl rfl (by decide) ?_
          refine jr_goto C 18 dX11_byPoints_83 (by decide) ?_
          exact jr_sub [(0, jf_r E 0), (1, .int _), (2, .int _), (3, .int _)] rfl (ih _ _ _ _ (by first | exact ⟨z.1, z.2⟩ | exact ⟨mS_a_i z.1 (by decide), z.2⟩) (by omega) (by omega) (by omega) x1 (by exact ⟨by omega, by omega⟩) x3)
        · refine jr_aload_n C dX11_byPoints_41 rfl ?_
          refine jr_getr C kf_X11_138_0 dX11_byPoints_42 ?_
          refine jr_aload_n C dX11_byPoints_45 rfl ?_
          refine jr_getr C kf_X11_90_0 dX11_byPoints_46 ?_
          refine jr_iconst C (v := 5) dX11_byPoints_49 (by decide) ?_
          refine jr_iload_n C dX11_byPoints_50 rfl ?_
          refine jr_imul C dX11_byPoints_51 ?_
          refine jr_iload_n C dX11_byPoints_52 rfl ?_
          refine jr_iadd C dX11_byPoints_53 ?_
          refine jr_ialv C ka_M_26 dX11_byPoints_54 (ji_lin 5 5 rfl (by omega) (by omega) (by omega) (by omega)) (v := τ.1 26 _) rfl ?_
          refine jr_dup2 C dX11_byPoints_55 rfl rfl ?_
          refine jr_ialv C ka_M_41 dX11_byPoints_56 (ji_in (by omega) (by omega)) (v := τ.1 41 _) rfl ?_
          refine jr_iload_n C dX11_byPoints_57 rfl ?_
          refine jr_aload_n C dX11_byPoints_58 rfl ?_
          refine jr_getv C kf_X11_365_0 dX11_byPoints_59 (v := τ.1 0 48) rfl ?_
          refine jr_ncmp_ge C 74 dX11_byPoints_62 (by decide) rfl rfl (fun b62 => ?_) (fun b62 => ?_)
          · refine jr_iconst C (v := 0) dX11_byPoints_74 (by decide) ?_
            refine jr_iadd C dX11_byPoints_75 ?_
            refine jr_iast C ka_M_41 dX11_byPoints_76 (ji_in (by omega) (by omega)) ?_
            refine jr_iinc C _ dX11_byPoints_77 rfl rfl (by decide) ?_
            refine jr_iinc C _ dX11_byPoints_80 rfl rfl (by decide) ?_
            refine jr_goto C 18 dX11_byPoints_83 (by decide) ?_
            exact jr_sub [(0, jf_r E 0), (1, .int _), (2, .int _), (3, .int _)] rfl (ih _ _ _ _ (by first | exact ⟨z.1, z.2⟩ | exact ⟨mS_a_i z.1 (by decide), z.2⟩) (by omega) (by omega) (by omega) x1 (by exact ⟨by omega, by omega⟩) x3)
          · refine jr_aload_n C dX11_byPoints_65 rfl ?_
            refine jr_getr C kf_X11_111_0 dX11_byPoints_66 ?_
            refine jr_iload_n C dX11_byPoints_69 rfl ?_
            refine jr_ialv C ka_M_33 dX11_byPoints_70 (ji_in (i := n) (by omega) (by omega)) (v := τ.1 33 _) rfl ?_
            refine jr_goto C 75 dX11_byPoints_71 (by decide) ?_
            refine jr_iadd C dX11_byPoints_75 ?_
            refine jr_iast C ka_M_41 dX11_byPoints_76 (ji_in (by omega) (by omega)) ?_
            refine jr_iinc C _ dX11_byPoints_77 rfl rfl (by decide) ?_
            refine jr_iinc C _ dX11_byPoints_80 rfl rfl (by decide) ?_
            refine jr_goto C 18 dX11_byPoints_83 (by decide) ?_
            exact jr_sub [(0, jf_r E 0), (1, .int _), (2, .int _), (3, .int _)] rfl (ih _ _ _ _ (by first | exact ⟨z.1, z.2⟩ | exact ⟨mS_a_i z.1 (by decide), z.2⟩) (by omega) (by omega) (by omega) x1 (by exact ⟨by omega, by omega⟩) x3)
  have l6 : ∀ (m : Nat) (τ : jf_S) (j : Int32), (mS_a σ τ ∧ (τ.1 0 69) = (σ.1 0 69) + 1) → 0 ≤ j.toInt → j.toInt ≤ ((σ.1 0 35)).toInt → ((σ.1 0 35)).toInt - j.toInt < m → jf_X jh_M E G 4 6 [(0, jf_r E 0), (1, .int j)] [] τ := by
    intro m
    induction m with
    | zero => intro τ j z g1 g2 g3; exfalso; omega
    | succ m ih =>
      intro τ j z g1 g2 g3
      have e1 := ji_inc (k := j) (by omega)
      have hT := mS_a_V z.1 hV
      have c1 : ((τ.1 0 35)).toInt = ((σ.1 0 35)).toInt := congrArg Int32.toInt (z.1.2.2 _ (by decide) (by decide))
      refine jr_iload_n C dX11_byPoints_6 rfl ?_
      refine jr_aload_n C dX11_byPoints_7 rfl ?_
      refine jr_getv C kf_X11_257_0 dX11_byPoints_8 (v := τ.1 0 35) rfl ?_
      refine jr_ncmp_ge C 92 dX11_byPoints_11 (by decide) rfl rfl (fun b11 => ?_) (fun b11 => ?_)
      · refine jr_aload_n C dX11_byPoints_92 rfl ?_
        refine jr_iconst C (v := 0) dX11_byPoints_93 (by decide) ?_
        refine jr_iconst C (v := 1) dX11_byPoints_94 (by decide) ?_
        refine jr_vi C [.int _, .int _] _ (ct_X11_extreme E _ _ _ (by decide) (by decide) hT.2.1.1 hT.2.1.2) ky_X11_extreme kv_X11_extreme kk_M_0 km_X11_389 (by decide) rfl (Nat.le_of_ble_eq_true rfl) dX11_byPoints_95 (fun r95 τ95 h95 => ?_)
        obtain ⟨-, rfl⟩ := h95
        exact ret _ _ _ _ dX11_byPoints_98 rfl (z)
      · refine jr_iconst C (v := 0) dX11_byPoints_14 (by decide) ?_
        refine jr_istore_n C dX11_byPoints_15 (by decide) ?_
        refine jr_iconst C (v := 0) dX11_byPoints_16 (by decide) ?_
        refine jr_istore_n C dX11_byPoints_17 (by decide) ?_
        exact jr_sub [(0, jf_r E 0), (1, .int j), (2, .int 0), (3, .int 0)] rfl (l18 6 _ _ _ _ z (by decide) (by decide) (by decide) ⟨by omega, by omega⟩ (by decide) (fun υ hz => ih _ _ hz (by omega) (by omega) (by omega)))
  refine jr_aload_n C dX11_byPoints_0 rfl ?_
  refine jr_vv C [] _ (ct_X11_openRound2 E _ k0) ky_X11_openRound kv_X11_openRound kk_M_0 km_X11_386 (by decide) rfl (Nat.le_of_ble_eq_true rfl) dX11_byPoints_1 (fun τ1 h1 => ?_)
  refine jr_iconst C (v := 0) dX11_byPoints_4 (by decide) ?_
  refine jr_istore_n C dX11_byPoints_5 (by decide) ?_
  exact jr_sub [(0, jf_r E 0), (1, .int _)] rfl (l6 11 _ _ ⟨h1.1, h1.2.2.1⟩ (by decide) hJ.1 (by show _ - (0 : Int) < _; omega))
theorem ct_X11_byRounds (E : jf_E) (σ : jf_S) (hV : mI_v σ) (hW : mI_w σ) (k0 : 0 ≤ ((σ.1 0 69)).toInt ∧ ((σ.1 0 69)).toInt ≤ 21) (hA : m_in σ ((σ.1 0 35)).toNatClampNeg 0) (hB : ∃ f : Nat, f < 20 ∧ ¬ ((σ.1 39) f).toInt = 0) : jf_I jh_M E yX11_byRounds cX11_byRounds 6 .int 2 [jf_r E 0] σ (fun r τ => mS_a σ τ ∧ 0 ≤ ((τ.1 0 69)).toInt ∧ ((τ.1 0 69)).toInt ≤ 21) := by
  refine jf_mkI (by decide) (Nat.le_of_ble_eq_true rfl) ?_
  intro G C ret
  have hJ := hV.1
  have tJ := ji_tn hJ.1
  have l0 : ∀ (m : Nat) (τ : jf_S), mS_a σ τ → (0 ≤ ((τ.1 0 69)).toInt ∧ ((τ.1 0 69)).toInt ≤ 21) → m_in τ ((σ.1 0 35)).toNatClampNeg 0 → (∃ f : Nat, f < 20 ∧ ¬ ((τ.1 39) f).toInt = 0) → 21 - ((τ.1 0 69)).toInt < m → jf_X jh_M E G 6 0 [(0, jf_r E 0)] [] τ := by
    intro m
    induction m with
    | zero => intro τ z r A B g; exfalso; omega
    | succ m ih =>
      intro τ z r A B g
      have hT := mS_a_V z hV
      have er := ji_inc1 (k := (τ.1 0 69)) (by omega)
      have cj : (τ.1 0 35) = (σ.1 0 35) := z.2.2 _ (by decide) (by decide)
      have cf : (τ.1 0 7) = (σ.1 0 7) := z.2.2 _ (by decide) (by decide)
      have cvm : (τ.1 27) = (σ.1 27) := z.2.1 _ (by decide) (by decide) (by decide)
      have cv : (τ.1 26) = (σ.1 26) := z.2.1 _ (by decide) (by decide) (by decide)
      have hF := hT.2.1
      have low : ∀ f : Nat, f < 20 → ¬ ((τ.1 39) f).toInt = 0 → (f : Int) < ((σ.1 0 7)).toInt ∧ ∃ p q : Nat, p < ((σ.1 0 35)).toNatClampNeg ∧ (q : Int) < ((τ.1 27) p).toInt ∧ ¬ ((τ.1 38) (5 * p + q)).toInt = 0 ∧ ¬ ((τ.1 39) ((τ.1 26) (5 * p + q)).toNatClampNeg).toInt = 0 := by
        intro f f1 f2
        obtain ⟨p, q, a, b, c⟩ := A f f1 f2
        have a := a.resolve_right (fun h => by omega)
        have h := hW p q (by omega) (by rw [← cvm]; exact a.2)
        rw [← cv, c] at h
        exact ⟨h, p, q, a.1, a.2, b, by rw [ji_cl c]; exact f2⟩
      have J128 : ∀ (υ : jf_S) (n j : Int32), ((τ.1 0 69)).toInt < 21 → mS_a σ υ → m_S τ υ ((τ.1 0 69)).toNatClampNeg ((σ.1 0 35)).toNatClampNeg → jf_X jh_M E G 6 128 [(0, jf_r E 0), (1, .int ((τ.1 0 69))), (2, .int n), (3, .int j)] [] υ := by
        intro υ n j r2 zu S
        have hU := mS_a_V zu hV
        have cfu : (υ.1 0 7) = (σ.1 0 7) := zu.2.2 _ (by decide) (by decide)
        have eu : ((υ.1 0 69)).toInt = ((τ.1 0 69)).toInt + 1 := by rw [S.2.1]; exact er
        obtain ⟨f0, f1, f2⟩ := B
        obtain ⟨P, P1, P2⟩ := S.2.2.2 (low f0 f1 f2).2
        have Pin := (S.2.2.1 P P1).resolve_left (fun h => by omega)
        have Pf := (low P P1 Pin.1).1
        have hx : ∀ (x : Int32), ((x.toInt = -1 ∧ ∀ i : Nat, (i : Int) < ((υ.1 0 7)).toInt → ((υ.1 41) (20 * ((τ.1 0 69)).toNatClampNeg + i)).toInt = -1) ∨ (0 ≤ x.toInt ∧ x.toInt < ((υ.1 0 7)).toInt ∧ ¬ ((υ.1 41) (20 * ((τ.1 0 69)).toNatClampNeg + x.toNatClampNeg)).toInt = -1)) → (0 ≤ x.toInt ∧ x.toInt < 20) := by
          intro x hx
          rcases hx with hx | hx
          · have := hx.2 P (by rw [cfu]; exact Pf); omega
          · exact ⟨hx.1, by have := hU.2.1.2; omega⟩
        have l141 : ∀ (m : Nat) (b c i : Int32), 0 ≤ i.toInt → i.toInt ≤ ((υ.1 0 7)).toInt → ((υ.1 0 7)).toInt - i.toInt < m → (0 ≤ b.toInt ∧ b.toInt < 20) → c.toInt = (jx_ct (fun f => decide (0 < ((υ.1 41) (20 * ((τ.1 0 69)).toNatClampNeg + f)).toInt)) i.toNatClampNeg : Int) → jf_X jh_M E G 6 141 [(0, jf_r E 0), (1, .int ((τ.1 0 69))), (2, .int n), (3, .int b), (4, .int c), (5, .int i)] [] υ := by
          intro m
          induction m with
          | zero => intro b c i g1 g2 g3; exfalso; omega
          | succ m ih2 =>
            intro b c i g1 g2 g3 hb hc
            have hfu := hU.2.1
            have e1 := ji_inc (k := i) (by omega)
            have ei := ji_tn g1
            have e2 : (i + Int32.ofInt 1).toNatClampNeg = i.toNatClampNeg + 1 := ji_cl (by omega)
            have cl := jx_ct_le (fun f => decide (0 < ((υ.1 41) (20 * ((τ.1 0 69)).toNatClampNeg + f)).toInt)) i.toNatClampNeg
            have ec := ji_inc1 (k := c) (by omega)
            have ec0 := ji_a0 c
            have ix : i.toInt < 20 → vp_in (20 * (τ.1 0 69) + i) 420 ∧ (20 * (τ.1 0 69) + i).toNatClampNeg = 20 * ((τ.1 0 69)).toNatClampNeg + i.toNatClampNeg := fun h => m_ix20 (by omega) (by omega) g1 h
            have ib := m_ix20 (k := (τ.1 0 69)) (f := b) (by omega) (by omega) hb.1 hb.2
            have st : jx_ct (fun f => decide (0 < ((υ.1 41) (20 * ((τ.1 0 69)).toNatClampNeg + f)).toInt)) (i.toNatClampNeg + 1) = jx_ct (fun f => decide (0 < ((υ.1 41) (20 * ((τ.1 0 69)).toNatClampNeg + f)).toInt)) i.toNatClampNeg + (if decide (0 < ((υ.1 41) (20 * ((τ.1 0 69)).toNatClampNeg + i.toNatClampNeg)).toInt) = true then 1 else 0) := rfl
            have two : ((υ.1 0 7)).toInt ≤ i.toInt → ¬ c.toInt = 1 → ∀ x : Nat, ∃ f : Nat, f < 20 ∧ f ≠ x ∧ ¬ ((τ.1 39) f).toInt = 0 := by
              intro hle hc1 x
              obtain ⟨f, a1, a2, a3⟩ := jx_ct_two (p := fun f => decide (0 < ((υ.1 41) (20 * ((τ.1 0 69)).toNatClampNeg + f)).toInt)) (n := i.toNatClampNeg) (a := P) (by rw [cfu] at hle; omega) (by simp only [decide_eq_true_eq]; exact P2) (by omega) x
              have a3 := of_decide_eq_true a3
              refine ⟨f, by omega, a2, ?_⟩
              rcases S.2.2.1 f (by omega) with q | q
              · omega
              · exact q.1
            refine jr_iload C dX11_byRounds_141 rfl ?_
            refine jr_aload_n C dX11_byRounds_143 rfl ?_
            refine jr_getv C kf_X11_157_0 dX11_byRounds_144 (v := υ.1 0 7) rfl ?_
            refine jr_ncmp_ge C 181 dX11_byRounds_147 (by decide) rfl rfl (fun b147 => ?_) (fun b147 => ?_)
            · refine jr_iconst C (v := 2) dX11_byRounds_181 (by decide) ?_
              refine jr_aload_n C dX11_byRounds_182 rfl ?_
              refine jr_getr C kf_X11_138_0 dX11_byRounds_183 ?_
              refine jr_bipush C (v := 20) dX11_byRounds_186 (by decide) ?_
              refine jr_iload_n C dX11_byRounds_188 rfl ?_
              refine jr_imul C dX11_byRounds_189 ?_
              refine jr_iload_n C dX11_byRounds_190 rfl ?_
              refine jr_iadd C dX11_byRounds_191 ?_
              refine jr_ialv C ka_M_41 dX11_byRounds_192 ib.1 (v := υ.1 41 _) rfl ?_
              refine jr_imul C dX11_byRounds_193 ?_
              refine jr_iload_n C dX11_byRounds_194 rfl ?_
              refine jr_ncmp_gt C 204 dX11_byRounds_195 (by decide) rfl rfl (fun b195 => ?_) (fun b195 => ?_)
              · refine jr_iload_n C dX11_byRounds_204 rfl ?_
                exact ret _ _ _ _ dX11_byRounds_205 rfl (⟨zu, by omega, by omega⟩)
              · refine jr_iload C dX11_byRounds_198 rfl ?_
                refine jr_iconst C (v := 1) dX11_byRounds_200 (by decide) ?_
                refine jr_ncmp_ne C (b := 1) 206 dX11_byRounds_201 (by decide) rfl rfl (fun b201 => ?_) (fun b201 => ?_)
                · refine jr_aload_n C dX11_byRounds_206 rfl ?_
                  refine jr_getr C kf_X11_132_0 dX11_byRounds_207 ?_
                  refine jr_aload_n C dX11_byRounds_210 rfl ?_
                  refine jr_iload_n C dX11_byRounds_211 rfl ?_
                  refine jr_iconst C (v := 0) dX11_byRounds_212 (by decide) ?_
                  refine jr_vi C [.int _, .int _] _ (ct_X11_extreme E _ _ _ (by omega) (by omega) hfu.1 hfu.2) ky_X11_extreme kv_X11_extreme kk_M_0 km_X11_389 (by decide) rfl (Nat.le_of_ble_eq_true rfl) dX11_byRounds_213 (fun r213 τ213 h213 => ?_)
                  obtain ⟨q213, rfl⟩ := h213; have x213 := hx _ q213
                  refine jr_iconst C (v := 0) dX11_byRounds_216 (by decide) ?_
                  refine jr_zast C ka_M_39 dX11_byRounds_217 (ji_in x213.1 x213.2) (Or.inl rfl) ?_
                  refine jr_goto C 0 dX11_byRounds_218 (by decide) ?_
                  exact jr_sub [(0, jf_r E 0)] rfl (ih _ (mS_a_i zu (by decide)) (show 0 ≤ ((υ.1 0 69)).toInt ∧ ((υ.1 0 69)).toInt ≤ 21 by omega) (fun f f1 f2 => by obtain ⟨p, q, a1, a2, a3⟩ := A f f1 (by intro h; apply f2; by_cases e : f = r213.toNatClampNeg; (rw [e, jf_i_same]; rfl); (rw [jf_i_ne e, show (υ.1 39) = (τ.1 39) from S.1 39 (by decide) (by decide)]; exact h)); exact ⟨p, q, by rw [jf_i_o 27 (by decide), show (υ.1 27) = (τ.1 27) from S.1 27 (by decide) (by decide)]; exact a1, by rw [jf_i_o 38 (by decide), show (υ.1 38) = (τ.1 38) from S.1 38 (by decide) (by decide)]; exact a2, by rw [jf_i_o 26 (by decide), show (υ.1 26) = (τ.1 26) from S.1 26 (by decide) (by decide)]; exact a3⟩) (by obtain ⟨f, f1, f2, f3⟩ := two (by omega) b201 r213.toNatClampNeg; exact ⟨f, f1, by rw [jf_i_ne f2, show (υ.1 39) = (τ.1 39) from S.1 39 (by decide) (by decide)]; exact f3⟩) (show 21 - ((υ.1 0 69)).toInt < _ by omega))
                · refine jr_iload_n C dX11_byRounds_204 rfl ?_
                  exact ret _ _ _ _ dX11_byRounds_205 rfl (⟨zu, by omega, by omega⟩)
            · refine jr_iload C dX11_byRounds_150 rfl ?_
              refine jr_aload_n C dX11_byRounds_152 rfl ?_
              refine jr_getr C kf_X11_138_0 dX11_byRounds_153 ?_
              refine jr_bipush C (v := 20) dX11_byRounds_156 (by decide) ?_
              refine jr_iload_n C dX11_byRounds_158 rfl ?_
              refine jr_imul C dX11_byRounds_159 ?_
              refine jr_iload C dX11_byRounds_160 rfl ?_
              refine jr_iadd C dX11_byRounds_162 ?_
              refine jr_ialv C ka_M_41 dX11_byRounds_163 (ix (by omega)).1 (v := υ.1 41 _) rfl ?_
              refine jr_nif_le C 171 dX11_byRounds_164 (by decide) (fun b164 => ?_) (fun b164 => ?_)
              · rw [(ix (by omega)).2] at b164
                refine jr_iconst C (v := 0) dX11_byRounds_171 (by decide) ?_
                refine jr_iadd C dX11_byRounds_172 ?_
                refine jr_istore C dX11_byRounds_173 (by decide) ?_
                refine jr_iinc C _ dX11_byRounds_175 rfl rfl (by decide) ?_
                refine jr_goto C 141 dX11_byRounds_178 (by decide) ?_
                exact jr_sub [(0, jf_r E 0), (1, .int ((τ.1 0 69))), (2, .int n), (3, .int b), (4, .int _), (5, .int _)] rfl (ih2 b _ _ (by omega) (by omega) (by omega) hb (by rw [e2, st]; first | (rw [if_neg (by rw [decide_eq_true_eq]; omega)]; omega) | (rw [if_pos (by rw [decide_eq_true_eq]; omega)]; omega)))
              · rw [(ix (by omega)).2] at b164
                refine jr_iconst C (v := 1) dX11_byRounds_167 (by decide) ?_
                refine jr_goto C 172 dX11_byRounds_168 (by decide) ?_
                refine jr_iadd C dX11_byRounds_172 ?_
                refine jr_istore C dX11_byRounds_173 (by decide) ?_
                refine jr_iinc C _ dX11_byRounds_175 rfl rfl (by decide) ?_
                refine jr_goto C 141 dX11_byRounds_178 (by decide) ?_
                exact jr_sub [(0, jf_r E 0), (1, .int ((τ.1 0 69))), (2, .int n), (3, .int b), (4, .int _), (5, .int _)] rfl (ih2 b _ _ (by omega) (by omega) (by omega) hb (by rw [e2, st]; first | (rw [if_neg (by rw [decide_eq_true_eq]; omega)]; omega) | (rw [if_pos (by rw [decide_eq_true_eq]; omega)]; omega)))
        refine jr_aload_n C dX11_byRounds_128 rfl ?_
        refine jr_iload_n C dX11_byRounds_129 rfl ?_
        refine jr_iconst C (v := 1) dX11_byRounds_130 (by decide) ?_
        refine jr_vi C [.int _, .int _] _ (ct_X11_extreme E _ _ _ (by omega) (by omega) hU.2.1.1 hU.2.1.2) ky_X11_extreme kv_X11_extreme kk_M_0 km_X11_389 (by decide) rfl (Nat.le_of_ble_eq_true rfl) dX11_byRounds_131 (fun r131 τ131 h131 => ?_)
        obtain ⟨q131, rfl⟩ := h131
        refine jr_istore_n C dX11_byRounds_134 (by decide) ?_
        refine jr_iconst C (v := 0) dX11_byRounds_135 (by decide) ?_
        refine jr_istore C dX11_byRounds_136 (by decide) ?_
        refine jr_iconst C (v := 0) dX11_byRounds_138 (by decide) ?_
        refine jr_istore C dX11_byRounds_139 (by decide) ?_
        exact jr_sub [(0, jf_r E 0), (1, .int ((τ.1 0 69))), (2, .int n), (3, .int _), (4, .int 0), (5, .int 0)] rfl (l141 22 _ _ _ (by decide) hU.2.1.1 (by have := hU.2.1.2; show _ - (0 : Int) < _; omega) (hx _ q131) rfl)
      have l22 : ∀ (m : Nat) (υ : jf_S) (n j : Int32), ((τ.1 0 69)).toInt < 21 → mS_a σ υ → m_S τ υ ((τ.1 0 69)).toNatClampNeg j.toNatClampNeg → 0 ≤ j.toInt → j.toInt ≤ ((σ.1 0 35)).toInt → ((σ.1 0 35)).toInt - j.toInt < m → jf_X jh_M E G 6 22 [(0, jf_r E 0), (1, .int ((τ.1 0 69))), (2, .int n), (3, .int j)] [] υ := by
        intro m
        induction m with
        | zero => intro υ n j r2 zu S g1 g2 g3; exfalso; omega
        | succ m ih2 =>
          intro υ n j r2 zu S g1 g2 g3
          have hU := mS_a_V zu hV
          have e1 := ji_inc (k := j) (by omega)
          have ej := ji_tn g1
          have e2 : (j + Int32.ofInt 1).toNatClampNeg = j.toNatClampNeg + 1 := ji_cl (by omega)
          have cju : (υ.1 0 35) = (σ.1 0 35) := zu.2.2 _ (by decide) (by decide)
          have dvm : (υ.1 27) = (τ.1 27) := S.1 27 (by decide) (by decide)
          have dv : (υ.1 26) = (τ.1 26) := S.1 26 (by decide) (by decide)
          have dvo : (υ.1 38) = (τ.1 38) := S.1 38 (by decide) (by decide)
          have din : (υ.1 39) = (τ.1 39) := S.1 39 (by decide) (by decide)
          have c5 := hU.2.2.1 j.toNatClampNeg
          have J83 : ∀ (i : Int32), j.toInt < ((σ.1 0 35)).toInt → 0 ≤ i.toInt → i.toInt ≤ ((υ.1 27) j.toNatClampNeg).toInt → ((((υ.1 27) j.toNatClampNeg).toInt ≤ i.toInt ∧ (∀ q : Nat, (q : Int) < i.toInt → ¬ ((τ.1 38) (5 * j.toNatClampNeg + q)).toInt = 0 → ¬ ((τ.1 39) ((τ.1 26) (5 * j.toNatClampNeg + q)).toNatClampNeg).toInt = 0 → False)) ∨ (i.toInt < ((υ.1 27) j.toNatClampNeg).toInt ∧ ¬ ((τ.1 39) ((τ.1 26) (5 * j.toNatClampNeg + i.toNatClampNeg)).toNatClampNeg).toInt = 0)) → jf_X jh_M E G 6 83 [(0, jf_r E 0), (1, .int ((τ.1 0 69))), (2, .int n), (3, .int j), (4, .int i)] [] υ := by
            intro i j1 h1 h2 h3
            have v0 := hU.2.2.2 (5 * j + i).toNatClampNeg
            have n5 : i.toInt < 5 → (5 * j + i).toNatClampNeg = 5 * j.toNatClampNeg + i.toNatClampNeg := fun h => m_ix5 g1 (by omega) h1 h
            have ixv := m_ix20 (k := (τ.1 0 69)) (f := (υ.1 26) (5 * j + i).toNatClampNeg) (by omega) (by omega) v0.1 (by omega)
            refine jr_iload C dX11_byRounds_83 rfl ?_
            refine jr_aload_n C dX11_byRounds_85 rfl ?_
            refine jr_getr C kf_X11_93_0 dX11_byRounds_86 ?_
            refine jr_iload_n C dX11_byRounds_89 rfl ?_
            refine jr_ialv C ka_M_27 dX11_byRounds_90 (ji_in (i := j) (by omega) (by omega)) (v := υ.1 27 _) rfl ?_
            refine jr_ncmp_ge C 122 dX11_byRounds_91 (by decide) rfl rfl (fun b91 => ?_) (fun b91 => ?_)
            · refine jr_iinc C _ dX11_byRounds_122 rfl rfl (by decide) ?_
              refine jr_goto C 22 dX11_byRounds_125 (by decide) ?_
              first | (have h9 : ((υ.1 27) j.toNatClampNeg).toInt ≤ i.toInt := b91; exact jr_sub [(0, jf_r E 0), (1, .int ((τ.1 0 69))), (2, .int n), (3, .int _)] rfl (ih2 υ n _ r2 zu (by rw [e2]; exact m_S_none S (fun q q1 q2 q3 => by rcases h3 with h3 | h3; exact h3.2 q (by rw [← dvm] at q1; omega) q2 q3; omega)) (by omega) (by omega) (by omega))) | exact jr_sub [(0, jf_r E 0), (1, .int ((τ.1 0 69))), (2, .int _), (3, .int _)] rfl (ih2 _ _ _ r2 (mS_a_i zu (by decide)) (by rw [e2]; have h4 := (h3.resolve_left (fun h => by omega)).2; exact m_S_give S (F := ((υ.1 26) (5 * j + i).toNatClampNeg).toNatClampNeg) (by have := ji_tn v0.1; omega) (by rw [dv, n5 (by omega)]; exact h4) ixv.2 (ji_inc1 (by rcases S.2.2.1 ((υ.1 26) (5 * j + i).toNatClampNeg).toNatClampNeg (by have := ji_tn v0.1; omega) with q | q; (rw [ixv.2]; omega); (rw [ixv.2]; omega)))) (by omega) (by omega) (by omega))
            · refine jr_aload_n C dX11_byRounds_94 rfl ?_
              refine jr_getr C kf_X11_138_0 dX11_byRounds_95 ?_
              refine jr_bipush C (v := 20) dX11_byRounds_98 (by decide) ?_
              refine jr_iload_n C dX11_byRounds_100 rfl ?_
              refine jr_imul C dX11_byRounds_101 ?_
              refine jr_aload_n C dX11_byRounds_102 rfl ?_
              refine jr_getr C kf_X11_90_0 dX11_byRounds_103 ?_
              refine jr_iconst C (v := 5) dX11_byRounds_106 (by decide) ?_
              refine jr_iload_n C dX11_byRounds_107 rfl ?_
              refine jr_imul C dX11_byRounds_108 ?_
              refine jr_iload C dX11_byRounds_109 rfl ?_
              refine jr_iadd C dX11_byRounds_111 ?_
              refine jr_ialv C ka_M_26 dX11_byRounds_112 (ji_lin 5 5 rfl (by omega) (by omega) (by omega) (by omega)) (v := υ.1 26 _) rfl ?_
              refine jr_iadd C dX11_byRounds_113 ?_
              refine jr_dup2 C dX11_byRounds_114 rfl rfl ?_
              refine jr_ialv C ka_M_41 dX11_byRounds_115 ixv.1 (v := υ.1 41 _) rfl ?_
              refine jr_iconst C (v := 1) dX11_byRounds_116 (by decide) ?_
              refine jr_iadd C dX11_byRounds_117 ?_
              refine jr_iast C ka_M_41 dX11_byRounds_118 ixv.1 ?_
              refine jr_iinc C _ dX11_byRounds_119 rfl rfl (by decide) ?_
              refine jr_iinc C _ dX11_byRounds_122 rfl rfl (by decide) ?_
              refine jr_goto C 22 dX11_byRounds_125 (by decide) ?_
              first | (have h9 : ((υ.1 27) j.toNatClampNeg).toInt ≤ i.toInt := b91; exact jr_sub [(0, jf_r E 0), (1, .int ((τ.1 0 69))), (2, .int n), (3, .int _)] rfl (ih2 υ n _ r2 zu (by rw [e2]; exact m_S_none S (fun q q1 q2 q3 => by rcases h3 with h3 | h3; exact h3.2 q (by rw [← dvm] at q1; omega) q2 q3; omega)) (by omega) (by omega) (by omega))) | exact jr_sub [(0, jf_r E 0), (1, .int ((τ.1 0 69))), (2, .int _), (3, .int _)] rfl (ih2 _ _ _ r2 (mS_a_i zu (by decide)) (by rw [e2]; have h4 := (h3.resolve_left (fun h => by omega)).2; exact m_S_give S (F := ((υ.1 26) (5 * j + i).toNatClampNeg).toNatClampNeg) (by have := ji_tn v0.1; omega) (by rw [dv, n5 (by omega)]; exact h4) ixv.2 (ji_inc1 (by rcases S.2.2.1 ((υ.1 26) (5 * j + i).toNatClampNeg).toNatClampNeg (by have := ji_tn v0.1; omega) with q | q; (rw [ixv.2]; omega); (rw [ixv.2]; omega)))) (by omega) (by omega) (by omega))
          have l33 : ∀ (m : Nat) (i : Int32), j.toInt < ((σ.1 0 35)).toInt → 0 ≤ i.toInt → i.toInt ≤ ((υ.1 27) j.toNatClampNeg).toInt → ((υ.1 27) j.toNatClampNeg).toInt - i.toInt < m → (∀ q : Nat, (q : Int) < i.toInt → ¬ ((τ.1 38) (5 * j.toNatClampNeg + q)).toInt = 0 → ¬ ((τ.1 39) ((τ.1 26) (5 * j.toNatClampNeg + q)).toNatClampNeg).toInt = 0 → False) → jf_X jh_M E G 6 33 [(0, jf_r E 0), (1, .int ((τ.1 0 69))), (2, .int n), (3, .int j), (4, .int i)] [] υ := by
            intro m
            induction m with
            | zero => intro i j1 h1 h2 h3 h4; exfalso; omega
            | succ m ih3 =>
              intro i j1 h1 h2 h3 h4
              have ei := ji_tn h1
              have ei1 := ji_inc (k := i) (by omega)
              have v0 := hU.2.2.2 (5 * j + i).toNatClampNeg
              have n5 : i.toInt < 5 → (5 * j + i).toNatClampNeg = 5 * j.toNatClampNeg + i.toNatClampNeg := fun h => m_ix5 g1 (by omega) h1 h
              refine jr_iload C dX11_byRounds_33 rfl ?_
              refine jr_aload_n C dX11_byRounds_35 rfl ?_
              refine jr_getr C kf_X11_93_0 dX11_byRounds_36 ?_
              refine jr_iload_n C dX11_byRounds_39 rfl ?_
              refine jr_ialv C ka_M_27 dX11_byRounds_40 (ji_in (i := j) (by omega) (by omega)) (v := υ.1 27 _) rfl ?_
              refine jr_ncmp_ge C 83 dX11_byRounds_41 (by decide) rfl rfl (fun b41 => ?_) (fun b41 => ?_)
              · first | exact J83 i j1 h1 h2 (Or.inl ⟨b41, h4⟩) | exact J83 i j1 h1 h2 (Or.inr ⟨by omega, b74⟩)
              · refine jr_aload_n C dX11_byRounds_44 rfl ?_
                refine jr_getr C kf_X11_129_0 dX11_byRounds_45 ?_
                refine jr_iconst C (v := 5) dX11_byRounds_48 (by decide) ?_
                refine jr_iload_n C dX11_byRounds_49 rfl ?_
                refine jr_imul C dX11_byRounds_50 ?_
                refine jr_iload C dX11_byRounds_51 rfl ?_
                refine jr_iadd C dX11_byRounds_53 ?_
                refine jr_zalv C ka_M_38 dX11_byRounds_54 (ji_lin 5 5 rfl (by omega) (by omega) (by omega) (by omega)) (v := υ.1 38 _) rfl ?_
                refine jr_nif_eq C 77 dX11_byRounds_55 (by decide) (fun b55 => ?_) (fun b55 => ?_)
                · rw [n5 (by omega), dvo] at b55
                  refine jr_iinc C _ dX11_byRounds_77 rfl rfl (by decide) ?_
                  refine jr_goto C 33 dX11_byRounds_80 (by decide) ?_
                  exact jr_sub [(0, jf_r E 0), (1, .int ((τ.1 0 69))), (2, .int n), (3, .int j), (4, .int _)] rfl (ih3 _ j1 (by omega) (by omega) (by omega) (fun q q1 q2 q3 => by by_cases e : q = i.toNatClampNeg; (subst e; first | exact q2 b55 | exact q3 b74); exact h4 q (by omega) q2 q3))
                · rw [n5 (by omega), dvo] at b55
                  refine jr_aload_n C dX11_byRounds_58 rfl ?_
                  refine jr_getr C kf_X11_132_0 dX11_byRounds_59 ?_
                  refine jr_aload_n C dX11_byRounds_62 rfl ?_
                  refine jr_getr C kf_X11_90_0 dX11_byRounds_63 ?_
                  refine jr_iconst C (v := 5) dX11_byRounds_66 (by decide) ?_
                  refine jr_iload_n C dX11_byRounds_67 rfl ?_
                  refine jr_imul C dX11_byRounds_68 ?_
                  refine jr_iload C dX11_byRounds_69 rfl ?_
                  refine jr_iadd C dX11_byRounds_71 ?_
                  refine jr_ialv C ka_M_26 dX11_byRounds_72 (ji_lin 5 5 rfl (by omega) (by omega) (by omega) (by omega)) (v := υ.1 26 _) rfl ?_
                  refine jr_zalv C ka_M_39 dX11_byRounds_73 (ji_in (by omega) (by omega)) (v := υ.1 39 _) rfl ?_
                  refine jr_nif_ne C 83 dX11_byRounds_74 (by decide) (fun b74 => ?_) (fun b74 => ?_)
                  · rw [n5 (by omega), dv, din] at b74
                    first | exact J83 i j1 h1 h2 (Or.inl ⟨b41, h4⟩) | exact J83 i j1 h1 h2 (Or.inr ⟨by omega, b74⟩)
                  · rw [n5 (by omega), dv, din] at b74
                    refine jr_iinc C _ dX11_byRounds_77 rfl rfl (by decide) ?_
                    refine jr_goto C 33 dX11_byRounds_80 (by decide) ?_
                    exact jr_sub [(0, jf_r E 0), (1, .int ((τ.1 0 69))), (2, .int n), (3, .int j), (4, .int _)] rfl (ih3 _ j1 (by omega) (by omega) (by omega) (fun q q1 q2 q3 => by by_cases e : q = i.toNatClampNeg; (subst e; first | exact q2 b55 | exact q3 b74); exact h4 q (by omega) q2 q3))
          refine jr_iload_n C dX11_byRounds_22 rfl ?_
          refine jr_aload_n C dX11_byRounds_23 rfl ?_
          refine jr_getv C kf_X11_257_0 dX11_byRounds_24 (v := υ.1 0 35) rfl ?_
          refine jr_ncmp_ge C 128 dX11_byRounds_27 (by decide) rfl rfl (fun b27 => ?_) (fun b27 => ?_)
          · exact J128 υ n j r2 zu (by rw [← show j.toNatClampNeg = ((σ.1 0 35)).toNatClampNeg from congrArg Int.toNat (show j.toInt = ((σ.1 0 35)).toInt by rw [cju] at b27; omega)]; exact S)
          · refine jr_iconst C (v := 0) dX11_byRounds_30 (by decide) ?_
            refine jr_istore C dX11_byRounds_31 (by decide) ?_
            exact jr_sub [(0, jf_r E 0), (1, .int ((τ.1 0 69))), (2, .int n), (3, .int j), (4, .int 0)] rfl (l33 7 0 (by rw [cju] at b27; omega) (by decide) c5.1 (by show _ - (0 : Int) < _; omega) (fun q q1 => by exfalso; have : (0 : Int32).toInt = 0 := rfl; omega))
      refine jr_aload_n C dX11_byRounds_0 rfl ?_
      refine jr_getv C kf_X11_141_0 dX11_byRounds_1 (v := τ.1 0 69) rfl ?_
      refine jr_bipush C (v := 21) dX11_byRounds_4 (by decide) ?_
      refine jr_ncmp_ge C (b := 21) 221 dX11_byRounds_6 (by decide) rfl rfl (fun b6 => ?_) (fun b6 => ?_)
      · refine jr_iconst C (v := -1) dX11_byRounds_221 (by decide) ?_
        exact ret _ _ _ _ dX11_byRounds_222 rfl (⟨z, r.1, r.2⟩)
      · refine jr_aload_n C dX11_byRounds_9 rfl ?_
        refine jr_getv C kf_X11_141_0 dX11_byRounds_10 (v := τ.1 0 69) rfl ?_
        refine jr_istore_n C dX11_byRounds_13 (by decide) ?_
        refine jr_aload_n C dX11_byRounds_14 rfl ?_
        refine jr_vv C [] _ (ct_X11_openRound2 E _ ⟨r.1, by omega⟩) ky_X11_openRound kv_X11_openRound kk_M_0 km_X11_386 (by decide) rfl (Nat.le_of_ble_eq_true rfl) dX11_byRounds_15 (fun τ15 h15 => ?_)
        refine jr_iconst C (v := 0) dX11_byRounds_18 (by decide) ?_
        refine jr_istore_n C dX11_byRounds_19 (by decide) ?_
        refine jr_iconst C (v := 0) dX11_byRounds_20 (by decide) ?_
        refine jr_istore_n C dX11_byRounds_21 (by decide) ?_
        exact jr_sub [(0, jf_r E 0), (1, .int ((τ.1 0 69))), (2, .int 0), (3, .int 0)] rfl (l22 12 _ _ _ (by omega) (mS_a_t z h15.1) h15.2 (by decide) hJ.1 (by show _ - (0 : Int) < _; omega))
  exact l0 23 σ (mS_a_r σ) k0 hA hB (by omega)

