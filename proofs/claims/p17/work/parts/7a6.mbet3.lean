/-! the reference: better exactly -/
theorem g_ho_s {V V' : Nat → Nat → Int32} {n n' k : Nat} {s h b : Int32} {c q q' : Int32 × Int32 × Int32 × Int32} (e : q' = g_try V' n' s h b q) (hV : V' = V) (hn : n' = n) (hb : b = V 22 k) (hq : q = g_ho V n s h k c) : q' = g_ho V n s h (k + 1) c := by
  rw [e, hV, hn, hb, hq]; rfl
theorem g_ha_s {V V' : Nat → Nat → Int32} {n n' m j : Nat} {s h b : Int32} {c q q' : Int32 × Int32 × Int32 × Int32} (e : q' = g_try V' n' s h b q) (hV : V' = V) (hn : n' = n) (hh : h = nI j) (hb : b = V 17 s.toNatClampNeg) (hq : q = g_ho V n s h m (g_ha V n m s j c)) : q' = g_ha V n m s (j + 1) c := by
  rw [e, hV, hn, hb, hq, hh]; rfl
theorem g_be_f {N M H c : Nat} {V0 V : Nat → Nat → Int32} {q : Int32 × Int32 × Int32 × Int32} (hc : c < 40) (hB : g_be N M H 40 V0 = ((g_be N M H (40 - c) V).1 + c, (g_be N M H (40 - c) V).2)) (e : g_eq q (g_fi V N M H)) (h : q.2.1.toInt = -1) : g_be N M H 40 V0 = (c, V) := by
  obtain ⟨k, hk⟩ : ∃ k, 40 - c = k + 1 := ⟨39 - c, by omega⟩
  rw [hB, hk, g_be_0 (by rw [← e.2.1]; exact h), Nat.zero_add]
theorem g_be_n {N M H c : Nat} {V0 V : Nat → Nat → Int32} {q : Int32 × Int32 × Int32 × Int32} (hc : c < 40) (hB : g_be N M H 40 V0 = ((g_be N M H (40 - c) V).1 + c, (g_be N M H (40 - c) V).2)) (e : g_eq q (g_fi V N M H)) (h : ¬ q.2.1.toInt = -1) : g_be N M H 40 V0 = ((g_be N M H (40 - (c + 1)) (g_mv V q.2.1.toNatClampNeg q.2.2.1 q.2.2.2)).1 + (c + 1), (g_be N M H (40 - (c + 1)) (g_mv V q.2.1.toNatClampNeg q.2.2.1 q.2.2.2)).2) := by
  have e2 := e.2.1
  have e3 := e.2.2 (by rw [← e2]; exact h)
  have hk : 40 - c = (40 - (c + 1)) + 1 := by omega
  rw [hB, hk, g_be_1 (by rw [← e2]; exact h), e2, e3, Nat.add_assoc, Nat.add_comm 1 c]
set_option maxHeartbeats 4000000 in
theorem ct_X11_better2 (E : jf_E) (σ : jf_S) (hI : mI_s σ) (h4 : 0 ≤ ((σ.1 0 2)).toInt ∧ ((σ.1 0 2)).toInt ≤ 4) (hh : 0 ≤ ((σ.1 0 27)).toInt ∧ ((σ.1 0 27)).toInt ≤ 10) (hr : ∀ j, 0 ≤ ((σ.1 22) j).toInt ∧ ((σ.1 22) j).toInt ≤ 14399) : jf_I jh_M E yX11_better cX11_better 6 .int 5 [jf_r E 0] σ (fun r τ => (mI_s τ ∧ mS_b σ τ ∧ (τ.1 0 2) = (σ.1 0 2) ∧ (τ.1 0 27) = 0) ∧ r = nI (g_be ((σ.1 0 17)).toNatClampNeg ((σ.1 0 27)).toNatClampNeg ((σ.1 0 2)).toNatClampNeg 40 (m_G σ)).1 ∧ m_G τ = (g_be ((σ.1 0 17)).toNatClampNeg ((σ.1 0 27)).toNatClampNeg ((σ.1 0 2)).toNatClampNeg 40 (m_G σ)).2) := by
  refine jf_mkI (by decide) (Nat.le_of_ble_eq_true rfl) ?_
  intro G C ret
  have hE0 := hI.1
  have tE := ji_tn hE0.1
  have tM := ji_tn hh.1
  have tH := ji_tn h4.1
  have J169 : ∀ (υ : jf_S) (c : Int32) (L : List (Nat × Value)), mK σ υ → 0 ≤ c.toInt → g_be ((σ.1 0 17)).toNatClampNeg ((σ.1 0 27)).toNatClampNeg ((σ.1 0 2)).toNatClampNeg 40 (m_G σ) = (c.toNatClampNeg, m_G υ) → jf_lk 0 L = some (jf_r E 0) → jf_lk 1 L = some (.int c) → jf_X jh_M E G 6 169 L [] υ := by
    intro υ c L hU hc hF hL0 hL1
    refine jr_aload_n C dX11_better_169 hL0 ?_
    refine jr_iconst C (v := 0) dX11_better_170 (by decide) ?_
    refine jr_puti C kp_X11_228_0 dX11_better_171 ?_
    refine jr_iload_n C dX11_better_174 hL1 ?_
    exact ret _ _ _ _ dX11_better_175 rfl (⟨⟨mI_s_f hU.1 (by decide), mS_b_f hU.2.1 (by omega), hU.2.2.1, rfl⟩, by rw [hF]; exact ji_nI hc, by rw [hF]; exact m_G_c⟩)
  have J9z : ∀ (υ : jf_S) (c : Int32), mK σ υ → 0 ≤ c.toInt → g_be ((σ.1 0 17)).toNatClampNeg ((σ.1 0 27)).toNatClampNeg ((σ.1 0 2)).toNatClampNeg 40 (m_G σ) = (c.toNatClampNeg, m_G υ) → jf_X jh_M E G 6 9 [(0, jf_r E 0), (1, .int c), (2, .int 0)] [] υ := by
    intro υ c hU hc hF
    refine jr_iload_n C dX11_better_9 rfl ?_
    refine jr_if_eq C 169 dX11_better_10 (by decide) (fun _ => ?_) (fun b => absurd rfl b)
    exact J169 _ _ _ hU hc hF rfl rfl
  have outer : ∀ (m : Nat) (τ : jf_S) (c : Int32), mK σ τ → 40 - c.toInt < m → 0 ≤ c.toInt → c.toInt ≤ 40 → g_be ((σ.1 0 17)).toNatClampNeg ((σ.1 0 27)).toNatClampNeg ((σ.1 0 2)).toNatClampNeg 40 (m_G σ) = ((g_be ((σ.1 0 17)).toNatClampNeg ((σ.1 0 27)).toNatClampNeg ((σ.1 0 2)).toNatClampNeg (40 - c.toNatClampNeg) (m_G τ)).1 + c.toNatClampNeg, (g_be ((σ.1 0 17)).toNatClampNeg ((σ.1 0 27)).toNatClampNeg ((σ.1 0 2)).toNatClampNeg (40 - c.toNatClampNeg) (m_G τ)).2) → jf_X jh_M E G 6 9 [(0, jf_r E 0), (1, .int c), (2, .int 1)] [] τ := by
    intro m
    induction m with
    | zero => intro τ c hK g1 g2 g3 hB; exfalso; omega
    | succ m ih =>
      intro τ c hK g1 g2 g3 hB
      have ec := ji_inc (k := c) (by omega)
      have tc := ji_tn g2
      have esc := g_sc g2 ec
      have J120 : ∀ (υ : jf_S), mK σ υ → mI_c υ → c.toInt < 40 → m_G υ = m_G τ → m_q υ = g_sh (m_G τ) ((σ.1 0 17)).toNatClampNeg ((σ.1 0 27)).toNatClampNeg ((σ.1 0 2)).toNatClampNeg ((σ.1 0 17)).toNatClampNeg (g_grid (m_G τ) ((σ.1 0 17)).toNatClampNeg, -1, (τ.1 0 32), (τ.1 0 33)) → jf_X jh_M E G 6 120 [(0, jf_r E 0), (1, .int c)] [] υ := by
        intro υ hU hC gc hV hQ
        have hq := g_fi_of hQ
        have lo : g_lo ((σ.1 0 17)).toNatClampNeg (m_q υ) := by rw [hQ]; exact g_lo_sh (by omega) (Or.inl rfl) _ (Nat.le_refl _)
        have lo' : ((υ.1 0 31)).toInt = -1 ∨ (0 ≤ ((υ.1 0 31)).toInt ∧ ((υ.1 0 31)).toInt < (((σ.1 0 17)).toNatClampNeg : Int)) := lo
        have mv : m_G (jf_i (jf_i υ 16 ((υ.1 0 31)).toNatClampNeg ((υ.1 0 32))) 17 ((υ.1 0 31)).toNatClampNeg ((υ.1 0 33))) = g_mv (m_G τ) ((υ.1 0 31)).toNatClampNeg ((υ.1 0 32)) ((υ.1 0 33)) := by rw [m_G_mv, hV]
        refine jr_aload_n C dX11_better_120 rfl ?_
        refine jr_getv C kf_X11_234_0 dX11_better_121 (v := υ.1 0 31) rfl ?_
        refine jr_nif_lt C 131 dX11_better_124 (by decide) (fun b124 => ?_) (fun b124 => ?_)
        · refine jr_iconst C (v := 0) dX11_better_131 (by decide) ?_
          refine jr_istore_n C dX11_better_132 (by decide) ?_
          refine jr_iload_n C dX11_better_133 rfl ?_
          refine jr_if_eq C 9 dX11_better_134 (by decide) (fun _ => ?_) (fun b => absurd b (by decide))
          first | (have q := g_be_f (by omega) hB hq (show ((υ.1 0 31)).toInt = -1 by omega)); exact jr_sub [(0, jf_r E 0), (1, .int c), (2, .int 0)] rfl (J9z _ _ hU g2 (by rw [hV]; exact q)) | (have q := g_be_n (by omega) hB hq (show ¬ ((υ.1 0 31)).toInt = -1 by omega)); exact jr_sub [(0, jf_r E 0), (1, .int _), (2, .int 1)] rfl (ih _ _ ⟨mI_s_b (mI_s_h hU.1 (hC.2 (by omega)).1) (hC.2 (by omega)).2, mS_b_w (mS_b_w hU.2.1 (by omega)) (by omega), hU.2.2.1, hU.2.2.2⟩ (by omega) (by omega) (by omega) (by rw [mv, esc]; exact q))
        · refine jr_iconst C (v := 1) dX11_better_127 (by decide) ?_
          refine jr_goto C 132 dX11_better_128 (by decide) ?_
          refine jr_istore_n C dX11_better_132 (by decide) ?_
          refine jr_iload_n C dX11_better_133 rfl ?_
          refine jr_if_eq C 9 dX11_better_134 (by decide) (fun b => absurd b (by decide)) (fun _ => ?_)
          refine jr_aload_n C dX11_better_137 rfl ?_
          refine jr_getr C kf_X11_56_0 dX11_better_138 ?_
          refine jr_aload_n C dX11_better_141 rfl ?_
          refine jr_getv C kf_X11_234_0 dX11_better_142 (v := υ.1 0 31) rfl ?_
          refine jr_aload_n C dX11_better_145 rfl ?_
          refine jr_getv C kf_X11_237_0 dX11_better_146 (v := υ.1 0 32) rfl ?_
          refine jr_iast C ka_M_16 dX11_better_149 (ji_in (i := (υ.1 0 31)) (by omega) (by have := hC.1; omega)) ?_
          refine jr_aload_n C dX11_better_150 rfl ?_
          refine jr_getr C kf_X11_59_0 dX11_better_151 ?_
          refine jr_aload_n C dX11_better_154 rfl ?_
          refine jr_getv C kf_X11_234_0 dX11_better_155 (v := υ.1 0 31) rfl ?_
          refine jr_aload_n C dX11_better_158 rfl ?_
          refine jr_getv C kf_X11_240_0 dX11_better_159 (v := υ.1 0 33) rfl ?_
          refine jr_iast C ka_M_17 dX11_better_162 (ji_in (i := (υ.1 0 31)) (by omega) (by have := hC.1; omega)) ?_
          refine jr_iinc C _ dX11_better_163 rfl rfl (by decide) ?_
          refine jr_goto C 9 dX11_better_166 (by decide) ?_
          first | (have q := g_be_f (by omega) hB hq (show ((υ.1 0 31)).toInt = -1 by omega)); exact jr_sub [(0, jf_r E 0), (1, .int c), (2, .int 0)] rfl (J9z _ _ hU g2 (by rw [hV]; exact q)) | (have q := g_be_n (by omega) hB hq (show ¬ ((υ.1 0 31)).toInt = -1 by omega)); exact jr_sub [(0, jf_r E 0), (1, .int _), (2, .int 1)] rfl (ih _ _ ⟨mI_s_b (mI_s_h hU.1 (hC.2 (by omega)).1) (hC.2 (by omega)).2, mS_b_w (mS_b_w hU.2.1 (by omega)) (by omega), hU.2.2.1, hU.2.2.2⟩ (by omega) (by omega) (by omega) (by rw [mv, esc]; exact q))
      have loopS : ∀ (n : Nat) (υ : jf_S) (o : Int32), mK σ υ → mI_c υ → c.toInt < 40 → 0 ≤ o.toInt → o.toInt ≤ ((σ.1 0 17)).toInt → ((σ.1 0 17)).toInt - o.toInt < n → m_G υ = m_G τ → m_q υ = g_sh (m_G τ) ((σ.1 0 17)).toNatClampNeg ((σ.1 0 27)).toNatClampNeg ((σ.1 0 2)).toNatClampNeg o.toNatClampNeg (g_grid (m_G τ) ((σ.1 0 17)).toNatClampNeg, -1, (τ.1 0 32), (τ.1 0 33)) → jf_X jh_M E G 6 34 [(0, jf_r E 0), (1, .int c), (3, .int o)] [] υ := by
        intro n
        induction n with
        | zero => intro υ o k1 k2 k3 k4 k5 k6 kV kQ; exfalso; omega
        | succ n ihS =>
          intro υ o k1 k2 k3 k4 k5 k6 kV kQ
          have eo := ji_inc (k := o) (by have := hI.1; omega)
          have hE := k1.1.1
          have ee := mK_ever k1
          have eso := g_sc k4 eo
          have nO := ji_nI k4
          have kis : (υ.1 14) o.toNatClampNeg = m_G τ 14 o.toNatClampNeg := congrFun (congrFun kV 14) o.toNatClampNeg
          refine jr_iload_n C dX11_better_34 rfl ?_
          refine jr_aload_n C dX11_better_35 rfl ?_
          refine jr_geti C kf_X11_160_0 dX11_better_36 ?_
          refine jr_ncmp_ge C (b := ((σ.1 0 17)).toInt) 120 dX11_better_39 (by decide) rfl (by rw [ee]) (fun b39 => ?_) (fun b39 => ?_)
          · have eoe : o = (σ.1 0 17) := Int32.toInt_inj.mp (by omega)
            rw [eoe] at kQ
            exact jr_sub [(0, jf_r E 0), (1, .int c)] rfl (J120 _ k1 k2 k3 kV kQ)
          have J114 : ∀ (υ : jf_S), mK σ υ → mI_c υ → m_G υ = m_G τ → m_q υ = g_sh (m_G τ) ((σ.1 0 17)).toNatClampNeg ((σ.1 0 27)).toNatClampNeg ((σ.1 0 2)).toNatClampNeg (o.toNatClampNeg + 1) (g_grid (m_G τ) ((σ.1 0 17)).toNatClampNeg, -1, (τ.1 0 32), (τ.1 0 33)) → jf_X jh_M E G 6 114 [(0, jf_r E 0), (1, .int c), (3, .int o)] [] υ := by
            intro υ l1 l2 lV lQ
            rw [← eso] at lQ
            refine jr_iinc C _ dX11_better_114 rfl rfl (by decide) ?_
            refine jr_goto C 34 dX11_better_117 (by decide) ?_
            exact jr_sub [(0, jf_r E 0), (1, .int c), (3, .int _)] rfl (ihS _ _ l1 l2 k3 (by omega) (by omega) (by omega) lV lQ)
          by_cases his : ((υ.1 14) o.toNatClampNeg).toInt = 0
          · have kQ' : m_q υ = g_sh (m_G τ) ((σ.1 0 17)).toNatClampNeg ((σ.1 0 27)).toNatClampNeg ((σ.1 0 2)).toNatClampNeg (o.toNatClampNeg + 1) (g_grid (m_G τ) ((σ.1 0 17)).toNatClampNeg, -1, (τ.1 0 32), (τ.1 0 33)) := by rw [g_sh, if_pos (by rw [← kis]; exact his)]; exact kQ
            refine jr_iconst C (v := 0) dX11_better_42 (by decide) ?_
            refine jr_istore C dX11_better_43 (by decide) ?_
            refine jr_iload C dX11_better_45 rfl ?_
            refine jr_aload_n C dX11_better_47 rfl ?_
            refine jr_geti C kf_X11_150_0 dX11_better_48 ?_
            have e4 := k1.2.2.1
            refine jr_ncmp_ge C (b := ((σ.1 0 2)).toInt) 114 dX11_better_51 (by decide) rfl (by rw [e4]) (fun b51 => ?_) (fun b51 => ?_)
            · exact jr_sub [(0, jf_r E 0), (1, .int c), (3, .int o)] rfl (J114 _ k1 k2 kV kQ')
            refine jr_aload_n C dX11_better_54 rfl ?_
            refine jr_getr C kf_X11_49_0 dX11_better_55 ?_
            refine jr_iload_n C dX11_better_58 rfl ?_
            refine jr_zald C ka_M_14 dX11_better_59 (ji_in (i := o) (by omega) (by omega)) ?_
            refine jr_nif_eq C 114 dX11_better_60 (by decide) (fun b60 => ?_) (fun b60 => absurd his b60)
            exact jr_sub [(0, jf_r E 0), (1, .int c), (3, .int o)] rfl (J114 _ k1 k2 kV kQ')
          have hish : ¬ (m_G τ 14 o.toNatClampNeg).toInt = 0 := by rw [← kis]; exact his
          have loopH : ∀ (q : Nat) (υ : jf_S) (h : Int32), mK σ υ → mI_c υ → 0 ≤ h.toInt → h.toInt ≤ ((σ.1 0 2)).toInt → ((σ.1 0 2)).toInt - h.toInt < q → m_G υ = m_G τ → m_q υ = g_ha (m_G τ) ((σ.1 0 17)).toNatClampNeg ((σ.1 0 27)).toNatClampNeg o h.toNatClampNeg (g_sh (m_G τ) ((σ.1 0 17)).toNatClampNeg ((σ.1 0 27)).toNatClampNeg ((σ.1 0 2)).toNatClampNeg o.toNatClampNeg (g_grid (m_G τ) ((σ.1 0 17)).toNatClampNeg, -1, (τ.1 0 32), (τ.1 0 33))) → jf_X jh_M E G 6 45 [(0, jf_r E 0), (1, .int c), (3, .int o), (4, .int h)] [] υ := by
            intro q
            induction q with
            | zero => intro υ h l1 l2 l3 l4 l5 lV lQ; exfalso; omega
            | succ q ihH =>
              intro υ h l1 l2 l3 l4 l5 lV lQ
              have eh := ji_inc (k := h) (by omega)
              have esh := g_sc l3 eh
              have nH := ji_nI l3
              have ee := mK_ever l1
              have lis : (υ.1 14) o.toNatClampNeg = m_G τ 14 o.toNatClampNeg := congrFun (congrFun lV 14) o.toNatClampNeg
              have loopK : ∀ (z : Nat) (υ : jf_S) (k : Int32), mK σ υ → mI_c υ → h.toInt < ((σ.1 0 2)).toInt → 0 ≤ k.toInt → k.toInt ≤ ((σ.1 0 27)).toInt → ((σ.1 0 27)).toInt - k.toInt < z → m_G υ = m_G τ → m_q υ = g_ho (m_G τ) ((σ.1 0 17)).toNatClampNeg o h k.toNatClampNeg (g_ha (m_G τ) ((σ.1 0 17)).toNatClampNeg ((σ.1 0 27)).toNatClampNeg o h.toNatClampNeg (g_sh (m_G τ) ((σ.1 0 17)).toNatClampNeg ((σ.1 0 27)).toNatClampNeg ((σ.1 0 2)).toNatClampNeg o.toNatClampNeg (g_grid (m_G τ) ((σ.1 0 17)).toNatClampNeg, -1, (τ.1 0 32), (τ.1 0 33)))) → jf_X jh_M E G 6 66 [(0, jf_r E 0), (1, .int c), (3, .int o), (4, .int h), (5, .int k)] [] υ := by
                intro z
                induction z with
                | zero => intro υ k p1 p2 p3 p4 p5 p6 pV pQ; exfalso; omega
                | succ z ihK =>
                  intro υ k p1 p2 p3 p4 p5 p6 pV pQ
                  have ek := ji_inc (k := k) (by omega)
                  have esk := g_sc p4 ek
                  have eh2 := p1.2.2.2
                  have eq := mK_hours p1
                  have ev := mK_ever p1
                  have r1 : 0 ≤ ((υ.1 22) k.toNatClampNeg).toInt ∧ ((υ.1 22) k.toNatClampNeg).toInt ≤ 14399 := by rw [eq]; exact hr _
                  have v22 : (υ.1 22) k.toNatClampNeg = m_G τ 22 k.toNatClampNeg := congrFun (congrFun pV 22) k.toNatClampNeg
                  have v17 : (υ.1 17) o.toNatClampNeg = m_G τ 17 o.toNatClampNeg := congrFun (congrFun pV 17) o.toNatClampNeg
                  refine jr_iload C dX11_better_66 rfl ?_
                  refine jr_aload_n C dX11_better_68 rfl ?_
                  refine jr_geti C kf_X11_228_0 dX11_better_69 ?_
                  refine jr_ncmp_ge C (b := ((σ.1 0 27)).toInt) 95 dX11_better_72 (by decide) rfl (by rw [eh2]) (fun b72 => ?_) (fun b72 => ?_)
                  · have eke : k = (σ.1 0 27) := Int32.toInt_inj.mp (by omega)
                    rw [eke] at pQ
                    refine jr_aload_n C dX11_better_95 rfl ?_
                    refine jr_iload_n C dX11_better_96 rfl ?_
                    refine jr_iload C dX11_better_97 rfl ?_
                    refine jr_aload_n C dX11_better_99 rfl ?_
                    refine jr_getr C kf_X11_59_0 dX11_better_100 ?_
                    refine jr_iload_n C dX11_better_103 rfl ?_
                    refine jr_iald C ka_M_17 dX11_better_104 (ji_in (i := o) (by omega) (by omega)) ?_
                    refine jr_vv C [.int _, .int _, .int _] _ (ct_X11_tryChange2 E _ _ _ _ p1.1 (by omega) (by omega) (by omega) (by omega) (p1.1.2.2.2.2 _).1 (p1.1.2.2.2.2 _).2 p2) ky_X11_tryChange kv_X11_tryChange kk_M_0 km_X11_243 (by decide) rfl (Nat.le_of_ble_eq_true rfl) dX11_better_105 (fun τ105 h105 => ?_)
                    refine jr_iinc C _ dX11_better_108 rfl rfl (by decide) ?_
                    refine jr_goto C 45 dX11_better_111 (by decide) ?_
                    exact jr_sub [(0, jf_r E 0), (1, .int c), (3, .int o), (4, .int _)] rfl (ihH _ _ (mK_t p1 h105.1) h105.1.2.1 (by omega) (by omega) (by omega) (h105.2.1.trans pV) (by rw [esh]; exact g_ha_s h105.2.2 pV (by rw [ev]) nH v17 pQ))
                  · refine jr_aload_n C dX11_better_75 rfl ?_
                    refine jr_iload_n C dX11_better_76 rfl ?_
                    refine jr_iload C dX11_better_77 rfl ?_
                    refine jr_aload_n C dX11_better_79 rfl ?_
                    refine jr_getr C kf_X11_74_0 dX11_better_80 ?_
                    refine jr_iload C dX11_better_83 rfl ?_
                    refine jr_iald C ka_M_22 dX11_better_85 (ji_in (i := k) (by omega) (by omega)) ?_
                    refine jr_vv C [.int _, .int _, .int _] _ (ct_X11_tryChange2 E _ _ _ _ p1.1 (by omega) (by omega) (by omega) (by omega) r1.1 r1.2 p2) ky_X11_tryChange kv_X11_tryChange kk_M_0 km_X11_243 (by decide) rfl (Nat.le_of_ble_eq_true rfl) dX11_better_86 (fun τ86 h86 => ?_)
                    refine jr_iinc C _ dX11_better_89 rfl rfl (by decide) ?_
                    refine jr_goto C 66 dX11_better_92 (by decide) ?_
                    exact jr_sub [(0, jf_r E 0), (1, .int c), (3, .int o), (4, .int h), (5, .int _)] rfl (ihK _ _ (mK_t p1 h86.1) h86.1.2.1 p3 (by omega) (by omega) (by omega) (h86.2.1.trans pV) (by rw [esk]; exact g_ho_s h86.2.2 pV (by rw [ev]) v22 pQ))
              have e4 := l1.2.2.1
              refine jr_iload C dX11_better_45 rfl ?_
              refine jr_aload_n C dX11_better_47 rfl ?_
              refine jr_geti C kf_X11_150_0 dX11_better_48 ?_
              refine jr_ncmp_ge C (b := ((σ.1 0 2)).toInt) 114 dX11_better_51 (by decide) rfl (by rw [e4]) (fun b51 => ?_) (fun b51 => ?_)
              · have ehe : h = (σ.1 0 2) := Int32.toInt_inj.mp (by omega)
                rw [ehe] at lQ
                exact jr_sub [(0, jf_r E 0), (1, .int c), (3, .int o)] rfl (J114 _ l1 l2 lV (by rw [g_sh, if_neg hish, ← nO]; exact lQ))
              refine jr_aload_n C dX11_better_54 rfl ?_
              refine jr_getr C kf_X11_49_0 dX11_better_55 ?_
              refine jr_iload_n C dX11_better_58 rfl ?_
              refine jr_zald C ka_M_14 dX11_better_59 (ji_in (i := o) (by omega) (by omega)) ?_
              refine jr_nif_eq C 114 dX11_better_60 (by decide) (fun b60 => absurd (show (m_G τ 14 o.toNatClampNeg).toInt = 0 by rw [← lis]; exact b60) hish) (fun b60 => ?_)
              refine jr_iconst C (v := 0) dX11_better_63 (by decide) ?_
              refine jr_istore C dX11_better_64 (by decide) ?_
              exact jr_sub [(0, jf_r E 0), (1, .int c), (3, .int o), (4, .int h), (5, .int 0)] rfl (loopK 11 _ 0 l1 l2 (by omega) (by decide) (by show (0 : Int) ≤ _; omega) (by show _ - (0 : Int) < _; omega) lV lQ)
          refine jr_iconst C (v := 0) dX11_better_42 (by decide) ?_
          refine jr_istore C dX11_better_43 (by decide) ?_
          exact jr_sub [(0, jf_r E 0), (1, .int c), (3, .int o), (4, .int 0)] rfl (loopH 5 _ 0 k1 k2 (by decide) (by show (0 : Int) ≤ _; omega) (by show _ - (0 : Int) < _; omega) kV kQ)
      refine jr_iload_n C dX11_better_9 rfl ?_
      refine jr_if_eq C 169 dX11_better_10 (by decide) (fun b => absurd b (by decide)) (fun _ => ?_)
      refine jr_iload_n C dX11_better_13 rfl ?_
      refine jr_bipush C (v := 40) dX11_better_14 (by decide) ?_
      refine jr_ncmp_ge C (b := 40) 169 dX11_better_16 (by decide) rfl rfl (fun b16 => ?_) (fun b16 => ?_)
      · refine J169 _ _ _ hK g2 ?_ rfl rfl
        rw [hB, show 40 - c.toNatClampNeg = 0 by omega]
        show (0 + c.toNatClampNeg, m_G τ) = _
        rw [Nat.zero_add]
      refine jr_aload_n C dX11_better_19 rfl ?_
      refine jr_aload_n C dX11_better_20 rfl ?_
      refine jr_vi C [] _ (ct_X11_gridOf2 E _ hK.1) ky_X11_gridOf kv_X11_gridOf kk_M_0 km_X11_225 (by decide) rfl (Nat.le_of_ble_eq_true rfl) dX11_better_21 (fun r21 τ21 h21 => ?_)
      obtain ⟨q21, rfl⟩ := h21
      rw [mK_ever hK] at q21
      refine jr_puti C kp_X11_231_0 dX11_better_24 ?_
      refine jr_aload_n C dX11_better_27 rfl ?_
      refine jr_iconst C (v := -1) dX11_better_28 (by decide) ?_
      refine jr_puti C kp_X11_234_0 dX11_better_29 ?_
      refine jr_iconst C (v := 0) dX11_better_32 (by decide) ?_
      refine jr_istore_n C dX11_better_33 (by decide) ?_
      have hk2 : mK σ (jf_i (jf_i τ 0 34 r21) 0 31 (-1)) := ⟨mI_s_f (mI_s_f hK.1 (by decide)) (by decide), mS_b_f (mS_b_f hK.2.1 (by omega)) (by omega), hK.2.2.1, hK.2.2.2⟩
      exact jr_sub [(0, jf_r E 0), (1, .int c), (3, .int 0)] rfl (loopS 61 _ 0 hk2 ⟨show (-1 : Int32).toInt < 60 by decide, fun q => absurd (show 0 ≤ (-1 : Int32).toInt from q) (by decide)⟩ (by omega) (by decide) hI.1.1 (by show _ - 0 < _; have := hI.1; omega) (by rw [m_G_c, m_G_c]) (by show (r21, (-1 : Int32), (τ.1 0 32), (τ.1 0 33)) = (g_grid (m_G τ) ((σ.1 0 17)).toNatClampNeg, -1, (τ.1 0 32), (τ.1 0 33)); rw [q21]))
  refine jr_aload_n C dX11_better_0 rfl ?_
  refine jr_iconst C (v := 0) dX11_better_1 (by decide) ?_
  refine jr_puti C kp_X11_144_0 dX11_better_2 ?_
  refine jr_iconst C (v := 0) dX11_better_5 (by decide) ?_
  refine jr_istore_n C dX11_better_6 (by decide) ?_
  refine jr_iconst C (v := 1) dX11_better_7 (by decide) ?_
  refine jr_istore_n C dX11_better_8 (by decide) ?_
  exact jr_sub [(0, jf_r E 0), (1, .int 0), (2, .int 1)] rfl (outer 41 _ 0 ⟨hI, mS_b_f (mS_b_r σ) (by omega), rfl, rfl⟩ (by decide) (by decide) (by decide) (by rw [m_G_c]; rfl))

