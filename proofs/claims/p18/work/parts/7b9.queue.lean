/-! the queue, stepped: exactly -/
def g_own (V : Nat → Nat → Int32) (s m : Int32) : Int32 := if m.toInt ≤ 10 then V 20 (51 * s + m + 40).toNatClampNeg else 0
def g_go (V : Nat → Nat → Int32) (d s i u : Int32) : Int32 := g_min (g_min u d) (V 2 (V 16 s.toNatClampNeg).toNatClampNeg - i)
def g_q1 (V : Nat → Nat → Int32) (d : Int32) (L : Int) (s m : Int32) (c : Int32 × Int32) : Int32 × Int32 := if L - 30 ≤ m.toInt ∧ m.toInt ≤ L + 10 then (c.1 + g_go V d s c.1 (c.2 + g_own V s m), c.2 + g_own V s m - g_go V d s c.1 (c.2 + g_own V s m)) else (c.1, c.2 + g_own V s m)
def g_qs (V : Nat → Nat → Int32) (d : Int32) (L : Int) (s : Int32) : Nat → Int32 × Int32
  | 0 => (0, 0)
  | k + 1 => g_q1 V d L s (Int32.ofInt ((k : Int) - 40)) (g_qs V d L s k)
theorem g_of_i (i : Int32) (k : Nat) (h : i.toInt = (k : Int) - 40) : Int32.ofInt ((k : Int) - 40) = i := by rw [← h]; exact Int32.ofInt_toInt i
theorem g_qs_s {V : Nat → Nat → Int32} {d : Int32} {L : Int} {s i j : Int32} {q c : Int32 × Int32} (h : c = g_qs V d L s (i.toInt + 40).toNat) (hi : -40 ≤ i.toInt) (e : j.toInt = i.toInt + 1) (hq : q = g_q1 V d L s i c) : q = g_qs V d L s (j.toInt + 40).toNat := by
  have e1 : (j.toInt + 40).toNat = (i.toInt + 40).toNat + 1 := by omega
  rw [e1, g_qs, g_of_i i _ (by omega), ← h]; exact hq
theorem g_min_c (a b : Int32) : g_min a b = g_min b a := by
  apply Int32.toInt_inj.mp
  unfold g_min
  (repeat' split) <;> omega
theorem g_q1_op {V : Nat → Nat → Int32} {d : Int32} {L : Int} {s m i u v g : Int32} (h : L - 30 ≤ m.toInt ∧ m.toInt ≤ L + 10) (hv : v = g_own V s m) (hg : g = g_go V d s i (u + v)) : (i + g, u + v - g) = g_q1 V d L s m (i, u) := by
  rw [hg, hv]; exact (if_pos h).symm
theorem g_q1_cl {V : Nat → Nat → Int32} {d : Int32} {L : Int} {s m i u v : Int32} (h : ¬ (L - 30 ≤ m.toInt ∧ m.toInt ≤ L + 10)) (hv : v = g_own V s m) : (i, u + v) = g_q1 V d L s m (i, u) := by
  rw [hv]; exact (if_neg h).symm
theorem g_q1_op0 {V : Nat → Nat → Int32} {d : Int32} {L : Int} {s m i u g : Int32} (h : L - 30 ≤ m.toInt ∧ m.toInt ≤ L + 10) (hv : ¬ m.toInt ≤ 10) (hg : g = g_go V d s i u) : (i + g, u - g) = g_q1 V d L s m (i, u) := by
  have e : g_own V s m = 0 := if_neg hv
  have := g_q1_op (d := d) (i := i) (u := u) (v := 0) (g := g) h e.symm (by rw [Int32.add_zero]; exact hg)
  rw [Int32.add_zero] at this; exact this
theorem g_q1_cl0 {V : Nat → Nat → Int32} {d : Int32} {L : Int} {s m i u : Int32} (h : ¬ (L - 30 ≤ m.toInt ∧ m.toInt ≤ L + 10)) (hv : ¬ m.toInt ≤ 10) : (i, u) = g_q1 V d L s m (i, u) := by
  have e : g_own V s m = 0 := if_neg hv
  have := g_q1_cl (d := d) (i := i) (u := u) (v := 0) h e.symm
  rw [Int32.add_zero] at this; exact this
theorem g_sum_go (a b g : Int32) : a + g + (b - g) = a + b := by
  rw [Int32.sub_eq_add_neg, Int32.add_assoc, ← Int32.add_assoc g b, Int32.add_comm g b, Int32.add_assoc b g, Int32.add_right_neg, Int32.add_zero]
/-- what queue answers -/
def g_qa (c : Int32 × Int32) (w : Int32) : Int32 := if w.toInt = 0 then c.1 else if w.toInt = 1 then c.2 else c.1 + c.2
def g_quv (V : Nat → Nat → Int32) (n : Nat) (s m w : Int32) : Prop := (0 ≤ s.toInt ∧ s.toInt < (n : Int) ∧ ¬ (V 14 s.toNatClampNeg).toInt = 0) ∧ (-40 ≤ m.toInt ∧ m.toInt ≤ 400) ∧ (0 ≤ w.toInt ∧ w.toInt ≤ 2)
def g_quq (V : Nat → Nat → Int32) (n : Nat) (d s m w r : Int32) : Prop := (¬ g_quv V n s m w ∧ r = -1) ∨ (g_quv V n s m w ∧ ∃ T : Nat → Int32, g_tr V n T ∧ r = g_qa (g_qs V d (T s.toNatClampNeg - V 17 s.toNatClampNeg).toInt s (m.toInt + 41).toNat) w)
theorem g_quq_u {V : Nat → Nat → Int32} {n : Nat} {d s m w r r' : Int32} (hn : n ≤ 60) (hb : ∀ j, 0 ≤ (V 17 j).toInt) (h : g_quq V n d s m w r) (h' : g_quq V n d s m w r') : r = r' := by
  rcases h with ⟨c, e⟩ | ⟨c, T, t, e⟩
  · rcases h' with ⟨c', e'⟩ | ⟨c', -⟩
    · rw [e, e']
    · exact absurd c' c
  · rcases h' with ⟨c', e'⟩ | ⟨c', T', t', e'⟩
    · exact absurd c c'
    · have ts := ji_tn c.1.1
      have c1 := c.1.2.1
      have u := g_tr_u hn hb t t' ((V 17 s.toNatClampNeg).toInt + 1).toNat s.toNatClampNeg (by omega) c.1.2.2 (by have := hb s.toNatClampNeg; omega)
      rw [e, e', u]
/-- how late it can grow -/
theorem g_tr_b {V : Nat → Nat → Int32} {n : Nat} {F : Int} (hn : n ≤ 60) {T : Nat → Int32} (h : g_tr V n T) (hC : gC V F) (hL : gL V n F) (hD : gD V) (hd : ∀ j, 0 ≤ (V 19 j).toInt ∧ (V 19 j).toInt ≤ 300) (hw : ∀ j, 0 ≤ (V 13 j).toInt ∧ (V 13 j).toInt ≤ 2000) : ∀ (m : Nat) (s : Nat), s < n → ¬ (V 14 s).toInt = 0 → (V 17 s).toInt < (m : Int) → (V 17 s).toInt ≤ (T s).toInt ∧ (T s).toInt ≤ 14399 + 2720 * (V 17 s).toInt
  | 0, s, _, _, hm => absurd hm (by have := (hD.1 s).1; omega)
  | m + 1, s, hs, hi, hm => by
    have bs := hD.1 s
    have te : ∀ k, ¬ (g_ah V k s n).toInt < 0 → 0 ≤ (g_te V T (g_ah V k s n).toNatClampNeg).toInt ∧ (g_te V T (g_ah V k s n).toNatClampNeg).toInt ≤ 14399 + 2720 * ((V 17 s).toInt - 1) + 600 := by
      intro k c
      rcases g_ah_r (V := V) (k := k) (s := s) n hn with z | ⟨j, j1, j2, j3, j4, j5⟩
      · exact absurd (by omega) c
      · have e := g_nI_t (j := j) (by omega)
        rw [j2, e.2]
        obtain ⟨i1, i2⟩ := g_tr_b hn h hC hL hD hd hw m j j1 j3 (by omega)
        have lj := hL j j1
        have tl := ji_tn lj.1
        have m2 := hC.2 (V 15 j).toNatClampNeg (by omega)
        have dj := hd j
        have bj := hD.1 j
        unfold g_te
        rw [fb_addI, fb_addI (by omega) (by omega)]
        · omega
        · rw [fb_addI (by omega) (by omega)]; omega
        · rw [fb_addI (by omega) (by omega)]; omega
    have c1 : 0 ≤ (g_cl V n T s).toInt ∧ (g_cl V n T s).toInt ≤ 14399 + 2720 * (V 17 s).toInt := by
      unfold g_cl
      split
      · exact ⟨by decide, by show (0 : Int) ≤ _; omega⟩
      · rename_i c
        have q := te 16 c
        have cl := hC.1 (V 16 s).toNatClampNeg
        rw [fb_addI (by omega) (by omega)]
        omega
    have c2 : 0 ≤ (g_th V n T s).toInt ∧ (g_th V n T s).toInt ≤ 14399 + 2720 * (V 17 s).toInt := by
      unfold g_th
      split
      · exact ⟨by decide, by show (0 : Int) ≤ _; omega⟩
      · rename_i c
        have q := te 15 c
        have cl : 0 ≤ (g_way V (V 16 (g_ah V 15 s n).toNatClampNeg) (V 16 s)).toInt ∧ (g_way V (V 16 (g_ah V 15 s n).toNatClampNeg) (V 16 s)).toInt ≤ 2000 := hw _
        rw [fb_addI (by omega) (by omega)]
        omega
    rw [h s hs hi]
    unfold g_tb
    rw [g_mx_i, g_mx_i]
    (repeat' split) <;> omega
theorem jl_q (x : Int32) : (x.toInt64 - 30).toInt = x.toInt - 30 ∧ (x.toInt64 + 10).toInt = x.toInt + 10 := by
  have h := fb_rng x
  have w := jl_w x
  constructor
  · rw [fb_subL (by rw [w]; show _ ≤ x.toInt - 30; omega) (by rw [w]; show x.toInt - 30 < _; omega), w]; rfl
  · rw [fb_addL (by rw [w]; show _ ≤ x.toInt + 10; omega) (by rw [w]; show x.toInt + 10 < _; omega), w]; rfl
theorem m_q_G {σ τ : jf_S} (h : mS_q σ τ) : m_G τ = m_G σ := (mS_true_G h).trans m_G_c
theorem m_q_d {σ τ : jf_S} (h : mS_q σ τ) : (τ.1 0 28) = (σ.1 0 28) := by
  have := h.2 0 (by decide) (by decide)
  rw [this]; rfl
set_option maxHeartbeats 2000000 in
theorem ct_X11_queue2 (E : jf_E) (σ : jf_S) (s m w : Int32) (hI : mI_s σ) : jf_I jh_M E yX11_queue cX11_queue 12 .int 2 [jf_r E 0, .int s, .int m, .int w] σ (fun r τ => g_quq (m_G σ) (m_E σ) ((σ.1 0 28)) s m w r ∧ mS_q σ τ) := by
  refine jf_mkI (by decide) (Nat.le_of_ble_eq_true rfl) ?_
  intro G C ret
  have hE := hI.1
  have te := ji_tn hE.1
  have eN : (m_E σ : Int) = ((σ.1 0 17)).toInt := te
  have mt : m_G (jf_i σ 0 0 0) = m_G σ := m_G_c
  have loop : ∀ (n : Nat) (τ : jf_S) (a c5 c6 c7 k : Int32), mS_q σ τ → g_quv (m_G σ) (m_E σ) s m w → (∃ T : Nat → Int32, g_tr (m_G σ) (m_E σ) T ∧ a = T s.toNatClampNeg - (σ.1 17) s.toNatClampNeg) → -40 ≤ k.toInt → k.toInt ≤ m.toInt + 1 → 401 - k.toInt < n → (c5, c6) = g_qs (m_G σ) ((σ.1 0 28)) a.toInt s (k.toInt + 40).toNat → c7 = c5 + c6 → jf_X jh_M E G 12 73 [(0, jf_r E 0), (1, .int s), (2, .int m), (3, .int w), (4, .int a), (5, .int c5), (6, .int c6), (7, .int c7), (8, .int k)] [] τ := by
    intro n
    induction n with
    | zero => intro τ a c5 c6 c7 k g0 g1 g2 g3 g4 g5 hq h7; obtain ⟨-, q1, -⟩ := g1; exfalso; omega
    | succ n ih =>
      intro τ a c5 c6 c7 k g0 g1 g2 g3 g4 g5 hq h7
      have hT := mS_true_I g0 hI
      have v1 := g1.1
      have v2 := g1.2.1
      have v3 := g1.2.2
      have ek := ji_inc (k := k) (by omega)
      have eG := m_q_G g0
      have ed := m_q_d g0
      have lq := jl_q a
      have kw := jl_w k
      refine jr_iload C dX11_queue_73 rfl ?_
      refine jr_iload_n C dX11_queue_75 rfl ?_
      refine jr_ncmp_gt C 216 dX11_queue_76 (by decide) rfl rfl (fun b76 => ?_) (fun b76 => ?_)
      · have e9 : (k.toInt + 40).toNat = (m.toInt + 41).toNat := by omega
        rw [e9] at hq
        obtain ⟨T, t1, t2⟩ := g2
        have fin : ∀ r : Int32, r = g_qa (c5, c6) w → g_quq (m_G σ) (m_E σ) ((σ.1 0 28)) s m w r := fun r h => Or.inr ⟨g1, T, t1, by rw [h, hq, t2]; rfl⟩
        refine jr_iload_n C dX11_queue_216 rfl ?_
        refine jr_nif_ne C 225 dX11_queue_217 (by decide) (fun b217 => ?_) (fun b217 => ?_)
        · refine jr_iload_n C dX11_queue_225 rfl ?_
          refine jr_iconst C (v := 1) dX11_queue_226 (by decide) ?_
          refine jr_ncmp_ne C (b := 1) 235 dX11_queue_227 (by decide) rfl rfl (fun b227 => ?_) (fun b227 => ?_)
          · refine jr_iload C dX11_queue_235 rfl ?_
            exact ret _ _ _ _ dX11_queue_237 rfl (⟨fin _ (by unfold g_qa; (repeat' split) <;> first | rfl | exact h7 | (exfalso; omega)), g0⟩)
          · refine jr_iload C dX11_queue_230 rfl ?_
            refine jr_goto C 237 dX11_queue_232 (by decide) ?_
            exact ret _ _ _ _ dX11_queue_237 rfl (⟨fin _ (by unfold g_qa; (repeat' split) <;> first | rfl | exact h7 | (exfalso; omega)), g0⟩)
        · refine jr_iload C dX11_queue_220 rfl ?_
          refine jr_goto C 237 dX11_queue_222 (by decide) ?_
          exact ret _ _ _ _ dX11_queue_237 rfl (⟨fin _ (by unfold g_qa; (repeat' split) <;> first | rfl | exact h7 | (exfalso; omega)), g0⟩)
      have J210 : ∀ (c5' c6' c7' : Int32), (c5', c6') = g_q1 (m_G σ) ((σ.1 0 28)) a.toInt s k (c5, c6) → c7' = c5' + c6' → jf_X jh_M E G 12 210 [(0, jf_r E 0), (1, .int s), (2, .int m), (3, .int w), (4, .int a), (5, .int c5'), (6, .int c6'), (7, .int c7'), (8, .int k)] [] τ := by
        intro c5' c6' c7' hq' h7'
        refine jr_iinc C _ dX11_queue_210 rfl rfl (by decide) ?_
        refine jr_goto C 73 dX11_queue_213 (by decide) ?_
        exact jr_sub [(0, jf_r E 0), (1, .int s), (2, .int m), (3, .int w), (4, .int a), (5, .int c5'), (6, .int c6'), (7, .int c7'), (8, .int _)] rfl (ih _ _ _ _ _ _ g0 g1 g2 (by omega) (by omega) (by omega) (g_qs_s hq g3 ek hq') h7')
      have J105 : ∀ (v : Int32), v = g_own (m_G σ) s k → jf_X jh_M E G 12 105 [(0, jf_r E 0), (1, .int s), (2, .int m), (3, .int w), (4, .int a), (5, .int c5), (6, .int c6), (7, .int c7), (8, .int k)] [.int v] τ := by
        intro v hv
        have op : ∀ g : Int32, (a.toInt - 30 ≤ k.toInt ∧ k.toInt ≤ a.toInt + 10) → g = g_min (g_min (c6 + v) ((τ.1 0 28))) ((τ.1 2) ((τ.1 16) s.toNatClampNeg).toNatClampNeg - c5) → (c5 + g, c6 + v - g) = g_q1 (m_G σ) ((σ.1 0 28)) a.toInt s k (c5, c6) := fun g h hg => g_q1_op h hv (by rw [hg, ed]; unfold g_go; rw [← eG]; rfl)
        have cl : ¬ (a.toInt - 30 ≤ k.toInt ∧ k.toInt ≤ a.toInt + 10) → (c5, c6 + v) = g_q1 (m_G σ) ((σ.1 0 28)) a.toInt s k (c5, c6) := fun h => g_q1_cl h hv
        have sm : ∀ g : Int32, c7 + v = c5 + g + (c6 + v - g) := fun g => by rw [g_sum_go, h7, Int32.add_assoc]
        have sc : c7 + v = c5 + (c6 + v) := by rw [h7, Int32.add_assoc]
        have y1 : (c6 + v).toInt < ((τ.1 0 28)).toInt → g_min (c6 + v) ((τ.1 0 28)) = c6 + v := fun h => if_pos h
        have y2 : ¬ (c6 + v).toInt < ((τ.1 0 28)).toInt → g_min (c6 + v) ((τ.1 0 28)) = (τ.1 0 28) := fun h => if_neg h
        refine jr_istore C dX11_queue_105 (by decide) ?_
        refine jr_iload C dX11_queue_107 rfl ?_
        refine jr_iload C dX11_queue_109 rfl ?_
        refine jr_iadd C dX11_queue_111 ?_
        refine jr_istore C dX11_queue_112 (by decide) ?_
        refine jr_iload C dX11_queue_114 rfl ?_
        refine jr_iload C dX11_queue_116 rfl ?_
        refine jr_iadd C dX11_queue_118 ?_
        refine jr_istore C dX11_queue_119 (by decide) ?_
        refine jr_iload C dX11_queue_121 rfl ?_
        refine jr_i2l C dX11_queue_123 ?_
        refine jr_iload C dX11_queue_124 rfl ?_
        refine jr_i2l C dX11_queue_126 ?_
        refine jr_ldc2 C kc_X11_255 dX11_queue_127 ?_
        refine jr_lsub C dX11_queue_130 ?_
        refine jr_iload C dX11_queue_131 rfl ?_
        refine jr_i2l C dX11_queue_133 ?_
        refine jr_ldc2 C kc_X11_249 dX11_queue_134 ?_
        refine jr_ladd C dX11_queue_137 ?_
        refine jr_sip C [.long _, .long _, .long _] _ (ct_X11_in E _ _ _ _) ky_X11_in ks_X11_in km_X11_153 (by decide) rfl (Nat.le_of_ble_eq_true rfl) dX11_queue_138 ?_
        refine jr_if_eq C 210 dX11_queue_141 (by decide) (fun b141 => ?_) (fun b141 => ?_)
        · replace b141 := jb_f b141
          first | (have q := cl (by omega)); exact jr_sub [(0, jf_r E 0), (1, .int s), (2, .int m), (3, .int w), (4, .int a), (5, .int c5), (6, .int _), (7, .int _), (8, .int k)] rfl (J210 _ _ _ q sc) | (have q := y1 (by omega)); exact jr_sub [(0, jf_r E 0), (1, .int s), (2, .int m), (3, .int w), (4, .int a), (5, .int _), (6, .int _), (7, .int _), (8, .int k)] rfl (J210 _ _ _ (op _ (by omega) (by rw [q]; first | exact (if_pos (by omega)).symm | exact (if_neg (by omega)).symm)) (sm _)) | (have q := y2 (by omega)); exact jr_sub [(0, jf_r E 0), (1, .int s), (2, .int m), (3, .int w), (4, .int a), (5, .int _), (6, .int _), (7, .int _), (8, .int k)] rfl (J210 _ _ _ (op _ (by omega) (by rw [q]; first | exact (if_pos (by omega)).symm | exact (if_neg (by omega)).symm)) (sm _))
        · replace b141 := jb_t b141
          refine jr_iload C dX11_queue_144 rfl ?_
          refine jr_aload_n C dX11_queue_146 rfl ?_
          refine jr_getv C kf_X11_77_0 dX11_queue_147 (v := τ.1 0 28) rfl ?_
          refine jr_ncmp_ge C 158 dX11_queue_150 (by decide) rfl rfl (fun b150 => ?_) (fun b150 => ?_)
          · refine jr_aload_n C dX11_queue_158 rfl ?_
            refine jr_getv C kf_X11_77_0 dX11_queue_159 (v := τ.1 0 28) rfl ?_
            refine jr_istore C dX11_queue_162 (by decide) ?_
            refine jr_aload_n C dX11_queue_164 rfl ?_
            refine jr_getr C kf_X11_13_0 dX11_queue_165 ?_
            refine jr_aload_n C dX11_queue_168 rfl ?_
            refine jr_getr C kf_X11_56_0 dX11_queue_169 ?_
            refine jr_iload_n C dX11_queue_172 rfl ?_
            refine jr_ialv C ka_M_16 dX11_queue_173 (ji_in (i := s) (by omega) (by omega)) (v := τ.1 16 _) rfl ?_
            refine jr_ialv C ka_M_2 dX11_queue_174 (mI_hall hT _ (by decide)) (v := τ.1 2 _) rfl ?_
            refine jr_iload C dX11_queue_175 rfl ?_
            refine jr_isub C dX11_queue_177 ?_
            refine jr_istore C dX11_queue_178 (by decide) ?_
            refine jr_iload C dX11_queue_180 rfl ?_
            refine jr_iload C dX11_queue_182 rfl ?_
            refine jr_ncmp_ge C 192 dX11_queue_184 (by decide) rfl rfl (fun b184 => ?_) (fun b184 => ?_)
            · refine jr_iload C dX11_queue_192 rfl ?_
              refine jr_istore C dX11_queue_194 (by decide) ?_
              refine jr_iload C dX11_queue_196 rfl ?_
              refine jr_iload C dX11_queue_198 rfl ?_
              refine jr_iadd C dX11_queue_200 ?_
              refine jr_istore C dX11_queue_201 (by decide) ?_
              refine jr_iload C dX11_queue_203 rfl ?_
              refine jr_iload C dX11_queue_205 rfl ?_
              refine jr_isub C dX11_queue_207 ?_
              refine jr_istore C dX11_queue_208 (by decide) ?_
              first | (have q := cl (by omega)); exact jr_sub [(0, jf_r E 0), (1, .int s), (2, .int m), (3, .int w), (4, .int a), (5, .int c5), (6, .int _), (7, .int _), (8, .int k)] rfl (J210 _ _ _ q sc) | (have q := y1 (by omega)); exact jr_sub [(0, jf_r E 0), (1, .int s), (2, .int m), (3, .int w), (4, .int a), (5, .int _), (6, .int _), (7, .int _), (8, .int k)] rfl (J210 _ _ _ (op _ (by omega) (by rw [q]; first | exact (if_pos (by omega)).symm | exact (if_neg (by omega)).symm)) (sm _)) | (have q := y2 (by omega)); exact jr_sub [(0, jf_r E 0), (1, .int s), (2, .int m), (3, .int w), (4, .int a), (5, .int _), (6, .int _), (7, .int _), (8, .int k)] rfl (J210 _ _ _ (op _ (by omega) (by rw [q]; first | exact (if_pos (by omega)).symm | exact (if_neg (by omega)).symm)) (sm _))
            · refine jr_iload C dX11_queue_187 rfl ?_
              refine jr_goto C 194 dX11_queue_189 (by decide) ?_
              refine jr_istore C dX11_queue_194 (by decide) ?_
              refine jr_iload C dX11_queue_196 rfl ?_
              refine jr_iload C dX11_queue_198 rfl ?_
              refine jr_iadd C dX11_queue_200 ?_
              refine jr_istore C dX11_queue_201 (by decide) ?_
              refine jr_iload C dX11_queue_203 rfl ?_
              refine jr_iload C dX11_queue_205 rfl ?_
              refine jr_isub C dX11_queue_207 ?_
              refine jr_istore C dX11_queue_208 (by decide) ?_
              first | (have q := cl (by omega)); exact jr_sub [(0, jf_r E 0), (1, .int s), (2, .int m), (3, .int w), (4, .int a), (5, .int c5), (6, .int _), (7, .int _), (8, .int k)] rfl (J210 _ _ _ q sc) | (have q := y1 (by omega)); exact jr_sub [(0, jf_r E 0), (1, .int s), (2, .int m), (3, .int w), (4, .int a), (5, .int _), (6, .int _), (7, .int _), (8, .int k)] rfl (J210 _ _ _ (op _ (by omega) (by rw [q]; first | exact (if_pos (by omega)).symm | exact (if_neg (by omega)).symm)) (sm _)) | (have q := y2 (by omega)); exact jr_sub [(0, jf_r E 0), (1, .int s), (2, .int m), (3, .int w), (4, .int a), (5, .int _), (6, .int _), (7, .int _), (8, .int k)] rfl (J210 _ _ _ (op _ (by omega) (by rw [q]; first | exact (if_pos (by omega)).symm | exact (if_neg (by omega)).symm)) (sm _))
          · refine jr_iload C dX11_queue_153 rfl ?_
            refine jr_goto C 162 dX11_queue_155 (by decide) ?_
            refine jr_istore C dX11_queue_162 (by decide) ?_
            refine jr_aload_n C dX11_queue_164 rfl ?_
            refine jr_getr C kf_X11_13_0 dX11_queue_165 ?_
            refine jr_aload_n C dX11_queue_168 rfl ?_
            refine jr_getr C kf_X11_56_0 dX11_queue_169 ?_
            refine jr_iload_n C dX11_queue_172 rfl ?_
            refine jr_ialv C ka_M_16 dX11_queue_173 (ji_in (i := s) (by omega) (by omega)) (v := τ.1 16 _) rfl ?_
            refine jr_ialv C ka_M_2 dX11_queue_174 (mI_hall hT _ (by decide)) (v := τ.1 2 _) rfl ?_
            refine jr_iload C dX11_queue_175 rfl ?_
            refine jr_isub C dX11_queue_177 ?_
            refine jr_istore C dX11_queue_178 (by decide) ?_
            refine jr_iload C dX11_queue_180 rfl ?_
            refine jr_iload C dX11_queue_182 rfl ?_
            refine jr_ncmp_ge C 192 dX11_queue_184 (by decide) rfl rfl (fun b184 => ?_) (fun b184 => ?_)
            · refine jr_iload C dX11_queue_192 rfl ?_
              refine jr_istore C dX11_queue_194 (by decide) ?_
              refine jr_iload C dX11_queue_196 rfl ?_
              refine jr_iload C dX11_queue_198 rfl ?_
              refine jr_iadd C dX11_queue_200 ?_
              refine jr_istore C dX11_queue_201 (by decide) ?_
              refine jr_iload C dX11_queue_203 rfl ?_
              refine jr_iload C dX11_queue_205 rfl ?_
              refine jr_isub C dX11_queue_207 ?_
              refine jr_istore C dX11_queue_208 (by decide) ?_
              first | (have q := cl (by omega)); exact jr_sub [(0, jf_r E 0), (1, .int s), (2, .int m), (3, .int w), (4, .int a), (5, .int c5), (6, .int _), (7, .int _), (8, .int k)] rfl (J210 _ _ _ q sc) | (have q := y1 (by omega)); exact jr_sub [(0, jf_r E 0), (1, .int s), (2, .int m), (3, .int w), (4, .int a), (5, .int _), (6, .int _), (7, .int _), (8, .int k)] rfl (J210 _ _ _ (op _ (by omega) (by rw [q]; first | exact (if_pos (by omega)).symm | exact (if_neg (by omega)).symm)) (sm _)) | (have q := y2 (by omega)); exact jr_sub [(0, jf_r E 0), (1, .int s), (2, .int m), (3, .int w), (4, .int a), (5, .int _), (6, .int _), (7, .int _), (8, .int k)] rfl (J210 _ _ _ (op _ (by omega) (by rw [q]; first | exact (if_pos (by omega)).symm | exact (if_neg (by omega)).symm)) (sm _))
            · refine jr_iload C dX11_queue_187 rfl ?_
              refine jr_goto C 194 dX11_queue_189 (by decide) ?_
              refine jr_istore C dX11_queue_194 (by decide) ?_
              refine jr_iload C dX11_queue_196 rfl ?_
              refine jr_iload C dX11_queue_198 rfl ?_
              refine jr_iadd C dX11_queue_200 ?_
              refine jr_istore C dX11_queue_201 (by decide) ?_
              refine jr_iload C dX11_queue_203 rfl ?_
              refine jr_iload C dX11_queue_205 rfl ?_
              refine jr_isub C dX11_queue_207 ?_
              refine jr_istore C dX11_queue_208 (by decide) ?_
              first | (have q := cl (by omega)); exact jr_sub [(0, jf_r E 0), (1, .int s), (2, .int m), (3, .int w), (4, .int a), (5, .int c5), (6, .int _), (7, .int _), (8, .int k)] rfl (J210 _ _ _ q sc) | (have q := y1 (by omega)); exact jr_sub [(0, jf_r E 0), (1, .int s), (2, .int m), (3, .int w), (4, .int a), (5, .int _), (6, .int _), (7, .int _), (8, .int k)] rfl (J210 _ _ _ (op _ (by omega) (by rw [q]; first | exact (if_pos (by omega)).symm | exact (if_neg (by omega)).symm)) (sm _)) | (have q := y2 (by omega)); exact jr_sub [(0, jf_r E 0), (1, .int s), (2, .int m), (3, .int w), (4, .int a), (5, .int _), (6, .int _), (7, .int _), (8, .int k)] rfl (J210 _ _ _ (op _ (by omega) (by rw [q]; first | exact (if_pos (by omega)).symm | exact (if_neg (by omega)).symm)) (sm _))
      have ow : k.toInt ≤ 10 → (τ.1 20) (51 * s + k + 40).toNatClampNeg = g_own (m_G σ) s k := fun h => by rw [← eG]; exact (if_pos h).symm
      have ow0 : ¬ k.toInt ≤ 10 → 0 = g_own (m_G σ) s k := fun h => (if_neg h).symm
      refine jr_iload C dX11_queue_79 rfl ?_
      refine jr_bipush C (v := 10) dX11_queue_81 (by decide) ?_
      refine jr_ncmp_gt C (b := 10) 104 dX11_queue_83 (by decide) rfl rfl (fun b83 => ?_) (fun b83 => ?_)
      · refine jr_iconst C (v := 0) dX11_queue_104 (by decide) ?_
        first | (have q := ow0 (by omega)); exact J105 _ q | (have q := ow (by omega)); exact J105 _ q
      · refine jr_aload_n C dX11_queue_86 rfl ?_
        refine jr_getr C kf_X11_68_0 dX11_queue_87 ?_
        refine jr_bipush C (v := 51) dX11_queue_90 (by decide) ?_
        refine jr_iload_n C dX11_queue_92 rfl ?_
        refine jr_imul C dX11_queue_93 ?_
        refine jr_iload C dX11_queue_94 rfl ?_
        refine jr_iadd C dX11_queue_96 ?_
        refine jr_bipush C (v := 40) dX11_queue_97 (by decide) ?_
        refine jr_iadd C dX11_queue_99 ?_
        refine jr_ialv C ka_M_20 dX11_queue_100 (ji_lin3 51 40 rfl rfl (by omega) (by omega) (by omega)) (v := τ.1 20 _) rfl ?_
        refine jr_goto C 105 dX11_queue_101 (by decide) ?_
        first | (have q := ow0 (by omega)); exact J105 _ q | (have q := ow (by omega)); exact J105 _ q
  refine jr_aload_n C dX11_queue_0 rfl ?_
  refine jr_iconst C (v := 0) dX11_queue_1 (by decide) ?_
  refine jr_puti C kp_X11_144_0 dX11_queue_2 ?_
  refine jr_aload_n C dX11_queue_5 rfl ?_
  refine jr_iload_n C dX11_queue_6 rfl ?_
  refine jr_vip C [.int _] _ (ct_X11_isShowing E _ _ (σ.1 0 17) (σ.1 14) rfl rfl (by omega)) ky_X11_isShowing kv_X11_isShowing kk_M_0 km_X11_204 (by decide) rfl (Nat.le_of_ble_eq_true rfl) dX11_queue_7 ?_
  refine jr_if_eq C 39 dX11_queue_10 (by decide) (fun b10 => ?_) (fun b10 => ?_)
  · replace b10 := jb_f b10
    refine jr_iconst C (v := -1) dX11_queue_39 (by decide) ?_
    exact ret _ _ _ _ dX11_queue_40 rfl (⟨Or.inl ⟨fun q => by have z : ¬ (σ.1 14) s.toNatClampNeg = 0 := fun z => q.1.2.2 (by show ((σ.1 14) s.toNatClampNeg).toInt = 0; rw [z]; rfl); obtain ⟨⟨q1, q2, -⟩, q3, q4⟩ := q; first | exact b10 ⟨q1, by omega, z⟩ | omega, rfl⟩, mS_q_r σ⟩)
  · replace b10 := jb_t b10
    refine jr_iload_n C dX11_queue_13 rfl ?_
    refine jr_i2l C dX11_queue_14 ?_
    refine jr_ldc2 C kc_X11_247 dX11_queue_15 ?_
    refine jr_ldc2 C kc_X11_253 dX11_queue_18 ?_
    refine jr_sip C [.long _, .long _, .long _] _ (ct_X11_inw E _ _ _ _ (-40) 400 rfl rfl) ky_X11_in ks_X11_in km_X11_153 (by decide) rfl (Nat.le_of_ble_eq_true rfl) dX11_queue_21 ?_
    refine jr_if_eq C 39 dX11_queue_24 (by decide) (fun b24 => ?_) (fun b24 => ?_)
    · replace b24 := jb_f b24
      refine jr_iconst C (v := -1) dX11_queue_39 (by decide) ?_
      exact ret _ _ _ _ dX11_queue_40 rfl (⟨Or.inl ⟨fun q => by have z : ¬ (σ.1 14) s.toNatClampNeg = 0 := fun z => q.1.2.2 (by show ((σ.1 14) s.toNatClampNeg).toInt = 0; rw [z]; rfl); obtain ⟨⟨q1, q2, -⟩, q3, q4⟩ := q; first | exact b10 ⟨q1, by omega, z⟩ | omega, rfl⟩, mS_q_r σ⟩)
    · replace b24 := jb_t b24
      refine jr_iload_n C dX11_queue_27 rfl ?_
      refine jr_i2l C dX11_queue_28 ?_
      refine jr_lconst C (v := 0) dX11_queue_29 (by decide) ?_
      refine jr_ldc2 C kc_X11_195 dX11_queue_30 ?_
      refine jr_sip C [.long _, .long _, .long _] _ (ct_X11_inw E _ _ _ _ 0 2 rfl rfl) ky_X11_in ks_X11_in km_X11_153 (by decide) rfl (Nat.le_of_ble_eq_true rfl) dX11_queue_33 ?_
      refine jr_if_ne C 41 dX11_queue_36 (by decide) (fun b36 => ?_) (fun b36 => ?_)
      · replace b36 := jb_t b36
        refine jr_aload_n C dX11_queue_41 rfl ?_
        refine jr_vv C [] _ (ct_X11_findTrue2 E _ hI) ky_X11_findTrue kv_X11_findTrue kk_M_0 km_X11_220 (by decide) rfl (Nat.le_of_ble_eq_true rfl) dX11_queue_42 (fun τ42 h42 => ?_)
        rw [mt] at h42
        refine jr_aload_n C dX11_queue_45 rfl ?_
        refine jr_getr C kf_X11_81_0 dX11_queue_46 ?_
        refine jr_iload_n C dX11_queue_49 rfl ?_
        refine jr_iald C ka_M_23 dX11_queue_50 (ji_in (i := s) (by omega) (by omega)) ?_
        refine jr_aload_n C dX11_queue_51 rfl ?_
        refine jr_getr C kf_X11_59_0 dX11_queue_52 ?_
        refine jr_iload_n C dX11_queue_55 rfl ?_
        refine jr_iald C ka_M_17 dX11_queue_56 (ji_in (i := s) (by omega) (by omega)) ?_
        refine jr_isub C dX11_queue_57 ?_
        refine jr_istore C dX11_queue_58 (by decide) ?_
        refine jr_iconst C (v := 0) dX11_queue_60 (by decide) ?_
        refine jr_istore C dX11_queue_61 (by decide) ?_
        refine jr_iconst C (v := 0) dX11_queue_63 (by decide) ?_
        refine jr_istore C dX11_queue_64 (by decide) ?_
        refine jr_iconst C (v := 0) dX11_queue_66 (by decide) ?_
        refine jr_istore C dX11_queue_67 (by decide) ?_
        refine jr_bipush C (v := -40) dX11_queue_69 (by decide) ?_
        refine jr_istore C dX11_queue_71 (by decide) ?_
        exact jr_sub [(0, jf_r E 0), (1, .int s), (2, .int m), (3, .int w), (4, .int _), (5, .int 0), (6, .int 0), (7, .int 0), (8, .int (-40))] rfl (loop 442 _ _ 0 0 0 (-40) h42.1 ⟨⟨b10.1, by omega, fun z => b10.2.2 (Int32.toInt_inj.mp z)⟩, by omega, by omega⟩ ⟨(τ42.1 23), h42.2, by rw [show (τ42.1 17) = (σ.1 17) from (h42.1.2 17 (by decide) (by decide))]⟩ (by decide) (by show (-40 : Int) ≤ _; omega) (by decide) rfl rfl)
      · replace b36 := jb_f b36
        refine jr_iconst C (v := -1) dX11_queue_39 (by decide) ?_
        exact ret _ _ _ _ dX11_queue_40 rfl (⟨Or.inl ⟨fun q => by have z : ¬ (σ.1 14) s.toNatClampNeg = 0 := fun z => q.1.2.2 (by show ((σ.1 14) s.toNatClampNeg).toInt = 0; rw [z]; rfl); obtain ⟨⟨q1, q2, -⟩, q3, q4⟩ := q; first | exact b10 ⟨q1, by omega, z⟩ | omega, rfl⟩, mS_q_r σ⟩)

