/-! both states alike: tape, fault, rules that stand, jurors, rows, fame -/
def JT (σ τ : jf_S) : Prop := (σ.1 49) = (τ.1 37) ∧ (σ.1 9 3) = (τ.1 0 63) ∧ (((σ.1 8 2) = 0 ∧ (τ.1 0 44) = 0) ∨ ∃ t, q_std t ∧ x_sd σ t ∧ m_sd τ t) ∧ (σ.1 40) = (τ.1 25) ∧ (σ.1 43) = (τ.1 28) ∧ (σ.1 44) = (τ.1 29) ∧ (σ.1 45) = (τ.1 30) ∧ (σ.1 46) = (τ.1 31) ∧ (σ.1 19) = (τ.1 7)
theorem jt_of {σ τ σ1 τ1 : jf_S} (T : JT σ τ) (hx : ttX σ σ1) (hm : ttM τ τ1) : JT σ1 τ1 := by
  obtain ⟨x1, x2, x3, x4, x5, x6, x7, x8, x9, x10, x11⟩ := hx
  obtain ⟨m1, m2, m3, m4, m5, m6, m7, m8, m9, m10, m11, m12, m13, m14⟩ := hm
  unfold JT x_sd m_sd
  rw [x1, x2, x3, x4, x5, x6, x7, x8, x9, x10, x11, m1, m2, m3, m4, m5, m6, m7, m8, m9, m10, m11, m12, m13, m14]
  exact T
theorem jt_film {σ τ σ1 τ1 : jf_S} {r1 r2 a b c : Int32} (H : JX σ) (R : JR σ τ) (T : JT σ τ) (p : (r1, σ1) = x_film σ a b c) (q : (r2, τ1) = m_film τ a b c) : JT σ1 τ1 := by
  have h1 := H.2.1
  have e2 := R.2.1
  have e1' := congrArg Int32.toInt e2
  obtain ⟨t1, t2, t3, t4, t5, t6, t7, t8, t9⟩ := id T
  have k : ∀ c : Int32, upd ((σ.1 19)) ((σ.1 2 8)).toNatClampNeg c = upd ((τ.1 7)) ((τ.1 0 7)).toNatClampNeg c := fun c => by rw [e2, t9]
  unfold x_film x_fadd at p
  unfold m_film at q
  repeat' split at p
  all_goals repeat' split at q
  all_goals first
    | (exfalso; omega)
    | (obtain ⟨rfl, rfl⟩ := Prod.mk.inj p; obtain ⟨rfl, rfl⟩ := Prod.mk.inj q; exact T)
    | (obtain ⟨-, rfl⟩ := Prod.mk.inj p; obtain ⟨-, rfl⟩ := Prod.mk.inj q; refine ⟨t1, t2, t3, t4, t5, t6, t7, t8, ?_⟩; funext j; have := congrFun (k c) j; unfold upd at this; simp only [x_told, m_told, jf_i]; simpa using this)
theorem jt_juror {σ τ σ1 τ1 : jf_S} {r1 r2 a : Int32} (H : JX σ) (R : JR σ τ) (T : JT σ τ) (p : (r1, σ1) = x_juror σ a) (q : (r2, τ1) = m_juror τ a) : JT σ1 τ1 := by
  have h1 := H.2.2.2.2.2.2.1.1
  have e5 := R.2.2.2.2.1
  have e1' := congrArg Int32.toInt e5
  obtain ⟨t1, t2, t3, t4, t5⟩ := id T
  have k : upd ((σ.1 40)) ((σ.1 7 7)).toNatClampNeg a = upd ((τ.1 25)) ((τ.1 0 35)).toNatClampNeg a := by rw [e5, t4]
  unfold x_juror x_jadd at p
  unfold m_juror at q
  repeat' split at p
  all_goals repeat' split at q
  all_goals first
    | (exfalso; omega)
    | (obtain ⟨rfl, rfl⟩ := Prod.mk.inj p; obtain ⟨rfl, rfl⟩ := Prod.mk.inj q; exact T)
    | (obtain ⟨-, rfl⟩ := Prod.mk.inj p; obtain ⟨-, rfl⟩ := Prod.mk.inj q; refine ⟨t1, t2, t3, ?_, t5⟩; funext j; have := congrFun k j; unfold upd at this; simp only [x_told, m_told, jf_i]; simpa using this)
theorem jt_row {σ τ σ1 τ1 : jf_S} {r1 r2 a b c d : Int32} (H : JX σ) (R : JR σ τ) (T : JT σ τ) (p : (r1, σ1) = x_row σ a b c d) (q : (r2, τ1) = m_row τ a b c d) : JT σ1 τ1 := by
  have h1 := H.2.2.2.2.2.2.1.2.2.2
  obtain ⟨e1, e2, e3, e4, e5, e6, e7⟩ := id R
  have e2' := congrArg Int32.toInt e2
  have e5' := congrArg Int32.toInt e5
  have e6' := congrArg Int32.toInt e6
  obtain ⟨t1, t2, t3, t4, t5, t6, t7, t8, t9⟩ := id T
  have k1 : upd ((σ.1 43)) ((σ.1 7 8)).toNatClampNeg a = upd ((τ.1 28)) ((τ.1 0 39)).toNatClampNeg a := by rw [e6, t5]
  have k2 : upd ((σ.1 44)) ((σ.1 7 8)).toNatClampNeg b = upd ((τ.1 29)) ((τ.1 0 39)).toNatClampNeg b := by rw [e6, t6]
  have k3 : upd ((σ.1 45)) ((σ.1 7 8)).toNatClampNeg c = upd ((τ.1 30)) ((τ.1 0 39)).toNatClampNeg c := by rw [e6, t7]
  have k4 : upd ((σ.1 46)) ((σ.1 7 8)).toNatClampNeg d = upd ((τ.1 31)) ((τ.1 0 39)).toNatClampNeg d := by rw [e6, t8]
  unfold x_row x_radd at p
  unfold m_row at q
  repeat' split at p
  all_goals repeat' split at q
  all_goals first
    | (exfalso; omega)
    | (obtain ⟨rfl, rfl⟩ := Prod.mk.inj p; obtain ⟨rfl, rfl⟩ := Prod.mk.inj q; exact T)
    | (obtain ⟨-, rfl⟩ := Prod.mk.inj p
       obtain ⟨-, rfl⟩ := Prod.mk.inj q
       refine ⟨t1, t2, t3, t4, ?_, ?_, ?_, ?_, t9⟩
       · funext j; have := congrFun k1 j; unfold upd at this; simp only [x_told, m_told, jf_i]; simpa using this
       · funext j; have := congrFun k2 j; unfold upd at this; simp only [x_told, m_told, jf_i]; simpa using this
       · funext j; have := congrFun k3 j; unfold upd at this; simp only [x_told, m_told, jf_i]; simpa using this
       · funext j; have := congrFun k4 j; unfold upd at this; simp only [x_told, m_told, jf_i]; simpa using this)
/-- one byte of four, shifted either way -/
theorem jt_byte (v : Int32) : ((v.toUInt32 >>> (Int32.toUInt32 24 &&& Int32.toUInt32 31)).toInt32 &&& (255 : Int32)) = ((v >>> ((24 : Int32) &&& 31)) &&& (255 : Int32)) ∧ ((v.toUInt32 >>> (Int32.toUInt32 16 &&& Int32.toUInt32 31)).toInt32 &&& (255 : Int32)) = ((v >>> ((16 : Int32) &&& 31)) &&& (255 : Int32)) ∧ ((v.toUInt32 >>> (Int32.toUInt32 8 &&& Int32.toUInt32 31)).toInt32 &&& (255 : Int32)) = ((v >>> ((8 : Int32) &&& 31)) &&& (255 : Int32)) ∧ ((v.toUInt32 >>> (Int32.toUInt32 0 &&& Int32.toUInt32 31)).toInt32 &&& (255 : Int32)) = ((v >>> ((0 : Int32) &&& 31)) &&& (255 : Int32)) := by
  have b255 : ∀ i, (255 : BitVec 32).getLsbD i = decide (i < 8) := by
    intro i
    by_cases h : i < 32
    · have : ∀ j : Fin 32, (255 : BitVec 32).getLsbD j.1 = decide (j.1 < 8) := by decide
      exact this ⟨i, h⟩
    · rw [BitVec.getLsbD_of_ge _ _ (by omega)]; symm; exact decide_eq_false (by omega)
  have key : ∀ (x : BitVec 32) (n : Nat), n ≤ 24 → (x >>> n) &&& 255 = (x.sshiftRight n) &&& 255 := by
    intro x n hn
    apply BitVec.eq_of_getLsbD_eq
    intro i hi
    rw [BitVec.getLsbD_and, BitVec.getLsbD_and, b255]
    by_cases h : i < 8
    · rw [BitVec.getLsbD_ushiftRight, BitVec.getLsbD_sshiftRight]
      have h1 : ¬ 32 ≤ i := by omega
      have h2 : n + i < 32 := by omega
      simp [h1, h2]
    · rw [decide_eq_false h, Bool.and_false, Bool.and_false]
  refine ⟨?_, ?_, ?_, ?_⟩
  · apply Int32.toBitVec_inj.mp
    show (v.toBitVec >>> (24 : Nat)) &&& 255 = (v.toBitVec.sshiftRight 24) &&& 255
    exact key _ 24 (by decide)
  · apply Int32.toBitVec_inj.mp
    show (v.toBitVec >>> (16 : Nat)) &&& 255 = (v.toBitVec.sshiftRight 16) &&& 255
    exact key _ 16 (by decide)
  · apply Int32.toBitVec_inj.mp
    show (v.toBitVec >>> (8 : Nat)) &&& 255 = (v.toBitVec.sshiftRight 8) &&& 255
    exact key _ 8 (by decide)
  · apply Int32.toBitVec_inj.mp
    show (v.toBitVec >>> (0 : Nat)) &&& 255 = (v.toBitVec.sshiftRight 0) &&& 255
    exact key _ 0 (by decide)
/-- four places written -/
def jt_up4 (t : Nat → Int32) (l v : Int32) : Nat → Int32 := upd (upd (upd (upd t l.toNatClampNeg (v >>> (24 &&& 31) &&& 255)) (l + 1).toNatClampNeg (v >>> (16 &&& 31) &&& 255)) (l + 1 + 1).toNatClampNeg (v >>> (8 &&& 31) &&& 255)) (l + 1 + 1 + 1).toNatClampNeg (v >>> (0 &&& 31) &&& 255)
theorem x_four_p (σ : jf_S) (v : Int32) : ((x_four σ v).1 49) = jt_up4 ((σ.1 49)) ((σ.1 9 2)) v := by
  obtain ⟨b1, b2, b3, b4⟩ := jt_byte v
  show (x_four σ v).1 49 = _
  unfold x_four
  rw [jf_i_o 49 (by decide), jf_i_at, jf_i_o 49 (by decide), jf_i_at, jf_i_o 49 (by decide), jf_i_at, jf_i_o 49 (by decide), jf_i_at, b1, b2, b3, b4]
  rfl
theorem m_four_p (σ : jf_S) (v : Int32) : ((m_four σ v).1 37) = jt_up4 ((σ.1 37)) ((σ.1 0 58)) v := by
  show (m_four σ v).1 37 = _
  unfold m_four
  rw [jf_i_o 37 (by decide), jf_i_at, jf_i_o 37 (by decide), jf_i_at, jf_i_o 37 (by decide), jf_i_at, jf_i_o 37 (by decide), jf_i_at]
  rfl
theorem jt_four {σ τ : jf_S} {v : Int32} (T : JT σ τ) (e : (σ.1 9 2) = (τ.1 0 58)) : JT (x_four σ v) (m_four τ v) ∧ ((x_four σ v).1 9 2) = ((m_four τ v).1 0 58) := by
  refine ⟨?_, by rw [x_four_l, m_four_l, e]⟩
  unfold JT x_sd m_sd
  rw [x_four_p, m_four_p, show ((x_four σ v).1 9 3) = (σ.1 9 3) from rfl, x_four_o 8 (by decide) (by decide), x_four_o 47 (by decide) (by decide), x_four_o 48 (by decide) (by decide), x_four_o 40 (by decide) (by decide), x_four_o 43 (by decide) (by decide), x_four_o 44 (by decide) (by decide), x_four_o 45 (by decide) (by decide), x_four_o 46 (by decide) (by decide), x_four_o 19 (by decide) (by decide), m_four_j 63 (by decide), m_four_j 44 (by decide), m_four_j 46 (by decide), m_four_o 32 (by decide) (by decide), m_four_j 48 (by decide), m_four_o 33 (by decide) (by decide), m_four_j 49 (by decide), m_four_o 25 (by decide) (by decide), m_four_o 28 (by decide) (by decide), m_four_o 29 (by decide) (by decide), m_four_o 30 (by decide) (by decide), m_four_o 31 (by decide) (by decide), m_four_o 7 (by decide) (by decide)]
  exact ⟨by rw [T.1, e], T.2⟩
theorem jt_feed {σ τ σ1 τ1 : jf_S} {r1 r2 a b c d e : Int32} (R : JR σ τ) (T : JT σ τ) (p : (r1, σ1) = x_feed σ a b c d e) (q : (r2, τ1) = m_feed τ a b c d e) : JT σ1 τ1 := by
  have e9 := R.2.2.2.2.2.2.2.2
  have e9' := congrArg Int32.toInt e9
  by_cases c1 : ((σ.1 9 2)).toInt + 20 ≤ 300
  case neg =>
    rw [show x_feed σ a b c d e = (-1, σ) from if_neg c1] at p
    rw [show m_feed τ a b c d e = (-1, jf_i τ 0 0 0) from if_neg (by omega)] at q
    obtain ⟨rfl, rfl⟩ := Prod.mk.inj p
    obtain ⟨rfl, rfl⟩ := Prod.mk.inj q
    exact T
  rw [show x_feed σ a b c d e = (((x_four (x_four (x_four (x_four (x_four σ a) b) c) d) e).1 9 2), x_four (x_four (x_four (x_four (x_four σ a) b) c) d) e) from if_pos c1] at p
  rw [show m_feed τ a b c d e = (((m_four (m_four (m_four (m_four (m_four (jf_i τ 0 0 0) a) b) c) d) e).1 0 58), m_four (m_four (m_four (m_four (m_four (jf_i τ 0 0 0) a) b) c) d) e) from if_pos (by omega)] at q
  obtain ⟨-, rfl⟩ := Prod.mk.inj p
  obtain ⟨-, rfl⟩ := Prod.mk.inj q
  have T0 : JT σ (jf_i τ 0 0 0) := T
  obtain ⟨T1, l1⟩ := jt_four (v := a) T0 e9
  obtain ⟨T2, l2⟩ := jt_four (v := b) T1 l1
  obtain ⟨T3, l3⟩ := jt_four (v := c) T2 l2
  obtain ⟨T4, l4⟩ := jt_four (v := d) T3 l3
  exact (jt_four (v := e) T4 l4).1
theorem x_rl_old {a : Nat → Int32} {n : Nat} {σ τ : jf_S} {r : Int32} (h : x_rl a n σ τ r) : (r = 0 ∨ r = -6) ∧ xS_R σ τ ∧ (τ.1 9 2) = 0 ∧ xR τ := by
  refine ⟨?_, h.2.2⟩
  cases e : q_rules a n (tk_a a n 0) with
  | inl t => exact Or.inl (h.1 t e).1
  | inr z => exact Or.inr (h.2.1 z e).1
theorem m_rl_old {a : Nat → Int32} {n : Nat} {σ τ : jf_S} {r : Int32} (h : m_rl a n σ τ r) : (r = 0 ∨ r = -6) ∧ mS_g [32, 33, 34, 35, 36] mJ_rules σ τ ∧ (τ.1 0 58) = 0 ∧ mI_m τ := by
  refine ⟨?_, h.2.2⟩
  cases e : q_rules a n (tk_a a n 0) with
  | inl t => exact Or.inl (h.1 t e).1
  | inr z => exact Or.inr (h.2.1 z e).1
theorem jt_rules {σ τ σ1 τ1 : jf_S} {r1 r2 : Int32} (H : JX σ) (R : JR σ τ) (T : JT σ τ) (p : x_rl ((σ.1 49)) ((σ.1 9 2)).toNatClampNeg σ σ1 r1) (q : m_rl ((τ.1 37)) ((τ.1 0 58)).toNatClampNeg τ τ1 r2) : r1 = r2 ∧ JT σ1 τ1 := by
  have e9 := R.2.2.2.2.2.2.2.2
  obtain ⟨t1, t2, t3, t4, t5, t6, t7, t8, t9⟩ := id T
  rw [t1, e9] at p
  obtain ⟨p1, p2, ⟨-, hk⟩, p4, p5⟩ := p
  obtain ⟨q1, q2, ⟨mk, mj⟩, q4, q5⟩ := q
  have D : ∀ k, (k ≠ 0 ∧ k ≠ 8 ∧ k ≠ 9 ∧ k ≠ 11 ∧ k ≠ 47 ∧ k ≠ 48 ∧ k ≠ 55 ∧ k ≠ 56) → σ1.1 k = σ.1 k := fun k a => hk k a.1 a.2.1 a.2.2.1 a.2.2.2.1 a.2.2.2.2.1 a.2.2.2.2.2.1 a.2.2.2.2.2.2.1 a.2.2.2.2.2.2.2
  have F : (((σ1.1 8 2) = 0 ∧ (τ1.1 0 44) = 0) ∨ ∃ t, q_std t ∧ x_sd σ1 t ∧ m_sd τ1 t) → (σ1.1 9 3) = (τ1.1 0 63) → JT σ1 τ1 := by
    intro S f
    refine ⟨?_, f, S, ?_, ?_, ?_, ?_, ?_, ?_⟩
    · exact ((D 49 (by decide)).trans t1).trans (mk 37 (by decide) (by decide)).symm
    · exact ((D 40 (by decide)).trans t4).trans (mk 25 (by decide) (by decide)).symm
    · exact ((D 43 (by decide)).trans t5).trans (mk 28 (by decide) (by decide)).symm
    · exact ((D 44 (by decide)).trans t6).trans (mk 29 (by decide) (by decide)).symm
    · exact ((D 45 (by decide)).trans t7).trans (mk 30 (by decide) (by decide)).symm
    · exact ((D 46 (by decide)).trans t8).trans (mk 31 (by decide) (by decide)).symm
    · exact ((D 19 (by decide)).trans t9).trans (mk 7 (by decide) (by decide)).symm
  cases e : q_rules ((τ.1 37)) ((τ.1 0 58)).toNatClampNeg (tk_a ((τ.1 37)) ((τ.1 0 58)).toNatClampNeg 0) with
  | inl t =>
    obtain ⟨a1, a2, a3⟩ := p1 t e
    obtain ⟨b1, b2, b3⟩ := q1 t e
    refine ⟨by rw [a1, b1], F (Or.inr ⟨t, ?_, a3, b3⟩) (by rw [a2, b2])⟩
    have hl := H.2.2.2.2.2.2.2.2
    rw [e9] at hl
    have hn := ji_tn hl.1
    exact q_rules_std (by omega) (tk_a_ok (Nat.zero_le _)).2 e
  | inr z =>
    obtain ⟨a1, a2, a3, a4, a5⟩ := p2 z e
    obtain ⟨b1, b2, b3⟩ := q2 z e
    refine ⟨by rw [a1, b1], F ?_ (Int32.toInt_inj.mp (by rw [a2, b2]))⟩
    obtain ⟨k1, k2, k3, k4, k5, k6⟩ := b3
    unfold x_sd m_sd
    rw [a3, a4, a5, k1, k2, k3, k4, k5, k6]
    exact t3
theorem jt_s0 : JT x_s0 m_s0 := ⟨rfl, rfl, Or.inl ⟨rfl, rfl⟩, rfl, rfl, rfl, rfl, rfl, rfl⟩
def JJ2 (σ τ : jf_S) : Prop := JX σ ∧ JM τ ∧ JR σ τ ∧ JT σ τ

