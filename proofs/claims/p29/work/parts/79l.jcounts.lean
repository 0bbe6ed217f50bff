/-! counts alike -/
theorem jt_x {σ τ : jf_S} (T : JT σ τ) : ∃ L : List Int32, (¬ ((σ.1 8 2)).toInt = 0 → x_rs σ L) ∧ (¬ ((τ.1 0 44)).toInt = 0 → q_rk ((τ.1 32)) ((τ.1 0 46)).toNatClampNeg) ∧ ((((σ.1 8 2)).toInt = 0 ∧ ((τ.1 0 44)).toInt = 0) ∨ (¬ ((σ.1 8 2)).toInt = 0 ∧ ¬ ((τ.1 0 44)).toInt = 0 ∧ (∀ i, i < L.length → (τ.1 32) i = L.getD i 0) ∧ ((τ.1 0 46)).toNatClampNeg = L.length)) := by
  rcases T.2.2.1 with ⟨e1, e2⟩ | ⟨t, hs, hx, hm⟩
  · have e1' : ((σ.1 8 2)).toInt = 0 := by rw [e1]; rfl
    have e2' : ((τ.1 0 44)).toInt = 0 := by rw [e2]; rfl
    exact ⟨[], fun h => absurd e1' h, fun h => absurd e2' h, Or.inl ⟨e1', e2'⟩⟩
  · obtain ⟨x1, x2, x3, x4, x5, x6⟩ := hx
    obtain ⟨m1, m2, m3, m4, m5, m6⟩ := hm
    obtain ⟨⟨s1, s2, s3⟩, s4, s5⟩ := hs
    refine ⟨t.1, fun _ => ⟨x2, x3, s1, s2, s3⟩, fun _ => ?_, Or.inr ⟨by rw [x1]; decide, by rw [m1]; decide, m3, ji_cl m2⟩⟩
    rw [ji_cl m2]; exact q_rk_of m3 s2
theorem jt_cf {σ τ : jf_S} {L : List Int32} (R : JR σ τ) (T : JT σ τ) (h1 : ∀ i, i < L.length → (τ.1 32) i = L.getD i 0) (h2 : ((τ.1 0 46)).toNatClampNeg = L.length) (j f k : Int32) : x_h σ L j f k = m_h τ j f k := by
  obtain ⟨t1, t2, t3, t4, t5, t6, t7, t8, t9⟩ := id T
  unfold x_h m_h
  rw [t4, t5, t6, t7, t8, R.2.2.2.2.2.1, h2]
  exact q_h_congr (fun i hi => (h1 i hi).symm)
theorem jt_counts {σ τ : jf_S} {r1 r2 j f k : Int32} {L : List Int32} (R : JR σ τ) (T : JT σ τ) (hL : (((σ.1 8 2)).toInt = 0 ∧ ((τ.1 0 44)).toInt = 0) ∨ (¬ ((σ.1 8 2)).toInt = 0 ∧ ¬ ((τ.1 0 44)).toInt = 0 ∧ (∀ i, i < L.length → (τ.1 32) i = L.getD i 0) ∧ ((τ.1 0 46)).toNatClampNeg = L.length)) (p : r1 = x_cq σ L j f k) (q : r2 = m_cq τ j f k) : r1 = r2 := by
  rw [p, q]
  unfold x_cq m_cq
  rw [R.2.1, R.2.2.2.2.1]
  split
  · rfl
  split
  · rfl
  rcases hL with ⟨a, b⟩ | ⟨a, b, c, d⟩
  · rw [if_pos a, if_pos b]
  · rw [if_neg a, if_neg b]
    unfold x_cf m_cf
    rw [jt_cf R T c d, R.2.2.2.2.2.2.1, R.2.2.2.2.2.2.2.1]

