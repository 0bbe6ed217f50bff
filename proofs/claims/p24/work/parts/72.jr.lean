/-! both states alike, as far as the simple answers go -/
def JR (σ τ : jf_S) : Prop := (σ.1 1 5) = (τ.1 0 2) ∧ (σ.1 2 8) = (τ.1 0 7) ∧ (σ.1 5 8) = (τ.1 0 27) ∧ (σ.1 6 6) = (τ.1 0 28) ∧ (σ.1 7 7) = (τ.1 0 35) ∧ (σ.1 7 8) = (τ.1 0 39) ∧ (σ.1 41) = (τ.1 27) ∧ (σ.1 42) = (τ.1 26) ∧ (σ.1 9 2) = (τ.1 0 58)
theorem jr_hall {σ τ σ1 τ1 : jf_S} {r1 r2 a b c d : Int32} (H : JX σ) (R : JR σ τ) (p : (r1, σ1) = x_hall σ a b c d) (q : (r2, τ1) = m_hall τ a b c d) : r1 = r2 ∧ JR σ1 τ1 := by
  have h1 := H.1
  obtain ⟨e1, e2⟩ := id R
  have e1' := congrArg Int32.toInt e1
  unfold x_hall x_hadd at p
  unfold m_hall at q
  repeat' split at p
  all_goals repeat' split at q
  all_goals first
    | (exfalso; omega)
    | (obtain ⟨rfl, rfl⟩ := Prod.mk.inj p; obtain ⟨rfl, rfl⟩ := Prod.mk.inj q; exact ⟨rfl, R⟩)
    | (obtain ⟨rfl, rfl⟩ := Prod.mk.inj p; obtain ⟨rfl, rfl⟩ := Prod.mk.inj q; exact ⟨show (σ.1 1 5) + 1 - 1 = (τ.1 0 2) + 1 - 1 by rw [e1], show (σ.1 1 5) + 1 = (τ.1 0 2) + 1 by rw [e1], e2⟩)
theorem jr_film {σ τ σ1 τ1 : jf_S} {r1 r2 a b c : Int32} (H : JX σ) (R : JR σ τ) (p : (r1, σ1) = x_film σ a b c) (q : (r2, τ1) = m_film τ a b c) : r1 = r2 ∧ JR σ1 τ1 := by
  have h1 := H.2.1
  obtain ⟨e1, e2, e3⟩ := id R
  have e1' := congrArg Int32.toInt e2
  unfold x_film x_fadd at p
  unfold m_film at q
  repeat' split at p
  all_goals repeat' split at q
  all_goals first
    | (exfalso; omega)
    | (obtain ⟨rfl, rfl⟩ := Prod.mk.inj p; obtain ⟨rfl, rfl⟩ := Prod.mk.inj q; exact ⟨rfl, R⟩)
    | (obtain ⟨rfl, rfl⟩ := Prod.mk.inj p; obtain ⟨rfl, rfl⟩ := Prod.mk.inj q; exact ⟨show (σ.1 2 8) + 1 - 1 = (τ.1 0 7) + 1 - 1 by rw [e2], e1, show (σ.1 2 8) + 1 = (τ.1 0 7) + 1 by rw [e2], e3⟩)
theorem jr_way {σ τ σ1 τ1 : jf_S} {r1 r2 a b c : Int32} (R : JR σ τ) (p : (r1, σ1) = x_way σ a b c) (q : (r2, τ1) = m_way τ a b c) : r1 = r2 ∧ JR σ1 τ1 := by
  unfold x_way at p
  unfold m_way at q
  repeat' split at p
  all_goals repeat' split at q
  all_goals first
    | contradiction
    | (obtain ⟨rfl, rfl⟩ := Prod.mk.inj p; obtain ⟨rfl, rfl⟩ := Prod.mk.inj q; exact ⟨rfl, R⟩)
theorem jr_guest {σ τ σ1 τ1 : jf_S} {r1 r2 a b c : Int32} (R : JR σ τ) (p : (r1, σ1) = x_guest σ a b c) (q : (r2, τ1) = m_guest τ a b c) : r1 = r2 ∧ JR σ1 τ1 := by
  have e2 := congrArg Int32.toInt R.2.1
  unfold x_guest at p
  unfold m_guest at q
  repeat' split at p
  all_goals repeat' split at q
  all_goals first
    | contradiction
    | (exfalso; omega)
    | (obtain ⟨rfl, rfl⟩ := Prod.mk.inj p; obtain ⟨rfl, rfl⟩ := Prod.mk.inj q; exact ⟨rfl, R⟩)
theorem jr_bar {σ τ σ1 τ1 : jf_S} {r1 r2 a b c d : Int32} (R : JR σ τ) (p : (r1, σ1) = x_bar σ a b c d) (q : (r2, τ1) = m_bar τ a b c d) : r1 = r2 ∧ JR σ1 τ1 := by
  have e2 := congrArg Int32.toInt R.2.1
  unfold x_bar at p
  unfold m_bar at q
  repeat' split at p
  all_goals repeat' split at q
  all_goals first
    | contradiction
    | (exfalso; omega)
    | (obtain ⟨rfl, rfl⟩ := Prod.mk.inj p; obtain ⟨rfl, rfl⟩ := Prod.mk.inj q; exact ⟨rfl, R⟩)
theorem jr_part {σ τ σ1 τ1 : jf_S} {r1 r2 a b : Int32} (R : JR σ τ) (p : (r1, σ1) = x_part σ a b) (q : (r2, τ1) = m_part τ a b) : r1 = r2 ∧ JR σ1 τ1 := by
  unfold x_part at p
  unfold m_part at q
  repeat' split at p
  all_goals repeat' split at q
  all_goals first
    | contradiction
    | (obtain ⟨rfl, rfl⟩ := Prod.mk.inj p; obtain ⟨rfl, rfl⟩ := Prod.mk.inj q; exact ⟨rfl, R⟩)
theorem jr_hour {σ τ σ1 τ1 : jf_S} {r1 r2 a : Int32} (H : JX σ) (R : JR σ τ) (p : (r1, σ1) = x_hour σ a) (q : (r2, τ1) = m_hour τ a) : r1 = r2 ∧ JR σ1 τ1 := by
  have h1 := H.2.2.2.1.1
  obtain ⟨e1, e2, e3, e4⟩ := id R
  have e1' := congrArg Int32.toInt e3
  unfold x_hour x_hradd at p
  unfold m_hour at q
  repeat' split at p
  all_goals repeat' split at q
  all_goals first
    | (exfalso; omega)
    | (obtain ⟨rfl, rfl⟩ := Prod.mk.inj p; obtain ⟨rfl, rfl⟩ := Prod.mk.inj q; exact ⟨rfl, R⟩)
    | (obtain ⟨rfl, rfl⟩ := Prod.mk.inj p; obtain ⟨rfl, rfl⟩ := Prod.mk.inj q; exact ⟨show (σ.1 5 8) + 1 = (τ.1 0 27) + 1 by rw [e3], e1, e2, show (σ.1 5 8) + 1 = (τ.1 0 27) + 1 by rw [e3], e4⟩)
theorem jr_doors {σ τ σ1 τ1 : jf_S} {r1 r2 a : Int32} (R : JR σ τ) (p : (r1, σ1) = x_doors σ a) (q : (r2, τ1) = m_doors τ a) : r1 = r2 ∧ JR σ1 τ1 := by
  obtain ⟨e1, e2, e3, e4, e5⟩ := id R
  unfold x_doors at p
  unfold m_doors at q
  repeat' split at p
  all_goals repeat' split at q
  all_goals first
    | contradiction
    | (obtain ⟨rfl, rfl⟩ := Prod.mk.inj p; obtain ⟨rfl, rfl⟩ := Prod.mk.inj q; exact ⟨rfl, R⟩)
    | (obtain ⟨rfl, rfl⟩ := Prod.mk.inj p; obtain ⟨rfl, rfl⟩ := Prod.mk.inj q; exact ⟨e4, e1, e2, e3, rfl, e5⟩)
theorem jr_juror {σ τ σ1 τ1 : jf_S} {r1 r2 a : Int32} (H : JX σ) (R : JR σ τ) (p : (r1, σ1) = x_juror σ a) (q : (r2, τ1) = m_juror τ a) : r1 = r2 ∧ JR σ1 τ1 := by
  have h1 := H.2.2.2.2.2.2.1.1
  obtain ⟨e1, e2, e3, e4, e5, e6⟩ := id R
  have e1' := congrArg Int32.toInt e5
  unfold x_juror x_jadd at p
  unfold m_juror at q
  repeat' split at p
  all_goals repeat' split at q
  all_goals first
    | (exfalso; omega)
    | (obtain ⟨rfl, rfl⟩ := Prod.mk.inj p; obtain ⟨rfl, rfl⟩ := Prod.mk.inj q; exact ⟨rfl, R⟩)
    | (obtain ⟨rfl, rfl⟩ := Prod.mk.inj p; obtain ⟨rfl, rfl⟩ := Prod.mk.inj q; exact ⟨show (σ.1 7 7) + 1 - 1 = (τ.1 0 35) + 1 - 1 by rw [e5], e1, e2, e3, e4, show (σ.1 7 7) + 1 = (τ.1 0 35) + 1 by rw [e5], e6⟩)
theorem jr_row {σ τ σ1 τ1 : jf_S} {r1 r2 a b c d : Int32} (H : JX σ) (R : JR σ τ) (p : (r1, σ1) = x_row σ a b c d) (q : (r2, τ1) = m_row τ a b c d) : r1 = r2 ∧ JR σ1 τ1 := by
  have h1 := H.2.2.2.2.2.2.1.2.2.2
  obtain ⟨e1, e2, e3, e4, e5, e6, e7⟩ := id R
  have e2' := congrArg Int32.toInt e2
  have e5' := congrArg Int32.toInt e5
  have e6' := congrArg Int32.toInt e6
  unfold x_row x_radd at p
  unfold m_row at q
  repeat' split at p
  all_goals repeat' split at q
  all_goals first
    | (exfalso; omega)
    | (obtain ⟨rfl, rfl⟩ := Prod.mk.inj p; obtain ⟨rfl, rfl⟩ := Prod.mk.inj q; exact ⟨rfl, R⟩)
    | (obtain ⟨rfl, rfl⟩ := Prod.mk.inj p; obtain ⟨rfl, rfl⟩ := Prod.mk.inj q; exact ⟨show (σ.1 7 8) + 1 = (τ.1 0 39) + 1 by rw [e6], e1, e2, e3, e4, e5, show (σ.1 7 8) + 1 = (τ.1 0 39) + 1 by rw [e6], e7⟩)
theorem jr_clear {σ τ σ1 τ1 : jf_S} {r1 r2 a : Int32} (R : JR σ τ) (p : (r1, σ1) = x_clear σ a) (q : (r2, τ1) = m_clear τ a) : r1 = r2 ∧ JR σ1 τ1 := by
  obtain ⟨e1, e2, e3, e4, e5, e6, e7, e8⟩ := id R
  have e5' := congrArg Int32.toInt e5
  have k1 : (jf_i σ 41 a.toNatClampNeg 0).1 41 = (jf_i τ 27 a.toNatClampNeg 0).1 27 := by rw [jf_i_at, jf_i_at, e7]
  unfold x_clear at p
  unfold m_clear at q
  repeat' split at p
  all_goals repeat' split at q
  all_goals first
    | (exfalso; omega)
    | (obtain ⟨rfl, rfl⟩ := Prod.mk.inj p; obtain ⟨rfl, rfl⟩ := Prod.mk.inj q; exact ⟨rfl, R⟩)
    | (obtain ⟨rfl, rfl⟩ := Prod.mk.inj p; obtain ⟨rfl, rfl⟩ := Prod.mk.inj q; exact ⟨congrFun e7 _, e1, e2, e3, e4, e5, e6, k1, e8⟩)
theorem jr_vote {σ τ σ1 τ1 : jf_S} {r1 r2 j f : Int32} (H : JX σ) (R : JR σ τ) (p : (r1, σ1) = x_vote σ j f) (q : (r2, τ1) = m_vote τ j f) : r1 = r2 ∧ JR σ1 τ1 := by
  have h1 := H.2.2.2.2.2.2.1.2.1 j.toNatClampNeg
  obtain ⟨e1, e2, e3, e4, e5, e6, e7, e8, e9⟩ := id R
  have e2' := congrArg Int32.toInt e2
  have e5' := congrArg Int32.toInt e5
  have k1 : ∀ v w : Int32, v = w → (jf_i σ 41 j.toNatClampNeg v).1 41 = (jf_i τ 27 j.toNatClampNeg w).1 27 := fun v w h => by rw [jf_i_at, jf_i_at, e7, h]
  have k2 : (jf_i σ 42 (j * 5 + (σ.1 41) j.toNatClampNeg).toNatClampNeg f).1 42 = (jf_i τ 26 (5 * j + (τ.1 27) j.toNatClampNeg).toNatClampNeg f).1 26 := by rw [jf_i_at, jf_i_at, e8, e7, Int32.mul_comm]
  unfold x_vote x_vadd at p
  unfold m_vote at q
  rw [← e7, ← e8] at q
  repeat' split at p
  all_goals repeat' split at q
  all_goals first
    | contradiction
    | (exfalso; omega)
    | (obtain ⟨rfl, rfl⟩ := Prod.mk.inj p; obtain ⟨rfl, rfl⟩ := Prod.mk.inj q; exact ⟨rfl, R⟩)
    | (obtain ⟨rfl, rfl⟩ := Prod.mk.inj p; obtain ⟨rfl, rfl⟩ := Prod.mk.inj q; rw [← e7] at k2; exact ⟨rfl, e1, e2, e3, e4, e5, e6, k1 _ _ rfl, k2, e9⟩)
theorem jr_feed {σ τ σ1 τ1 : jf_S} {r1 r2 a b c d e : Int32} (R : JR σ τ) (p : (r1, σ1) = x_feed σ a b c d e) (q : (r2, τ1) = m_feed τ a b c d e) : r1 = r2 ∧ JR σ1 τ1 := by
  obtain ⟨e1, e2, e3, e4, e5, e6, e7, e8, e9⟩ := id R
  have e9' := congrArg Int32.toInt e9
  by_cases c1 : ((σ.1 9 2)).toInt + 20 ≤ 300
  case neg =>
    rw [show x_feed σ a b c d e = (-1, σ) from if_neg c1] at p
    rw [show m_feed τ a b c d e = (-1, jf_i τ 0 0 0) from if_neg (by omega)] at q
    obtain ⟨rfl, rfl⟩ := Prod.mk.inj p
    obtain ⟨rfl, rfl⟩ := Prod.mk.inj q
    exact ⟨rfl, R⟩
  rw [show x_feed σ a b c d e = (((x_four (x_four (x_four (x_four (x_four σ a) b) c) d) e).1 9 2), x_four (x_four (x_four (x_four (x_four σ a) b) c) d) e) from if_pos c1] at p
  rw [show m_feed τ a b c d e = (((m_four (m_four (m_four (m_four (m_four (jf_i τ 0 0 0) a) b) c) d) e).1 0 58), m_four (m_four (m_four (m_four (m_four (jf_i τ 0 0 0) a) b) c) d) e) from if_pos (by omega)] at q
  obtain ⟨rfl, rfl⟩ := Prod.mk.inj p
  obtain ⟨rfl, rfl⟩ := Prod.mk.inj q
  have k : ((x_four (x_four (x_four (x_four (x_four σ a) b) c) d) e).1 9 2) = ((m_four (m_four (m_four (m_four (m_four (jf_i τ 0 0 0) a) b) c) d) e).1 0 58) := by
    rw [x_four_l, x_four_l, x_four_l, x_four_l, x_four_l, m_four_l, m_four_l, m_four_l, m_four_l, m_four_l, e9]; rfl
  have X : ∀ k, k ≠ 9 → k ≠ 49 → (x_four (x_four (x_four (x_four (x_four σ a) b) c) d) e).1 k = σ.1 k := fun k h1 h2 => by rw [x_four_o k h1 h2, x_four_o k h1 h2, x_four_o k h1 h2, x_four_o k h1 h2, x_four_o k h1 h2]
  have M : ∀ k, k ≠ 0 → k ≠ 37 → (m_four (m_four (m_four (m_four (m_four (jf_i τ 0 0 0) a) b) c) d) e).1 k = τ.1 k := fun k h1 h2 => by rw [m_four_o k h1 h2, m_four_o k h1 h2, m_four_o k h1 h2, m_four_o k h1 h2, m_four_o k h1 h2, jf_i_o k h1]
  have N : ∀ j, j ≠ 0 → j ≠ 58 → (m_four (m_four (m_four (m_four (m_four (jf_i τ 0 0 0) a) b) c) d) e).1 0 j = τ.1 0 j := fun j h1 h2 => by rw [m_four_j j h2, m_four_j j h2, m_four_j j h2, m_four_j j h2, m_four_j j h2, jf_i_ne h1]
  refine ⟨k, ?_⟩
  unfold JR
  rw [X 1 (by decide) (by decide), X 2 (by decide) (by decide), X 5 (by decide) (by decide), X 6 (by decide) (by decide), X 7 (by decide) (by decide), X 41 (by decide) (by decide), X 42 (by decide) (by decide), M 26 (by decide) (by decide), M 27 (by decide) (by decide), N 2 (by decide) (by decide), N 7 (by decide) (by decide), N 27 (by decide) (by decide), N 28 (by decide) (by decide), N 35 (by decide) (by decide), N 39 (by decide) (by decide)]
  exact ⟨e1, e2, e3, e4, e5, e6, e7, e8, k⟩
theorem jr_end {σ τ σ1 τ1 : jf_S} {r1 r2 n : Int32} (R : JR σ τ) (p : (r1, σ1) = x_end σ n) (q : (r2, τ1) = m_end τ n) : r1 = r2 ∧ JR σ1 τ1 := by
  obtain ⟨e1, e2, e3, e4, e5, e6, e7, e8, e9⟩ := id R
  have e9' := congrArg Int32.toInt e9
  unfold x_end at p
  unfold m_end at q
  repeat' split at p
  all_goals repeat' split at q
  all_goals first
    | (exfalso; omega)
    | (obtain ⟨rfl, rfl⟩ := Prod.mk.inj p; obtain ⟨rfl, rfl⟩ := Prod.mk.inj q; exact ⟨rfl, R⟩)
    | (obtain ⟨rfl, rfl⟩ := Prod.mk.inj p; obtain ⟨rfl, rfl⟩ := Prod.mk.inj q; exact ⟨rfl, e1, e2, e3, e4, e5, e6, e7, e8, rfl⟩)
theorem jr_x1 {σ τ σ1 : jf_S} (R : JR σ τ) (h : (σ1.1 1 5) = (σ.1 1 5) ∧ (σ1.1 2 8) = (σ.1 2 8) ∧ (σ1.1 5 8) = (σ.1 5 8) ∧ (σ1.1 6 6) = (σ.1 6 6) ∧ (σ1.1 7 7) = (σ.1 7 7) ∧ (σ1.1 7 8) = (σ.1 7 8) ∧ (σ1.1 41) = (σ.1 41) ∧ (σ1.1 42) = (σ.1 42) ∧ (σ1.1 9 2) = (σ.1 9 2)) : JR σ1 τ := by
  unfold JR; rw [h.1, h.2.1, h.2.2.1, h.2.2.2.1, h.2.2.2.2.1, h.2.2.2.2.2.1, h.2.2.2.2.2.2.1, h.2.2.2.2.2.2.2.1, h.2.2.2.2.2.2.2.2]; exact R
theorem jr_m1 {σ τ τ1 : jf_S} (R : JR σ τ) (h : (τ1.1 0 2) = (τ.1 0 2) ∧ (τ1.1 0 7) = (τ.1 0 7) ∧ (τ1.1 0 27) = (τ.1 0 27) ∧ (τ1.1 0 28) = (τ.1 0 28) ∧ (τ1.1 0 35) = (τ.1 0 35) ∧ (τ1.1 0 39) = (τ.1 0 39) ∧ (τ1.1 27) = (τ.1 27) ∧ (τ1.1 26) = (τ.1 26) ∧ (τ1.1 0 58) = (τ.1 0 58)) : JR σ τ1 := by
  unfold JR; rw [h.1, h.2.1, h.2.2.1, h.2.2.2.1, h.2.2.2.2.1, h.2.2.2.2.2.1, h.2.2.2.2.2.2.1, h.2.2.2.2.2.2.2.1, h.2.2.2.2.2.2.2.2]; exact R
theorem jr_take {σ τ σ1 τ1 : jf_S} {r1 r2 a : Int32} (R : JR σ τ) (p : (r1, σ1) = x_take σ a) (q : (r2, τ1) = m_take τ a) : JR σ1 τ1 := by
  unfold x_take at p
  unfold m_take at q
  repeat' split at p
  all_goals repeat' split at q
  all_goals (obtain ⟨rfl, rfl⟩ := Prod.mk.inj p; obtain ⟨rfl, rfl⟩ := Prod.mk.inj q; exact R)
theorem jr_come {σ τ σ1 τ1 : jf_S} {r1 r2 a b c : Int32} (R : JR σ τ) (p : (r1, σ1) = x_come σ a b c) (q : (r2, τ1) = m_come τ a b c) : JR σ1 τ1 := by
  unfold x_come at p
  unfold m_come at q
  repeat' split at p
  all_goals repeat' split at q
  all_goals (obtain ⟨rfl, rfl⟩ := Prod.mk.inj p; obtain ⟨rfl, rfl⟩ := Prod.mk.inj q; exact R)
theorem jr_delay {σ τ σ1 τ1 : jf_S} {r1 r2 a b : Int32} (R : JR σ τ) (p : (r1, σ1) = x_delay σ a b) (q : (r2, τ1) = m_delay τ a b) : JR σ1 τ1 := by
  unfold x_delay at p
  unfold m_delay at q
  repeat' split at p
  all_goals repeat' split at q
  all_goals (obtain ⟨rfl, rfl⟩ := Prod.mk.inj p; obtain ⟨rfl, rfl⟩ := Prod.mk.inj q; exact R)
theorem jr_round {σ τ τ1 : jf_S} {r2 a b : Int32} (R : JR σ τ) (q : (r2, τ1) = m_round τ a b) : JR σ τ1 := by
  unfold m_round at q
  repeat' split at q
  all_goals (obtain ⟨rfl, rfl⟩ := Prod.mk.inj q; exact R)
theorem jr_xput {σ τ σ1 : jf_S} {f h b s : Int32} (R : JR σ τ) (p : (∃ v : Int32, σ1 = x_told σ v) ∨ (∃ e v : Int32, ((0 ≤ f.toInt ∧ f.toInt < 20) ∧ (0 ≤ h.toInt ∧ h.toInt < 4) ∧ (0 ≤ b.toInt ∧ b.toInt ≤ 14399)) ∧ σ1 = x_told (x_sadd σ f h b e s).2 v)) : JR σ1 τ := by
  rcases p with ⟨v, p⟩ | ⟨e, v, q, p⟩
  · rw [p]; exact R
  · rw [p]; unfold x_sadd; split <;> exact R
theorem jr_mput {σ τ τ1 : jf_S} {f h b s r : Int32} (R : JR σ τ) (p : m_putq τ f h b s r τ1) : JR σ τ1 := by
  unfold m_putq at p
  rcases p with ⟨-, -, p⟩ | ⟨-, -, -, p⟩ | ⟨-, -, -, p⟩ | ⟨-, -, -, -, p⟩ | ⟨-, -, -, -, p⟩ <;> (rw [p]; exact R)
theorem jr_xlate {σ τ σ1 : jf_S} (R : JR σ τ) (p : xS_l σ σ1 ∧ xO σ1) : JR σ1 τ := by
  obtain ⟨⟨-, hk, hj⟩, -⟩ := p
  exact jr_x1 R ⟨by rw [hk 1 (by decide) (by decide) (by decide) (by decide)], by rw [hk 2 (by decide) (by decide) (by decide) (by decide)], by rw [hk 5 (by decide) (by decide) (by decide) (by decide)], hj 6 (by decide), by rw [hk 7 (by decide) (by decide) (by decide) (by decide)], by rw [hk 7 (by decide) (by decide) (by decide) (by decide)], hk 41 (by decide) (by decide) (by decide) (by decide), hk 42 (by decide) (by decide) (by decide) (by decide), by rw [hk 9 (by decide) (by decide) (by decide) (by decide)]⟩
theorem jr_mtrue {σ τ τ1 : jf_S} (R : JR σ τ) (p : mS_q τ τ1) : JR σ τ1 := by
  obtain ⟨-, hk⟩ := p
  have D : ∀ k, k ≠ 23 → k ≠ 24 → k ≠ 0 → τ1.1 k = τ.1 k := fun k a b c => (hk k a b).trans (jf_i_o k c)
  have F : ∀ j, j ≠ 0 → τ1.1 0 j = τ.1 0 j := fun j a => by rw [hk 0 (by decide) (by decide), jf_i_ne a]
  exact jr_m1 R ⟨F 2 (by decide), F 7 (by decide), F 27 (by decide), F 28 (by decide), F 35 (by decide), F 39 (by decide), D 27 (by decide) (by decide) (by decide), D 26 (by decide) (by decide) (by decide), F 58 (by decide)⟩
theorem jr_better {σ τ σ1 τ1 : jf_S} (R : JR σ τ) (p : ∃ υ : jf_S, xS_b σ υ ∧ xI υ ∧ σ1 = jf_i υ 5 8 0) (q : mI_s τ1 ∧ mS_b τ τ1 ∧ (τ1.1 0 2) = (τ.1 0 2) ∧ (τ1.1 0 27) = 0) : JR σ1 τ1 := by
  obtain ⟨e1, e2, e3, e4, e5, e6, e7, e8, e9⟩ := R
  obtain ⟨υ, ⟨-, hk, -⟩, -, rfl⟩ := p
  obtain ⟨-, ⟨-, mk, mj⟩, hh, hz⟩ := q
  have D : ∀ k, (k ≠ 5 ∧ k ≠ 26 ∧ k ≠ 27 ∧ k ≠ 28 ∧ k ≠ 35 ∧ k ≠ 36) → (jf_i υ 5 8 0).1 k = σ.1 k := fun k a => (jf_i_o k a.1).trans (hk k a.1 a.2.1 a.2.2.1 a.2.2.2.1 a.2.2.2.2.1 a.2.2.2.2.2)
  have F : ∀ j, (j ≠ 0 ∧ j ≠ 27 ∧ j ≠ 31 ∧ j ≠ 32 ∧ j ≠ 33 ∧ j ≠ 34) → τ1.1 0 j = τ.1 0 j := fun j a => mj j a.1 a.2.1 a.2.2.1 a.2.2.2.1 a.2.2.2.2.1 a.2.2.2.2.2
  unfold JR
  rw [D 1 (by decide), D 2 (by decide), D 6 (by decide), D 7 (by decide), D 41 (by decide), D 42 (by decide), D 9 (by decide), hh, hz, F 7 (by decide), F 28 (by decide), F 35 (by decide), F 39 (by decide), F 58 (by decide), mk 26 (by decide) (by decide) (by decide), mk 27 (by decide) (by decide) (by decide)]
  exact ⟨e1, e2, rfl, e4, e5, e6, e7, e8, e9⟩
theorem jr_rules {σ τ σ1 τ1 : jf_S} {r1 r2 : Int32} (R : JR σ τ) (p : (r1 = 0 ∨ r1 = -6) ∧ xS_R σ σ1 ∧ (σ1.1 9 2) = 0 ∧ xR σ1) (q : (r2 = 0 ∨ r2 = -6) ∧ mS_g [32, 33, 34, 35, 36] mJ_rules τ τ1 ∧ (τ1.1 0 58) = 0 ∧ mI_m τ1) : JR σ1 τ1 := by
  obtain ⟨e1, e2, e3, e4, e5, e6, e7, e8, e9⟩ := R
  obtain ⟨-, ⟨-, hk⟩, hl, -⟩ := p
  obtain ⟨-, ⟨mk, mj⟩, ht, -⟩ := q
  have D : ∀ k, (k ≠ 0 ∧ k ≠ 8 ∧ k ≠ 9 ∧ k ≠ 11 ∧ k ≠ 47 ∧ k ≠ 48 ∧ k ≠ 55 ∧ k ≠ 56) → σ1.1 k = σ.1 k := fun k a => hk k a.1 a.2.1 a.2.2.1 a.2.2.2.1 a.2.2.2.2.1 a.2.2.2.2.2.1 a.2.2.2.2.2.2.1 a.2.2.2.2.2.2.2
  unfold JR
  rw [D 1 (by decide), D 2 (by decide), D 5 (by decide), D 6 (by decide), D 7 (by decide), D 41 (by decide), D 42 (by decide), hl, ht, mj 2 (by decide), mj 7 (by decide), mj 27 (by decide), mj 28 (by decide), mj 35 (by decide), mj 39 (by decide), mk 26 (by decide) (by decide), mk 27 (by decide) (by decide)]
  exact ⟨e1, e2, e3, e4, e5, e6, e7, e8, rfl⟩
theorem jr_mcounts {σ τ τ1 : jf_S} (R : JR σ τ) (p : mS_p (jf_i τ 0 0 0) τ1) : JR σ τ1 := by
  obtain ⟨-, hk, hj⟩ := p
  have D : ∀ k, k ≠ 0 → k ≠ 36 → τ1.1 k = τ.1 k := fun k a b => (hk k a b).trans (jf_i_o k a)
  have F : ∀ j, j ≠ 0 → j ≠ 56 → τ1.1 0 j = τ.1 0 j := fun j a b => (hj j b).trans (jf_i_ne a)
  exact jr_m1 R ⟨F 2 (by decide) (by decide), F 7 (by decide) (by decide), F 27 (by decide) (by decide), F 28 (by decide) (by decide), F 35 (by decide) (by decide), F 39 (by decide) (by decide), D 27 (by decide) (by decide), D 26 (by decide) (by decide), F 58 (by decide) (by decide)⟩
theorem jr_xprize {σ τ σ1 : jf_S} {r : Int32} (R : JR σ τ) (p : ∃ υ : jf_S, xS_a σ υ ∧ xC υ ∧ σ1 = x_told υ r) : JR σ1 τ := by
  obtain ⟨υ, ⟨-, hk, hj⟩, -, rfl⟩ := p
  exact jr_x1 (σ1 := υ) R ⟨by rw [hk 1 (by decide) (by decide)], by rw [hk 2 (by decide) (by decide)], by rw [hk 5 (by decide) (by decide)], by rw [hk 6 (by decide) (by decide)], by rw [hk 7 (by decide) (by decide)], by rw [hk 7 (by decide) (by decide)], hk 41 (by decide) (by decide), hk 42 (by decide) (by decide), by rw [hk 9 (by decide) (by decide)]⟩
theorem jr_mprize {σ τ τ1 : jf_S} (R : JR σ τ) (p : mS_g mK_prize mJ_prize τ τ1 ∧ -1 ≤ ((τ1.1 0 69)).toInt ∧ ((τ1.1 0 69)).toInt ≤ 21) : JR σ τ1 := by
  obtain ⟨⟨hk, hj⟩, -⟩ := p
  exact jr_m1 R ⟨hj 2 (by decide), hj 7 (by decide), hj 27 (by decide), hj 28 (by decide), hj 35 (by decide), hj 39 (by decide), hk 27 (by decide) (by decide), hk 26 (by decide) (by decide), hj 58 (by decide)⟩
theorem jr_s0 : JR x_s0 m_s0 := ⟨rfl, rfl, rfl, rfl, rfl, rfl, rfl, rfl, rfl⟩
def JJ (σ τ : jf_S) : Prop := JX σ ∧ JM τ ∧ JR σ τ

