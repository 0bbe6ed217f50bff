def wwX (σ σ1 : jf_S) : Prop := σ1.1 54 = σ.1 54 ∧ σ1.1 10 8 = σ.1 10 8
def wwM (τ τ1 : jf_S) : Prop := τ1.1 41 = τ.1 41 ∧ τ1.1 0 69 = τ.1 0 69 ∧ τ1.1 0 7 = τ.1 0 7
theorem wwX_r (σ : jf_S) : wwX σ σ := ⟨rfl, rfl⟩
theorem wwM_r (τ : jf_S) : wwM τ τ := ⟨rfl, rfl, rfl⟩
theorem wwM_0 (τ : jf_S) : wwM τ (jf_i τ 0 0 0) := ⟨rfl, rfl, rfl⟩
theorem wwX_hall {σ σ1 : jf_S} {r a b c d : Int32} (p : (r, σ1) = x_hall σ a b c d) : wwX σ σ1 := by
  unfold x_hall x_hadd at p
  repeat' split at p
  all_goals (obtain ⟨-, rfl⟩ := Prod.mk.inj p; exact ⟨rfl, rfl⟩)
theorem wwM_hall {τ τ1 : jf_S} {r a b c d : Int32} (p : (r, τ1) = m_hall τ a b c d) : wwM τ τ1 := by
  unfold m_hall at p
  repeat' split at p
  all_goals (obtain ⟨-, rfl⟩ := Prod.mk.inj p; exact ⟨rfl, rfl, rfl⟩)
theorem wwX_way {σ σ1 : jf_S} {r a b c : Int32} (p : (r, σ1) = x_way σ a b c) : wwX σ σ1 := by
  unfold x_way at p
  repeat' split at p
  all_goals (obtain ⟨-, rfl⟩ := Prod.mk.inj p; exact ⟨rfl, rfl⟩)
theorem wwM_way {τ τ1 : jf_S} {r a b c : Int32} (p : (r, τ1) = m_way τ a b c) : wwM τ τ1 := by
  unfold m_way at p
  repeat' split at p
  all_goals (obtain ⟨-, rfl⟩ := Prod.mk.inj p; exact ⟨rfl, rfl, rfl⟩)
theorem wwX_guest {σ σ1 : jf_S} {r a b c : Int32} (p : (r, σ1) = x_guest σ a b c) : wwX σ σ1 := by
  unfold x_guest at p
  repeat' split at p
  all_goals (obtain ⟨-, rfl⟩ := Prod.mk.inj p; exact ⟨rfl, rfl⟩)
theorem wwM_guest {τ τ1 : jf_S} {r a b c : Int32} (p : (r, τ1) = m_guest τ a b c) : wwM τ τ1 := by
  unfold m_guest at p
  repeat' split at p
  all_goals (obtain ⟨-, rfl⟩ := Prod.mk.inj p; exact ⟨rfl, rfl, rfl⟩)
theorem wwX_bar {σ σ1 : jf_S} {r a b c d : Int32} (p : (r, σ1) = x_bar σ a b c d) : wwX σ σ1 := by
  unfold x_bar at p
  repeat' split at p
  all_goals (obtain ⟨-, rfl⟩ := Prod.mk.inj p; exact ⟨rfl, rfl⟩)
theorem wwM_bar {τ τ1 : jf_S} {r a b c d : Int32} (p : (r, τ1) = m_bar τ a b c d) : wwM τ τ1 := by
  unfold m_bar at p
  repeat' split at p
  all_goals (obtain ⟨-, rfl⟩ := Prod.mk.inj p; exact ⟨rfl, rfl, rfl⟩)
theorem wwX_part {σ σ1 : jf_S} {r a b : Int32} (p : (r, σ1) = x_part σ a b) : wwX σ σ1 := by
  unfold x_part at p
  repeat' split at p
  all_goals (obtain ⟨-, rfl⟩ := Prod.mk.inj p; exact ⟨rfl, rfl⟩)
theorem wwM_part {τ τ1 : jf_S} {r a b : Int32} (p : (r, τ1) = m_part τ a b) : wwM τ τ1 := by
  unfold m_part at p
  repeat' split at p
  all_goals (obtain ⟨-, rfl⟩ := Prod.mk.inj p; exact ⟨rfl, rfl, rfl⟩)
theorem wwX_hour {σ σ1 : jf_S} {r a : Int32} (p : (r, σ1) = x_hour σ a) : wwX σ σ1 := by
  unfold x_hour x_hradd at p
  repeat' split at p
  all_goals (obtain ⟨-, rfl⟩ := Prod.mk.inj p; exact ⟨rfl, rfl⟩)
theorem wwM_hour {τ τ1 : jf_S} {r a : Int32} (p : (r, τ1) = m_hour τ a) : wwM τ τ1 := by
  unfold m_hour at p
  repeat' split at p
  all_goals (obtain ⟨-, rfl⟩ := Prod.mk.inj p; exact ⟨rfl, rfl, rfl⟩)
theorem wwX_doors {σ σ1 : jf_S} {r a : Int32} (p : (r, σ1) = x_doors σ a) : wwX σ σ1 := by
  unfold x_doors at p
  repeat' split at p
  all_goals (obtain ⟨-, rfl⟩ := Prod.mk.inj p; exact ⟨rfl, rfl⟩)
theorem wwM_doors {τ τ1 : jf_S} {r a : Int32} (p : (r, τ1) = m_doors τ a) : wwM τ τ1 := by
  unfold m_doors at p
  repeat' split at p
  all_goals (obtain ⟨-, rfl⟩ := Prod.mk.inj p; exact ⟨rfl, rfl, rfl⟩)
theorem wwX_juror {σ σ1 : jf_S} {r a : Int32} (p : (r, σ1) = x_juror σ a) : wwX σ σ1 := by
  unfold x_juror x_jadd at p
  repeat' split at p
  all_goals (obtain ⟨-, rfl⟩ := Prod.mk.inj p; exact ⟨rfl, rfl⟩)
theorem wwM_juror {τ τ1 : jf_S} {r a : Int32} (p : (r, τ1) = m_juror τ a) : wwM τ τ1 := by
  unfold m_juror at p
  repeat' split at p
  all_goals (obtain ⟨-, rfl⟩ := Prod.mk.inj p; exact ⟨rfl, rfl, rfl⟩)
theorem wwX_vote {σ σ1 : jf_S} {r a b : Int32} (p : (r, σ1) = x_vote σ a b) : wwX σ σ1 := by
  unfold x_vote x_vadd at p
  repeat' split at p
  all_goals (obtain ⟨-, rfl⟩ := Prod.mk.inj p; exact ⟨rfl, rfl⟩)
theorem wwM_vote {τ τ1 : jf_S} {r a b : Int32} (p : (r, τ1) = m_vote τ a b) : wwM τ τ1 := by
  unfold m_vote at p
  repeat' split at p
  all_goals (obtain ⟨-, rfl⟩ := Prod.mk.inj p; exact ⟨rfl, rfl, rfl⟩)
theorem wwX_clear {σ σ1 : jf_S} {r a : Int32} (p : (r, σ1) = x_clear σ a) : wwX σ σ1 := by
  unfold x_clear at p
  repeat' split at p
  all_goals (obtain ⟨-, rfl⟩ := Prod.mk.inj p; exact ⟨rfl, rfl⟩)
theorem wwM_clear {τ τ1 : jf_S} {r a : Int32} (p : (r, τ1) = m_clear τ a) : wwM τ τ1 := by
  unfold m_clear at p
  repeat' split at p
  all_goals (obtain ⟨-, rfl⟩ := Prod.mk.inj p; exact ⟨rfl, rfl, rfl⟩)
theorem wwX_row {σ σ1 : jf_S} {r a b c d : Int32} (p : (r, σ1) = x_row σ a b c d) : wwX σ σ1 := by
  unfold x_row x_radd at p
  repeat' split at p
  all_goals (obtain ⟨-, rfl⟩ := Prod.mk.inj p; exact ⟨rfl, rfl⟩)
theorem wwM_row {τ τ1 : jf_S} {r a b c d : Int32} (p : (r, τ1) = m_row τ a b c d) : wwM τ τ1 := by
  unfold m_row at p
  repeat' split at p
  all_goals (obtain ⟨-, rfl⟩ := Prod.mk.inj p; exact ⟨rfl, rfl, rfl⟩)
theorem wwX_end {σ σ1 : jf_S} {r a : Int32} (p : (r, σ1) = x_end σ a) : wwX σ σ1 := by
  unfold x_end at p
  repeat' split at p
  all_goals (obtain ⟨-, rfl⟩ := Prod.mk.inj p; exact ⟨rfl, rfl⟩)
theorem wwM_end {τ τ1 : jf_S} {r a : Int32} (p : (r, τ1) = m_end τ a) : wwM τ τ1 := by
  unfold m_end at p
  repeat' split at p
  all_goals (obtain ⟨-, rfl⟩ := Prod.mk.inj p; exact ⟨rfl, rfl, rfl⟩)
theorem wwX_take {σ σ1 : jf_S} {r a : Int32} (p : (r, σ1) = x_take σ a) : wwX σ σ1 := by
  unfold x_take at p
  repeat' split at p
  all_goals (obtain ⟨-, rfl⟩ := Prod.mk.inj p; exact ⟨rfl, rfl⟩)
theorem wwM_take {τ τ1 : jf_S} {r a : Int32} (p : (r, τ1) = m_take τ a) : wwM τ τ1 := by
  unfold m_take at p
  repeat' split at p
  all_goals (obtain ⟨-, rfl⟩ := Prod.mk.inj p; exact ⟨rfl, rfl, rfl⟩)
theorem wwX_come {σ σ1 : jf_S} {r a b c : Int32} (p : (r, σ1) = x_come σ a b c) : wwX σ σ1 := by
  unfold x_come at p
  repeat' split at p
  all_goals (obtain ⟨-, rfl⟩ := Prod.mk.inj p; exact ⟨rfl, rfl⟩)
theorem wwM_come {τ τ1 : jf_S} {r a b c : Int32} (p : (r, τ1) = m_come τ a b c) : wwM τ τ1 := by
  unfold m_come at p
  repeat' split at p
  all_goals (obtain ⟨-, rfl⟩ := Prod.mk.inj p; exact ⟨rfl, rfl, rfl⟩)
theorem wwX_delay {σ σ1 : jf_S} {r a b : Int32} (p : (r, σ1) = x_delay σ a b) : wwX σ σ1 := by
  unfold x_delay at p
  repeat' split at p
  all_goals (obtain ⟨-, rfl⟩ := Prod.mk.inj p; exact ⟨rfl, rfl⟩)
theorem wwM_delay {τ τ1 : jf_S} {r a b : Int32} (p : (r, τ1) = m_delay τ a b) : wwM τ τ1 := by
  unfold m_delay at p
  repeat' split at p
  all_goals (obtain ⟨-, rfl⟩ := Prod.mk.inj p; exact ⟨rfl, rfl, rfl⟩)
theorem wwM_round {τ τ1 : jf_S} {r a b : Int32} (p : (r, τ1) = m_round τ a b) : wwM τ τ1 := by
  unfold m_round at p
  repeat' split at p
  all_goals (obtain ⟨-, rfl⟩ := Prod.mk.inj p; exact ⟨rfl, rfl, rfl⟩)
theorem wwX_feed {σ σ1 : jf_S} {r a b c d e : Int32} (p : (r, σ1) = x_feed σ a b c d e) : wwX σ σ1 := by
  unfold x_feed at p
  split at p
  · obtain ⟨-, rfl⟩ := Prod.mk.inj p
    exact ⟨(by rw [x_four_o 54 (by decide) (by decide), x_four_o 54 (by decide) (by decide), x_four_o 54 (by decide) (by decide), x_four_o 54 (by decide) (by decide), x_four_o 54 (by decide) (by decide)]), (by rw [x_four_o 10 (by decide) (by decide), x_four_o 10 (by decide) (by decide), x_four_o 10 (by decide) (by decide), x_four_o 10 (by decide) (by decide), x_four_o 10 (by decide) (by decide)])⟩
  · obtain ⟨-, rfl⟩ := Prod.mk.inj p
    exact wwX_r _
theorem wwM_feed {τ τ1 : jf_S} {r a b c d e : Int32} (p : (r, τ1) = m_feed τ a b c d e) : wwM τ τ1 := by
  unfold m_feed at p
  split at p
  · obtain ⟨-, rfl⟩ := Prod.mk.inj p
    exact ⟨(by rw [m_four_o 41 (by decide) (by decide), m_four_o 41 (by decide) (by decide), m_four_o 41 (by decide) (by decide), m_four_o 41 (by decide) (by decide), m_four_o 41 (by decide) (by decide)]; rfl), (by rw [m_four_j 69 (by decide), m_four_j 69 (by decide), m_four_j 69 (by decide), m_four_j 69 (by decide), m_four_j 69 (by decide)]; rfl), (by rw [m_four_j 7 (by decide), m_four_j 7 (by decide), m_four_j 7 (by decide), m_four_j 7 (by decide), m_four_j 7 (by decide)]; rfl)⟩
  · obtain ⟨-, rfl⟩ := Prod.mk.inj p
    exact wwM_0 τ
theorem wwX_put {σ σ1 : jf_S} {f h b s : Int32} (p : (∃ v : Int32, σ1 = x_told σ v) ∨ (∃ e v : Int32, ((0 ≤ f.toInt ∧ f.toInt < 20) ∧ (0 ≤ h.toInt ∧ h.toInt < 4) ∧ (0 ≤ b.toInt ∧ b.toInt ≤ 14399)) ∧ σ1 = x_told (x_sadd σ f h b e s).2 v)) : wwX σ σ1 := by
  rcases p with ⟨v, p⟩ | ⟨e, v, q, p⟩
  · rw [p]; exact ⟨rfl, rfl⟩
  · rw [p]; unfold x_sadd; split <;> exact ⟨rfl, rfl⟩
theorem wwM_put {τ τ1 : jf_S} {f h b s r : Int32} (p : m_putq τ f h b s r τ1) : wwM τ τ1 := by
  unfold m_putq at p
  rcases p with ⟨-, -, p⟩ | ⟨-, -, -, p⟩ | ⟨-, -, -, p⟩ | ⟨-, -, -, -, p⟩ | ⟨-, -, -, -, p⟩ <;> (rw [p]; exact ⟨rfl, rfl, rfl⟩)
theorem wwX_late {σ σ1 : jf_S} (p : xS_l σ σ1 ∧ xO σ1) : wwX σ σ1 := by
  obtain ⟨⟨-, hk, hj⟩, -⟩ := p
  exact ⟨hk 54 (by decide) (by decide) (by decide) (by decide), (by rw [hk 10 (by decide) (by decide) (by decide) (by decide)])⟩
theorem wwM_true {τ τ1 : jf_S} (p : mS_q τ τ1) : wwM τ τ1 := by
  obtain ⟨-, hk⟩ := p
  exact ⟨((hk 41 (by decide) (by decide)).trans (jf_i_o 41 (by decide))), (by rw [hk 0 (by decide) (by decide), jf_i_ne (by decide)]), (by rw [hk 0 (by decide) (by decide), jf_i_ne (by decide)])⟩
theorem wwX_better {σ σ1 : jf_S} (p : ∃ υ : jf_S, xS_b σ υ ∧ xI υ ∧ σ1 = jf_i υ 5 8 0) : wwX σ σ1 := by
  obtain ⟨υ, ⟨-, hk, -⟩, -, rfl⟩ := p
  exact ⟨((jf_i_o 54 (by decide)).trans (hk 54 (by decide) (by decide) (by decide) (by decide) (by decide) (by decide))), (congrFun ((jf_i_o 10 (by decide)).trans (hk 10 (by decide) (by decide) (by decide) (by decide) (by decide) (by decide))) 8)⟩
theorem wwM_better {τ τ1 : jf_S} (q : mI_s τ1 ∧ mS_b τ τ1 ∧ (τ1.1 0 2) = (τ.1 0 2) ∧ (τ1.1 0 27) = 0) : wwM τ τ1 := by
  obtain ⟨-, ⟨-, mk, mj⟩, hh, hz⟩ := q
  exact ⟨mk 41 (by decide) (by decide) (by decide), mj 69 (by decide) (by decide) (by decide) (by decide) (by decide) (by decide), mj 7 (by decide) (by decide) (by decide) (by decide) (by decide) (by decide)⟩
theorem wwM_counts {τ τ1 : jf_S} (p : mS_p (jf_i τ 0 0 0) τ1) : wwM τ τ1 := by
  obtain ⟨-, hk, hj⟩ := p
  exact ⟨((hk 41 (by decide) (by decide)).trans (jf_i_o 41 (by decide))), ((hj 69 (by decide)).trans (jf_i_ne (by decide))), ((hj 7 (by decide)).trans (jf_i_ne (by decide)))⟩
theorem wwX_rules {σ σ1 : jf_S} (p : xS_R σ σ1) : wwX σ σ1 := by
  obtain ⟨-, hk⟩ := p
  exact ⟨hk 54 (by decide) (by decide) (by decide) (by decide) (by decide) (by decide) (by decide) (by decide), (by rw [hk 10 (by decide) (by decide) (by decide) (by decide) (by decide) (by decide) (by decide) (by decide)])⟩
theorem wwM_rules {τ τ1 : jf_S} (p : mS_g [32, 33, 34, 35, 36] mJ_rules τ τ1) : wwM τ τ1 := by
  obtain ⟨hk, hj⟩ := p
  exact ⟨hk 41 (by decide) (by decide), hj 69 (by decide), hj 7 (by decide)⟩

