/-! tape, fault, rules that stand, jurors, rows and fame: what the calls leave alone -/
def ttX (σ σ1 : jf_S) : Prop := σ1.1 49 = σ.1 49 ∧ σ1.1 9 3 = σ.1 9 3 ∧ σ1.1 8 = σ.1 8 ∧ σ1.1 47 = σ.1 47 ∧ σ1.1 48 = σ.1 48 ∧ σ1.1 40 = σ.1 40 ∧ σ1.1 43 = σ.1 43 ∧ σ1.1 44 = σ.1 44 ∧ σ1.1 45 = σ.1 45 ∧ σ1.1 46 = σ.1 46 ∧ σ1.1 19 = σ.1 19
def ttM (τ τ1 : jf_S) : Prop := τ1.1 37 = τ.1 37 ∧ τ1.1 0 63 = τ.1 0 63 ∧ τ1.1 0 44 = τ.1 0 44 ∧ τ1.1 0 46 = τ.1 0 46 ∧ τ1.1 32 = τ.1 32 ∧ τ1.1 0 48 = τ.1 0 48 ∧ τ1.1 33 = τ.1 33 ∧ τ1.1 0 49 = τ.1 0 49 ∧ τ1.1 25 = τ.1 25 ∧ τ1.1 28 = τ.1 28 ∧ τ1.1 29 = τ.1 29 ∧ τ1.1 30 = τ.1 30 ∧ τ1.1 31 = τ.1 31 ∧ τ1.1 7 = τ.1 7
theorem ttX_r (σ : jf_S) : ttX σ σ := ⟨rfl, rfl, rfl, rfl, rfl, rfl, rfl, rfl, rfl, rfl, rfl⟩
theorem ttM_r (τ : jf_S) : ttM τ τ := ⟨rfl, rfl, rfl, rfl, rfl, rfl, rfl, rfl, rfl, rfl, rfl, rfl, rfl, rfl⟩
theorem ttM_0 (τ : jf_S) : ttM τ (jf_i τ 0 0 0) := ⟨rfl, rfl, rfl, rfl, rfl, rfl, rfl, rfl, rfl, rfl, rfl, rfl, rfl, rfl⟩
theorem ttX_hall {σ σ1 : jf_S} {r a b c d : Int32} (p : (r, σ1) = x_hall σ a b c d) : ttX σ σ1 := by
  unfold x_hall x_hadd at p
  repeat' split at p
  all_goals (obtain ⟨-, rfl⟩ := Prod.mk.inj p; exact ⟨rfl, rfl, rfl, rfl, rfl, rfl, rfl, rfl, rfl, rfl, rfl⟩)
theorem ttM_hall {τ τ1 : jf_S} {r a b c d : Int32} (p : (r, τ1) = m_hall τ a b c d) : ttM τ τ1 := by
  unfold m_hall at p
  repeat' split at p
  all_goals (obtain ⟨-, rfl⟩ := Prod.mk.inj p; exact ⟨rfl, rfl, rfl, rfl, rfl, rfl, rfl, rfl, rfl, rfl, rfl, rfl, rfl, rfl⟩)
theorem ttX_way {σ σ1 : jf_S} {r a b c : Int32} (p : (r, σ1) = x_way σ a b c) : ttX σ σ1 := by
  unfold x_way at p
  repeat' split at p
  all_goals (obtain ⟨-, rfl⟩ := Prod.mk.inj p; exact ⟨rfl, rfl, rfl, rfl, rfl, rfl, rfl, rfl, rfl, rfl, rfl⟩)
theorem ttM_way {τ τ1 : jf_S} {r a b c : Int32} (p : (r, τ1) = m_way τ a b c) : ttM τ τ1 := by
  unfold m_way at p
  repeat' split at p
  all_goals (obtain ⟨-, rfl⟩ := Prod.mk.inj p; exact ⟨rfl, rfl, rfl, rfl, rfl, rfl, rfl, rfl, rfl, rfl, rfl, rfl, rfl, rfl⟩)
theorem ttX_guest {σ σ1 : jf_S} {r a b c : Int32} (p : (r, σ1) = x_guest σ a b c) : ttX σ σ1 := by
  unfold x_guest at p
  repeat' split at p
  all_goals (obtain ⟨-, rfl⟩ := Prod.mk.inj p; exact ⟨rfl, rfl, rfl, rfl, rfl, rfl, rfl, rfl, rfl, rfl, rfl⟩)
theorem ttM_guest {τ τ1 : jf_S} {r a b c : Int32} (p : (r, τ1) = m_guest τ a b c) : ttM τ τ1 := by
  unfold m_guest at p
  repeat' split at p
  all_goals (obtain ⟨-, rfl⟩ := Prod.mk.inj p; exact ⟨rfl, rfl, rfl, rfl, rfl, rfl, rfl, rfl, rfl, rfl, rfl, rfl, rfl, rfl⟩)
theorem ttX_bar {σ σ1 : jf_S} {r a b c d : Int32} (p : (r, σ1) = x_bar σ a b c d) : ttX σ σ1 := by
  unfold x_bar at p
  repeat' split at p
  all_goals (obtain ⟨-, rfl⟩ := Prod.mk.inj p; exact ⟨rfl, rfl, rfl, rfl, rfl, rfl, rfl, rfl, rfl, rfl, rfl⟩)
theorem ttM_bar {τ τ1 : jf_S} {r a b c d : Int32} (p : (r, τ1) = m_bar τ a b c d) : ttM τ τ1 := by
  unfold m_bar at p
  repeat' split at p
  all_goals (obtain ⟨-, rfl⟩ := Prod.mk.inj p; exact ⟨rfl, rfl, rfl, rfl, rfl, rfl, rfl, rfl, rfl, rfl, rfl, rfl, rfl, rfl⟩)
theorem ttX_part {σ σ1 : jf_S} {r a b : Int32} (p : (r, σ1) = x_part σ a b) : ttX σ σ1 := by
  unfold x_part at p
  repeat' split at p
  all_goals (obtain ⟨-, rfl⟩ := Prod.mk.inj p; exact ⟨rfl, rfl, rfl, rfl, rfl, rfl, rfl, rfl, rfl, rfl, rfl⟩)
theorem ttM_part {τ τ1 : jf_S} {r a b : Int32} (p : (r, τ1) = m_part τ a b) : ttM τ τ1 := by
  unfold m_part at p
  repeat' split at p
  all_goals (obtain ⟨-, rfl⟩ := Prod.mk.inj p; exact ⟨rfl, rfl, rfl, rfl, rfl, rfl, rfl, rfl, rfl, rfl, rfl, rfl, rfl, rfl⟩)
theorem ttX_hour {σ σ1 : jf_S} {r a : Int32} (p : (r, σ1) = x_hour σ a) : ttX σ σ1 := by
  unfold x_hour x_hradd at p
  repeat' split at p
  all_goals (obtain ⟨-, rfl⟩ := Prod.mk.inj p; exact ⟨rfl, rfl, rfl, rfl, rfl, rfl, rfl, rfl, rfl, rfl, rfl⟩)
theorem ttM_hour {τ τ1 : jf_S} {r a : Int32} (p : (r, τ1) = m_hour τ a) : ttM τ τ1 := by
  unfold m_hour at p
  repeat' split at p
  all_goals (obtain ⟨-, rfl⟩ := Prod.mk.inj p; exact ⟨rfl, rfl, rfl, rfl, rfl, rfl, rfl, rfl, rfl, rfl, rfl, rfl, rfl, rfl⟩)
theorem ttX_doors {σ σ1 : jf_S} {r a : Int32} (p : (r, σ1) = x_doors σ a) : ttX σ σ1 := by
  unfold x_doors at p
  repeat' split at p
  all_goals (obtain ⟨-, rfl⟩ := Prod.mk.inj p; exact ⟨rfl, rfl, rfl, rfl, rfl, rfl, rfl, rfl, rfl, rfl, rfl⟩)
theorem ttM_doors {τ τ1 : jf_S} {r a : Int32} (p : (r, τ1) = m_doors τ a) : ttM τ τ1 := by
  unfold m_doors at p
  repeat' split at p
  all_goals (obtain ⟨-, rfl⟩ := Prod.mk.inj p; exact ⟨rfl, rfl, rfl, rfl, rfl, rfl, rfl, rfl, rfl, rfl, rfl, rfl, rfl, rfl⟩)
theorem ttX_vote {σ σ1 : jf_S} {r a b : Int32} (p : (r, σ1) = x_vote σ a b) : ttX σ σ1 := by
  unfold x_vote x_vadd at p
  repeat' split at p
  all_goals (obtain ⟨-, rfl⟩ := Prod.mk.inj p; exact ⟨rfl, rfl, rfl, rfl, rfl, rfl, rfl, rfl, rfl, rfl, rfl⟩)
theorem ttM_vote {τ τ1 : jf_S} {r a b : Int32} (p : (r, τ1) = m_vote τ a b) : ttM τ τ1 := by
  unfold m_vote at p
  repeat' split at p
  all_goals (obtain ⟨-, rfl⟩ := Prod.mk.inj p; exact ⟨rfl, rfl, rfl, rfl, rfl, rfl, rfl, rfl, rfl, rfl, rfl, rfl, rfl, rfl⟩)
theorem ttX_clear {σ σ1 : jf_S} {r a : Int32} (p : (r, σ1) = x_clear σ a) : ttX σ σ1 := by
  unfold x_clear at p
  repeat' split at p
  all_goals (obtain ⟨-, rfl⟩ := Prod.mk.inj p; exact ⟨rfl, rfl, rfl, rfl, rfl, rfl, rfl, rfl, rfl, rfl, rfl⟩)
theorem ttM_clear {τ τ1 : jf_S} {r a : Int32} (p : (r, τ1) = m_clear τ a) : ttM τ τ1 := by
  unfold m_clear at p
  repeat' split at p
  all_goals (obtain ⟨-, rfl⟩ := Prod.mk.inj p; exact ⟨rfl, rfl, rfl, rfl, rfl, rfl, rfl, rfl, rfl, rfl, rfl, rfl, rfl, rfl⟩)
theorem ttX_end {σ σ1 : jf_S} {r a : Int32} (p : (r, σ1) = x_end σ a) : ttX σ σ1 := by
  unfold x_end at p
  repeat' split at p
  all_goals (obtain ⟨-, rfl⟩ := Prod.mk.inj p; exact ⟨rfl, rfl, rfl, rfl, rfl, rfl, rfl, rfl, rfl, rfl, rfl⟩)
theorem ttM_end {τ τ1 : jf_S} {r a : Int32} (p : (r, τ1) = m_end τ a) : ttM τ τ1 := by
  unfold m_end at p
  repeat' split at p
  all_goals (obtain ⟨-, rfl⟩ := Prod.mk.inj p; exact ⟨rfl, rfl, rfl, rfl, rfl, rfl, rfl, rfl, rfl, rfl, rfl, rfl, rfl, rfl⟩)
theorem ttX_take {σ σ1 : jf_S} {r a : Int32} (p : (r, σ1) = x_take σ a) : ttX σ σ1 := by
  unfold x_take at p
  repeat' split at p
  all_goals (obtain ⟨-, rfl⟩ := Prod.mk.inj p; exact ⟨rfl, rfl, rfl, rfl, rfl, rfl, rfl, rfl, rfl, rfl, rfl⟩)
theorem ttM_take {τ τ1 : jf_S} {r a : Int32} (p : (r, τ1) = m_take τ a) : ttM τ τ1 := by
  unfold m_take at p
  repeat' split at p
  all_goals (obtain ⟨-, rfl⟩ := Prod.mk.inj p; exact ⟨rfl, rfl, rfl, rfl, rfl, rfl, rfl, rfl, rfl, rfl, rfl, rfl, rfl, rfl⟩)
theorem ttX_come {σ σ1 : jf_S} {r a b c : Int32} (p : (r, σ1) = x_come σ a b c) : ttX σ σ1 := by
  unfold x_come at p
  repeat' split at p
  all_goals (obtain ⟨-, rfl⟩ := Prod.mk.inj p; exact ⟨rfl, rfl, rfl, rfl, rfl, rfl, rfl, rfl, rfl, rfl, rfl⟩)
theorem ttM_come {τ τ1 : jf_S} {r a b c : Int32} (p : (r, τ1) = m_come τ a b c) : ttM τ τ1 := by
  unfold m_come at p
  repeat' split at p
  all_goals (obtain ⟨-, rfl⟩ := Prod.mk.inj p; exact ⟨rfl, rfl, rfl, rfl, rfl, rfl, rfl, rfl, rfl, rfl, rfl, rfl, rfl, rfl⟩)
theorem ttX_delay {σ σ1 : jf_S} {r a b : Int32} (p : (r, σ1) = x_delay σ a b) : ttX σ σ1 := by
  unfold x_delay at p
  repeat' split at p
  all_goals (obtain ⟨-, rfl⟩ := Prod.mk.inj p; exact ⟨rfl, rfl, rfl, rfl, rfl, rfl, rfl, rfl, rfl, rfl, rfl⟩)
theorem ttM_delay {τ τ1 : jf_S} {r a b : Int32} (p : (r, τ1) = m_delay τ a b) : ttM τ τ1 := by
  unfold m_delay at p
  repeat' split at p
  all_goals (obtain ⟨-, rfl⟩ := Prod.mk.inj p; exact ⟨rfl, rfl, rfl, rfl, rfl, rfl, rfl, rfl, rfl, rfl, rfl, rfl, rfl, rfl⟩)
theorem ttM_round {τ τ1 : jf_S} {r a b : Int32} (p : (r, τ1) = m_round τ a b) : ttM τ τ1 := by
  unfold m_round at p
  repeat' split at p
  all_goals (obtain ⟨-, rfl⟩ := Prod.mk.inj p; exact ⟨rfl, rfl, rfl, rfl, rfl, rfl, rfl, rfl, rfl, rfl, rfl, rfl, rfl, rfl⟩)
theorem ttX_put {σ σ1 : jf_S} {f h b s : Int32} (p : (∃ v : Int32, σ1 = x_told σ v) ∨ (∃ e v : Int32, ((0 ≤ f.toInt ∧ f.toInt < 20) ∧ (0 ≤ h.toInt ∧ h.toInt < 4) ∧ (0 ≤ b.toInt ∧ b.toInt ≤ 14399)) ∧ σ1 = x_told (x_sadd σ f h b e s).2 v)) : ttX σ σ1 := by
  rcases p with ⟨v, p⟩ | ⟨e, v, q, p⟩
  · rw [p]; exact ⟨rfl, rfl, rfl, rfl, rfl, rfl, rfl, rfl, rfl, rfl, rfl⟩
  · rw [p]; unfold x_sadd; split <;> exact ⟨rfl, rfl, rfl, rfl, rfl, rfl, rfl, rfl, rfl, rfl, rfl⟩
theorem ttM_put {τ τ1 : jf_S} {f h b s r : Int32} (p : m_putq τ f h b s r τ1) : ttM τ τ1 := by
  unfold m_putq at p
  rcases p with ⟨-, -, p⟩ | ⟨-, -, -, p⟩ | ⟨-, -, -, p⟩ | ⟨-, -, -, -, p⟩ | ⟨-, -, -, -, p⟩ <;> (rw [p]; exact ⟨rfl, rfl, rfl, rfl, rfl, rfl, rfl, rfl, rfl, rfl, rfl, rfl, rfl, rfl⟩)
theorem ttX_late {σ σ1 : jf_S} (p : xS_l σ σ1 ∧ xO σ1) : ttX σ σ1 := by
  obtain ⟨⟨-, hk, hj⟩, -⟩ := p
  exact ⟨hk 49 (by decide) (by decide) (by decide) (by decide), (by rw [hk 9 (by decide) (by decide) (by decide) (by decide)]), hk 8 (by decide) (by decide) (by decide) (by decide), hk 47 (by decide) (by decide) (by decide) (by decide), hk 48 (by decide) (by decide) (by decide) (by decide), hk 40 (by decide) (by decide) (by decide) (by decide), hk 43 (by decide) (by decide) (by decide) (by decide), hk 44 (by decide) (by decide) (by decide) (by decide), hk 45 (by decide) (by decide) (by decide) (by decide), hk 46 (by decide) (by decide) (by decide) (by decide), hk 19 (by decide) (by decide) (by decide) (by decide)⟩
theorem ttM_true {τ τ1 : jf_S} (p : mS_q τ τ1) : ttM τ τ1 := by
  obtain ⟨-, hk⟩ := p
  exact ⟨((hk 37 (by decide) (by decide)).trans (jf_i_o 37 (by decide))), (by rw [hk 0 (by decide) (by decide), jf_i_ne (by decide)]), (by rw [hk 0 (by decide) (by decide), jf_i_ne (by decide)]), (by rw [hk 0 (by decide) (by decide), jf_i_ne (by decide)]), ((hk 32 (by decide) (by decide)).trans (jf_i_o 32 (by decide))), (by rw [hk 0 (by decide) (by decide), jf_i_ne (by decide)]), ((hk 33 (by decide) (by decide)).trans (jf_i_o 33 (by decide))), (by rw [hk 0 (by decide) (by decide), jf_i_ne (by decide)]), ((hk 25 (by decide) (by decide)).trans (jf_i_o 25 (by decide))), ((hk 28 (by decide) (by decide)).trans (jf_i_o 28 (by decide))), ((hk 29 (by decide) (by decide)).trans (jf_i_o 29 (by decide))), ((hk 30 (by decide) (by decide)).trans (jf_i_o 30 (by decide))), ((hk 31 (by decide) (by decide)).trans (jf_i_o 31 (by decide))), ((hk 7 (by decide) (by decide)).trans (jf_i_o 7 (by decide)))⟩
theorem ttX_better {σ σ1 : jf_S} (p : ∃ υ : jf_S, xS_b σ υ ∧ xI υ ∧ σ1 = jf_i υ 5 8 0) : ttX σ σ1 := by
  obtain ⟨υ, ⟨-, hk, -⟩, -, rfl⟩ := p
  exact ⟨((jf_i_o 49 (by decide)).trans (hk 49 (by decide) (by decide) (by decide) (by decide) (by decide) (by decide))), (congrFun ((jf_i_o 9 (by decide)).trans (hk 9 (by decide) (by decide) (by decide) (by decide) (by decide) (by decide))) 3), ((jf_i_o 8 (by decide)).trans (hk 8 (by decide) (by decide) (by decide) (by decide) (by decide) (by decide))), ((jf_i_o 47 (by decide)).trans (hk 47 (by decide) (by decide) (by decide) (by decide) (by decide) (by decide))), ((jf_i_o 48 (by decide)).trans (hk 48 (by decide) (by decide) (by decide) (by decide) (by decide) (by decide))), ((jf_i_o 40 (by decide)).trans (hk 40 (by decide) (by decide) (by decide) (by decide) (by decide) (by decide))), ((jf_i_o 43 (by decide)).trans (hk 43 (by decide) (by decide) (by decide) (by decide) (by decide) (by decide))), ((jf_i_o 44 (by decide)).trans (hk 44 (by decide) (by decide) (by decide) (by decide) (by decide) (by decide))), ((jf_i_o 45 (by decide)).trans (hk 45 (by decide) (by decide) (by decide) (by decide) (by decide) (by decide))), ((jf_i_o 46 (by decide)).trans (hk 46 (by decide) (by decide) (by decide) (by decide) (by decide) (by decide))), ((jf_i_o 19 (by decide)).trans (hk 19 (by decide) (by decide) (by decide) (by decide) (by decide) (by decide)))⟩
theorem ttM_better {τ τ1 : jf_S} (q : mI_s τ1 ∧ mS_b τ τ1 ∧ (τ1.1 0 2) = (τ.1 0 2) ∧ (τ1.1 0 27) = 0) : ttM τ τ1 := by
  obtain ⟨-, ⟨-, mk, mj⟩, hh, hz⟩ := q
  exact ⟨mk 37 (by decide) (by decide) (by decide), mj 63 (by decide) (by decide) (by decide) (by decide) (by decide) (by decide), mj 44 (by decide) (by decide) (by decide) (by decide) (by decide) (by decide), mj 46 (by decide) (by decide) (by decide) (by decide) (by decide) (by decide), mk 32 (by decide) (by decide) (by decide), mj 48 (by decide) (by decide) (by decide) (by decide) (by decide) (by decide), mk 33 (by decide) (by decide) (by decide), mj 49 (by decide) (by decide) (by decide) (by decide) (by decide) (by decide), mk 25 (by decide) (by decide) (by decide), mk 28 (by decide) (by decide) (by decide), mk 29 (by decide) (by decide) (by decide), mk 30 (by decide) (by decide) (by decide), mk 31 (by decide) (by decide) (by decide), mk 7 (by decide) (by decide) (by decide)⟩
theorem ttM_counts {τ τ1 : jf_S} (p : mS_p (jf_i τ 0 0 0) τ1) : ttM τ τ1 := by
  obtain ⟨-, hk, hj⟩ := p
  exact ⟨((hk 37 (by decide) (by decide)).trans (jf_i_o 37 (by decide))), ((hj 63 (by decide)).trans (jf_i_ne (by decide))), ((hj 44 (by decide)).trans (jf_i_ne (by decide))), ((hj 46 (by decide)).trans (jf_i_ne (by decide))), ((hk 32 (by decide) (by decide)).trans (jf_i_o 32 (by decide))), ((hj 48 (by decide)).trans (jf_i_ne (by decide))), ((hk 33 (by decide) (by decide)).trans (jf_i_o 33 (by decide))), ((hj 49 (by decide)).trans (jf_i_ne (by decide))), ((hk 25 (by decide) (by decide)).trans (jf_i_o 25 (by decide))), ((hk 28 (by decide) (by decide)).trans (jf_i_o 28 (by decide))), ((hk 29 (by decide) (by decide)).trans (jf_i_o 29 (by decide))), ((hk 30 (by decide) (by decide)).trans (jf_i_o 30 (by decide))), ((hk 31 (by decide) (by decide)).trans (jf_i_o 31 (by decide))), ((hk 7 (by decide) (by decide)).trans (jf_i_o 7 (by decide)))⟩
theorem ttX_prize {σ σ1 : jf_S} {r : Int32} (p : ∃ υ : jf_S, xS_a σ υ ∧ xC υ ∧ σ1 = x_told υ r) : ttX σ σ1 := by
  obtain ⟨υ, ⟨-, hk, hj⟩, -, rfl⟩ := p
  have h : ttX σ υ := ⟨hk 49 (by decide) (by decide), (by rw [hk 9 (by decide) (by decide)]), hk 8 (by decide) (by decide), hk 47 (by decide) (by decide), hk 48 (by decide) (by decide), hk 40 (by decide) (by decide), hk 43 (by decide) (by decide), hk 44 (by decide) (by decide), hk 45 (by decide) (by decide), hk 46 (by decide) (by decide), hk 19 (by decide) (by decide)⟩
  exact h
theorem ttM_prize {τ τ1 : jf_S} (p : mS_g mK_prize mJ_prize τ τ1 ∧ -1 ≤ ((τ1.1 0 69)).toInt ∧ ((τ1.1 0 69)).toInt ≤ 21) : ttM τ τ1 := by
  obtain ⟨⟨hk, hj⟩, -⟩ := p
  exact ⟨hk 37 (by decide) (by decide), hj 63 (by decide), hj 44 (by decide), hj 46 (by decide), hk 32 (by decide) (by decide), hj 48 (by decide), hk 33 (by decide) (by decide), hj 49 (by decide), hk 25 (by decide) (by decide), hk 28 (by decide) (by decide), hk 29 (by decide) (by decide), hk 30 (by decide) (by decide), hk 31 (by decide) (by decide), hk 7 (by decide) (by decide)⟩

