/-! the reference's state between two calls -/
/-- votes that stand are for films that there are (of any juror) -/
def mI_x (σ : jf_S) : Prop := ∀ j i : Nat, (i : Int) < ((σ.1 27) j).toInt → ((σ.1 26) (5 * j + i)).toInt < ((σ.1 0 7)).toInt
def JM (σ : jf_S) : Prop := (0 ≤ ((σ.1 0 2)).toInt ∧ ((σ.1 0 2)).toInt ≤ 4) ∧ mI_s σ ∧ ((0 ≤ ((σ.1 0 27)).toInt ∧ ((σ.1 0 27)).toInt ≤ 10) ∧ (∀ j, 0 ≤ ((σ.1 22) j).toInt ∧ ((σ.1 22) j).toInt ≤ 14399)) ∧ mI_v σ ∧ mI_x σ ∧ (0 ≤ ((σ.1 0 39)).toInt ∧ ((σ.1 0 39)).toInt ≤ 100) ∧ mI_m σ ∧ (-1 ≤ ((σ.1 0 69)).toInt ∧ ((σ.1 0 69)).toInt ≤ 21) ∧ (0 ≤ ((σ.1 0 58)).toInt ∧ ((σ.1 0 58)).toInt ≤ 300)
theorem JM_r {σ : jf_S} (h : JM σ) : mI_r σ := ⟨h.2.2.2.2.2.1, h.2.2.2.2.2.2.1.1⟩
theorem JM_w {σ : jf_S} (h : JM σ) : mI_w σ := fun j i _ hi => h.2.2.2.2.1 j i hi
theorem jm_thrown {σ : jf_S} {v : Int32} (h : JM σ) : JM (jf_i σ 0 0 v) := h
theorem jm_told {σ : jf_S} {v : Int32} (h : JM σ) : JM (m_told σ v) := h
theorem jm_hall {σ σ1 : jf_S} {r t s c f : Int32} (h : JM σ) (p : (r, σ1) = m_hall σ t s c f) : JM σ1 := by
  rw [show σ1 = (m_hall σ t s c f).2 from congrArg Prod.snd p]
  unfold m_hall
  split
  · exact h
  · rename_i q
    split
    · exact h
    · obtain ⟨h1, h2, h3⟩ := h
      have e := ji_inc1 (k := (σ.1 0 2)) (by omega)
      exact ⟨show 0 ≤ ((σ.1 0 2) + 1).toInt ∧ ((σ.1 0 2) + 1).toInt ≤ 4 by omega, ⟨h2.1, ju_r (σ := σ) (k := 1) (n := ((σ.1 0 2)).toNatClampNeg) (v := t) h2.2.1 (by omega), h2.2.2⟩, h3⟩
theorem jm_film {σ σ1 : jf_S} {r m f q : Int32} (h : JM σ) (p : (r, σ1) = m_film σ m f q) : JM σ1 := by
  rw [show σ1 = (m_film σ m f q).2 from congrArg Prod.snd p]
  unfold m_film
  split
  · exact h
  · split
    · exact h
    · obtain ⟨h1, h2, h3, h4, h5, h6⟩ := h
      have h41 := h4.2.1
      have e := ji_inc1 (k := (σ.1 0 7)) (by omega)
      exact ⟨h1, h2, h3, ⟨h4.1, show 0 ≤ ((σ.1 0 7) + 1).toInt ∧ ((σ.1 0 7) + 1).toInt ≤ 20 by omega, h4.2.2⟩, fun j i hi => show ((σ.1 26) (5 * j + i)).toInt < ((σ.1 0 7) + 1).toInt by have := h5 j i hi; omega, h6⟩
theorem jm_way {σ σ1 : jf_S} {r a b m : Int32} (h : JM σ) (p : (r, σ1) = m_way σ a b m) : JM σ1 := by
  rw [show σ1 = (m_way σ a b m).2 from congrArg Prod.snd p]
  unfold m_way
  (repeat' split) <;> exact h
theorem jm_guest {σ σ1 : jf_S} {r a b m : Int32} (h : JM σ) (p : (r, σ1) = m_guest σ a b m) : JM σ1 := by
  rw [show σ1 = (m_guest σ a b m).2 from congrArg Prod.snd p]
  unfold m_guest
  (repeat' split) <;> exact h
theorem jm_bar {σ σ1 : jf_S} {r a b m o : Int32} (h : JM σ) (p : (r, σ1) = m_bar σ a b m o) : JM σ1 := by
  rw [show σ1 = (m_bar σ a b m o).2 from congrArg Prod.snd p]
  unfold m_bar
  (repeat' split) <;> exact h
theorem jm_part {σ σ1 : jf_S} {r a b : Int32} (h : JM σ) (p : (r, σ1) = m_part σ a b) : JM σ1 := by
  rw [show σ1 = (m_part σ a b).2 from congrArg Prod.snd p]
  unfold m_part
  (repeat' split) <;> exact h
theorem jm_take {σ σ1 : jf_S} {r a : Int32} (h : JM σ) (p : (r, σ1) = m_take σ a) : JM σ1 := by
  rw [show σ1 = (m_take σ a).2 from congrArg Prod.snd p]
  unfold m_take
  (repeat' split) <;> exact h
theorem jm_come {σ σ1 : jf_S} {r a b c : Int32} (h : JM σ) (p : (r, σ1) = m_come σ a b c) : JM σ1 := by
  rw [show σ1 = (m_come σ a b c).2 from congrArg Prod.snd p]
  unfold m_come
  (repeat' split) <;> exact h
theorem jm_delay {σ σ1 : jf_S} {r a b : Int32} (h : JM σ) (p : (r, σ1) = m_delay σ a b) : JM σ1 := by
  rw [show σ1 = (m_delay σ a b).2 from congrArg Prod.snd p]
  unfold m_delay
  (repeat' split) <;> exact h
theorem jm_doors {σ σ1 : jf_S} {r a : Int32} (h : JM σ) (p : (r, σ1) = m_doors σ a) : JM σ1 := by
  rw [show σ1 = (m_doors σ a).2 from congrArg Prod.snd p]
  unfold m_doors
  (repeat' split) <;> exact h
theorem jm_round {σ σ1 : jf_S} {r a b : Int32} (h : JM σ) (p : (r, σ1) = m_round σ a b) : JM σ1 := by
  rw [show σ1 = (m_round σ a b).2 from congrArg Prod.snd p]
  unfold m_round
  (repeat' split) <;> exact h
theorem jm_hour {σ σ1 : jf_S} {r m : Int32} (h : JM σ) (p : (r, σ1) = m_hour σ m) : JM σ1 := by
  rw [show σ1 = (m_hour σ m).2 from congrArg Prod.snd p]
  unfold m_hour
  split
  · exact h
  · rename_i q
    split
    · exact h
    · obtain ⟨h1, h2, h3, h4⟩ := h
      have h30 := h3.1
      have e := ji_inc1 (k := (σ.1 0 27)) (by omega)
      exact ⟨h1, h2, ⟨show 0 ≤ ((σ.1 0 27) + 1).toInt ∧ ((σ.1 0 27) + 1).toInt ≤ 10 by omega, ju_r (σ := σ) (k := 22) (n := ((σ.1 0 27)).toNatClampNeg) (v := m) h3.2 (by omega)⟩, h4⟩
theorem jm_juror {σ σ1 : jf_S} {r a : Int32} (h : JM σ) (p : (r, σ1) = m_juror σ a) : JM σ1 := by
  rw [show σ1 = (m_juror σ a).2 from congrArg Prod.snd p]
  unfold m_juror
  split
  · exact h
  · split
    · exact h
    · obtain ⟨h1, h2, h3, h4, h5⟩ := h
      have h40 := h4.1
      have e := ji_inc1 (k := (σ.1 0 35)) (by omega)
      exact ⟨h1, h2, h3, ⟨show 0 ≤ ((σ.1 0 35) + 1).toInt ∧ ((σ.1 0 35) + 1).toInt ≤ 10 by omega, h4.2⟩, h5⟩
theorem jm_clear {σ σ1 : jf_S} {r j : Int32} (h : JM σ) (p : (r, σ1) = m_clear σ j) : JM σ1 := by
  rw [show σ1 = (m_clear σ j).2 from congrArg Prod.snd p]
  unfold m_clear
  split
  · exact h
  · obtain ⟨h1, h2, h3, h4, h5, h6⟩ := h
    refine ⟨h1, h2, h3, ⟨h4.1, h4.2.1, ju_r (σ := σ) (k := 27) (n := j.toNatClampNeg) (v := 0) h4.2.2.1 (by decide), h4.2.2.2⟩, fun a i hi => h5 a i ?_, h6⟩
    have hi : (i : Int) < ((jf_i σ 27 j.toNatClampNeg 0).1 27 a).toInt := hi
    by_cases e : a = j.toNatClampNeg
    · rw [e, jf_i_same] at hi
      have : (0 : Int32).toInt = 0 := rfl
      omega
    · rw [jf_i_ne e] at hi; exact hi
theorem jm_vote {σ σ1 : jf_S} {r j f : Int32} (h : JM σ) (p : (r, σ1) = m_vote σ j f) : JM σ1 := by
  rw [show σ1 = (m_vote σ j f).2 from congrArg Prod.snd p]
  unfold m_vote
  split
  · exact h
  · rename_i q
    split
    · exact h
    · split
      · exact h
      · rename_i q5
        obtain ⟨h1, h2, h3, h4, h5, h6⟩ := h
        have h42 := h4.2.2.1 j.toNatClampNeg
        have h40 := h4.1
        have h41 := h4.2.1
        have e := ji_inc1 (k := (σ.1 27) j.toNatClampNeg) (by omega)
        have n5 : (5 * j + (σ.1 27) j.toNatClampNeg).toNatClampNeg = 5 * j.toNatClampNeg + ((σ.1 27) j.toNatClampNeg).toNatClampNeg := m_ix5 (by omega) (by omega) h42.1 (by omega)
        have tv := ji_tn h42.1
        refine ⟨h1, h2, h3, ⟨h4.1, h4.2.1, ju_r (σ := σ) (k := 27) (n := j.toNatClampNeg) (v := (σ.1 27) j.toNatClampNeg + 1) h4.2.2.1 (by omega), ju_r (σ := σ) (k := 26) (n := (5 * j + (σ.1 27) j.toNatClampNeg).toNatClampNeg) (v := f) h4.2.2.2 (by omega)⟩, fun a i hi => ?_, h6⟩
        have hi : (i : Int) < ((jf_i σ 27 j.toNatClampNeg ((σ.1 27) j.toNatClampNeg + 1)).1 27 a).toInt := hi
        show ((jf_i σ 26 (5 * j + (σ.1 27) j.toNatClampNeg).toNatClampNeg f).1 26 (5 * a + i)).toInt < ((σ.1 0 7)).toInt
        rw [n5]
        by_cases ea : a = j.toNatClampNeg
        · subst ea
          rw [jf_i_same] at hi
          by_cases ei : i = ((σ.1 27) j.toNatClampNeg).toNatClampNeg
          · rw [ei, jf_i_same]; omega
          · rw [jf_i_ne (by omega)]; exact h5 _ i (by omega)
        · rw [jf_i_ne ea] at hi
          have h4a := h4.2.2.1 a
          rw [jf_i_ne (by omega)]; exact h5 a i hi
theorem jm_row {σ σ1 : jf_S} {r s j f k : Int32} (h : JM σ) (p : (r, σ1) = m_row σ s j f k) : JM σ1 := by
  rw [show σ1 = (m_row σ s j f k).2 from congrArg Prod.snd p]
  unfold m_row
  split
  · exact h
  · split
    · exact h
    · split
      · exact h
      · obtain ⟨h1, h2, h3, h4, h5, h6, h7⟩ := h
        have e := ji_inc1 (k := (σ.1 0 39)) (by omega)
        exact ⟨h1, h2, h3, h4, h5, show 0 ≤ ((σ.1 0 39) + 1).toInt ∧ ((σ.1 0 39) + 1).toInt ≤ 100 by omega, h7⟩
theorem jm_len {σ σ1 : jf_S} (h : JM σ) (hk : ∀ k, k ≠ 0 → k ≠ 37 → σ1.1 k = σ.1 k) (hj : ∀ j, j ≠ 0 → j ≠ 58 → σ1.1 0 j = σ.1 0 j) (hl : 0 ≤ ((σ1.1 0 58)).toInt ∧ ((σ1.1 0 58)).toInt ≤ 300) : JM σ1 := by
  obtain ⟨h1, h2, h3, h4, h5, h6, h7, h8, -⟩ := h
  unfold JM mI_s mI_v mI_x mI_m
  rw [hk 1 (by decide) (by decide), hk 15 (by decide) (by decide), hk 16 (by decide) (by decide), hk 17 (by decide) (by decide), hk 22 (by decide) (by decide), hk 26 (by decide) (by decide), hk 27 (by decide) (by decide), hk 32 (by decide) (by decide), hj 2 (by decide) (by decide), hj 17 (by decide) (by decide), hj 27 (by decide) (by decide), hj 35 (by decide) (by decide), hj 7 (by decide) (by decide), hj 39 (by decide) (by decide), hj 46 (by decide) (by decide), hj 48 (by decide) (by decide), hj 69 (by decide) (by decide)]
  exact ⟨h1, h2, h3, h4, h5, h6, h7, h8, hl⟩
theorem m_four_o {σ : jf_S} {v : Int32} (k : Nat) (h1 : k ≠ 0) (h2 : k ≠ 37) : (m_four σ v).1 k = σ.1 k := by
  unfold m_four
  rw [jf_i_o k h1, jf_i_o k h2, jf_i_o k h1, jf_i_o k h2, jf_i_o k h1, jf_i_o k h2, jf_i_o k h1, jf_i_o k h2]
theorem m_four_j {σ : jf_S} {v : Int32} (j : Nat) (h : j ≠ 58) : (m_four σ v).1 0 j = σ.1 0 j := by
  unfold m_four
  rw [jf_i_ne h, jf_i_o 0 (by decide), jf_i_ne h, jf_i_o 0 (by decide), jf_i_ne h, jf_i_o 0 (by decide), jf_i_ne h, jf_i_o 0 (by decide)]
theorem m_four_l (σ : jf_S) (v : Int32) : ((m_four σ v).1 0 58) = (σ.1 0 58) + 1 + 1 + 1 + 1 := rfl
theorem m_feed_l {σ : jf_S} {a b c d e : Int32} (h0 : 0 ≤ ((σ.1 0 58)).toInt) (h1 : ((σ.1 0 58)).toInt ≤ 300) : (((m_four (m_four (m_four (m_four (m_four σ a) b) c) d) e).1 0 58)).toInt = ((σ.1 0 58)).toInt + 20 := by
  rw [m_four_l, m_four_l, m_four_l, m_four_l, m_four_l]
  have e1 := ji_p4 h0 (by omega)
  have e2 := ji_p4 (x := (σ.1 0 58) + 1 + 1 + 1 + 1) (by omega) (by omega)
  have e3 := ji_p4 (x := (σ.1 0 58) + 1 + 1 + 1 + 1 + 1 + 1 + 1 + 1) (by omega) (by omega)
  have e4 := ji_p4 (x := (σ.1 0 58) + 1 + 1 + 1 + 1 + 1 + 1 + 1 + 1 + 1 + 1 + 1 + 1) (by omega) (by omega)
  have e5 := ji_p4 (x := (σ.1 0 58) + 1 + 1 + 1 + 1 + 1 + 1 + 1 + 1 + 1 + 1 + 1 + 1 + 1 + 1 + 1 + 1) (by omega) (by omega)
  omega
theorem jm_feed {σ σ1 : jf_S} {r a b c d e : Int32} (h : JM σ) (p : (r, σ1) = m_feed σ a b c d e) : JM σ1 := by
  rw [show σ1 = (m_feed σ a b c d e).2 from congrArg Prod.snd p]
  have hl := h.2.2.2.2.2.2.2.2
  unfold m_feed
  split
  · refine jm_len h (fun k h1 h2 => ?_) (fun j h1 h2 => ?_) ?_
    · show (m_four (m_four (m_four (m_four (m_four (jf_i σ 0 0 0) a) b) c) d) e).1 k = _
      rw [m_four_o k h1 h2, m_four_o k h1 h2, m_four_o k h1 h2, m_four_o k h1 h2, m_four_o k h1 h2, jf_i_o k h1]
    · show (m_four (m_four (m_four (m_four (m_four (jf_i σ 0 0 0) a) b) c) d) e).1 0 j = _
      rw [m_four_j j h2, m_four_j j h2, m_four_j j h2, m_four_j j h2, m_four_j j h2, jf_i_ne h1]
    · show 0 ≤ (((m_four (m_four (m_four (m_four (m_four (jf_i σ 0 0 0) a) b) c) d) e).1 0 58)).toInt ∧ (((m_four (m_four (m_four (m_four (m_four (jf_i σ 0 0 0) a) b) c) d) e).1 0 58)).toInt ≤ 300
      rw [m_feed_l (σ := jf_i σ 0 0 0) hl.1 hl.2]
      show 0 ≤ ((σ.1 0 58)).toInt + 20 ∧ ((σ.1 0 58)).toInt + 20 ≤ 300
      omega
  · exact h
theorem jm_end {σ σ1 : jf_S} {r n : Int32} (h : JM σ) (p : (r, σ1) = m_end σ n) : JM σ1 := by
  rw [show σ1 = (m_end σ n).2 from congrArg Prod.snd p]
  have hl := h.2.2.2.2.2.2.2.2
  unfold m_end
  split
  · exact h
  · exact jm_len h (fun k h1 h2 => (jf_i_o k h1).trans (jf_i_o k h1)) (fun j h1 h2 => (jf_i_ne h2).trans (jf_i_ne h1)) (show 0 ≤ n.toInt ∧ n.toInt ≤ 300 by omega)
theorem jm_put {σ σ1 : jf_S} {f h b s r : Int32} (H : JM σ) (p : m_putq σ f h b s r σ1) : JM σ1 := by
  unfold m_putq at p
  rcases p with ⟨-, -, p⟩ | ⟨-, -, -, p⟩ | ⟨-, -, -, p⟩ | ⟨-, -, -, -, p⟩ | ⟨q1, q2, q3, -, p⟩
  · rw [p]; exact H
  · rw [p]; exact H
  · rw [p]; exact H
  · rw [p]; exact H
  · rw [p]
    obtain ⟨h1, h2, h3, h4, h5⟩ := H
    have h20 := h2.1
    have h41 := h4.2.1
    unfold m_bad at q1
    unfold m_none at q2
    have e := ji_inc1 (k := (σ.1 0 17)) (by omega)
    exact ⟨h1, ⟨show 0 ≤ ((σ.1 0 17) + 1).toInt ∧ ((σ.1 0 17) + 1).toInt ≤ 60 by omega, h2.2.1, ju_r (σ := σ) (k := 15) (n := ((σ.1 0 17)).toNatClampNeg) (v := f) h2.2.2.1 (by omega), ju_r (σ := σ) (k := 16) (n := ((σ.1 0 17)).toNatClampNeg) (v := h) h2.2.2.2.1 (by omega), ju_r (σ := σ) (k := 17) (n := ((σ.1 0 17)).toNatClampNeg) (v := b) h2.2.2.2.2 (by omega)⟩, h3, h4, h5⟩
theorem jm_true {σ σ1 : jf_S} (h : JM σ) (p : mS_q σ σ1) : JM σ1 := by
  obtain ⟨h1, h2, h3, h4, h5, h6, h7, h8, h9⟩ := h
  obtain ⟨-, hk⟩ := p
  have D : ∀ k, k ≠ 23 → k ≠ 24 → k ≠ 0 → σ1.1 k = σ.1 k := fun k a b c => (hk k a b).trans (jf_i_o k c)
  have F : ∀ j, j ≠ 0 → σ1.1 0 j = σ.1 0 j := fun j a => by rw [hk 0 (by decide) (by decide), jf_i_ne a]
  unfold JM mI_s mI_v mI_x mI_m
  rw [D 1 (by decide) (by decide) (by decide), D 15 (by decide) (by decide) (by decide), D 16 (by decide) (by decide) (by decide), D 17 (by decide) (by decide) (by decide), D 22 (by decide) (by decide) (by decide), D 26 (by decide) (by decide) (by decide), D 27 (by decide) (by decide) (by decide), D 32 (by decide) (by decide) (by decide), F 2 (by decide), F 17 (by decide), F 27 (by decide), F 35 (by decide), F 7 (by decide), F 39 (by decide), F 46 (by decide), F 48 (by decide), F 69 (by decide), F 58 (by decide)]
  exact ⟨h1, h2, h3, h4, h5, h6, h7, h8, h9⟩
theorem jm_better {σ σ1 : jf_S} (h : JM σ) (p : mI_s σ1 ∧ mS_b σ σ1 ∧ (σ1.1 0 2) = (σ.1 0 2) ∧ (σ1.1 0 27) = 0) : JM σ1 := by
  obtain ⟨h1, h2, h3, h4, h5, h6, h7, h8, h9⟩ := h
  obtain ⟨hI, ⟨-, hk, hj⟩, hh, hz⟩ := p
  have F : ∀ j, 34 < j → σ1.1 0 j = σ.1 0 j := fun j a => hj j (by omega) (by omega) (by omega) (by omega) (by omega) (by omega)
  unfold JM mI_v mI_x mI_m
  rw [hk 22 (by decide) (by decide) (by decide), hk 26 (by decide) (by decide) (by decide), hk 27 (by decide) (by decide) (by decide), hk 32 (by decide) (by decide) (by decide), hh, hz, F 35 (by decide), hj 7 (by decide) (by decide) (by decide) (by decide) (by decide) (by decide), F 39 (by decide), F 46 (by decide), F 48 (by decide), F 69 (by decide), F 58 (by decide)]
  exact ⟨h1, hI, ⟨by decide, h3.2⟩, h4, h5, h6, h7, h8, h9⟩
theorem jm_rules {σ σ1 : jf_S} {r : Int32} (h : JM σ) (p : (r = 0 ∨ r = -6) ∧ mS_g [32, 33, 34, 35, 36] mJ_rules σ σ1 ∧ (σ1.1 0 58) = 0 ∧ mI_m σ1) : JM σ1 := by
  obtain ⟨h1, h2, h3, h4, h5, h6, h7, h8, h9⟩ := h
  obtain ⟨-, ⟨hk, hj⟩, ht, hI⟩ := p
  unfold JM mI_s mI_v mI_x
  rw [hk 1 (by decide) (by decide), hk 15 (by decide) (by decide), hk 16 (by decide) (by decide), hk 17 (by decide) (by decide), hk 22 (by decide) (by decide), hk 26 (by decide) (by decide), hk 27 (by decide) (by decide), hj 2 (by decide), hj 17 (by decide), hj 27 (by decide), hj 35 (by decide), hj 7 (by decide), hj 39 (by decide), hj 69 (by decide), ht]
  exact ⟨h1, h2, h3, h4, h5, h6, hI, h8, by decide⟩
theorem jm_counts {σ σ1 : jf_S} (h : JM σ) (p : mS_p (jf_i σ 0 0 0) σ1) : JM σ1 := by
  obtain ⟨h1, h2, h3, h4, h5, h6, h7, h8, h9⟩ := h
  obtain ⟨-, hk, hj⟩ := p
  have D : ∀ k, k ≠ 0 → k ≠ 36 → σ1.1 k = σ.1 k := fun k a b => (hk k a b).trans (jf_i_o k a)
  have F : ∀ j, j ≠ 0 → j ≠ 56 → σ1.1 0 j = σ.1 0 j := fun j a b => (hj j b).trans (jf_i_ne a)
  unfold JM mI_s mI_v mI_x mI_m
  rw [D 1 (by decide) (by decide), D 15 (by decide) (by decide), D 16 (by decide) (by decide), D 17 (by decide) (by decide), D 22 (by decide) (by decide), D 26 (by decide) (by decide), D 27 (by decide) (by decide), D 32 (by decide) (by decide), F 2 (by decide) (by decide), F 17 (by decide) (by decide), F 27 (by decide) (by decide), F 35 (by decide) (by decide), F 7 (by decide) (by decide), F 39 (by decide) (by decide), F 46 (by decide) (by decide), F 48 (by decide) (by decide), F 69 (by decide) (by decide), F 58 (by decide) (by decide)]
  exact ⟨h1, h2, h3, h4, h5, h6, h7, h8, h9⟩
theorem jm_prize {σ σ1 : jf_S} (h : JM σ) (p : mS_g mK_prize mJ_prize σ σ1 ∧ -1 ≤ ((σ1.1 0 69)).toInt ∧ ((σ1.1 0 69)).toInt ≤ 21) : JM σ1 := by
  obtain ⟨h1, h2, h3, h4, h5, h6, h7, h8, h9⟩ := h
  obtain ⟨⟨hk, hj⟩, hr⟩ := p
  unfold JM mI_s mI_v mI_x mI_m
  rw [hk 1 (by decide) (by decide), hk 15 (by decide) (by decide), hk 16 (by decide) (by decide), hk 17 (by decide) (by decide), hk 22 (by decide) (by decide), hk 26 (by decide) (by decide), hk 27 (by decide) (by decide), hk 32 (by decide) (by decide), hj 2 (by decide), hj 17 (by decide), hj 27 (by decide), hj 35 (by decide), hj 7 (by decide), hj 39 (by decide), hj 46 (by decide), hj 48 (by decide), hj 58 (by decide)]
  exact ⟨h1, h2, h3, h4, h5, h6, h7, hr, h9⟩
theorem jm_s0 : JM m_s0 := by
  have z : ∀ (hi : Int), 0 ≤ hi → 0 ≤ (0 : Int32).toInt ∧ (0 : Int32).toInt ≤ hi := fun hi h => ⟨by decide, h⟩
  refine ⟨by decide, ⟨by decide, fun j => z 4 (by decide), fun j => z 19 (by decide), fun j => z 3 (by decide), fun j => z 14399 (by decide)⟩, ⟨by decide, fun j => z 14399 (by decide)⟩, ⟨by decide, by decide, fun j => z 5 (by decide), fun j => z 19 (by decide)⟩, fun j i hi => ?_, by decide, ⟨⟨by decide, fun i hi => absurd hi (Nat.not_lt_zero i)⟩, by decide⟩, by decide, by decide⟩
  exfalso
  have hj : (i : Int) < (0 : Int32).toInt := hi
  have h0 : (0 : Int32).toInt = 0 := rfl
  omega

