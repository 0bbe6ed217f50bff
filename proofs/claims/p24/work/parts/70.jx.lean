/-! the class's state between two calls -/
def JX (σ : jf_S) : Prop := (0 ≤ ((σ.1 1 5)).toInt ∧ ((σ.1 1 5)).toInt ≤ 4) ∧ (0 ≤ ((σ.1 2 8)).toInt ∧ ((σ.1 2 8)).toInt ≤ 20) ∧ xI σ ∧ xH σ ∧ xO σ ∧ xC σ ∧ xV σ ∧ xR σ ∧ (0 ≤ ((σ.1 9 2)).toInt ∧ ((σ.1 9 2)).toInt ≤ 300)
theorem ju_r {σ : jf_S} {k n : Nat} {v : Int32} {lo hi : Int} (h : ∀ j, lo ≤ (σ.1 k j).toInt ∧ (σ.1 k j).toInt ≤ hi) (hv : lo ≤ v.toInt ∧ v.toInt ≤ hi) : ∀ j, lo ≤ ((jf_i σ k n v).1 k j).toInt ∧ ((jf_i σ k n v).1 k j).toInt ≤ hi := by
  intro j
  by_cases e : j = n
  · rw [e, jf_i_same]; exact hv
  · rw [jf_i_ne e]; exact h j
theorem ju_l {σ : jf_S} {k n : Nat} {v : Int32} {lo hi : Int} (h : ∀ j, lo ≤ (σ.1 k j).toInt ∧ (σ.1 k j).toInt < hi) (hv : lo ≤ v.toInt ∧ v.toInt < hi) : ∀ j, lo ≤ ((jf_i σ k n v).1 k j).toInt ∧ ((jf_i σ k n v).1 k j).toInt < hi := by
  intro j
  by_cases e : j = n
  · rw [e, jf_i_same]; exact hv
  · rw [jf_i_ne e]; exact h j
theorem jx_told {σ : jf_S} {v : Int32} (h : JX σ) : JX (x_told σ v) := h
theorem jx_hall {σ σ1 : jf_S} {r t s c f : Int32} (h : JX σ) (p : (r, σ1) = x_hall σ t s c f) : JX σ1 := by
  rw [show σ1 = (x_hall σ t s c f).2 from congrArg Prod.snd p]
  unfold x_hall
  split
  · exact jx_told h
  · rename_i q
    unfold x_hadd
    split
    · exact jx_told h
    · have e := ji_inc1 (k := (σ.1 1 5)) (by have := h.1; omega)
      obtain ⟨h1, h2, h3, h4⟩ := h
      exact ⟨show 0 ≤ ((σ.1 1 5) + 1).toInt ∧ ((σ.1 1 5) + 1).toInt ≤ 4 by omega, h2, ⟨h3.1, ju_r (σ := σ) (k := 12) (n := ((σ.1 1 5)).toNatClampNeg) (v := t) h3.2.1 (by omega), h3.2.2⟩, h4⟩
theorem jx_film {σ σ1 : jf_S} {r m f q : Int32} (h : JX σ) (p : (r, σ1) = x_film σ m f q) : JX σ1 := by
  rw [show σ1 = (x_film σ m f q).2 from congrArg Prod.snd p]
  unfold x_film
  split
  · exact jx_told h
  · unfold x_fadd
    split
    · exact jx_told h
    · have e := ji_inc1 (k := (σ.1 2 8)) (by have := h.2.1; omega)
      obtain ⟨h1, h2, h3⟩ := h
      exact ⟨h1, show 0 ≤ ((σ.1 2 8) + 1).toInt ∧ ((σ.1 2 8) + 1).toInt ≤ 20 by omega, h3⟩
theorem jx_way {σ σ1 : jf_S} {r a b m : Int32} (h : JX σ) (p : (r, σ1) = x_way σ a b m) : JX σ1 := by
  rw [show σ1 = (x_way σ a b m).2 from congrArg Prod.snd p]
  unfold x_way
  split
  · exact jx_told h
  · exact h
theorem jx_guest {σ σ1 : jf_S} {r a b m : Int32} (h : JX σ) (p : (r, σ1) = x_guest σ a b m) : JX σ1 := by
  rw [show σ1 = (x_guest σ a b m).2 from congrArg Prod.snd p]
  unfold x_guest
  (repeat' split) <;> exact h
theorem jx_bar {σ σ1 : jf_S} {r a b m o : Int32} (h : JX σ) (p : (r, σ1) = x_bar σ a b m o) : JX σ1 := by
  rw [show σ1 = (x_bar σ a b m o).2 from congrArg Prod.snd p]
  unfold x_bar
  (repeat' split) <;> exact h
theorem jx_part {σ σ1 : jf_S} {r a b : Int32} (h : JX σ) (p : (r, σ1) = x_part σ a b) : JX σ1 := by
  rw [show σ1 = (x_part σ a b).2 from congrArg Prod.snd p]
  unfold x_part
  (repeat' split) <;> exact h
theorem jx_take {σ σ1 : jf_S} {r a : Int32} (h : JX σ) (p : (r, σ1) = x_take σ a) : JX σ1 := by
  rw [show σ1 = (x_take σ a).2 from congrArg Prod.snd p]
  unfold x_take
  (repeat' split) <;> exact h
theorem jx_come {σ σ1 : jf_S} {r a b c : Int32} (h : JX σ) (p : (r, σ1) = x_come σ a b c) : JX σ1 := by
  rw [show σ1 = (x_come σ a b c).2 from congrArg Prod.snd p]
  unfold x_come
  (repeat' split) <;> exact h
theorem jx_delay {σ σ1 : jf_S} {r a b : Int32} (h : JX σ) (p : (r, σ1) = x_delay σ a b) : JX σ1 := by
  rw [show σ1 = (x_delay σ a b).2 from congrArg Prod.snd p]
  unfold x_delay
  (repeat' split) <;> exact h
theorem jx_doors {σ σ1 : jf_S} {r a : Int32} (h : JX σ) (p : (r, σ1) = x_doors σ a) : JX σ1 := by
  rw [show σ1 = (x_doors σ a).2 from congrArg Prod.snd p]
  unfold x_doors
  (repeat' split) <;> exact h
theorem jx_hour {σ σ1 : jf_S} {r m : Int32} (h : JX σ) (p : (r, σ1) = x_hour σ m) : JX σ1 := by
  rw [show σ1 = (x_hour σ m).2 from congrArg Prod.snd p]
  unfold x_hour
  split
  · exact jx_told h
  · rename_i q
    unfold x_hradd
    split
    · exact jx_told h
    · obtain ⟨h1, h2, h3, h4, h5⟩ := h
      have h40 := h4.1
      have e := ji_inc1 (k := (σ.1 5 8)) (by omega)
      exact ⟨h1, h2, h3, ⟨show 0 ≤ ((σ.1 5 8) + 1).toInt ∧ ((σ.1 5 8) + 1).toInt ≤ 10 by omega, ju_r (σ := σ) (k := 34) (n := ((σ.1 5 8)).toNatClampNeg) (v := m) h4.2 (by omega)⟩, h5⟩
theorem jx_juror {σ σ1 : jf_S} {r a : Int32} (h : JX σ) (p : (r, σ1) = x_juror σ a) : JX σ1 := by
  rw [show σ1 = (x_juror σ a).2 from congrArg Prod.snd p]
  unfold x_juror
  split
  · exact jx_told h
  · unfold x_jadd
    split
    · exact jx_told h
    · obtain ⟨h1, h2, h3, h4, h5, h6, h7, h8⟩ := h
      have h70 := h7.1
      have e := ji_inc1 (k := (σ.1 7 7)) (by omega)
      exact ⟨h1, h2, h3, h4, h5, h6, ⟨show 0 ≤ ((σ.1 7 7) + 1).toInt ∧ ((σ.1 7 7) + 1).toInt ≤ 10 by omega, h7.2⟩, h8⟩
theorem jx_clear {σ σ1 : jf_S} {r j : Int32} (h : JX σ) (p : (r, σ1) = x_clear σ j) : JX σ1 := by
  rw [show σ1 = (x_clear σ j).2 from congrArg Prod.snd p]
  unfold x_clear
  split
  · exact jx_told h
  · obtain ⟨h1, h2, h3, h4, h5, h6, h7, h8⟩ := h
    exact ⟨h1, h2, h3, h4, h5, h6, ⟨h7.1, ju_r (σ := σ) (k := 41) (n := j.toNatClampNeg) (v := 0) h7.2.1 (by decide), h7.2.2⟩, h8⟩
theorem jx_vote {σ σ1 : jf_S} {r j f : Int32} (h : JX σ) (p : (r, σ1) = x_vote σ j f) : JX σ1 := by
  rw [show σ1 = (x_vote σ j f).2 from congrArg Prod.snd p]
  unfold x_vote
  split
  · exact jx_told h
  · rename_i q
    unfold x_vadd
    split
    · exact jx_told h
    · split
      · exact jx_told h
      · rename_i q5
        obtain ⟨h1, h2, h3, h4, h5, h6, h7, h8⟩ := h
        have h71 := h7.2.1 j.toNatClampNeg
        have e := ji_inc1 (k := (σ.1 41) j.toNatClampNeg) (by omega)
        exact ⟨h1, h2, h3, h4, h5, h6, ⟨h7.1, ju_r (σ := σ) (k := 41) (n := j.toNatClampNeg) (v := (σ.1 41) j.toNatClampNeg + 1) h7.2.1 (by omega), ju_l (σ := σ) (k := 42) (n := (j * 5 + (σ.1 41) j.toNatClampNeg).toNatClampNeg) (v := f) h7.2.2.1 (by omega), h7.2.2.2⟩, h8⟩
theorem jx_row {σ σ1 : jf_S} {r s j f k : Int32} (h : JX σ) (p : (r, σ1) = x_row σ s j f k) : JX σ1 := by
  rw [show σ1 = (x_row σ s j f k).2 from congrArg Prod.snd p]
  unfold x_row
  split
  · exact jx_told h
  · split
    · exact jx_told h
    · unfold x_radd
      split
      · exact jx_told h
      · obtain ⟨h1, h2, h3, h4, h5, h6, h7, h8⟩ := h
        have h70 := h7.2.2.2
        have e := ji_inc1 (k := (σ.1 7 8)) (by omega)
        exact ⟨h1, h2, h3, h4, h5, h6, ⟨h7.1, h7.2.1, h7.2.2.1, show 0 ≤ ((σ.1 7 8) + 1).toInt ∧ ((σ.1 7 8) + 1).toInt ≤ 100 by omega⟩, h8⟩
theorem jx_len {σ : jf_S} (h : JX σ) {σ1 : jf_S} (hk : ∀ k, k ≠ 9 → k ≠ 49 → σ1.1 k = σ.1 k) (hl : 0 ≤ ((σ1.1 9 2)).toInt ∧ ((σ1.1 9 2)).toInt ≤ 300) : JX σ1 := by
  obtain ⟨h1, h2, h3, h4, h5, h6, h7, h8, -⟩ := h
  unfold JX xI xH xO xC xV xR
  rw [hk 1 (by decide) (by decide), hk 2 (by decide) (by decide), hk 3 (by decide) (by decide), hk 12 (by decide) (by decide), hk 25 (by decide) (by decide), hk 26 (by decide) (by decide), hk 27 (by decide) (by decide), hk 5 (by decide) (by decide), hk 34 (by decide) (by decide), hk 37 (by decide) (by decide), hk 50 (by decide) (by decide), hk 51 (by decide) (by decide), hk 7 (by decide) (by decide), hk 41 (by decide) (by decide), hk 42 (by decide) (by decide), hk 8 (by decide) (by decide)]
  exact ⟨h1, h2, h3, h4, h5, h6, h7, h8, hl⟩
theorem x_four_o {σ : jf_S} {v : Int32} (k : Nat) (h1 : k ≠ 9) (h2 : k ≠ 49) : (x_four σ v).1 k = σ.1 k := by
  unfold x_four
  rw [jf_i_o k h1, jf_i_o k h2, jf_i_o k h1, jf_i_o k h2, jf_i_o k h1, jf_i_o k h2, jf_i_o k h1, jf_i_o k h2]
theorem x_four_l (σ : jf_S) (v : Int32) : ((x_four σ v).1 9 2) = (σ.1 9 2) + 1 + 1 + 1 + 1 := rfl
theorem ji_p4 {x : Int32} (h0 : 0 ≤ x.toInt) (h1 : x.toInt ≤ 1000) : (x + 1 + 1 + 1 + 1).toInt = x.toInt + 4 := by
  have e1 := ji_inc1 (k := x) (by omega)
  have e2 := ji_inc1 (k := x + 1) (by omega)
  have e3 := ji_inc1 (k := x + 1 + 1) (by omega)
  have e4 := ji_inc1 (k := x + 1 + 1 + 1) (by omega)
  omega
theorem x_feed_l {σ : jf_S} {a b c d e : Int32} (h0 : 0 ≤ ((σ.1 9 2)).toInt) (h1 : ((σ.1 9 2)).toInt ≤ 300) : (((x_four (x_four (x_four (x_four (x_four σ a) b) c) d) e).1 9 2)).toInt = ((σ.1 9 2)).toInt + 20 := by
  rw [x_four_l, x_four_l, x_four_l, x_four_l, x_four_l]
  have e1 := ji_p4 h0 (by omega)
  have e2 := ji_p4 (x := (σ.1 9 2) + 1 + 1 + 1 + 1) (by omega) (by omega)
  have e3 := ji_p4 (x := (σ.1 9 2) + 1 + 1 + 1 + 1 + 1 + 1 + 1 + 1) (by omega) (by omega)
  have e4 := ji_p4 (x := (σ.1 9 2) + 1 + 1 + 1 + 1 + 1 + 1 + 1 + 1 + 1 + 1 + 1 + 1) (by omega) (by omega)
  have e5 := ji_p4 (x := (σ.1 9 2) + 1 + 1 + 1 + 1 + 1 + 1 + 1 + 1 + 1 + 1 + 1 + 1 + 1 + 1 + 1 + 1) (by omega) (by omega)
  omega
theorem jx_feed {σ σ1 : jf_S} {r a b c d e : Int32} (h : JX σ) (p : (r, σ1) = x_feed σ a b c d e) : JX σ1 := by
  rw [show σ1 = (x_feed σ a b c d e).2 from congrArg Prod.snd p]
  have hl := h.2.2.2.2.2.2.2.2
  unfold x_feed
  split
  · refine jx_len h (fun k h1 h2 => ?_) ?_
    · show (x_four (x_four (x_four (x_four (x_four σ a) b) c) d) e).1 k = _
      rw [x_four_o k h1 h2, x_four_o k h1 h2, x_four_o k h1 h2, x_four_o k h1 h2, x_four_o k h1 h2]
    · show 0 ≤ (((x_four (x_four (x_four (x_four (x_four σ a) b) c) d) e).1 9 2)).toInt ∧ (((x_four (x_four (x_four (x_four (x_four σ a) b) c) d) e).1 9 2)).toInt ≤ 300
      rw [x_feed_l hl.1 hl.2]; omega
  · exact h
theorem jx_end {σ σ1 : jf_S} {r n : Int32} (h : JX σ) (p : (r, σ1) = x_end σ n) : JX σ1 := by
  rw [show σ1 = (x_end σ n).2 from congrArg Prod.snd p]
  have hl := h.2.2.2.2.2.2.2.2
  unfold x_end
  split
  · exact h
  · exact jx_len h (fun k h1 h2 => jf_i_o k h1) (show 0 ≤ n.toInt ∧ n.toInt ≤ 300 by omega)
theorem jx_put {σ σ1 : jf_S} {f h b s : Int32} (H : JX σ) (p : (∃ v : Int32, σ1 = x_told σ v) ∨ (∃ e v : Int32, ((0 ≤ f.toInt ∧ f.toInt < 20) ∧ (0 ≤ h.toInt ∧ h.toInt < 4) ∧ (0 ≤ b.toInt ∧ b.toInt ≤ 14399)) ∧ σ1 = x_told (x_sadd σ f h b e s).2 v)) : JX σ1 := by
  rcases p with ⟨v, p⟩ | ⟨e, v, q, p⟩
  · rw [p]; exact jx_told H
  · rw [p]
    refine jx_told ?_
    unfold x_sadd
    split
    · exact H
    · obtain ⟨h1, h2, h3, h4⟩ := H
      have h30 := h3.1
      have e := ji_inc1 (k := (σ.1 3 8)) (by omega)
      exact ⟨h1, h2, ⟨show 0 ≤ ((σ.1 3 8) + 1).toInt ∧ ((σ.1 3 8) + 1).toInt ≤ 60 by omega, h3.2.1, ju_r (σ := σ) (k := 25) (n := ((σ.1 3 8)).toNatClampNeg) (v := f) h3.2.2.1 (by omega), ju_r (σ := σ) (k := 26) (n := ((σ.1 3 8)).toNatClampNeg) (v := h) h3.2.2.2.1 (by omega), ju_r (σ := σ) (k := 27) (n := ((σ.1 3 8)).toNatClampNeg) (v := b) h3.2.2.2.2 (by omega)⟩, h4⟩
theorem jx_late {σ σ1 : jf_S} (h : JX σ) (p : xS_l σ σ1 ∧ xO σ1) : JX σ1 := by
  obtain ⟨h1, h2, h3, h4, h5, h6, h7, h8, h9⟩ := h
  obtain ⟨⟨-, hk, -⟩, hO⟩ := p
  unfold JX xI xH xC xV xR
  rw [hk 1 (by decide) (by decide) (by decide) (by decide), hk 2 (by decide) (by decide) (by decide) (by decide), hk 3 (by decide) (by decide) (by decide) (by decide), hk 12 (by decide) (by decide) (by decide) (by decide), hk 25 (by decide) (by decide) (by decide) (by decide), hk 26 (by decide) (by decide) (by decide) (by decide), hk 27 (by decide) (by decide) (by decide) (by decide), hk 5 (by decide) (by decide) (by decide) (by decide), hk 34 (by decide) (by decide) (by decide) (by decide), hk 50 (by decide) (by decide) (by decide) (by decide), hk 51 (by decide) (by decide) (by decide) (by decide), hk 7 (by decide) (by decide) (by decide) (by decide), hk 41 (by decide) (by decide) (by decide) (by decide), hk 42 (by decide) (by decide) (by decide) (by decide), hk 8 (by decide) (by decide) (by decide) (by decide), hk 9 (by decide) (by decide) (by decide) (by decide)]
  exact ⟨h1, h2, h3, h4, hO, h6, h7, h8, h9⟩
theorem jx_better {σ σ1 : jf_S} (h : JX σ) (p : ∃ υ : jf_S, xS_b σ υ ∧ xI υ ∧ σ1 = jf_i υ 5 8 0) : JX σ1 := by
  obtain ⟨h1, h2, h3, h4, h5, h6, h7, h8, h9⟩ := h
  obtain ⟨υ, ⟨-, hk, -⟩, hI, rfl⟩ := p
  have D : ∀ k, k ≠ 5 → k ≠ 26 → k ≠ 27 → k ≠ 28 → k ≠ 35 → k ≠ 36 → (jf_i υ 5 8 0).1 k = σ.1 k := fun k a b c d e f => (jf_i_o k a).trans (hk k a b c d e f)
  refine ⟨?_, ?_, hI, ⟨⟨show 0 ≤ (0 : Int32).toInt by decide, show (0 : Int32).toInt ≤ 10 by decide⟩, ?_⟩, ?_, ?_, ?_, ?_, ?_⟩
  · rw [D 1 (by decide) (by decide) (by decide) (by decide) (by decide) (by decide)]; exact h1
  · rw [D 2 (by decide) (by decide) (by decide) (by decide) (by decide) (by decide)]; exact h2
  · rw [D 34 (by decide) (by decide) (by decide) (by decide) (by decide) (by decide)]; exact h4.2
  · unfold xO; rw [D 37 (by decide) (by decide) (by decide) (by decide) (by decide) (by decide)]; exact h5
  · unfold xC; rw [D 50 (by decide) (by decide) (by decide) (by decide) (by decide) (by decide), D 51 (by decide) (by decide) (by decide) (by decide) (by decide) (by decide)]; exact h6
  · unfold xV; rw [D 7 (by decide) (by decide) (by decide) (by decide) (by decide) (by decide), D 41 (by decide) (by decide) (by decide) (by decide) (by decide) (by decide), D 42 (by decide) (by decide) (by decide) (by decide) (by decide) (by decide)]; exact h7
  · unfold xR; rw [D 8 (by decide) (by decide) (by decide) (by decide) (by decide) (by decide)]; exact h8
  · rw [D 9 (by decide) (by decide) (by decide) (by decide) (by decide) (by decide)]; exact h9
theorem jx_rules {σ σ1 : jf_S} {r : Int32} (h : JX σ) (p : (r = 0 ∨ r = -6) ∧ xS_R σ σ1 ∧ (σ1.1 9 2) = 0 ∧ xR σ1) : JX σ1 := by
  obtain ⟨h1, h2, h3, h4, h5, h6, h7, h8, h9⟩ := h
  obtain ⟨-, ⟨-, hk⟩, hl, hR⟩ := p
  have D : ∀ k, (k ≠ 0 ∧ k ≠ 8 ∧ k ≠ 9 ∧ k ≠ 11 ∧ k ≠ 47 ∧ k ≠ 48 ∧ k ≠ 55 ∧ k ≠ 56) → σ1.1 k = σ.1 k := fun k a => hk k a.1 a.2.1 a.2.2.1 a.2.2.2.1 a.2.2.2.2.1 a.2.2.2.2.2.1 a.2.2.2.2.2.2.1 a.2.2.2.2.2.2.2
  unfold JX xI xH xO xC xV
  rw [D 1 (by decide), D 2 (by decide), D 3 (by decide), D 12 (by decide), D 25 (by decide), D 26 (by decide), D 27 (by decide), D 5 (by decide), D 34 (by decide), D 37 (by decide), D 50 (by decide), D 51 (by decide), D 7 (by decide), D 41 (by decide), D 42 (by decide), hl]
  exact ⟨h1, h2, h3, h4, h5, h6, h7, hR, by decide⟩
theorem jx_prize {σ σ1 : jf_S} {r : Int32} (h : JX σ) (p : ∃ υ : jf_S, xS_a σ υ ∧ xC υ ∧ σ1 = x_told υ r) : JX σ1 := by
  obtain ⟨h1, h2, h3, h4, h5, h6, h7, h8, h9⟩ := h
  obtain ⟨υ, ⟨-, hk, -⟩, hC, rfl⟩ := p
  refine jx_told ?_
  unfold JX xI xH xO xV xR
  rw [hk 1 (by decide) (by decide), hk 2 (by decide) (by decide), hk 3 (by decide) (by decide), hk 12 (by decide) (by decide), hk 25 (by decide) (by decide), hk 26 (by decide) (by decide), hk 27 (by decide) (by decide), hk 5 (by decide) (by decide), hk 34 (by decide) (by decide), hk 37 (by decide) (by decide), hk 7 (by decide) (by decide), hk 41 (by decide) (by decide), hk 42 (by decide) (by decide), hk 8 (by decide) (by decide), hk 9 (by decide) (by decide)]
  exact ⟨h1, h2, h3, h4, h5, hC, h7, h8, h9⟩
theorem jx_s0 : JX x_s0 := by
  refine ⟨by decide, by decide, ⟨by decide, fun j => ?_, fun j => ?_, fun j => ?_, fun j => ?_⟩, ⟨by decide, fun j => ?_⟩, fun j => ?_, ⟨fun j => ?_, fun j => ?_⟩, ⟨by decide, fun j => ?_, fun j => ?_, by decide⟩, ⟨by decide, by decide⟩, by decide⟩
  all_goals exact ⟨by show (0 : Int) ≤ (0 : Int32).toInt; decide, by first | (show (0 : Int32).toInt ≤ _; decide) | (show (0 : Int32).toInt < _; decide)⟩

