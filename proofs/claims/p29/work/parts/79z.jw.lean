/-! prizes and rounds alike -/
def JW (σ τ : jf_S) : Prop := (σ.1 10 8) = (τ.1 0 69) ∧ ((τ.1 0 69)).toInt ≤ 20 ∧ ∀ q, q < ((τ.1 0 69)).toNatClampNeg → w_row ((σ.1 54)) q = w_row ((τ.1 41)) q ∧ ∀ f : Nat, f < 20 → ((τ.1 0 7)).toInt ≤ (f : Int) → (w_row ((τ.1 41)) q f).toInt = -1
theorem jw_of {σ τ σ1 τ1 : jf_S} (W : JW σ τ) (hx : wwX σ σ1) (hm : wwM τ τ1) : JW σ1 τ1 := by
  obtain ⟨x1, x2⟩ := hx
  obtain ⟨m1, m2, m3⟩ := hm
  unfold JW
  rw [x1, x2, m1, m2, m3]
  exact W
theorem wwX_film {σ σ1 : jf_S} {r a b c : Int32} (p : (r, σ1) = x_film σ a b c) : wwX σ σ1 := by
  unfold x_film x_fadd at p
  repeat' split at p
  all_goals (obtain ⟨-, rfl⟩ := Prod.mk.inj p; exact ⟨rfl, rfl⟩)
theorem jw_film {σ τ σ1 τ1 : jf_S} {r1 r2 a b c : Int32} (H : JM τ) (W : JW σ τ) (p : (r1, σ1) = x_film σ a b c) (q : (r2, τ1) = m_film τ a b c) : JW σ1 τ1 := by
  have W1 : JW σ1 τ := jw_of W (wwX_film p) (wwM_r τ)
  have hf := H.2.2.2.1.2.1.2
  have e := ji_inc1 (k := (τ.1 0 7)) (by omega)
  unfold m_film at q
  repeat' split at q
  all_goals first
    | (obtain ⟨-, rfl⟩ := Prod.mk.inj q; exact W1)
    | (obtain ⟨-, rfl⟩ := Prod.mk.inj q
       refine ⟨W1.1, W1.2.1, fun n hn => ⟨(W1.2.2 n hn).1, fun f h1 h2 => (W1.2.2 n hn).2 f h1 ?_⟩⟩
       have h2 : ((τ.1 0 7) + 1).toInt ≤ (f : Int) := h2
       omega)
/-- rows recorded before don't matter -/
theorem w_go_H {A : Nat → Nat → Bool} {C : Nat → List Int32} {n : Nat} : ∀ (m k : Nat) (R : Nat → Int32) (H H' : Nat → Nat → Int32), (∀ q, q < k → H q = H' q) → (w_go A C n m k R H).1 = (w_go A C n m k R H').1 ∧ (w_go A C n m k R H).2.1 = (w_go A C n m k R H').2.1 ∧ ∀ q, q < (w_go A C n m k R H).2.1 → (w_go A C n m k R H).2.2 q = (w_go A C n m k R H').2.2 q
  | 0, k, R, H, H', h => ⟨rfl, rfl, h⟩
  | m + 1, k, R, H, H', h => by
    have hw : ∀ S : Nat → Int32, ∀ q, q < k + 1 → w_H H k S q = w_H H' k S q := by
      intro S q hq
      unfold w_H
      by_cases e : q = k
      · rw [if_pos e, if_pos e]
      · rw [if_neg e, if_neg e]; exact h q (by omega)
    by_cases c1 : w_fore A (w_gv R C n).1 20 < 0
    · rw [w_go_0 c1, w_go_0 c1]; exact ⟨rfl, rfl, h⟩
    · by_cases c2 : (w_gv R C n).2.toInt < 2 * ((w_gv R C n).1 (w_fore A (w_gv R C n).1 20).toNat).toInt
      · rw [w_go_1 c1 c2, w_go_1 c1 c2]; exact ⟨rfl, rfl, hw _⟩
      · rw [w_go_2 c1 c2, w_go_2 c1 c2]; exact w_go_H m (k + 1) _ _ _ (hw _)
theorem w_pz_H {t : Int32} {fame P : Nat → Int32} {np : Int} {C : Nat → List Int32} {n : Nat} (H H' : Nat → Nat → Int32) : (w_pz t fame P np C n H).1 = (w_pz t fame P np C n H').1 ∧ (w_pz t fame P np C n H).2.1 = (w_pz t fame P np C n H').2.1 ∧ ∀ q, q < (w_pz t fame P np C n H).2.1 → (w_pz t fame P np C n H).2.2 q = (w_pz t fame P np C n H').2.2 q := by
  unfold w_pz
  split
  · unfold w_po
    split
    · exact ⟨rfl, rfl, fun q hq => absurd hq (Nat.not_lt_zero q)⟩
    · exact ⟨rfl, rfl, fun q _ => rfl⟩
  · exact w_go_H 20 0 _ _ _ (fun q hq => absurd hq (Nat.not_lt_zero q))
/-- films that are not there have no sum; twenty rounds at most -/
theorem w_go_o {A : Nat → Nat → Bool} {C : Nat → List Int32} {n : Nat} {F : Int} (hn : n ≤ 10) (hC : ∀ j, j < n → ∀ x ∈ C j, x.toNatClampNeg < 20) : ∀ (m k : Nat) (R : Nat → Int32) (H : Nat → Nat → Int32), (∀ f : Nat, f < 20 → F ≤ (f : Int) → (R f).toInt = 0) → (∀ q, q < k → ∀ f : Nat, f < 20 → F ≤ (f : Int) → (H q f).toInt = -1) → (w_go A C n m k R H).2.1 ≤ k + m ∧ ∀ q, q < (w_go A C n m k R H).2.1 → ∀ f : Nat, f < 20 → F ≤ (f : Int) → ((w_go A C n m k R H).2.2 q f).toInt = -1
  | 0, k, R, H, hR, hH => ⟨Nat.le_refl _, hH⟩
  | m + 1, k, R, H, hR, hH => by
    have hS : ∀ f : Nat, f < 20 → F ≤ (f : Int) → ((w_gv R C n).1 f).toInt = -1 := fun f h1 h2 => (((w_gv_r (R := R) (C := C) n hn hC).1 f h1).resolve_right (fun q => q.1 (hR f h1 h2))).2
    have hw : ∀ q, q < k + 1 → ∀ f : Nat, f < 20 → F ≤ (f : Int) → (w_H H k (w_gv R C n).1 q f).toInt = -1 := by
      intro q hq f h1 h2
      unfold w_H
      by_cases e : q = k
      · rw [if_pos e]; exact hS f h1 h2
      · rw [if_neg e]; exact hH q (by omega) f h1 h2
    by_cases c1 : w_fore A (w_gv R C n).1 20 < 0
    · rw [w_go_0 c1]; exact ⟨Nat.le_add_right _ _, hH⟩
    · by_cases c2 : (w_gv R C n).2.toInt < 2 * ((w_gv R C n).1 (w_fore A (w_gv R C n).1 20).toNat).toInt
      · rw [w_go_1 c1 c2]; exact ⟨by show k + 1 ≤ k + (m + 1); omega, hw⟩
      · rw [w_go_2 c1 c2]
        obtain ⟨i1, i2⟩ := w_go_o (A := A) hn hC m (k + 1) (upd R (w_hind A (w_gv R C n).1 20).toNat 0) (w_H H k (w_gv R C n).1) (fun f h1 h2 => by unfold upd; split; rfl; exact hR f h1 h2) hw
        exact ⟨by omega, i2⟩
theorem w_pz_o {t : Int32} {fame P : Nat → Int32} {np F : Int} {C : Nat → List Int32} {n : Nat} {H : Nat → Nat → Int32} (hP : ∀ i, 0 ≤ (P i).toInt ∧ (P i).toInt ≤ 1000) (hn : n ≤ 10) (hC : ∀ j, j < n → (C j).length ≤ 5 ∧ ∀ x ∈ C j, x.toNatClampNeg < 20) (hF : ∀ f : Nat, f < 20 → F ≤ (f : Int) → w_run C n f = 0) : (w_pz t fame P np C n H).2.1 ≤ 20 ∧ ∀ q, q < (w_pz t fame P np C n H).2.1 → ∀ f : Nat, f < 20 → F ≤ (f : Int) → ((w_pz t fame P np C n H).2.2 q f).toInt = -1 := by
  have hR : ∀ f : Nat, f < 20 → F ≤ (f : Int) → (w_run C n f).toInt = 0 := fun f h1 h2 => by rw [hF f h1 h2]; rfl
  unfold w_pz
  split
  · unfold w_po
    split
    · exact ⟨Nat.zero_le _, fun q hq => absurd hq (Nat.not_lt_zero q)⟩
    · have e : ∀ j, j < n → ∀ x ∈ C j, ¬ (w_run C n x.toNatClampNeg).toInt = 0 := fun j hj x hx => by rw [w_run_in hx hj]; decide
      exact ⟨(by show 1 ≤ 20; decide), fun q _ f h1 h2 => ((w_pt_r (R := w_run C n) hP n hn (fun j hj => ⟨(hC j hj).1, fun x hx => ⟨e j hj x hx, (hC j hj).2 x hx⟩⟩) f h1).resolve_right (fun z => z.1 (hR f h1 h2))).2⟩
  · have := w_go_o (A := w_ah t fame (w_fir C n)) hn (fun j hj => (hC j hj).2) 20 0 (w_run C n) H hR (fun q hq => absurd hq (Nat.not_lt_zero q))
    exact ⟨by omega, this.2⟩
/-- what stands, on both sides, for a prize -/
theorem jt_y {σ τ : jf_S} (T : JT σ τ) : ∃ L : List Int32, (¬ ((σ.1 8 2)).toInt = 0 → x_rs σ L) ∧ (¬ ((τ.1 0 44)).toInt = 0 → q_rk ((τ.1 32)) ((τ.1 0 46)).toNatClampNeg) ∧ (¬ ((σ.1 8 2)).toInt = 0 → ∀ i, 0 ≤ (x_P σ i).toInt ∧ (x_P σ i).toInt ≤ 1000) ∧ (¬ ((τ.1 0 44)).toInt = 0 → ∀ i, 0 ≤ (m_P τ i).toInt ∧ (m_P τ i).toInt ≤ 1000) ∧ ((((σ.1 8 2)).toInt = 0 ∧ ((τ.1 0 44)).toInt = 0) ∨ (¬ ((σ.1 8 2)).toInt = 0 ∧ ¬ ((τ.1 0 44)).toInt = 0 ∧ ((∀ i, i < L.length → (τ.1 32) i = L.getD i 0) ∧ ((τ.1 0 46)).toNatClampNeg = L.length) ∧ x_P σ = m_P τ ∧ ((σ.1 8 4)).toInt = ((τ.1 0 48)).toInt ∧ q_it ((σ.1 8 5)) = (τ.1 0 49))) := by
  rcases T.2.2.1 with ⟨e1, e2⟩ | ⟨t, hs, hx, hm⟩
  · have e1' : ((σ.1 8 2)).toInt = 0 := by rw [e1]; rfl
    have e2' : ((τ.1 0 44)).toInt = 0 := by rw [e2]; rfl
    exact ⟨[], fun h => absurd e1' h, fun h => absurd e2' h, fun h => absurd e1' h, fun h => absurd e2' h, Or.inl ⟨e1', e2'⟩⟩
  · obtain ⟨x1, x2, x3, x4, x5, x6⟩ := hx
    obtain ⟨m1, m2, m3, m4, m5, m6⟩ := hm
    obtain ⟨⟨s1, s2, s3⟩, ⟨s4, s4'⟩, s5⟩ := hs
    have px : ∀ i, x_P σ i = if i < t.2.1.length then t.2.1.getD i 0 else 0 := fun i => by
      unfold x_P
      by_cases c : i < t.2.1.length
      · rw [if_pos c, if_pos (by omega)]; exact x5 i c
      · rw [if_neg c, if_neg (by omega)]
    have pm : ∀ i, m_P τ i = if i < t.2.1.length then t.2.1.getD i 0 else 0 := fun i => by
      unfold m_P
      by_cases c : i < t.2.1.length
      · rw [if_pos c, if_pos (by omega)]; exact m5 i c
      · rw [if_neg c, if_neg (by omega)]
    have pb : ∀ i, 0 ≤ (if i < t.2.1.length then t.2.1.getD i 0 else (0 : Int32)).toInt ∧ (if i < t.2.1.length then t.2.1.getD i 0 else (0 : Int32)).toInt ≤ 1000 := fun i => by
      by_cases c : i < t.2.1.length
      · rw [if_pos c]; exact s4' _ (l_memd _ i c)
      · rw [if_neg c]; decide
    refine ⟨t.1, fun _ => ⟨x2, x3, s1, s2, s3⟩, fun _ => ?_, fun _ i => by rw [px]; exact pb i, fun _ i => by rw [pm]; exact pb i, Or.inr ⟨by rw [x1]; decide, by rw [m1]; decide, ⟨m3, ji_cl m2⟩, funext (fun i => by rw [px, pm]), by rw [x4, m4], ?_⟩⟩
    · rw [ji_cl m2]; exact q_rk_of m3 s2
    · rw [x6, m6]
      rcases s5 with e | e | e <;> (rw [e]; decide)
theorem jt_Ck {σ τ : jf_S} {L : List Int32} (R : JR σ τ) (T : JT σ τ) (h1 : ∀ i, i < L.length → (τ.1 32) i = L.getD i 0) (h2 : ((τ.1 0 46)).toNatClampNeg = L.length) (k : Int32) : x_Ck σ L k = m_Ck τ k := by
  have hf : ∀ j f : Int32, x_h σ L j f k = m_h τ j f k := fun j f => jt_cf R T h1 h2 j f k
  funext j
  unfold x_Ck m_Ck x_Ci m_Ci
  rw [R.2.2.2.2.2.2.1, R.2.2.2.2.2.2.2.1]
  congr 1
  funext i
  exact hf _ _
theorem jw_prize {σ τ σ1 τ1 : jf_S} {r1 r2 k : Int32} {L : List Int32} (J : JM τ) (R : JR σ τ) (T : JT σ τ) (W : JW σ τ) (hL : (((σ.1 8 2)).toInt = 0 ∧ ((τ.1 0 44)).toInt = 0) ∨ (¬ ((σ.1 8 2)).toInt = 0 ∧ ¬ ((τ.1 0 44)).toInt = 0 ∧ ((∀ i, i < L.length → (τ.1 32) i = L.getD i 0) ∧ ((τ.1 0 46)).toNatClampNeg = L.length) ∧ x_P σ = m_P τ ∧ ((σ.1 8 4)).toInt = ((τ.1 0 48)).toInt ∧ q_it ((σ.1 8 5)) = (τ.1 0 49))) (hP : ¬ ((τ.1 0 44)).toInt = 0 → ∀ i, 0 ≤ (m_P τ i).toInt ∧ (m_P τ i).toInt ≤ 1000) (p : x_prq σ σ1 L k r1) (q : m_prq τ τ1 k r2) (hf : (τ1.1 0 7) = (τ.1 0 7)) : r1 = r2 ∧ JW σ1 τ1 := by
  have same : (σ1.1 10 8) = (σ.1 10 8) ∧ (σ1.1 54) = (σ.1 54) → (τ1.1 0 69) = (τ.1 0 69) ∧ (τ1.1 41) = (τ.1 41) → JW σ1 τ1 := fun a b => jw_of W ⟨a.2, a.1⟩ ⟨b.2, b.1, hf⟩
  by_cases c1 : 0 ≤ k.toInt ∧ k.toInt ≤ 100000
  · rcases hL with ⟨a, b⟩ | ⟨a, b, ⟨m1, m2⟩, d, e, g⟩
    · obtain ⟨p1, p2⟩ := p.2.1 c1 a
      obtain ⟨q1, q2⟩ := q.2.1 c1 b
      exact ⟨by rw [p1, q1], same p2 q2⟩
    · obtain ⟨b1, H1, w1, v1⟩ := p.2.2 c1 a
      obtain ⟨b2, H2, w2, v2⟩ := q.2.2 c1 b
      rw [g, T.2.2.2.2.2.2.2.2, d, e, jt_Ck R T m1 m2, R.2.2.2.2.1] at w1
      obtain ⟨z1, z2, z3⟩ := w_pz_H (t := (τ.1 0 49)) (fame := (τ.1 7)) (P := m_P τ) (np := ((τ.1 0 48)).toInt) (C := m_Ck τ k) (n := ((τ.1 0 35)).toNatClampNeg) H1 H2
      have hV := J.2.2.2.1
      have tJ := ji_tn hV.1.1
      have tf := ji_tn hV.2.1.1
      have oo := w_pz_o (t := (τ.1 0 49)) (fame := (τ.1 7)) (np := ((τ.1 0 48)).toInt) (F := ((τ.1 0 7)).toInt) (H := H2) (C := m_Ck τ k) (n := ((τ.1 0 35)).toNatClampNeg) (hP b) (by have := hV.1.2; omega) (fun j _ => m_Ck_c hV j) (fun f h1 h2 => by
        refine w_run_z (fun j hj x hx ex => ?_)
        obtain ⟨y, y1, -, y3⟩ := w_cl_mem hx
        have h5 := ji_tn (hV.2.2.1 j).1
        have hw := JM_w J j y (by omega) (by omega)
        have hv := hV.2.2.2 (5 * j + y)
        have y3 : (τ.1 26) (5 * j + y) = x := y3
        rw [y3] at hw hv
        have := ji_tn hv.1
        omega)
      obtain ⟨u1, u2, u3⟩ := w1
      obtain ⟨n1, n2, n3⟩ := w2
      have kr : ((τ1.1 0 69)).toNatClampNeg = (w_pz ((τ.1 0 49)) ((τ.1 7)) (m_P τ) ((τ.1 0 48)).toInt (m_Ck τ k) ((τ.1 0 35)).toNatClampNeg H2).2.1 := ji_cl n2
      refine ⟨Int32.toInt_inj.mp ?_, ?_, ?_, fun y hy => ?_⟩
      · rw [v1, v2, u1, n1, z1]
      · exact Int32.toInt_inj.mp (by rw [u2, n2, z2])
      · rw [n2]; have := oo.1; omega
      · rw [kr] at hy
        refine ⟨?_, fun f h1 h2 => ?_⟩
        · rw [u3 y (by rw [z2]; exact hy), n3 y hy, z3 y (by rw [z2]; exact hy)]
        · rw [hf] at h2
          rw [n3 y hy]; exact oo.2 y hy f h1 h2
  · obtain ⟨p1, p2⟩ := p.1 c1
    obtain ⟨q1, q2⟩ := q.1 c1
    exact ⟨by rw [p1, q1], same p2 q2⟩
theorem jw_round {σ τ σ1 τ1 : jf_S} {r1 r2 k f : Int32} (J : JM τ) (W : JW σ τ) (p : (r1, σ1) = (if k.toInt = -1 then (σ.1 10 8) else x_sumIn σ k f, σ)) (q : (r2, τ1) = m_round τ k f) : r1 = r2 := by
  obtain ⟨w1, w2, w3⟩ := W
  have e : r1 = if k.toInt = -1 then (σ.1 10 8) else x_sumIn σ k f := congrArg Prod.fst p
  have e2 : r2 = (m_round τ k f).1 := congrArg Prod.fst q
  have hF := J.2.2.2.1.2.1
  have rr := J.2.2.2.2.2.2.2.1
  have row : (0 ≤ k.toInt ∧ k.toInt < ((τ.1 0 69)).toInt) → (0 ≤ f.toInt ∧ f.toInt < 20) → (σ.1 54) (k * 20 + f).toNatClampNeg = (τ.1 41) (20 * k + f).toNatClampNeg ∧ (((τ.1 0 7)).toInt ≤ f.toInt → ((σ.1 54) (k * 20 + f).toNatClampNeg) = -1) := by
    intro a b
    have tk := ji_tn a.1
    have tf := ji_tn b.1
    have tr := ji_tn (x := (τ.1 0 69)) (by omega)
    have h := w3 k.toNatClampNeg (by omega)
    rw [x_ix20 ⟨a.1, by omega⟩ b, (m_ix20 (k := k) (f := f) a.1 (by omega) b.1 b.2).2, ← w_row_lt (S := (σ.1 54)) (k := k.toNatClampNeg) (f := f.toNatClampNeg) (by omega), ← w_row_lt (S := (τ.1 41)) (k := k.toNatClampNeg) (f := f.toNatClampNeg) (by omega), h.1]
    exact ⟨rfl, fun c => Int32.toInt_inj.mp (h.2 _ (by omega) (by omega))⟩
  rw [e, e2]
  have w1' := congrArg Int32.toInt w1
  by_cases c0 : ((τ.1 0 69)).toInt < 0
  · rw [show m_round τ k f = (-1, jf_i τ 0 0 0) from if_pos c0]
    by_cases c1 : k.toInt = -1
    · rw [if_pos c1, w1]
      exact Int32.toInt_inj.mp (by show ((τ.1 0 69)).toInt = -1; omega)
    · rw [if_neg c1]
      exact if_neg (fun h => by omega)
  · by_cases c1 : k.toInt = -1
    · rw [show m_round τ k f = ((τ.1 0 69), jf_i τ 0 0 0) from (if_neg c0).trans (if_pos c1), if_pos c1]
      exact w1
    · rw [if_neg c1]
      by_cases c2 : (0 ≤ k.toInt ∧ k.toInt < ((τ.1 0 69)).toInt) ∧ (0 ≤ f.toInt ∧ f.toInt < ((τ.1 0 7)).toInt)
      · rw [show m_round τ k f = ((τ.1 41) (20 * k + f).toNatClampNeg, jf_i τ 0 0 0) from (if_neg c0).trans ((if_neg c1).trans (if_pos c2))]
        refine (if_pos ⟨⟨c2.1.1, by omega, by omega⟩, by omega⟩).trans ?_
        exact (row c2.1 ⟨c2.2.1, by omega⟩).1
      · rw [show m_round τ k f = (-1, jf_i τ 0 0 0) from (if_neg c0).trans ((if_neg c1).trans (if_neg c2))]
        by_cases c3 : (0 ≤ k.toInt ∧ k.toInt < ((σ.1 10 8)).toInt ∧ k.toInt < 20) ∧ (0 ≤ f.toInt ∧ f.toInt < 20)
        · refine (if_pos c3).trans ?_
          exact (row ⟨c3.1.1, by omega⟩ c3.2).2 (by omega)
        · exact if_neg c3
theorem jw_s0 : JW x_s0 m_s0 := ⟨rfl, (by decide), fun q hq => absurd hq (Nat.not_lt_zero q)⟩
def JJ4 (σ τ : jf_S) : Prop := JX σ ∧ JM τ ∧ JR σ τ ∧ JT σ τ ∧ JW σ τ

