/-! the reference: the prize, exactly -/
theorem w_rl_k {R : Nat → Int32} {f : Nat} (hR : R f = 1) : ∀ {l : List Int32}, w_rl R l f = 1 := by
  intro l
  induction l generalizing R with
  | nil => exact hR
  | cons a l ih =>
    show w_rl (upd R a.toNatClampNeg 1) l f = 1
    refine ih ?_
    unfold upd
    split
    · rfl
    · exact hR
theorem w_rl_in {R : Nat → Int32} {x : Int32} : ∀ {l : List Int32}, x ∈ l → w_rl R l x.toNatClampNeg = 1 := by
  intro l
  induction l generalizing R with
  | nil => intro h; exact absurd h List.not_mem_nil
  | cons a l ih =>
    intro h
    show w_rl (upd R a.toNatClampNeg 1) l x.toNatClampNeg = 1
    rcases List.mem_cons.mp h with e | h
    · refine w_rl_k ?_
      rw [← e]; unfold upd; rw [if_pos rfl]
    · exact ih h
theorem w_run_in {C : Nat → List Int32} {x : Int32} {j : Nat} (h : x ∈ C j) : ∀ {n : Nat}, j < n → w_run C n x.toNatClampNeg = 1
  | 0, hj => absurd hj (Nat.not_lt_zero _)
  | n + 1, hj => by
    show w_rl (w_run C n) (C n) x.toNatClampNeg = 1
    by_cases e : j = n
    · subst e; exact w_rl_in h
    · exact w_rl_k (w_run_in h (by omega))
theorem l_mem_of {l : List Int32} {i : Nat} (h : i < l.length) : l.getD i 0 ∈ l := l_memd l i h
/-- points: out, or from nothing on -/
theorem w_pti_r {P S R : Nat → Int32} {l : List Int32} {B : Int} (hP : ∀ i, 0 ≤ (P i).toInt ∧ (P i).toInt ≤ 1000) (hB : 0 ≤ B ∧ B ≤ 100000) (hl : ∀ x ∈ l, ¬ (R x.toNatClampNeg).toInt = 0 ∧ x.toNatClampNeg < 20) (h : ∀ f, f < 20 → ((R f).toInt = 0 ∧ (S f).toInt = -1) ∨ (¬ (R f).toInt = 0 ∧ 0 ≤ (S f).toInt ∧ (S f).toInt ≤ B)) : ∀ i, i ≤ l.length → i ≤ 5 → ∀ f, f < 20 → ((R f).toInt = 0 ∧ (w_pti P l S i f).toInt = -1) ∨ (¬ (R f).toInt = 0 ∧ 0 ≤ (w_pti P l S i f).toInt ∧ (w_pti P l S i f).toInt ≤ B + 1000 * (i : Int))
  | 0, _, _ => fun f hf => (h f hf).imp id (fun q => ⟨q.1, q.2.1, by have := q.2.2; show (S f).toInt ≤ B + 1000 * ((0 : Nat) : Int); omega⟩)
  | i + 1, h1, h5 => fun f hf => by
    have ih := w_pti_r hP hB hl h i (by omega) (by omega)
    have m := hl _ (l_mem_of (l := l) (i := i) (by omega))
    have ix := ih _ m.2
    have hp := hP i
    show ((R f).toInt = 0 ∧ (upd (w_pti P l S i) (l.getD i 0).toNatClampNeg (w_pti P l S i (l.getD i 0).toNatClampNeg + P i) f).toInt = -1) ∨ (¬ (R f).toInt = 0 ∧ 0 ≤ (upd (w_pti P l S i) (l.getD i 0).toNatClampNeg (w_pti P l S i (l.getD i 0).toNatClampNeg + P i) f).toInt ∧ (upd (w_pti P l S i) (l.getD i 0).toNatClampNeg (w_pti P l S i (l.getD i 0).toNatClampNeg + P i) f).toInt ≤ B + 1000 * ((i + 1 : Nat) : Int))
    unfold upd
    by_cases e : f = (l.getD i 0).toNatClampNeg
    · rw [if_pos e, e]
      have own := ix.resolve_left (fun q => m.1 q.1)
      have s : (w_pti P l S i (l.getD i 0).toNatClampNeg + P i).toInt = (w_pti P l S i (l.getD i 0).toNatClampNeg).toInt + (P i).toInt := fb_addI (by omega) (by omega)
      exact Or.inr ⟨m.1, by omega, by omega⟩
    · rw [if_neg e]
      exact (ih f hf).imp id (fun q => ⟨q.1, q.2.1, by omega⟩)
theorem w_pt_r {P R : Nat → Int32} {C : Nat → List Int32} (hP : ∀ i, 0 ≤ (P i).toInt ∧ (P i).toInt ≤ 1000) : ∀ n, n ≤ 10 → (∀ j, j < n → (C j).length ≤ 5 ∧ ∀ x ∈ C j, ¬ (R x.toNatClampNeg).toInt = 0 ∧ x.toNatClampNeg < 20) → ∀ f, f < 20 → ((R f).toInt = 0 ∧ (w_pt P C (w_s0 R) n f).toInt = -1) ∨ (¬ (R f).toInt = 0 ∧ 0 ≤ (w_pt P C (w_s0 R) n f).toInt ∧ (w_pt P C (w_s0 R) n f).toInt ≤ 5000 * (n : Int))
  | 0, _, _ => fun f hf => by
    have e : w_pt P C (w_s0 R) 0 f = if (R f).toInt = 0 then -1 else 0 := w_cut_lt (A := fun f => if (R f).toInt = 0 then -1 else 0) hf
    rw [e]
    by_cases c : (R f).toInt = 0
    · rw [if_pos c]; exact Or.inl ⟨c, rfl⟩
    · rw [if_neg c]; exact Or.inr ⟨c, by decide, by decide⟩
  | n + 1, hn, hC => fun f hf => by
    have ih := w_pt_r hP n (by omega) (fun j hj => hC j (by omega))
    have c := hC n (by omega)
    have s := w_pti_r (l := C n) hP (B := 5000 * (n : Int)) (by omega) c.2 ih (C n).length (Nat.le_refl _) c.1 f hf
    have c1 := c.1
    exact s.imp id (fun q => ⟨q.1, q.2.1, by have := q.2.2; show (w_pti P (C n) (w_pt P C (w_s0 R) n) (C n).length f).toInt ≤ 5000 * ((n + 1 : Nat) : Int); omega⟩)
theorem w_fore_none {A : Nat → Nat → Bool} {S : Nat → Int32} (h : ∀ f, f < 20 → (S f).toInt = -1) : w_fore A S 20 = -1 := by
  rcases w_fore_r (A := A) (S := S) 20 with ⟨a, -⟩ | ⟨a, b, c, -⟩
  · exact a
  · exact absurd (h _ (by omega)) c
/-- nobody in: no prize, no round -/
theorem w_pz_none {t : Int32} {fame P : Nat → Int32} {np : Int} {C : Nat → List Int32} {n : Nat} {H : Nat → Nat → Int32} (hP : ∀ i, 0 ≤ (P i).toInt ∧ (P i).toInt ≤ 1000) (hn : n ≤ 10) (hC : ∀ j, j < n → (C j).length ≤ 5 ∧ ∀ x ∈ C j, x.toNatClampNeg < 20) (h : ∀ f, f < 20 → (w_run C n f).toInt = 0) : w_pz t fame P np C n H = (-1, 0, H) := by
  have e : ∀ j, j < n → ∀ x ∈ C j, ¬ (w_run C n x.toNatClampNeg).toInt = 0 := fun j hj x hx => by rw [w_run_in hx hj]; decide
  unfold w_pz
  split
  · unfold w_po
    rw [if_pos]
    rw [w_fore_none (fun f hf => ((w_pt_r (R := w_run C n) hP n hn (fun j hj => ⟨(hC j hj).1, fun x hx => ⟨e j hj x hx, (hC j hj).2 x hx⟩⟩) f hf).resolve_right (fun q => q.1 (h f hf))).2)]
    decide
  · refine w_go_0 ?_
    rw [w_fore_none (fun f hf => (((w_gv_r (R := w_run C n) (C := C) n hn (fun j hj => (hC j hj).2)).1 f hf).resolve_right (fun q => q.1 (h f hf))).2)]
    decide
theorem m_h_0 (σ : jf_S) (j f k : Int32) : m_h (jf_i σ 0 0 0) j f k = m_h σ j f k := m_h_e (σ := σ) (τ := jf_i σ 0 0 0) (fun k h => jf_i_o k (by omega)) rfl rfl j f k
theorem m_Ck_0 (σ : jf_S) (k : Int32) : m_Ck (jf_i σ 0 0 0) k = m_Ck σ k := by
  funext j
  unfold m_Ck m_Ci
  rw [jf_i_o 26 (by decide), jf_i_o 27 (by decide)]
  congr 1
/-- what prize answers and leaves -/
def m_prq (σ τ : jf_S) (k r : Int32) : Prop := (¬ (0 ≤ k.toInt ∧ k.toInt ≤ 100000) → r = -1 ∧ (τ.1 0 69) = (σ.1 0 69) ∧ (τ.1 41) = (σ.1 41)) ∧ ((0 ≤ k.toInt ∧ k.toInt ≤ 100000) → ((σ.1 0 44)).toInt = 0 → r = -6 ∧ (τ.1 0 69) = (σ.1 0 69) ∧ (τ.1 41) = (σ.1 41)) ∧ ((0 ≤ k.toInt ∧ k.toInt ≤ 100000) → ¬ ((σ.1 0 44)).toInt = 0 → ∃ (b : Int) (H : Nat → Nat → Int32), w_out b ((τ.1 0 69)) ((τ.1 41)) (w_pz ((σ.1 0 49)) ((σ.1 7)) (m_P σ) ((σ.1 0 48)).toInt (m_Ck σ k) ((σ.1 0 35)).toNatClampNeg H) ∧ r.toInt = if b < 0 then -6 else b)
/-- votes found, no round yet -/
def m_pr (o τ : jf_S) (k : Int32) : Prop := mS_a o τ ∧ (τ.1 0 69) = 0 ∧ m_in τ ((o.1 0 35)).toNatClampNeg 0 ∧ m_fi o τ k ((o.1 0 35)).toNatClampNeg 0
theorem m_Ck_c {o : jf_S} {k : Int32} (hV : mI_v o) (j : Nat) : (m_Ck o k j).length ≤ 5 ∧ ∀ x ∈ m_Ck o k j, x.toNatClampNeg < 20 := by
  refine ⟨?_, fun x hx => m_Ck_lt (mS_a_r o) hV j x hx⟩
  have h := w_cl_len (v := fun i => (o.1 26) (5 * j + i)) (p := fun i => m_h o (nI j) ((o.1 26) (5 * j + i)) k) ((o.1 27) j).toNatClampNeg
  have h5 := hV.2.2.1 j
  have := ji_tn h5.1
  exact Nat.le_trans h (by omega)
theorem m_pr_A {o τ : jf_S} {k : Int32} (h : m_pr o τ k) : m_A τ = w_ah ((o.1 0 49)) ((o.1 7)) (w_fir (m_Ck o k) ((o.1 0 35)).toNatClampNeg) := by
  unfold m_A
  rw [h.1.2.2 49 (by decide) (by decide), h.1.2.1 7 (by decide) (by decide) (by decide), h.2.2.2.2.2]; rfl
theorem m_pr_R {o τ : jf_S} {k : Int32} (h : m_pr o τ k) : w_cut ((τ.1 39)) = w_run (m_Ck o k) ((o.1 0 35)).toNatClampNeg := h.2.2.2.2.1
theorem m_P_e {o τ : jf_S} (h : mS_a o τ) : m_P τ = m_P o := by
  funext i
  unfold m_P
  rw [h.2.2 48 (by decide) (by decide), h.2.1 33 (by decide) (by decide) (by decide)]
/-- nobody in -/
theorem m_pr_0 {o τ : jf_S} {k : Int32} (hV : mI_v o) (hP : ∀ i, 0 ≤ (m_P o i).toInt ∧ (m_P o i).toInt ≤ 1000) (h : m_pr o τ k) (hz : ∀ f, f < 20 → ((τ.1 39) f).toInt = 0) : w_out (-1) ((τ.1 0 69)) ((τ.1 41)) (w_pz ((o.1 0 49)) ((o.1 7)) (m_P o) ((o.1 0 48)).toInt (m_Ck o k) ((o.1 0 35)).toNatClampNeg (fun q => w_row ((τ.1 41)) q)) := by
  have tJ := ji_tn hV.1.1
  rw [w_pz_none hP (by have := hV.1.2; omega) (fun j _ => m_Ck_c hV j) (fun f hf => by rw [← m_pr_R h, w_cut_lt hf]; exact hz f hf)]
  exact ⟨rfl, by rw [h.2.1]; rfl, fun q hq => absurd hq (Nat.not_lt_zero q)⟩
/-- by rounds -/
theorem m_pr_g {o τ υ : jf_S} {k r : Int32} (h : m_pr o τ k) (hp : ¬ 0 < ((o.1 0 48)).toInt) (w : w_out r.toInt ((υ.1 0 69)) ((υ.1 41)) (m_W o τ k)) : w_out r.toInt ((υ.1 0 69)) ((υ.1 41)) (w_pz ((o.1 0 49)) ((o.1 7)) (m_P o) ((o.1 0 48)).toInt (m_Ck o k) ((o.1 0 35)).toNatClampNeg (fun q => w_row ((τ.1 41)) q)) := by
  unfold w_pz
  rw [if_neg hp]
  unfold m_W at w
  rw [m_pr_A h, m_pr_R h, h.1.2.2 35 (by decide) (by decide)] at w
  exact w
/-- by points -/
theorem m_pr_p {o τ υ : jf_S} {k r : Int32} (hV : mI_v o) (hW : mI_w o) (hP : ∀ i, 0 ≤ (m_P o i).toInt ∧ (m_P o i).toInt ≤ 1000) (h : m_pr o τ k) (hp : 0 < ((o.1 0 48)).toInt) (hB : ∃ f : Nat, f < 20 ∧ ¬ ((τ.1 39) f).toInt = 0) (z : m_pj o τ υ k ((τ.1 0 35)).toNatClampNeg 0) (hr : r.toInt = w_ex 1 (m_A τ) (w_row ((υ.1 41)) 0) ((τ.1 0 7)).toNatClampNeg) : 0 ≤ r.toInt ∧ w_out r.toInt ((υ.1 0 69)) ((υ.1 41)) (w_pz ((o.1 0 49)) ((o.1 7)) (m_P o) ((o.1 0 48)).toInt (m_Ck o k) ((o.1 0 35)).toNatClampNeg (fun q => w_row ((τ.1 41)) q)) := by
  obtain ⟨f0, f1, f2⟩ := hB
  have tJ := ji_tn hV.1.1
  have tf := ji_tn hV.2.1.1
  have cj : (τ.1 0 35) = (o.1 0 35) := h.1.2.2 35 (by decide) (by decide)
  have cf : (τ.1 0 7) = (o.1 0 7) := h.1.2.2 7 (by decide) (by decide)
  have S0 : w_row ((υ.1 41)) 0 = w_pt (m_P o) (m_Ck o k) (w_s0 (w_run (m_Ck o k) ((o.1 0 35)).toNatClampNeg)) ((o.1 0 35)).toNatClampNeg := by
    have e : w_row ((υ.1 41)) 0 = w_pt (m_P τ) (m_Ck o k) (w_s0 (w_cut ((τ.1 39)))) ((τ.1 0 35)).toNatClampNeg := z.2.2.2
    rw [e, m_P_e h.1, m_pr_R h, cj]
  have e : ∀ j, j < ((o.1 0 35)).toNatClampNeg → ∀ x ∈ m_Ck o k j, ¬ (w_run (m_Ck o k) ((o.1 0 35)).toNatClampNeg x.toNatClampNeg).toInt = 0 := fun j hj x hx => by rw [w_run_in hx hj]; decide
  have pr := w_pt_r (C := m_Ck o k) (R := w_run (m_Ck o k) ((o.1 0 35)).toNatClampNeg) hP ((o.1 0 35)).toNatClampNeg (by have := hV.1.2; omega) (fun j hj => ⟨(m_Ck_c hV j).1, fun x hx => ⟨e j hj x hx, (m_Ck_c hV j).2 x hx⟩⟩)
  have zr : ∀ f, ((o.1 0 7)).toNatClampNeg ≤ f → w_run (m_Ck o k) ((o.1 0 35)).toNatClampNeg f = 0 := by
    intro f hf
    refine w_run_z (fun j hj x hx ex => ?_)
    obtain ⟨q, q1, -, q3⟩ := w_cl_mem hx
    have h5 := ji_tn (hV.2.2.1 j).1
    have hw := hW j q (by omega) (by omega)
    have hv := hV.2.2.2 (5 * j + q)
    have q3 : (o.1 26) (5 * j + q) = x := q3
    rw [q3] at hw hv
    have := ji_tn hv.1
    omega
  have rout : ∀ f, ((o.1 0 7)).toNatClampNeg ≤ f → f < 20 → (w_row ((υ.1 41)) 0 f).toInt = -1 := fun f h1 h2 => by
    rw [S0]
    rcases pr f h2 with q | q
    · exact q.2
    · exact absurd (by rw [zr f h1]; rfl) q.1
  have m20 : ((o.1 0 7)).toNatClampNeg ≤ 20 := by have := hV.2.1.2; omega
  have hr2 : r.toInt = w_fore (w_ah ((o.1 0 49)) ((o.1 7)) (w_fir (m_Ck o k) ((o.1 0 35)).toNatClampNeg)) (w_row ((υ.1 41)) 0) 20 := by
    rw [hr, m_pr_A h, cf]
    show (if (1 : Int32).toInt = 0 then _ else _) = _
    rw [if_neg (by decide)]
    exact (w_fore_m 20 m20 rout).symm
  have ge : 0 ≤ w_fore (w_ah ((o.1 0 49)) ((o.1 7)) (w_fir (m_Ck o k) ((o.1 0 35)).toNatClampNeg)) (w_row ((υ.1 41)) 0) 20 := by
    rcases w_fore_r (A := w_ah ((o.1 0 49)) ((o.1 7)) (w_fir (m_Ck o k) ((o.1 0 35)).toNatClampNeg)) (S := w_row ((υ.1 41)) 0) 20 with ⟨-, b⟩ | ⟨a, -⟩
    · have b0 := b f0 f1
      rw [S0] at b0
      rcases pr f0 f1 with q | q
      · rw [← m_pr_R h, w_cut_lt f1] at q; exact absurd q.1 f2
      · omega
    · exact a
  refine ⟨by omega, ?_⟩
  unfold w_pz w_po
  rw [if_pos hp, ← S0, if_neg (by omega)]
  refine ⟨hr2, ?_, fun q hq => ?_⟩
  · rw [z.2.1, h.2.1]; rfl
  · have hq : q < 1 := hq
    rw [show q = 0 by omega]
theorem ct_X11_prize3 (E : jf_E) (σ : jf_S) (k : Int32) (hR : mI_r σ) (hV : mI_v σ) (hW : mI_w σ) (p0 : 0 ≤ ((σ.1 0 48)).toInt ∧ ((σ.1 0 48)).toInt ≤ 5) (r0 : -1 ≤ ((σ.1 0 69)).toInt ∧ ((σ.1 0 69)).toInt ≤ 21) (hP : ¬ ((σ.1 0 44)).toInt = 0 → ∀ i, 0 ≤ (m_P σ i).toInt ∧ (m_P σ i).toInt ≤ 1000) (hd : ¬ ((σ.1 0 44)).toInt = 0 → m_dep ((σ.1 32)) ((σ.1 0 46)).toNatClampNeg = 1) : jf_I jh_M E yX11_prize cX11_prize 4 .int 4 [jf_r E 0, .int k] σ (fun r τ => (mS_g mK_prize mJ_prize σ τ ∧ -1 ≤ ((τ.1 0 69)).toInt ∧ ((τ.1 0 69)).toInt ≤ 21) ∧ m_prq σ τ k r) := by
  refine jf_mkI (by decide) (Nat.le_of_ble_eq_true rfl) ?_
  intro G C ret
  have z0 : mS_g mK_prize mJ_prize σ (jf_i σ 0 0 0) := mS_g_i (mS_g_r σ) (by decide)
  have Q : ∀ (τ : jf_S) (b : Int) (r : Int32) (H : Nat → Nat → Int32), (0 ≤ k.toInt ∧ k.toInt ≤ 100000) → ¬ ((σ.1 0 44)).toInt = 0 → w_out b ((τ.1 0 69)) ((τ.1 41)) (w_pz ((σ.1 0 49)) (((jf_i σ 0 0 0).1 7)) (m_P (jf_i σ 0 0 0)) ((σ.1 0 48)).toInt (m_Ck (jf_i σ 0 0 0) k) ((σ.1 0 35)).toNatClampNeg H) → (r.toInt = if b < 0 then -6 else b) → m_prq σ τ k r := by
    intro τ b r H h1 h2 h3 h4
    rw [m_Ck_0] at h3
    exact ⟨fun h => absurd h1 h, fun _ h => absurd h h2, fun _ _ => ⟨b, H, h3, h4⟩⟩
  have l51 : ∀ (m : Nat) (τ : jf_S) (a i : Int32), mS_g mK_prize mJ_prize σ τ → m_pr (jf_i σ 0 0 0) τ k → (0 ≤ k.toInt ∧ k.toInt ≤ 100000) → ¬ ((σ.1 0 44)).toInt = 0 → (¬ a.toInt = 0 → ∃ f : Nat, f < 20 ∧ ¬ ((τ.1 39) f).toInt = 0) → (a.toInt = 0 → ∀ f : Nat, (f : Int) < i.toInt → ((τ.1 39) f).toInt = 0) → 0 ≤ i.toInt → i.toInt ≤ 20 → 20 - i.toInt < m → jf_X jh_M E G 4 51 [(0, jf_r E 0), (1, .int k), (2, .int a), (3, .int i)] [] τ := by
    intro m
    induction m with
    | zero => intro τ a i z h hk hs B B0 g1 g2 g3; exfalso; omega
    | succ m ih =>
      intro τ a i z h hk hs B B0 g1 g2 g3
      have e1 := ji_inc (k := i) (by omega)
      have ei := ji_tn g1
      have ro : ((τ.1 0 69)).toInt = 0 := by rw [h.2.1]; rfl
      have oV : mI_v (jf_i σ 0 0 0) := hV
      have oW : mI_w (jf_i σ 0 0 0) := hW
      have oP : ∀ i, 0 ≤ (m_P (jf_i σ 0 0 0) i).toInt ∧ (m_P (jf_i σ 0 0 0) i).toInt ≤ 1000 := hP hs
      have V' := mS_a_V h.1 oV
      have cj : (τ.1 0 35) = (σ.1 0 35) := h.1.2.2 35 (by decide) (by decide)
      have cf : (τ.1 0 7) = (σ.1 0 7) := h.1.2.2 7 (by decide) (by decide)
      have cvm : (τ.1 27) = (σ.1 27) := h.1.2.1 27 (by decide) (by decide) (by decide)
      have cv : (τ.1 26) = (σ.1 26) := h.1.2.1 26 (by decide) (by decide) (by decide)
      have W' : mI_w τ := by unfold mI_w; rw [cj, cf, cvm, cv]; exact hW
      have cp : (τ.1 0 48) = (σ.1 0 48) := h.1.2.2 48 (by decide) (by decide)
      have cpi := congrArg Int32.toInt cp
      have P' : 0 ≤ ((τ.1 0 48)).toInt ∧ ((τ.1 0 48)).toInt ≤ 5 := by rw [cp]; exact p0
      have vd : m_vd (jf_i σ 0 0 0) τ k ((τ.1 0 35)).toNatClampNeg 0 := by rw [cj]; exact h.2.2.2.1
      have A' : m_in τ ((τ.1 0 35)).toNatClampNeg 0 := by rw [cj]; exact h.2.2.1
      refine jr_iload_n C dX11_prize_51 rfl ?_
      refine jr_bipush C (v := 20) dX11_prize_52 (by decide) ?_
      refine jr_ncmp_ge C (b := 20) 82 dX11_prize_54 (by decide) rfl rfl (fun b54 => ?_) (fun b54 => ?_)
      · refine jr_iload_n C dX11_prize_82 rfl ?_
        refine jr_nif_ne C 93 dX11_prize_83 (by decide) (fun b83 => ?_) (fun b83 => ?_)
        · refine jr_aload_n C dX11_prize_93 rfl ?_
          refine jr_aload_n C dX11_prize_94 rfl ?_
          refine jr_getv C kf_X11_365_0 dX11_prize_95 (v := τ.1 0 48) rfl ?_
          refine jr_nif_le C 108 dX11_prize_98 (by decide) (fun b98 => ?_) (fun b98 => ?_)
          · refine jr_aload_n C dX11_prize_108 rfl ?_
            refine jr_vi C [] _ (ct_X11_byRounds3 E _ (jf_i σ 0 0 0) k h.1 vd V' W' h.2.1 A' (B b83)) ky_X11_byRounds kv_X11_byRounds kk_M_0 km_X11_399 (by decide) rfl (Nat.le_of_ble_eq_true rfl) dX11_prize_109 (fun r109 τ109 h109 => ?_)
            have y109 := m_pr_g h (show ¬ 0 < ((σ.1 0 48)).toInt by omega) h109.2.2.1
            refine jr_vip C [.int _] _ (ct_X11_told E _ _) ky_X11_told kv_X11_told kk_M_0 km_X11_173 (by decide) rfl (Nat.le_of_ble_eq_true rfl) dX11_prize_112 ?_
            exact ret _ _ _ _ dX11_prize_115 rfl (by first | exact ⟨⟨mS_g_i (mS_g_p z h102.1.1 (by decide) (by decide)) (by decide), show -1 ≤ ((τ102.1 0 69)).toInt by omega, show ((τ102.1 0 69)).toInt ≤ 21 by omega⟩, Q _ _ _ _ hk hs y102.2 (by rw [if_neg (by omega)])⟩ | exact ⟨⟨mS_g_i (mS_g_p z h109.1 (by decide) (by decide)) (by decide), show -1 ≤ ((τ109.1 0 69)).toInt by have := h109.2.1; omega, show ((τ109.1 0 69)).toInt ≤ 21 by have := h109.2.1; omega⟩, Q _ _ _ _ hk hs y109 (by rw [if_neg (by have := h109.2.2.2; omega)])⟩)
          · refine jr_aload_n C dX11_prize_101 rfl ?_
            refine jr_vi C [] _ (ct_X11_byPoints3 E _ (jf_i σ 0 0 0) k h.1 vd V' h.2.1 P') ky_X11_byPoints kv_X11_byPoints kk_M_0 km_X11_396 (by decide) rfl (Nat.le_of_ble_eq_true rfl) dX11_prize_102 (fun r102 τ102 h102 => ?_)
            have r2 : ((τ102.1 0 69)).toInt = 1 := (by rw [h102.1.2.1, h.2.1]; rfl); have y102 := m_pr_p oV oW oP h (show 0 < ((σ.1 0 48)).toInt by omega) (B b83) h102.1 h102.2
            refine jr_goto C 112 dX11_prize_105 (by decide) ?_
            refine jr_vip C [.int _] _ (ct_X11_told E _ _) ky_X11_told kv_X11_told kk_M_0 km_X11_173 (by decide) rfl (Nat.le_of_ble_eq_true rfl) dX11_prize_112 ?_
            exact ret _ _ _ _ dX11_prize_115 rfl (by first | exact ⟨⟨mS_g_i (mS_g_p z h102.1.1 (by decide) (by decide)) (by decide), show -1 ≤ ((τ102.1 0 69)).toInt by omega, show ((τ102.1 0 69)).toInt ≤ 21 by omega⟩, Q _ _ _ _ hk hs y102.2 (by rw [if_neg (by omega)])⟩ | exact ⟨⟨mS_g_i (mS_g_p z h109.1 (by decide) (by decide)) (by decide), show -1 ≤ ((τ109.1 0 69)).toInt by have := h109.2.1; omega, show ((τ109.1 0 69)).toInt ≤ 21 by have := h109.2.1; omega⟩, Q _ _ _ _ hk hs y109 (by rw [if_neg (by have := h109.2.2.2; omega)])⟩)
        · refine jr_aload_n C dX11_prize_86 rfl ?_
          refine jr_bipush C (v := -6) dX11_prize_87 (by decide) ?_
          refine jr_vip C [.int _] _ (ct_X11_told E _ _) ky_X11_told kv_X11_told kk_M_0 km_X11_173 (by decide) rfl (Nat.le_of_ble_eq_true rfl) dX11_prize_89 ?_
          exact ret _ _ _ _ dX11_prize_92 rfl (⟨⟨mS_g_i z (by decide), show -1 ≤ ((τ.1 0 69)).toInt by omega, show ((τ.1 0 69)).toInt ≤ 21 by omega⟩, Q _ (-1) _ _ hk hs (m_pr_0 (o := jf_i σ 0 0 0) (τ := τ) oV oP h (fun f hf => B0 b83 f (by omega))) rfl⟩)
      · refine jr_iload_n C dX11_prize_57 rfl ?_
        refine jr_nif_ne C 70 dX11_prize_58 (by decide) (fun b58 => ?_) (fun b58 => ?_)
        · refine jr_iconst C (v := 1) dX11_prize_70 (by decide) ?_
          refine jr_goto C 75 dX11_prize_71 (by decide) ?_
          refine jr_istore_n C dX11_prize_75 (by decide) ?_
          refine jr_iinc C _ dX11_prize_76 rfl rfl (by decide) ?_
          refine jr_goto C 51 dX11_prize_79 (by decide) ?_
          exact jr_sub [(0, jf_r E 0), (1, .int k), (2, .int _), (3, .int _)] rfl (ih τ _ _ z h hk hs (fun h => by first | exact B b58 | exact absurd rfl h | exact ⟨i.toNatClampNeg, by omega, b67⟩) (fun q f hf => by first | exact absurd q (by decide) | (by_cases e : f = i.toNatClampNeg; (rw [e]; exact b67); exact B0 b58 f (by omega))) (by omega) (by omega) (by omega))
        · refine jr_aload_n C dX11_prize_61 rfl ?_
          refine jr_getr C kf_X11_132_0 dX11_prize_62 ?_
          refine jr_iload_n C dX11_prize_65 rfl ?_
          refine jr_zalv C ka_M_39 dX11_prize_66 (ji_in (i := i) (by omega) (by omega)) (v := τ.1 39 _) rfl ?_
          refine jr_nif_eq C 74 dX11_prize_67 (by decide) (fun b67 => ?_) (fun b67 => ?_)
          · refine jr_iconst C (v := 0) dX11_prize_74 (by decide) ?_
            refine jr_istore_n C dX11_prize_75 (by decide) ?_
            refine jr_iinc C _ dX11_prize_76 rfl rfl (by decide) ?_
            refine jr_goto C 51 dX11_prize_79 (by decide) ?_
            exact jr_sub [(0, jf_r E 0), (1, .int k), (2, .int _), (3, .int _)] rfl (ih τ _ _ z h hk hs (fun h => by first | exact B b58 | exact absurd rfl h | exact ⟨i.toNatClampNeg, by omega, b67⟩) (fun q f hf => by first | exact absurd q (by decide) | (by_cases e : f = i.toNatClampNeg; (rw [e]; exact b67); exact B0 b58 f (by omega))) (by omega) (by omega) (by omega))
          · refine jr_iconst C (v := 1) dX11_prize_70 (by decide) ?_
            refine jr_goto C 75 dX11_prize_71 (by decide) ?_
            refine jr_istore_n C dX11_prize_75 (by decide) ?_
            refine jr_iinc C _ dX11_prize_76 rfl rfl (by decide) ?_
            refine jr_goto C 51 dX11_prize_79 (by decide) ?_
            exact jr_sub [(0, jf_r E 0), (1, .int k), (2, .int _), (3, .int _)] rfl (ih τ _ _ z h hk hs (fun h => by first | exact B b58 | exact absurd rfl h | exact ⟨i.toNatClampNeg, by omega, b67⟩) (fun q f hf => by first | exact absurd q (by decide) | (by_cases e : f = i.toNatClampNeg; (rw [e]; exact b67); exact B0 b58 f (by omega))) (by omega) (by omega) (by omega))
  refine jr_aload_n C dX11_prize_0 rfl ?_
  refine jr_iconst C (v := 0) dX11_prize_1 (by decide) ?_
  refine jr_puti C kp_X11_144_0 dX11_prize_2 ?_
  refine jr_iload_n C dX11_prize_5 rfl ?_
  refine jr_i2l C dX11_prize_6 ?_
  refine jr_lconst C (v := 0) dX11_prize_7 (by decide) ?_
  refine jr_ldc2 C kc_X11_267 dX11_prize_8 ?_
  refine jr_sip C [.long _, .long _, .long _] _ (ct_X11_inw E _ _ _ _ 0 100000 rfl rfl) ky_X11_in ks_X11_in km_X11_153 (by decide) rfl (Nat.le_of_ble_eq_true rfl) dX11_prize_11 ?_
  refine jr_if_ne C 23 dX11_prize_14 (by decide) (fun b14 => ?_) (fun b14 => ?_)
  · replace b14 := jb_t b14
    refine jr_aload_n C dX11_prize_23 rfl ?_
    refine jr_getv C kf_X11_359_0 dX11_prize_24 (v := σ.1 0 44) rfl ?_
    refine jr_nif_ne C 37 dX11_prize_27 (by decide) (fun b27 => ?_) (fun b27 => ?_)
    · refine jr_aload_n C dX11_prize_37 rfl ?_
      refine jr_iload_n C dX11_prize_38 rfl ?_
      refine jr_vv C [.int _] _ (ct_X11_findVotes3 E _ _ hR hV (hd b27)) ky_X11_findVotes kv_X11_findVotes kk_M_0 km_X11_393 (by decide) rfl (Nat.le_of_ble_eq_true rfl) dX11_prize_39 (fun τ39 h39 => ?_)
      refine jr_aload_n C dX11_prize_42 rfl ?_
      refine jr_iconst C (v := 0) dX11_prize_43 (by decide) ?_
      refine jr_puti C kp_X11_141_0 dX11_prize_44 ?_
      refine jr_iconst C (v := 0) dX11_prize_47 (by decide) ?_
      refine jr_istore_n C dX11_prize_48 (by decide) ?_
      refine jr_iconst C (v := 0) dX11_prize_49 (by decide) ?_
      refine jr_istore_n C dX11_prize_50 (by decide) ?_
      exact jr_sub [(0, jf_r E 0), (1, .int k), (2, .int 0), (3, .int 0)] rfl (l51 22 _ _ _ (mS_g_i (mS_g_p z0 h39.1 (by decide) (by decide)) (by decide)) ⟨mS_a_0 h39.1, rfl, h39.2.1, h39.2.2⟩ b14 b27 (fun h => absurd rfl h) (fun _ f hf => by exfalso; have : (0 : Int32).toInt = 0 := rfl; omega) (by decide) (by decide) (by decide))
    · refine jr_aload_n C dX11_prize_30 rfl ?_
      refine jr_bipush C (v := -6) dX11_prize_31 (by decide) ?_
      refine jr_vip C [.int _] _ (ct_X11_told E _ _) ky_X11_told kv_X11_told kk_M_0 km_X11_173 (by decide) rfl (Nat.le_of_ble_eq_true rfl) dX11_prize_33 ?_
      exact ret _ _ _ _ dX11_prize_36 rfl (⟨⟨mS_g_i z0 (by decide), r0⟩, fun h => absurd b14 h, fun _ _ => ⟨rfl, rfl, rfl⟩, fun _ h => absurd b27 h⟩)
  · replace b14 := jb_f b14
    refine jr_aload_n C dX11_prize_17 rfl ?_
    refine jr_iconst C (v := -1) dX11_prize_18 (by decide) ?_
    refine jr_vip C [.int _] _ (ct_X11_told E _ _) ky_X11_told kv_X11_told kk_M_0 km_X11_173 (by decide) rfl (Nat.le_of_ble_eq_true rfl) dX11_prize_19 ?_
    exact ret _ _ _ _ dX11_prize_22 rfl (⟨⟨mS_g_i z0 (by decide), r0⟩, fun _ => ⟨rfl, rfl, rfl⟩, fun h => absurd h b14, fun h => absurd h b14⟩)

