/-! what a prize is -/
def w_cut (A : Nat → Int32) : Nat → Int32 := fun f => if f < 20 then A f else 0
theorem w_cut_lt {A : Nat → Int32} {f : Nat} (h : f < 20) : w_cut A f = A f := if_pos h
theorem w_cut_upd {A : Nat → Int32} {x : Nat} {v : Int32} (h : x < 20) : w_cut (upd A x v) = upd (w_cut A) x v := by
  funext f
  unfold w_cut upd
  by_cases e : f = x
  · rw [if_pos e, if_pos e, if_pos (by omega)]
  · rw [if_neg e, if_neg e]
theorem w_cut_eq {A B : Nat → Int32} (h : ∀ f, f < 20 → A f = B f) : w_cut A = w_cut B := by
  funext f
  unfold w_cut
  by_cases e : f < 20
  · rw [if_pos e, if_pos e, h f e]
  · rw [if_neg e, if_neg e]
theorem w_cut_i {A B : Nat → Int32} (h : w_cut A = w_cut B) {f : Nat} (hf : f < 20) : A f = B f := by
  rw [← w_cut_lt (A := A) hf, h, w_cut_lt hf]
/-- the sums of round k -/
def w_row (S : Nat → Int32) (k : Nat) : Nat → Int32 := w_cut (fun f => S (20 * k + f))
theorem w_row_lt {S : Nat → Int32} {k f : Nat} (h : f < 20) : w_row S k f = S (20 * k + f) := if_pos h
theorem w_row_upd {S : Nat → Int32} {k x n : Nat} {v : Int32} (h : x < 20) (hn : n = 20 * k + x) : w_row (upd S n v) k = upd (w_row S k) x v := by
  have e : (fun f => upd S n v (20 * k + f)) = upd (fun f => S (20 * k + f)) x v := by
    funext f
    unfold upd
    by_cases e : f = x
    · rw [if_pos (by omega), if_pos e]
    · rw [if_neg (by omega), if_neg e]
  unfold w_row
  rw [e, w_cut_upd h]
theorem w_row_o {S : Nat → Int32} {q n : Nat} {v : Int32} (h : n < 20 * q ∨ 20 * q + 20 ≤ n) : w_row (upd S n v) q = w_row S q := by
  unfold w_row
  refine w_cut_eq (fun f hf => ?_)
  unfold upd
  rw [if_neg (by omega)]
/-- the votes that count, in order -/
def w_cl (v : Nat → Int32) (p : Nat → Bool) : Nat → List Int32
  | 0 => []
  | i + 1 => if p i = true then w_cl v p i ++ [v i] else w_cl v p i
theorem w_cl_t {v : Nat → Int32} {p : Nat → Bool} {i : Nat} (h : p i = true) : w_cl v p (i + 1) = w_cl v p i ++ [v i] := if_pos h
theorem w_cl_f {v : Nat → Int32} {p : Nat → Bool} {i : Nat} (h : p i = false) : w_cl v p (i + 1) = w_cl v p i := if_neg (by rw [h]; decide)
theorem w_cl_len {v : Nat → Int32} {p : Nat → Bool} : ∀ i, (w_cl v p i).length ≤ i
  | 0 => Nat.le_refl _
  | i + 1 => by
    have := w_cl_len (v := v) (p := p) i
    cases h : p i
    · rw [w_cl_f h]; omega
    · rw [w_cl_t h, List.length_append]
      show _ + 1 ≤ _
      omega
theorem w_cl_mem {v : Nat → Int32} {p : Nat → Bool} : ∀ {i : Nat} {x : Int32}, x ∈ w_cl v p i → ∃ q, q < i ∧ p q = true ∧ v q = x
  | 0, x, h => absurd h List.not_mem_nil
  | i + 1, x, h => by
    cases e : p i
    · rw [w_cl_f e] at h
      obtain ⟨q, a, b⟩ := w_cl_mem h
      exact ⟨q, by omega, b⟩
    · rw [w_cl_t e] at h
      rcases List.mem_append.mp h with h | h
      · obtain ⟨q, a, b⟩ := w_cl_mem h
        exact ⟨q, by omega, b⟩
      · exact ⟨i, by omega, e, (List.mem_singleton.mp h).symm⟩
/-- films that are in -/
def w_rl (R : Nat → Int32) (l : List Int32) : Nat → Int32 := l.foldl (fun R x => upd R x.toNatClampNeg 1) R
theorem w_rl_app {R : Nat → Int32} {l : List Int32} {x : Int32} : w_rl R (l ++ [x]) = upd (w_rl R l) x.toNatClampNeg 1 := by
  unfold w_rl; rw [List.foldl_append]; rfl
def w_run (C : Nat → List Int32) : Nat → Nat → Int32
  | 0 => fun _ => 0
  | j + 1 => w_rl (w_run C j) (C j)
/-- how often a film comes first -/
def w_f1 (F : Nat → Int32) : List Int32 → Nat → Int32
  | [] => F
  | x :: _ => upd F x.toNatClampNeg (F x.toNatClampNeg + 1)
theorem w_f1_a {F : Nat → Int32} {l : List Int32} {x : Int32} (h : l = []) : w_f1 F (l ++ [x]) = upd F x.toNatClampNeg (F x.toNatClampNeg + 1) := by subst h; rfl
theorem w_f1_b {F : Nat → Int32} : ∀ {l : List Int32} {x : Int32}, ¬ l = [] → w_f1 F (l ++ [x]) = w_f1 F l
  | [], x, h => absurd rfl h
  | a :: l, x, _ => rfl
def w_fir (C : Nat → List Int32) : Nat → Nat → Int32
  | 0 => fun _ => 0
  | j + 1 => w_f1 (w_fir C j) (C j)
theorem w_rl_z {R : Nat → Int32} {f : Nat} (hR : R f = 0) : ∀ {l : List Int32}, (∀ x ∈ l, ¬ x.toNatClampNeg = f) → w_rl R l f = 0 := by
  intro l
  induction l generalizing R with
  | nil => intro _; exact hR
  | cons a l ih =>
    intro h
    show w_rl (upd R a.toNatClampNeg 1) l f = 0
    refine ih ?_ (fun x hx => h x (List.mem_cons_of_mem _ hx))
    unfold upd
    rw [if_neg (fun e => h a List.mem_cons_self e.symm)]; exact hR
theorem w_run_z {C : Nat → List Int32} {f : Nat} : ∀ {n : Nat}, (∀ j, j < n → ∀ x ∈ C j, ¬ x.toNatClampNeg = f) → w_run C n f = 0
  | 0, _ => rfl
  | n + 1, h => w_rl_z (w_run_z (fun j hj => h j (by omega))) (h n (by omega))
theorem l_ap {l : List Int32} {x : Int32} : ∀ {i : Nat}, i < l.length → (l ++ [x]).getD i 0 = l.getD i 0 := by
  induction l with
  | nil => intro i h; exact absurd h (Nat.not_lt_zero _)
  | cons a l ih =>
    intro i h
    cases i with
    | zero => rfl
    | succ i => rw [List.cons_append, List.getD_cons_succ, List.getD_cons_succ]; exact ih (Nat.lt_of_succ_lt_succ h)
theorem l_apn {x : Int32} : ∀ {l : List Int32}, (l ++ [x]).getD l.length 0 = x
  | [] => rfl
  | a :: l => by rw [List.cons_append, List.length_cons, List.getD_cons_succ]; exact l_apn
/-- points of one juror's first i films -/
def w_pti (P : Nat → Int32) (l : List Int32) (S : Nat → Int32) : Nat → Nat → Int32
  | 0 => S
  | i + 1 => upd (w_pti P l S i) (l.getD i 0).toNatClampNeg (w_pti P l S i (l.getD i 0).toNatClampNeg + P i)
theorem w_pti_congr {P : Nat → Int32} {l m : List Int32} {S : Nat → Int32} : ∀ n, (∀ i, i < n → l.getD i 0 = m.getD i 0) → w_pti P l S n = w_pti P m S n
  | 0, _ => rfl
  | n + 1, h => by
    unfold w_pti
    rw [w_pti_congr n (fun i hi => h i (by omega)), h n (by omega)]
theorem w_pti_app {P : Nat → Int32} {l : List Int32} {S : Nat → Int32} {x : Int32} : w_pti P (l ++ [x]) S (l ++ [x]).length = upd (w_pti P l S l.length) x.toNatClampNeg (w_pti P l S l.length x.toNatClampNeg + P l.length) := by
  have e : (l ++ [x]).length = l.length + 1 := by rw [List.length_append]; rfl
  rw [e]
  show upd (w_pti P (l ++ [x]) S l.length) ((l ++ [x]).getD l.length 0).toNatClampNeg (w_pti P (l ++ [x]) S l.length ((l ++ [x]).getD l.length 0).toNatClampNeg + P l.length) = _
  rw [w_pti_congr (l := l ++ [x]) (m := l) l.length (fun i hi => l_ap hi), l_apn]
def w_pt (P : Nat → Int32) (C : Nat → List Int32) (S : Nat → Int32) : Nat → Nat → Int32
  | 0 => S
  | j + 1 => w_pti P (C j) (w_pt P C S j) (C j).length
/-- a round begun -/
def w_s0 (R : Nat → Int32) : Nat → Int32 := w_cut (fun f => if (R f).toInt = 0 then -1 else 0)
/-- the first film still in -/
def w_fr (R : Nat → Int32) (l : List Int32) : Option Int32 := l.find? (fun x => !decide ((R x.toNatClampNeg).toInt = 0))
theorem w_fr_app {R : Nat → Int32} {l : List Int32} {x : Int32} : w_fr R (l ++ [x]) = (w_fr R l).or (w_fr R [x]) := by
  unfold w_fr; exact List.find?_append
theorem w_fr_0 {R : Nat → Int32} {x : Int32} (h : (R x.toNatClampNeg).toInt = 0) : w_fr R [x] = none := by
  unfold w_fr; rw [List.find?_cons, decide_eq_true h]; rfl
theorem w_fr_1 {R : Nat → Int32} {x : Int32} (h : ¬ (R x.toNatClampNeg).toInt = 0) : w_fr R [x] = some x := by
  unfold w_fr; rw [List.find?_cons, decide_eq_false h]; rfl
/-- by places of votes -/
theorem w_fr_none {R v : Nat → Int32} {p : Nat → Bool} : ∀ n, (∀ i, i < n → p i = true → (R (v i).toNatClampNeg).toInt = 0) → w_fr R (w_cl v p n) = none
  | 0, _ => rfl
  | n + 1, h => by
    have ih := w_fr_none n (fun i hi => h i (by omega))
    cases e : p n
    · rw [w_cl_f e]; exact ih
    · rw [w_cl_t e, w_fr_app, ih, w_fr_0 (h n (by omega) e)]; rfl
theorem w_fr_some {R v : Nat → Int32} {p : Nat → Bool} {m : Nat} (hb : ∀ i, i < m → p i = true → (R (v i).toNatClampNeg).toInt = 0) (hm : p m = true) (hr : ¬ (R (v m).toNatClampNeg).toInt = 0) : ∀ n, m < n → w_fr R (w_cl v p n) = some (v m)
  | 0, h => absurd h (Nat.not_lt_zero _)
  | n + 1, h => by
    by_cases c : n = m
    · subst c
      rw [w_cl_t hm, w_fr_app, w_fr_none n hb, w_fr_1 hr]; rfl
    · have ih := w_fr_some hb hm hr n (by omega)
      cases e : p n
      · rw [w_cl_f e]; exact ih
      · rw [w_cl_t e, w_fr_app, ih]; rfl
/-- by places of the list -/
theorem w_fr_ln {R : Nat → Int32} : ∀ {l : List Int32}, (∀ i, i < l.length → (R (l.getD i 0).toNatClampNeg).toInt = 0) → w_fr R l = none
  | [], _ => rfl
  | a :: l, h => by
    have h0 : (R a.toNatClampNeg).toInt = 0 := h 0 (Nat.succ_pos _)
    unfold w_fr
    rw [List.find?_cons, decide_eq_true h0]
    exact w_fr_ln (l := l) (fun i hi => h (i + 1) (Nat.succ_lt_succ hi))
theorem w_fr_ls {R : Nat → Int32} : ∀ {l : List Int32} {n : Nat}, n < l.length → (∀ i, i < n → (R (l.getD i 0).toNatClampNeg).toInt = 0) → ¬ (R (l.getD n 0).toNatClampNeg).toInt = 0 → w_fr R l = some (l.getD n 0)
  | [], n, h, _, _ => absurd h (Nat.not_lt_zero _)
  | a :: l, 0, _, _, h => by
    have h : ¬ (R a.toNatClampNeg).toInt = 0 := h
    unfold w_fr
    rw [List.find?_cons, decide_eq_false h]; rfl
  | a :: l, n + 1, h, hb, hr => by
    have h0 : (R a.toNatClampNeg).toInt = 0 := hb 0 (Nat.succ_pos _)
    unfold w_fr
    rw [List.find?_cons, decide_eq_true h0, List.getD_cons_succ]
    exact w_fr_ls (l := l) (n := n) (Nat.lt_of_succ_lt_succ h) (fun i hi => hb (i + 1) (Nat.succ_lt_succ hi)) hr
theorem w_fr_in {R : Nat → Int32} {l : List Int32} {x : Int32} (h : w_fr R l = some x) : x ∈ l ∧ ¬ (R x.toNatClampNeg).toInt = 0 := by
  unfold w_fr at h
  refine ⟨List.mem_of_find?_eq_some h, ?_⟩
  have := List.find?_some h
  intro e
  rw [decide_eq_true e] at this
  exact absurd this (by decide)
/-- the sums and what was given, behind n jurors -/
def w_g1 (S : (Nat → Int32) × Int32) : Option Int32 → (Nat → Int32) × Int32
  | none => S
  | some x => (upd S.1 x.toNatClampNeg (S.1 x.toNatClampNeg + 1), S.2 + 1)
def w_gv (R : Nat → Int32) (C : Nat → List Int32) : Nat → (Nat → Int32) × Int32
  | 0 => (w_s0 R, 0)
  | j + 1 => w_g1 (w_gv R C j) (w_fr R (C j))
/-- ahead, at equal sums -/
def w_ah (t : Int32) (fame firs : Nat → Int32) (a b : Nat) : Bool :=
  if t.toInt = 0 ∧ ¬ (fame a).toInt = (fame b).toInt then decide ((fame b).toInt < (fame a).toInt)
  else if t.toInt = 2 ∧ ¬ (firs a).toInt = (firs b).toInt then decide ((firs b).toInt < (firs a).toInt)
  else decide (a < b)
theorem w_ah_n {t : Int32} {fame firs : Nat → Int32} {a b : Nat} (h : ¬ a = b) : w_ah t fame firs a b = !w_ah t fame firs b a := by
  have k : ∀ p q : Prop, [Decidable p] → [Decidable q] → (p ↔ ¬ q) → decide p = !decide q := by
    intro p q _ _ e
    by_cases hq : q
    · rw [decide_eq_true hq, decide_eq_false (fun hp => e.mp hp hq)]; rfl
    · rw [decide_eq_false hq, decide_eq_true (e.mpr hq)]; rfl
  unfold w_ah
  by_cases c1 : t.toInt = 0 ∧ ¬ (fame a).toInt = (fame b).toInt
  · have d1 : t.toInt = 0 ∧ ¬ (fame b).toInt = (fame a).toInt := ⟨c1.1, fun e => c1.2 e.symm⟩
    rw [if_pos c1, if_pos d1]
    exact k _ _ (by omega)
  · have d1 : ¬ (t.toInt = 0 ∧ ¬ (fame b).toInt = (fame a).toInt) := fun e => c1 ⟨e.1, fun q => e.2 q.symm⟩
    rw [if_neg c1, if_neg d1]
    by_cases c2 : t.toInt = 2 ∧ ¬ (firs a).toInt = (firs b).toInt
    · have d2 : t.toInt = 2 ∧ ¬ (firs b).toInt = (firs a).toInt := ⟨c2.1, fun e => c2.2 e.symm⟩
      rw [if_pos c2, if_pos d2]
      exact k _ _ (by omega)
    · have d2 : ¬ (t.toInt = 2 ∧ ¬ (firs b).toInt = (firs a).toInt) := fun e => c2 ⟨e.1, fun q => e.2 q.symm⟩
      rw [if_neg c2, if_neg d2]
      exact k _ _ (by omega)
def w_bt (A : Nat → Nat → Bool) (S : Nat → Int32) (f t : Nat) : Bool := if (S f).toInt = (S t).toInt then A f t else decide ((S t).toInt < (S f).toInt)
def w_fore (A : Nat → Nat → Bool) (S : Nat → Int32) : Nat → Int
  | 0 => -1
  | n + 1 => if (S n).toInt = -1 then w_fore A S n else if w_fore A S n < 0 ∨ w_bt A S n (w_fore A S n).toNat = true then (n : Int) else w_fore A S n
def w_hind (A : Nat → Nat → Bool) (S : Nat → Int32) : Nat → Int
  | 0 => -1
  | n + 1 => if (S n).toInt = -1 then w_hind A S n else if w_hind A S n < 0 ∨ w_bt A S (w_hind A S n).toNat n = true then (n : Int) else w_hind A S n
theorem w_fore_r {A : Nat → Nat → Bool} {S : Nat → Int32} : ∀ n, (w_fore A S n = -1 ∧ ∀ f, f < n → (S f).toInt = -1) ∨ (0 ≤ w_fore A S n ∧ w_fore A S n < n ∧ ¬ (S (w_fore A S n).toNat).toInt = -1 ∧ ∀ f, f < n → (S f).toInt = -1 ∨ (S f).toInt ≤ (S (w_fore A S n).toNat).toInt)
  | 0 => Or.inl ⟨rfl, fun f h => absurd h (Nat.not_lt_zero f)⟩
  | n + 1 => by
    have ih := w_fore_r (A := A) (S := S) n
    have s : ∀ f, f < n + 1 → f < n ∨ f = n := fun f h => by omega
    have tn : ((n : Int)).toNat = n := Int.toNat_natCast n
    unfold w_fore
    by_cases c1 : (S n).toInt = -1
    · rw [if_pos c1]
      rcases ih with ⟨a, b⟩ | ⟨a, b, c, d⟩
      · exact Or.inl ⟨a, fun f h => (s f h).elim (b f) (fun e => e ▸ c1)⟩
      · exact Or.inr ⟨a, by omega, c, fun f h => (s f h).elim (d f) (fun e => Or.inl (e ▸ c1))⟩
    · rw [if_neg c1]
      by_cases c2 : w_fore A S n < 0 ∨ w_bt A S n (w_fore A S n).toNat = true
      · rw [if_pos c2, tn]
        refine Or.inr ⟨by omega, by omega, c1, fun f h => ?_⟩
        rcases s f h with h | h
        · rcases ih with ⟨a, b⟩ | ⟨a, b, c, d⟩
          · exact Or.inl (b f h)
          · rcases c2 with c2 | c2
            · exfalso; omega
            · have m : (S (w_fore A S n).toNat).toInt ≤ (S n).toInt := by
                unfold w_bt at c2
                split at c2
                · omega
                · have := of_decide_eq_true c2; omega
              rcases d f h with q | q
              · exact Or.inl q
              · exact Or.inr (by omega)
        · rw [h]; exact Or.inr (Int.le_refl _)
      · rw [if_neg c2]
        rcases ih with ⟨a, b⟩ | ⟨a, b, c, d⟩
        · exact absurd (Or.inl (by omega)) c2
        · refine Or.inr ⟨a, by omega, c, fun f h => ?_⟩
          rcases s f h with h | h
          · exact d f h
          · rw [h]
            right
            have c2 : ¬ w_bt A S n (w_fore A S n).toNat = true := fun q => c2 (Or.inr q)
            unfold w_bt at c2
            split at c2
            · omega
            · have : ¬ _ := fun q => c2 (decide_eq_true q)
              omega
theorem w_hind_r {A : Nat → Nat → Bool} {S : Nat → Int32} : ∀ n, (w_hind A S n = -1 ∧ ∀ f, f < n → (S f).toInt = -1) ∨ (0 ≤ w_hind A S n ∧ w_hind A S n < n ∧ ¬ (S (w_hind A S n).toNat).toInt = -1)
  | 0 => Or.inl ⟨rfl, fun f h => absurd h (Nat.not_lt_zero f)⟩
  | n + 1 => by
    have ih := w_hind_r (A := A) (S := S) n
    have s : ∀ f, f < n + 1 → f < n ∨ f = n := fun f h => by omega
    have tn : ((n : Int)).toNat = n := Int.toNat_natCast n
    unfold w_hind
    by_cases c1 : (S n).toInt = -1
    · rw [if_pos c1]
      rcases ih with ⟨a, b⟩ | ⟨a, b, c⟩
      · exact Or.inl ⟨a, fun f h => (s f h).elim (b f) (fun e => e ▸ c1)⟩
      · exact Or.inr ⟨a, by omega, c⟩
    · rw [if_neg c1]
      by_cases c2 : w_hind A S n < 0 ∨ w_bt A S (w_hind A S n).toNat n = true
      · rw [if_pos c2, tn]
        exact Or.inr ⟨by omega, by omega, c1⟩
      · rw [if_neg c2]
        rcases ih with ⟨a, b⟩ | ⟨a, b, c⟩
        · exact absurd (Or.inl (by omega)) c2
        · exact Or.inr ⟨a, by omega, c⟩
theorem w_fore_m {A : Nat → Nat → Bool} {S : Nat → Int32} {m : Nat} : ∀ n, m ≤ n → (∀ f, m ≤ f → f < n → (S f).toInt = -1) → w_fore A S n = w_fore A S m
  | 0, h, _ => by rw [show m = 0 by omega]
  | n + 1, h, hs => by
    by_cases c : m = n + 1
    · rw [c]
    · have ih := w_fore_m (A := A) (S := S) n (by omega) (fun f h1 h2 => hs f h1 (by omega))
      show (if (S n).toInt = -1 then w_fore A S n else _) = _
      rw [if_pos (hs n (by omega) (by omega)), ih]
theorem w_hind_m {A : Nat → Nat → Bool} {S : Nat → Int32} {m : Nat} : ∀ n, m ≤ n → (∀ f, m ≤ f → f < n → (S f).toInt = -1) → w_hind A S n = w_hind A S m
  | 0, h, _ => by rw [show m = 0 by omega]
  | n + 1, h, hs => by
    by_cases c : m = n + 1
    · rw [c]
    · have ih := w_hind_m (A := A) (S := S) n (by omega) (fun f h1 h2 => hs f h1 (by omega))
      show (if (S n).toInt = -1 then w_hind A S n else _) = _
      rw [if_pos (hs n (by omega) (by omega)), ih]
def w_H (H : Nat → Nat → Int32) (k : Nat) (S : Nat → Int32) : Nat → Nat → Int32 := fun q => if q = k then S else H q
/-- round after round -/
def w_go (A : Nat → Nat → Bool) (C : Nat → List Int32) (n : Nat) : Nat → Nat → (Nat → Int32) → (Nat → Nat → Int32) → Int × Nat × (Nat → Nat → Int32)
  | 0, k, R, H => (-1, k, H)
  | m + 1, k, R, H =>
    if w_fore A (w_gv R C n).1 20 < 0 then (-1, k, H)
    else if (w_gv R C n).2.toInt < 2 * ((w_gv R C n).1 (w_fore A (w_gv R C n).1 20).toNat).toInt then (w_fore A (w_gv R C n).1 20, k + 1, w_H H k (w_gv R C n).1)
    else w_go A C n m (k + 1) (upd R (w_hind A (w_gv R C n).1 20).toNat 0) (w_H H k (w_gv R C n).1)
/-- by points -/
def w_po (A : Nat → Nat → Bool) (P : Nat → Int32) (C : Nat → List Int32) (n : Nat) (R : Nat → Int32) (H : Nat → Nat → Int32) : Int × Nat × (Nat → Nat → Int32) :=
  if w_fore A (w_pt P C (w_s0 R) n) 20 < 0 then (-1, 0, H) else (w_fore A (w_pt P C (w_s0 R) n) 20, 1, fun _ => w_pt P C (w_s0 R) n)
def w_out (r : Int) (k : Int32) (S : Nat → Int32) (o : Int × Nat × (Nat → Nat → Int32)) : Prop := r = o.1 ∧ k.toInt = (o.2.1 : Int) ∧ ∀ q, q < o.2.1 → w_row S q = o.2.2 q
/-- the award, by rules of np numbers -/
def w_pz (t : Int32) (fame P : Nat → Int32) (np : Int) (C : Nat → List Int32) (n : Nat) (H : Nat → Nat → Int32) : Int × Nat × (Nat → Nat → Int32) :=
  if 0 < np then w_po (w_ah t fame (w_fir C n)) P C n (w_run C n) H else w_go (w_ah t fame (w_fir C n)) C n 20 0 (w_run C n) H

