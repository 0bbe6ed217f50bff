/-! the reference's loop over tokens reads what the grammar says (by any loop that keeps these steps) -/
abbrev qN : List Int32 := [110, 111, 116]
abbrev qA : List Int32 := [97, 110, 100]
abbrev qO : List Int32 := [111, 114]
/-- below a chain: nothing, or an opening, or what binds less -/
def q_hd (P : List Int32) (t : Int) : Prop := P = [] ∨ ∃ x Q, P = x :: Q ∧ (x.toInt = -6 ∨ x.toInt < t)
/-- no 'not' on top -/
def q_h3 (P : List Int32) : Prop := P = [] ∨ ∃ x Q, P = x :: Q ∧ ¬ x.toInt = -3
theorem q_h3_of {P : List Int32} {t : Int} (ht : t ≤ -3) (h : q_hd P t) : q_h3 P := by
  rcases h with h | ⟨x, Q, h, q⟩
  · exact Or.inl h
  · exact Or.inr ⟨x, Q, h, by omega⟩
theorem q_first {a : Nat → Int32} {n f : Nat} {bs : List Int32} (hb : 0 < bs.length) (h : tk_wb a n f bs = true) : (a f).toInt = (bs.getD 0 0).toInt := ((tk_wb_i.mp h).2 0 hb).2
theorem q_asked_w {a : Nat → Int32} {n f : Nat} (h : (a f).toInt = 110 ∨ (a f).toInt = 40) : q_asked a n f = .inr f := by
  have k1 : ¬ tk_wb a n f [115, 97, 119] = true := fun q => by have := q_first (by decide) q; have : (a f).toInt = 115 := this; omega
  have k2 : ¬ tk_wb a n f [107, 105, 110] = true := fun q => by have := q_first (by decide) q; have : (a f).toInt = 107 := this; omega
  have k3 : ¬ tk_wb a n f [111, 108, 100] = true := fun q => by have := q_first (by decide) q; have : (a f).toInt = 111 := this; omega
  unfold q_asked
  rw [if_neg k1, if_neg k2, if_neg k3]
section SIM
variable {α : Type} (a : Nat → Int32) (n : Nat) (C : α → List Int32 → List Int32 → Nat → Prop) (GW GU : α → Prop) (Bad : α → Nat → Prop)
/-- what each turn of the loop does -/
def sim_H : Prop :=
  (∀ (x : α) (P K : List Int32) (f : Nat) (t : Int32), C x P K f → ((t = -3 ∧ tk_wb a n f qN = true) ∨ (t = -6 ∧ ¬ tk_wb a n f qN = true ∧ tk_sb a n f 40 = true)) → cN P < 8 → (∀ y, C y (t :: P) K (tk_x a n f) → GW y) → GW x) ∧
  (∀ (x : α) (P K : List Int32) (f : Nat), C x P K f → (tk_wb a n f qN = true ∨ (¬ tk_wb a n f qN = true ∧ tk_sb a n f 40 = true)) → ¬ cN P < 8 → (∀ y, Bad y f → GW y) → GW x) ∧
  (∀ (x : α) (j : Nat) (P0 K : List Int32) (f : Nat), C x (List.replicate j (-3) ++ P0) K f → q_h3 P0 → ¬ tk_wb a n f qN = true → ¬ tk_sb a n f 40 = true → (∀ r, q_asked a n f = .inl r → ∀ y, C y P0 (K ++ r.2 ++ List.replicate j (-3)) r.1 → GU y) → (∀ e, q_asked a n f = .inr e → ∀ y, Bad y e → GU y) → GW x) ∧
  (∀ (x : α) (S P0 K : List Int32) (f : Nat) (t : Int32), C x (S ++ P0) K f → ((t = -4 ∧ tk_wb a n f qA = true) ∨ (t = -5 ∧ ¬ tk_wb a n f qA = true ∧ tk_wb a n f qO = true)) → (∀ z ∈ S, ¬ z.toInt = -6 ∧ t.toInt ≤ z.toInt) → q_hd P0 t.toInt → (∀ y, C y (t :: P0) (K ++ S) (tk_x a n f) → GW y) → GU x) ∧
  (∀ (x : α) (j : Nat) (S P0 K : List Int32) (f : Nat), C x (S ++ (-6 :: (List.replicate j (-3) ++ P0))) K f → ¬ tk_wb a n f qA = true → ¬ tk_wb a n f qO = true → (∀ z ∈ S, ¬ z.toInt = -6 ∧ -5 ≤ z.toInt) → q_h3 P0 → tk_sb a n f 41 = true → (∀ y, C y P0 (K ++ S ++ List.replicate j (-3)) (tk_x a n f) → GU y) → GU x) ∧
  (∀ (x : α) (j : Nat) (S P0 K : List Int32) (f : Nat), C x (S ++ (-6 :: (List.replicate j (-3) ++ P0))) K f → ¬ tk_wb a n f qA = true → ¬ tk_wb a n f qO = true → (∀ z ∈ S, ¬ z.toInt = -6 ∧ -5 ≤ z.toInt) → q_h3 P0 → ¬ tk_sb a n f 41 = true → (∀ y, Bad y f → GU y) → GU x)
/-- an item of depth k, beginning where something is wanted -/
def sim_N (k : Nat) : Prop := ∀ (x : α) (j : Nat) (P0 K : List Int32) (f : Nat), C x (List.replicate j (-3) ++ P0) K f → f ≤ n → q_h3 P0 → cN (List.replicate j (-3) ++ P0) + k = 8 → (∀ r, q_not a n k f = .inl r → ∀ y, C y P0 (K ++ r.2 ++ List.replicate j (-3)) r.1 → GU y) → (∀ e, q_not a n k f = .inr e → ∀ y, Bad y e → GW y ∧ GU y) → GW x
def sim_S1 (S : List Int32) : Prop := S = [] ∨ S = [-4]
def sim_S2 (S : List Int32) : Prop := S = [] ∨ S = [-4] ∨ S = [-5] ∨ S = [-4, -5]
theorem sim_and_lp (H : sim_H a n C GW GU Bad) {k : Nat} (N : sim_N a n C GW GU Bad k) {Q K0 : List Int32} (hQ : q_hd Q (-4)) (hd : cN Q + k = 8) : ∀ (m g : Nat) (o o1 S1 : List Int32) (x : α), g ≤ n → n ≤ g + m → C x (S1 ++ Q) (K0 ++ o1) g → o1 ++ S1 = o → sim_S1 S1 → (∀ r, q_loop a n qA (-4) (q_not a n k) m g o = .inl r → ∀ y S' o', C y (S' ++ Q) (K0 ++ o') r.1 → o' ++ S' = r.2 → sim_S1 S' → ¬ tk_wb a n r.1 qA = true → r.1 ≤ n → GU y) → (∀ e, q_loop a n qA (-4) (q_not a n k) m g o = .inr e → ∀ y, Bad y e → GW y ∧ GU y) → GU x := by
  intro m
  induction m with
  | zero =>
    intro g o o1 S1 x g1 g2 c e s ok bad
    exact ok (g, o) rfl x S1 o1 c e s (fun q => by have := tk_wb_lt (by decide) q; omega) g1
  | succ m ih =>
    intro g o o1 S1 x g1 g2 c e s ok bad
    by_cases q : tk_wb a n g qA = true
    · have lt := tk_wb_lt (by decide) q
      have x1 := tk_x_ok (a := a) g1
      have e0 : q_loop a n qA (-4) (q_not a n k) (m + 1) g o = (match q_not a n k (tk_x a n g) with
        | .inl r => q_loop a n qA (-4) (q_not a n k) m r.1 (o ++ r.2 ++ [-4])
        | .inr e => .inr e) := by show (if tk_wb a n g qA = true then _ else _) = _; rw [if_pos q]; rfl
      rw [e0] at ok bad
      refine H.2.2.2.1 x S1 Q (K0 ++ o1) g (-4) c (Or.inl ⟨rfl, q⟩) (fun z hz => ?_) hQ (fun y hy => ?_)
      · rcases s with s | s
        · rw [s] at hz; cases hz
        · rw [s] at hz; rw [List.mem_singleton.mp hz]; exact ⟨by decide, by decide⟩
      · rw [List.append_assoc, e] at hy
        have cn : cN (-4 :: Q) = cN Q := rfl
        refine N y 0 (-4 :: Q) (K0 ++ o) (tk_x a n g) hy x1.2.1 (Or.inr ⟨-4, Q, rfl, by decide⟩) (by show cN (-4 :: Q) + k = 8; rw [cn]; exact hd) (fun r hr y2 hy2 => ?_) (fun z hz y2 hy2 => ?_)
        · have rk := q_not_ok (a := a) k (tk_x a n g) x1.2.1
          rw [hr] at rk ok bad
          obtain ⟨r1, r2, -⟩ := rk
          have hy3 : C y2 ([-4] ++ Q) (K0 ++ (o ++ r.2)) r.1 := by
            have : K0 ++ o ++ r.2 ++ List.replicate 0 (-3) = K0 ++ (o ++ r.2) := by rw [List.replicate_zero, List.append_nil, List.append_assoc]
            rw [this] at hy2; exact hy2
          exact ih r.1 (o ++ r.2 ++ [-4]) (o ++ r.2) [-4] y2 r2 (by omega) hy3 rfl (Or.inr rfl) ok bad
        · rw [hz] at bad
          exact bad z rfl y2 hy2
    · have e0 : q_loop a n qA (-4) (q_not a n k) (m + 1) g o = .inl (g, o) := by show (if tk_wb a n g qA = true then _ else _) = _; rw [if_neg q]
      exact ok (g, o) e0 x S1 o1 c e s q g1
theorem sim_and (H : sim_H a n C GW GU Bad) (hn : n ≤ 300) {k : Nat} (N : sim_N a n C GW GU Bad k) {x : α} {Q K0 : List Int32} {f : Nat} (c : C x Q K0 f) (hf : f ≤ n) (hQ : q_hd Q (-4)) (hd : cN Q + k = 8) (ok : ∀ r, q_and a n (q_not a n k) f = .inl r → ∀ y S' o', C y (S' ++ Q) (K0 ++ o') r.1 → o' ++ S' = r.2 → sim_S1 S' → ¬ tk_wb a n r.1 qA = true → r.1 ≤ n → GU y) (bad : ∀ e, q_and a n (q_not a n k) f = .inr e → ∀ y, Bad y e → GW y ∧ GU y) : GW x := by
  unfold q_and at ok bad
  refine N x 0 Q K0 f c hf (q_h3_of (by decide) hQ) hd (fun r hr y hy => ?_) (fun z hz y hy => ?_)
  · rw [hr] at ok bad
    have rk := q_not_ok (a := a) k f hf
    rw [hr] at rk
    have hy3 : C y ([] ++ Q) (K0 ++ r.2) r.1 := by
      rw [List.replicate_zero, List.append_nil] at hy; exact hy
    exact sim_and_lp a n C GW GU Bad H N hQ hd 300 r.1 r.2 r.2 [] y rk.2.1 (by omega) hy3 (List.append_nil _) (Or.inl rfl) ok bad
  · rw [hz] at bad
    exact bad z rfl y hy
theorem sim_or_lp (H : sim_H a n C GW GU Bad) (hn : n ≤ 300) {k : Nat} (N : sim_N a n C GW GU Bad k) {Q K0 : List Int32} (hQ : q_hd Q (-5)) (hd : cN Q + k = 8) : ∀ (m g : Nat) (o o1 S1 : List Int32) (x : α), g ≤ n → n ≤ g + m → ¬ tk_wb a n g qA = true → C x (S1 ++ Q) (K0 ++ o1) g → o1 ++ S1 = o → sim_S2 S1 → (∀ r, q_loop a n qO (-5) (q_and a n (q_not a n k)) m g o = .inl r → ∀ y S' o', C y (S' ++ Q) (K0 ++ o') r.1 → o' ++ S' = r.2 → sim_S2 S' → ¬ tk_wb a n r.1 qA = true → ¬ tk_wb a n r.1 qO = true → r.1 ≤ n → GU y) → (∀ e, q_loop a n qO (-5) (q_and a n (q_not a n k)) m g o = .inr e → ∀ y, Bad y e → GW y ∧ GU y) → GU x := by
  intro m
  induction m with
  | zero =>
    intro g o o1 S1 x g1 g2 na c e s ok bad
    exact ok (g, o) rfl x S1 o1 c e s na (fun q => by have := tk_wb_lt (by decide) q; omega) g1
  | succ m ih =>
    intro g o o1 S1 x g1 g2 na c e s ok bad
    by_cases q : tk_wb a n g qO = true
    · have lt := tk_wb_lt (by decide) q
      have x1 := tk_x_ok (a := a) g1
      have e0 : q_loop a n qO (-5) (q_and a n (q_not a n k)) (m + 1) g o = (match q_and a n (q_not a n k) (tk_x a n g) with
        | .inl r => q_loop a n qO (-5) (q_and a n (q_not a n k)) m r.1 (o ++ r.2 ++ [-5])
        | .inr e => .inr e) := by show (if tk_wb a n g qO = true then _ else _) = _; rw [if_pos q]; rfl
      rw [e0] at ok bad
      refine H.2.2.2.1 x S1 Q (K0 ++ o1) g (-5) c (Or.inr ⟨rfl, na, q⟩) (fun z hz => ?_) hQ (fun y hy => ?_)
      · rcases s with s | s | s | s
        · rw [s] at hz; cases hz
        · rw [s] at hz; rw [List.mem_singleton.mp hz]; exact ⟨by decide, by decide⟩
        · rw [s] at hz; rw [List.mem_singleton.mp hz]; exact ⟨by decide, by decide⟩
        · rw [s] at hz
          rcases List.mem_cons.mp hz with h | h
          · rw [h]; exact ⟨by decide, by decide⟩
          · rw [List.mem_singleton.mp h]; exact ⟨by decide, by decide⟩
      · rw [List.append_assoc, e] at hy
        have cn : cN (-5 :: Q) = cN Q := rfl
        refine sim_and a n C GW GU Bad H hn N (Q := -5 :: Q) hy x1.2.1 (Or.inr ⟨-5, Q, rfl, Or.inr (by decide)⟩) (by rw [cn]; exact hd) (fun r hr y2 S' o' hy2 he hs hna hr1 => ?_) (fun z hz y2 hy2 => ?_)
        · have rk := q_and_ok (a := a) (q_not_ok (a := a) k) (tk_x a n g) x1.2.1
          rw [hr] at rk ok bad
          obtain ⟨r1, r2, -⟩ := rk
          have hy3 : C y2 ((S' ++ [-5]) ++ Q) (K0 ++ (o ++ o')) r.1 := by
            rw [List.append_assoc, ← List.append_assoc K0]; exact hy2
          refine ih r.1 (o ++ r.2 ++ [-5]) (o ++ o') (S' ++ [-5]) y2 r2 (by omega) hna hy3 ?_ ?_ ok bad
          · rw [← he]; simp only [List.append_assoc]
          · rcases hs with hs | hs
            · rw [hs]; exact Or.inr (Or.inr (Or.inl rfl))
            · rw [hs]; exact Or.inr (Or.inr (Or.inr rfl))
        · rw [hz] at bad
          exact bad z rfl y2 hy2
    · have e0 : q_loop a n qO (-5) (q_and a n (q_not a n k)) (m + 1) g o = .inl (g, o) := by show (if tk_wb a n g qO = true then _ else _) = _; rw [if_neg q]
      exact ok (g, o) e0 x S1 o1 c e s na q g1
theorem sim_cond (H : sim_H a n C GW GU Bad) (hn : n ≤ 300) {k : Nat} (N : sim_N a n C GW GU Bad k) {x : α} {Q K0 : List Int32} {f : Nat} (c : C x Q K0 f) (hf : f ≤ n) (hQ : q_hd Q (-5)) (hd : cN Q + k = 8) (ok : ∀ r, q_cond a n (q_not a n k) f = .inl r → ∀ y S' o', C y (S' ++ Q) (K0 ++ o') r.1 → o' ++ S' = r.2 → sim_S2 S' → ¬ tk_wb a n r.1 qA = true → ¬ tk_wb a n r.1 qO = true → r.1 ≤ n → GU y) (bad : ∀ e, q_cond a n (q_not a n k) f = .inr e → ∀ y, Bad y e → GW y ∧ GU y) : GW x := by
  unfold q_cond at ok bad
  have hQ4 : q_hd Q (-4) := by
    rcases hQ with h | ⟨z, R, h, q⟩
    · exact Or.inl h
    · exact Or.inr ⟨z, R, h, by omega⟩
  refine sim_and a n C GW GU Bad H hn N c hf hQ4 hd (fun r hr y S' o' hy he hs hna hr1 => ?_) (fun z hz y hy => ?_)
  · rw [hr] at ok bad
    refine sim_or_lp a n C GW GU Bad H hn N hQ hd 300 r.1 r.2 o' S' y hr1 (by omega) hna hy he ?_ ok bad
    rcases hs with hs | hs
    · exact Or.inl hs
    · exact Or.inr (Or.inl hs)
  · rw [hz] at bad
    exact bad z rfl y hy
theorem sim_all (H : sim_H a n C GW GU Bad) (hn : n ≤ 300) : ∀ k, sim_N a n C GW GU Bad k := by
  intro k
  induction k with
  | zero =>
    intro x j P0 K f c hf h3 hd ok bad
    by_cases q : tk_wb a n f qN = true ∨ (¬ tk_wb a n f qN = true ∧ tk_sb a n f 40 = true)
    · have e : q_not a n 0 f = .inr f := q_asked_w (by
        rcases q with q | q
        · exact Or.inl (q_first (by decide) q)
        · exact Or.inr (tk_sb_i.mp q.2).2)
      exact H.2.1 x _ K f c q (by omega) (fun y hy => (bad f e y hy).1)
    · exact H.2.2.1 x j P0 K f c h3 (fun h => q (Or.inl h)) (fun h => q (Or.inr ⟨fun g => q (Or.inl g), h⟩)) ok (fun e he y hy => (bad e he y hy).2)
  | succ k ih =>
    intro x j P0 K f c hf h3 hd ok bad
    have x1 := tk_x_ok (a := a) hf
    by_cases q1 : tk_wb a n f qN = true
    · have e0 : q_not a n (k + 1) f = (match q_not a n k (tk_x a n f) with
        | .inl r => .inl (r.1, r.2 ++ [-3])
        | .inr e => .inr e) := by show (if tk_wb a n f qN = true then _ else _) = _; rw [if_pos q1]; rfl
      rw [e0] at ok bad
      refine H.1 x _ K f (-3) c (Or.inl ⟨rfl, q1⟩) (by omega) (fun y hy => ?_)
      have hy' : C y (List.replicate (j + 1) (-3) ++ P0) K (tk_x a n f) := hy
      have cn : cN (List.replicate (j + 1) (-3) ++ P0) = cN (List.replicate j (-3) ++ P0) + 1 := rfl
      refine ih y (j + 1) P0 K (tk_x a n f) hy' x1.2.1 h3 (by rw [cn]; omega) (fun r hr y2 hy2 => ?_) (fun z hz y2 hy2 => ?_)
      · rw [hr] at ok
        refine ok _ rfl y2 ?_
        show C y2 P0 (K ++ (r.2 ++ [-3]) ++ List.replicate j (-3)) r.1
        have : K ++ r.2 ++ List.replicate (j + 1) (-3) = K ++ (r.2 ++ [-3]) ++ List.replicate j (-3) := by
          rw [List.replicate_succ]; simp only [List.append_assoc, List.cons_append, List.nil_append]
        rw [← this]; exact hy2
      · rw [hz] at bad
        exact bad z rfl y2 hy2
    · by_cases q2 : tk_sb a n f 40 = true
      · have e0 : q_not a n (k + 1) f = (match q_cond a n (q_not a n k) (tk_x a n f) with
          | .inl r => if tk_sb a n r.1 41 = true then .inl (tk_x a n r.1, r.2) else .inr r.1
          | .inr e => .inr e) := by show (if tk_wb a n f qN = true then _ else if tk_sb a n f 40 = true then _ else _) = _; rw [if_neg q1, if_pos q2]; rfl
        rw [e0] at ok bad
        refine H.1 x _ K f (-6) c (Or.inr ⟨rfl, q1, q2⟩) (by omega) (fun y hy => ?_)
        have cn : cN (-6 :: (List.replicate j (-3) ++ P0)) = cN (List.replicate j (-3) ++ P0) + 1 := rfl
        refine sim_cond a n C GW GU Bad H hn ih hy x1.2.1 (Or.inr ⟨-6, _, rfl, Or.inl rfl⟩) (by rw [cn]; omega) (fun r hr y2 S' o' hy2 he hs hna hno hr1 => ?_) (fun z hz y2 hy2 => ?_)
        · rw [hr] at ok bad
          have hS : ∀ z ∈ S', ¬ z.toInt = -6 ∧ -5 ≤ z.toInt := by
            intro z hz
            rcases hs with s | s | s | s
            · rw [s] at hz; cases hz
            · rw [s] at hz; rw [List.mem_singleton.mp hz]; exact ⟨by decide, by decide⟩
            · rw [s] at hz; rw [List.mem_singleton.mp hz]; exact ⟨by decide, by decide⟩
            · rw [s] at hz
              rcases List.mem_cons.mp hz with h | h
              · rw [h]; exact ⟨by decide, by decide⟩
              · rw [List.mem_singleton.mp h]; exact ⟨by decide, by decide⟩
          by_cases q3 : tk_sb a n r.1 41 = true
          · refine H.2.2.2.2.1 y2 j S' P0 (K ++ o') r.1 hy2 hna hno hS h3 q3 (fun y3 hy3 => ?_)
            refine ok (tk_x a n r.1, r.2) (by show (if tk_sb a n r.1 41 = true then _ else _) = _; rw [if_pos q3]) y3 ?_
            have : K ++ o' ++ S' ++ List.replicate j (-3) = K ++ r.2 ++ List.replicate j (-3) := by rw [← he]; simp only [List.append_assoc]
            show C y3 P0 (K ++ r.2 ++ List.replicate j (-3)) (tk_x a n r.1)
            rw [← this]; exact hy3
          · exact H.2.2.2.2.2 y2 j S' P0 (K ++ o') r.1 hy2 hna hno hS h3 q3 (fun y3 hy3 => (bad r.1 (by show (if tk_sb a n r.1 41 = true then _ else _) = _; rw [if_neg q3]) y3 hy3).2)
        · rw [hz] at bad
          exact bad z rfl y2 hy2
      · have e0 : q_not a n (k + 1) f = q_asked a n f := by show (if tk_wb a n f qN = true then _ else if tk_sb a n f 40 = true then _ else _) = _; rw [if_neg q1, if_neg q2]
        rw [e0] at ok bad
        exact H.2.2.1 x j P0 K f c h3 q1 q2 ok (fun e he y hy => (bad e he y hy).2)
end SIM

