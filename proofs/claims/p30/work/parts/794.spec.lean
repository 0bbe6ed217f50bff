/-! conditions as both sides must read them: what is read (where the next token stands, the marks in order), or where the fault is -/
abbrev q_R : Type := (Nat × List Int32) ⊕ Nat
def tk_wb (a : Nat → Int32) (n f : Nat) (bs : List Int32) : Bool := decide (tk_t a n f - f = bs.length ∧ ∀ i, i < bs.length → f + i < n ∧ (a (f + i)).toInt = (bs.getD i 0).toInt)
def tk_sb (a : Nat → Int32) (n f : Nat) (c : Int) : Bool := decide (f < n ∧ (a f).toInt = c)
theorem tk_wb_i {a : Nat → Int32} {n f : Nat} {bs : List Int32} : tk_wb a n f bs = true ↔ tk_is a n f bs := decide_eq_true_iff
theorem tk_sb_i {a : Nat → Int32} {n f : Nat} {c : Int} : tk_sb a n f c = true ↔ (f < n ∧ (a f).toInt = c) := decide_eq_true_iff
theorem tk_wb_lt {a : Nat → Int32} {n f : Nat} {bs : List Int32} (hb : 0 < bs.length) (h : tk_wb a n f bs = true) : f < n := by
  have := (tk_wb_i.mp h).2 0 hb
  omega
def q_asked (a : Nat → Int32) (n f : Nat) : q_R :=
  if tk_wb a n f [115, 97, 119] = true then .inl (tk_x a n f, [-1])
  else if tk_wb a n f [107, 105, 110] = true then .inl (tk_x a n f, [-2])
  else if tk_wb a n f [111, 108, 100] = true then (if tk_k a n (tk_x a n f) = 2 ∧ tk_v a n (tk_x a n f) ≤ 1000 then .inl (tk_x a n (tk_x a n f), [Int32.ofInt (tk_v a n (tk_x a n f))]) else .inr (tk_x a n f))
  else .inr f
def q_loop (a : Nat → Int32) (n : Nat) (w : List Int32) (mk : Int32) (item : Nat → q_R) : Nat → Nat → List Int32 → q_R
  | 0, f, o => .inl (f, o)
  | m + 1, f, o => if tk_wb a n f w = true then (match item (tk_x a n f) with
    | .inl r => q_loop a n w mk item m r.1 (o ++ r.2 ++ [mk])
    | .inr e => .inr e) else .inl (f, o)
def q_and (a : Nat → Int32) (n : Nat) (item : Nat → q_R) (f : Nat) : q_R := match item f with
  | .inl r => q_loop a n [97, 110, 100] (-4) item 300 r.1 r.2
  | .inr e => .inr e
def q_cond (a : Nat → Int32) (n : Nat) (item : Nat → q_R) (f : Nat) : q_R := match q_and a n item f with
  | .inl r => q_loop a n [111, 114] (-5) (q_and a n item) 300 r.1 r.2
  | .inr e => .inr e
def q_not (a : Nat → Int32) (n : Nat) : Nat → Nat → q_R
  | 0, f => q_asked a n f
  | k + 1, f => if tk_wb a n f [110, 111, 116] = true then (match q_not a n k (tk_x a n f) with
      | .inl r => .inl (r.1, r.2 ++ [-3])
      | .inr e => .inr e)
    else if tk_sb a n f 40 = true then (match q_cond a n (q_not a n k) (tk_x a n f) with
      | .inl r => if tk_sb a n r.1 41 = true then .inl (tk_x a n r.1, r.2) else .inr r.1
      | .inr e => .inr e)
    else q_asked a n f
/-- a mark that may come out -/
def q_mk (x : Int32) : Prop := (-5 ≤ x.toInt ∧ x.toInt ≤ 1000)
/-- a result that fits -/
def q_ok (n f : Nat) (r : q_R) : Prop := match r with
  | .inl r => f < r.1 ∧ r.1 ≤ n ∧ r.2.length + f ≤ r.1 ∧ (∀ x ∈ r.2, q_mk x) ∧ 0 < r.2.length
  | .inr e => f ≤ e ∧ e ≤ n
theorem q_asked_ok {a : Nat → Int32} {n f : Nat} (h : f ≤ n) : q_ok n f (q_asked a n f) := by
  have x1 := tk_x_ok (a := a) h
  unfold q_asked
  split
  · rename_i c
    have := tk_wb_lt (by decide) c
    exact ⟨by omega, x1.2.1, by show 1 + f ≤ tk_x a n f; omega, fun x hx => by rw [List.mem_singleton.mp hx]; exact ⟨by decide, by decide⟩, Nat.lt_succ_self _⟩
  · split
    · rename_i c
      have := tk_wb_lt (by decide) c
      exact ⟨by omega, x1.2.1, by show 1 + f ≤ tk_x a n f; omega, fun x hx => by rw [List.mem_singleton.mp hx]; exact ⟨by decide, by decide⟩, Nat.lt_succ_self _⟩
    · split
      · rename_i c
        have := tk_wb_lt (by decide) c
        have x2 := tk_x_ok (a := a) x1.2.1
        split
        · rename_i d
          have k2 := tk_k2 d.1
          have nb : 0 ≤ tk_v a n (tk_x a n f) := by
            unfold tk_v
            rw [if_pos k2.1, if_neg k2.2.1, if_pos k2.2.2]
            have t2 : tk_t a n (tk_x a n f) = tk_end tk_D a n (tk_x a n f) := by unfold tk_t; rw [if_pos k2.1, if_neg k2.2.1, if_pos k2.2.2]
            obtain ⟨i1, i2, i3, -⟩ := tk_end_ok tk_D a n n (tk_x a n f) (by omega) (by omega)
            exact (tk_n_b (fun i hi => tk_D_i.mp (i3 _ (by omega) (by omega)))).1
          exact ⟨by omega, x2.2.1, by show 1 + f ≤ tk_x a n (tk_x a n f); omega, fun x hx => by rw [List.mem_singleton.mp hx]; show -5 ≤ (Int32.ofInt _).toInt ∧ (Int32.ofInt _).toInt ≤ 1000; rw [fb_ofI (by omega) (by omega)]; omega, Nat.lt_succ_self _⟩
        · exact ⟨by omega, x1.2.1⟩
      · exact ⟨Nat.le_refl _, h⟩
theorem q_loop_ok {a : Nat → Int32} {n : Nat} {w : List Int32} {mk : Int32} {item : Nat → q_R} (hw : 0 < w.length) (hm : q_mk mk) (hi : ∀ f, f ≤ n → q_ok n f (item f)) : ∀ (m f0 f : Nat) (o : List Int32), f0 < f → f ≤ n → o.length + f0 ≤ f → (∀ x ∈ o, q_mk x) → 0 < o.length → q_ok n f0 (q_loop a n w mk item m f o)
  | 0, f0, f, o, h1, h2, h3, h4, h5 => ⟨h1, h2, h3, h4, h5⟩
  | m + 1, f0, f, o, h1, h2, h3, h4, h5 => by
    unfold q_loop
    split
    · rename_i c
      have lt := tk_wb_lt hw c
      have x1 := tk_x_ok (a := a) h2
      have hr := hi (tk_x a n f) x1.2.1
      cases e : item (tk_x a n f) with
      | inl r =>
        rw [e] at hr
        obtain ⟨r1, r2, r3, r4, r5⟩ := hr
        refine q_loop_ok hw hm hi m f0 r.1 _ (by omega) r2 ?_ ?_ ?_
        · rw [List.length_append, List.length_append]; show _ + _ + 1 + _ ≤ _; omega
        · intro x hx
          rcases List.mem_append.mp hx with hx | hx
          · rcases List.mem_append.mp hx with hx | hx
            · exact h4 x hx
            · exact r4 x hx
          · rw [List.mem_singleton.mp hx]; exact hm
        · rw [List.length_append, List.length_append]; omega
      | inr z =>
        rw [e] at hr
        exact ⟨by have := hr.1; omega, hr.2⟩
    · exact ⟨h1, h2, h3, h4, h5⟩
theorem q_and_ok {a : Nat → Int32} {n : Nat} {item : Nat → q_R} (hi : ∀ f, f ≤ n → q_ok n f (item f)) : ∀ f, f ≤ n → q_ok n f (q_and a n item f) := by
  intro f hf
  unfold q_and
  have hr := hi f hf
  cases e : item f with
  | inl r =>
    rw [e] at hr
    obtain ⟨r1, r2, r3, r4, r5⟩ := hr
    exact q_loop_ok (by decide) ⟨by decide, by decide⟩ hi 300 f r.1 r.2 r1 r2 r3 r4 r5
  | inr z => rw [e] at hr; exact hr
theorem q_cond_ok {a : Nat → Int32} {n : Nat} {item : Nat → q_R} (hi : ∀ f, f ≤ n → q_ok n f (item f)) : ∀ f, f ≤ n → q_ok n f (q_cond a n item f) := by
  intro f hf
  unfold q_cond
  have hr := q_and_ok (a := a) hi f hf
  cases e : q_and a n item f with
  | inl r =>
    rw [e] at hr
    obtain ⟨r1, r2, r3, r4, r5⟩ := hr
    exact q_loop_ok (by decide) ⟨by decide, by decide⟩ (q_and_ok hi) 300 f r.1 r.2 r1 r2 r3 r4 r5
  | inr z => rw [e] at hr; exact hr
theorem q_not_ok {a : Nat → Int32} {n : Nat} : ∀ (k f : Nat), f ≤ n → q_ok n f (q_not a n k f)
  | 0, f, h => q_asked_ok h
  | k + 1, f, h => by
    have x1 := tk_x_ok (a := a) h
    unfold q_not
    split
    · rename_i c
      have lt := tk_wb_lt (by decide) c
      have hr := q_not_ok (a := a) k (tk_x a n f) x1.2.1
      cases e : q_not a n k (tk_x a n f) with
      | inl r =>
        rw [e] at hr
        obtain ⟨r1, r2, r3, r4, r5⟩ := hr
        refine ⟨by show f < r.1; omega, r2, ?_, ?_, ?_⟩
        · show (r.2 ++ [-3]).length + f ≤ r.1
          rw [List.length_append]; show _ + 1 + _ ≤ _; omega
        · intro x hx
          rcases List.mem_append.mp hx with hx | hx
          · exact r4 x hx
          · rw [List.mem_singleton.mp hx]; exact ⟨by decide, by decide⟩
        · show 0 < (r.2 ++ [-3]).length
          rw [List.length_append]; omega
      | inr z =>
        rw [e] at hr
        exact ⟨by have := hr.1; omega, hr.2⟩
    · split
      · rename_i c
        have lt := (tk_sb_i.mp c).1
        have hr := q_cond_ok (a := a) (q_not_ok (a := a) k) (tk_x a n f) x1.2.1
        cases e : q_cond a n (q_not a n k) (tk_x a n f) with
        | inl r =>
          rw [e] at hr
          obtain ⟨r1, r2, r3, r4, r5⟩ := hr
          have x2 := tk_x_ok (a := a) r2
          show q_ok n f (if tk_sb a n r.1 41 = true then .inl (tk_x a n r.1, r.2) else .inr r.1)
          split
          · exact ⟨by show f < tk_x a n r.1; omega, x2.2.1, by show r.2.length + f ≤ tk_x a n r.1; omega, r4, r5⟩
          · exact ⟨by omega, r2⟩
        | inr z =>
          rw [e] at hr
          exact ⟨by have := hr.1; omega, hr.2⟩
      · exact q_asked_ok h
/-! the reference finds these words and signs -/
theorem mw_count {a : Nat → Int32} {n f : Nat} {τ : jf_S} (h : m_tk a n τ f) : (((τ.1 0 61)).toInt = 1 ∧ ((τ.2 0 62)).toInt = (m_word 99 111 117 110 116 0).toInt) ↔ tk_wb a n f [99, 111, 117, 110, 116] = true := by
  rw [h.2.2.2.2.1, h.2.2.2.2.2, tk_wb_i, ← tk_is_iff (bs := [99, 111, 117, 110, 116]) ⟨by decide, by decide, by decide⟩]
  exact Iff.rfl
theorem mw_points {a : Nat → Int32} {n f : Nat} {τ : jf_S} (h : m_tk a n τ f) : (((τ.1 0 61)).toInt = 1 ∧ ((τ.2 0 62)).toInt = (m_word 112 111 105 110 116 115).toInt) ↔ tk_wb a n f [112, 111, 105, 110, 116, 115] = true := by
  rw [h.2.2.2.2.1, h.2.2.2.2.2, tk_wb_i, ← tk_is_iff (bs := [112, 111, 105, 110, 116, 115]) ⟨by decide, by decide, by decide⟩]
  exact Iff.rfl
theorem mw_rounds {a : Nat → Int32} {n f : Nat} {τ : jf_S} (h : m_tk a n τ f) : (((τ.1 0 61)).toInt = 1 ∧ ((τ.2 0 62)).toInt = (m_word 114 111 117 110 100 115).toInt) ↔ tk_wb a n f [114, 111, 117, 110, 100, 115] = true := by
  rw [h.2.2.2.2.1, h.2.2.2.2.2, tk_wb_i, ← tk_is_iff (bs := [114, 111, 117, 110, 100, 115]) ⟨by decide, by decide, by decide⟩]
  exact Iff.rfl
theorem mw_tie {a : Nat → Int32} {n f : Nat} {τ : jf_S} (h : m_tk a n τ f) : (((τ.1 0 61)).toInt = 1 ∧ ((τ.2 0 62)).toInt = (m_word 116 105 101 0 0 0).toInt) ↔ tk_wb a n f [116, 105, 101] = true := by
  rw [h.2.2.2.2.1, h.2.2.2.2.2, tk_wb_i, ← tk_is_iff (bs := [116, 105, 101]) ⟨by decide, by decide, by decide⟩]
  exact Iff.rfl
theorem mw_fame {a : Nat → Int32} {n f : Nat} {τ : jf_S} (h : m_tk a n τ f) : (((τ.1 0 61)).toInt = 1 ∧ ((τ.2 0 62)).toInt = (m_word 102 97 109 101 0 0).toInt) ↔ tk_wb a n f [102, 97, 109, 101] = true := by
  rw [h.2.2.2.2.1, h.2.2.2.2.2, tk_wb_i, ← tk_is_iff (bs := [102, 97, 109, 101]) ⟨by decide, by decide, by decide⟩]
  exact Iff.rfl
theorem mw_film {a : Nat → Int32} {n f : Nat} {τ : jf_S} (h : m_tk a n τ f) : (((τ.1 0 61)).toInt = 1 ∧ ((τ.2 0 62)).toInt = (m_word 102 105 108 109 0 0).toInt) ↔ tk_wb a n f [102, 105, 108, 109] = true := by
  rw [h.2.2.2.2.1, h.2.2.2.2.2, tk_wb_i, ← tk_is_iff (bs := [102, 105, 108, 109]) ⟨by decide, by decide, by decide⟩]
  exact Iff.rfl
theorem mw_first {a : Nat → Int32} {n f : Nat} {τ : jf_S} (h : m_tk a n τ f) : (((τ.1 0 61)).toInt = 1 ∧ ((τ.2 0 62)).toInt = (m_word 102 105 114 115 116 0).toInt) ↔ tk_wb a n f [102, 105, 114, 115, 116] = true := by
  rw [h.2.2.2.2.1, h.2.2.2.2.2, tk_wb_i, ← tk_is_iff (bs := [102, 105, 114, 115, 116]) ⟨by decide, by decide, by decide⟩]
  exact Iff.rfl
theorem mw_not {a : Nat → Int32} {n f : Nat} {τ : jf_S} (h : m_tk a n τ f) : (((τ.1 0 61)).toInt = 1 ∧ ((τ.2 0 62)).toInt = (m_word 110 111 116 0 0 0).toInt) ↔ tk_wb a n f [110, 111, 116] = true := by
  rw [h.2.2.2.2.1, h.2.2.2.2.2, tk_wb_i, ← tk_is_iff (bs := [110, 111, 116]) ⟨by decide, by decide, by decide⟩]
  exact Iff.rfl
theorem mw_and {a : Nat → Int32} {n f : Nat} {τ : jf_S} (h : m_tk a n τ f) : (((τ.1 0 61)).toInt = 1 ∧ ((τ.2 0 62)).toInt = (m_word 97 110 100 0 0 0).toInt) ↔ tk_wb a n f [97, 110, 100] = true := by
  rw [h.2.2.2.2.1, h.2.2.2.2.2, tk_wb_i, ← tk_is_iff (bs := [97, 110, 100]) ⟨by decide, by decide, by decide⟩]
  exact Iff.rfl
theorem mw_or {a : Nat → Int32} {n f : Nat} {τ : jf_S} (h : m_tk a n τ f) : (((τ.1 0 61)).toInt = 1 ∧ ((τ.2 0 62)).toInt = (m_word 111 114 0 0 0 0).toInt) ↔ tk_wb a n f [111, 114] = true := by
  rw [h.2.2.2.2.1, h.2.2.2.2.2, tk_wb_i, ← tk_is_iff (bs := [111, 114]) ⟨by decide, by decide, by decide⟩]
  exact Iff.rfl
theorem mw_saw {a : Nat → Int32} {n f : Nat} {τ : jf_S} (h : m_tk a n τ f) : (((τ.1 0 61)).toInt = 1 ∧ ((τ.2 0 62)).toInt = (m_word 115 97 119 0 0 0).toInt) ↔ tk_wb a n f [115, 97, 119] = true := by
  rw [h.2.2.2.2.1, h.2.2.2.2.2, tk_wb_i, ← tk_is_iff (bs := [115, 97, 119]) ⟨by decide, by decide, by decide⟩]
  exact Iff.rfl
theorem mw_kin {a : Nat → Int32} {n f : Nat} {τ : jf_S} (h : m_tk a n τ f) : (((τ.1 0 61)).toInt = 1 ∧ ((τ.2 0 62)).toInt = (m_word 107 105 110 0 0 0).toInt) ↔ tk_wb a n f [107, 105, 110] = true := by
  rw [h.2.2.2.2.1, h.2.2.2.2.2, tk_wb_i, ← tk_is_iff (bs := [107, 105, 110]) ⟨by decide, by decide, by decide⟩]
  exact Iff.rfl
theorem mw_old {a : Nat → Int32} {n f : Nat} {τ : jf_S} (h : m_tk a n τ f) : (((τ.1 0 61)).toInt = 1 ∧ ((τ.2 0 62)).toInt = (m_word 111 108 100 0 0 0).toInt) ↔ tk_wb a n f [111, 108, 100] = true := by
  rw [h.2.2.2.2.1, h.2.2.2.2.2, tk_wb_i, ← tk_is_iff (bs := [111, 108, 100]) ⟨by decide, by decide, by decide⟩]
  exact Iff.rfl
theorem ms_40 {a : Nat → Int32} {n f : Nat} {τ : jf_S} (h : m_tk a n τ f) : (((τ.1 0 61)).toInt = 3 ∧ ((τ.2 0 62)).toInt = (40 : Int32).toInt) ↔ tk_sb a n f 40 = true := by
  rw [h.2.2.2.2.1, h.2.2.2.2.2, tk_sb_i]
  exact tk_sg (c := 40) (by decide) (by decide)
theorem ms_41 {a : Nat → Int32} {n f : Nat} {τ : jf_S} (h : m_tk a n τ f) : (((τ.1 0 61)).toInt = 3 ∧ ((τ.2 0 62)).toInt = (41 : Int32).toInt) ↔ tk_sb a n f 41 = true := by
  rw [h.2.2.2.2.1, h.2.2.2.2.2, tk_sb_i]
  exact tk_sg (c := 41) (by decide) (by decide)
theorem ms_59 {a : Nat → Int32} {n f : Nat} {τ : jf_S} (h : m_tk a n τ f) : (((τ.1 0 61)).toInt = 3 ∧ ((τ.2 0 62)).toInt = (59 : Int32).toInt) ↔ tk_sb a n f 59 = true := by
  rw [h.2.2.2.2.1, h.2.2.2.2.2, tk_sb_i]
  exact tk_sg (c := 59) (by decide) (by decide)

