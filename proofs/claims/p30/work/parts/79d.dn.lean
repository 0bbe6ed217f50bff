/-! what the grammar gives out can be reckoned, within nineteen places -/
/-- how many lie on the pile after L, from d on, with room for M; none: it can't be reckoned -/
def q_dn (M : Nat) : List Int32 → Nat → Option Nat
  | [], d => some d
  | x :: L, d => if x.toInt = -3 then (if 1 ≤ d then q_dn M L d else none) else if x.toInt = -4 ∨ x.toInt = -5 then (if 2 ≤ d then q_dn M L (d - 1) else none) else (if d + 1 ≤ M then q_dn M L (d + 1) else none)
theorem q_dn_app {M : Nat} : ∀ (K L : List Int32) (d e : Nat), q_dn M K d = some e → q_dn M (K ++ L) d = q_dn M L e
  | [], L, d, e, h => by cases h; rfl
  | x :: K, L, d, e, h => by
    unfold q_dn at h
    show (if x.toInt = -3 then (if 1 ≤ d then q_dn M (K ++ L) d else none) else if x.toInt = -4 ∨ x.toInt = -5 then (if 2 ≤ d then q_dn M (K ++ L) (d - 1) else none) else (if d + 1 ≤ M then q_dn M (K ++ L) (d + 1) else none)) = _
    split at h
    · rename_i c
      rw [if_pos c]
      split at h
      · rename_i g
        rw [if_pos g]
        exact q_dn_app K L d e h
      · cases h
    · rename_i c
      rw [if_neg c]
      split at h
      · rename_i c2
        rw [if_pos c2]
        split at h
        · rename_i g
          rw [if_pos g]
          exact q_dn_app K L (d - 1) e h
        · cases h
      · rename_i c2
        rw [if_neg c2]
        split at h
        · rename_i g
          rw [if_pos g]
          exact q_dn_app K L (d + 1) e h
        · cases h
/-- a whole condition of height h -/
def q_wf (h : Nat) (L : List Int32) : Prop := ∀ M d, d + h ≤ M → q_dn M L d = some (d + 1)
def q_wR (h : Nat) (r : q_R) : Prop := ∀ s, r = .inl s → q_wf h s.2
theorem q_wf_m {h k : Nat} {L : List Int32} (w : q_wf h L) (g : h ≤ k) : q_wf k L := fun M d e => w M d (by omega)
theorem q_wf_leaf {x : Int32} (h3 : ¬ x.toInt = -3) (h4 : ¬ (x.toInt = -4 ∨ x.toInt = -5)) : q_wf 1 [x] := fun M d g => by
  unfold q_dn
  rw [if_neg h3, if_neg h4, if_pos g]; rfl
theorem q_wf_not {h : Nat} {L : List Int32} (w : q_wf h L) : q_wf h (L ++ [-3]) := fun M d g => by
  rw [q_dn_app L [-3] d (d + 1) (w M d g)]
  unfold q_dn
  rw [if_pos (show (-3 : Int32).toInt = -3 from rfl), if_pos (by omega)]; rfl
theorem q_wf_two {h k : Nat} {o L : List Int32} {x : Int32} (hx : x.toInt = -4 ∨ x.toInt = -5) (v : q_wf h o) (w : q_wf k L) (g : k + 1 ≤ h) : q_wf h (o ++ L ++ [x]) := fun M d e => by
  have e1 : q_dn M (o ++ L) d = some (d + 1 + 1) := by
    rw [q_dn_app o L d (d + 1) (v M d e)]
    exact w M (d + 1) (by omega)
  rw [q_dn_app (o ++ L) [x] d (d + 1 + 1) e1]
  unfold q_dn
  rw [if_neg (by omega), if_pos hx, if_pos (by omega)]; rfl
theorem q_asked_wf {a : Nat → Int32} {n f : Nat} : q_wR 1 (q_asked a n f) := by
  intro s hs
  unfold q_asked at hs
  split at hs
  · cases hs; exact q_wf_leaf (by decide) (by decide)
  · split at hs
    · cases hs; exact q_wf_leaf (by decide) (by decide)
    · split at hs
      · split at hs
        · rename_i d
          cases hs
          have := tk_v2 d.1
          have e : (Int32.ofInt (tk_v a n (tk_x a n f))).toInt = tk_v a n (tk_x a n f) := fb_ofI (by omega) (by omega)
          exact q_wf_leaf (by rw [e]; omega) (by rw [e]; omega)
        · cases hs
      · cases hs
theorem q_loop_w {a : Nat → Int32} {n h : Nat} {w : List Int32} {mk : Int32} {item : Nat → q_R} (hm : mk.toInt = -4 ∨ mk.toInt = -5) (hi : ∀ f, q_wR h (item f)) : ∀ (m f : Nat) (o : List Int32), q_wf (h + 1) o → q_wR (h + 1) (q_loop a n w mk item m f o)
  | 0, f, o, v => fun s hs => by cases hs; exact v
  | m + 1, f, o, v => by
    unfold q_loop
    split
    · cases e : item (tk_x a n f) with
      | inl r => exact q_loop_w hm hi m r.1 _ (q_wf_two hm v (hi _ r e) (Nat.le_refl _))
      | inr z => exact fun s hs => by cases hs
    · exact fun s hs => by cases hs; exact v
theorem q_and_w {a : Nat → Int32} {n h : Nat} {item : Nat → q_R} (hi : ∀ f, q_wR h (item f)) (f : Nat) : q_wR (h + 1) (q_and a n item f) := by
  unfold q_and
  cases e : item f with
  | inl r => exact q_loop_w (Or.inl rfl) hi 300 r.1 r.2 (q_wf_m (hi f r e) (Nat.le_succ _))
  | inr z => exact fun s hs => by cases hs
theorem q_cond_w {a : Nat → Int32} {n h : Nat} {item : Nat → q_R} (hi : ∀ f, q_wR h (item f)) (f : Nat) : q_wR (h + 2) (q_cond a n item f) := by
  unfold q_cond
  cases e : q_and a n item f with
  | inl r => exact q_loop_w (h := h + 1) (Or.inr rfl) (fun g => q_and_w hi g) 300 r.1 r.2 (q_wf_m (q_and_w hi f r e) (Nat.le_succ _))
  | inr z => exact fun s hs => by cases hs
theorem q_not_w {a : Nat → Int32} {n : Nat} : ∀ (k f : Nat), q_wR (1 + 2 * k) (q_not a n k f)
  | 0, f => q_asked_wf
  | k + 1, f => by
    unfold q_not
    split
    · cases e : q_not a n k (tk_x a n f) with
      | inl r => exact fun s hs => by cases hs; exact q_wf_m (q_wf_not (q_not_w k _ r e)) (by omega)
      | inr z => exact fun s hs => by cases hs
    · split
      · cases e : q_cond a n (q_not a n k) (tk_x a n f) with
        | inl r =>
          intro s hs
          have hs' : (if tk_sb a n r.1 41 = true then (Sum.inl (tk_x a n r.1, r.2) : q_R) else .inr r.1) = .inl s := hs
          split at hs'
          · cases hs'
            exact q_wf_m (q_cond_w (q_not_w k) _ r e) (by omega)
          · cases hs'
        | inr z => exact fun s hs => by cases hs
      · exact fun s hs => q_wf_m (q_asked_wf s hs) (by omega)
theorem q_pts_len {a : Nat → Int32} {n : Nat} : ∀ (m f : Nat) (o : List Int32) (s : Nat × List Int32), q_pts a n m f o = .inl s → o.length ≤ s.2.length ∧ s.2.length ≤ o.length + m ∧ ((∀ x ∈ o, 0 ≤ x.toInt ∧ x.toInt ≤ 1000) → ∀ x ∈ s.2, 0 ≤ x.toInt ∧ x.toInt ≤ 1000)
  | 0, f, o, s, h => by cases h; exact ⟨Nat.le_refl _, Nat.le_refl _, fun h => h⟩
  | m + 1, f, o, s, h => by
    unfold q_pts at h
    split at h
    · rename_i k2
      split at h
      · rename_i k3
        obtain ⟨i1, i2, i3⟩ := q_pts_len m _ _ s h
        rw [List.length_append] at i1 i2
        have i1 : o.length + 1 ≤ _ := i1
        have i2 : _ ≤ o.length + 1 + m := i2
        refine ⟨by omega, by omega, fun ho => i3 (fun x hx => ?_)⟩
        rcases List.mem_append.mp hx with hx | hx
        · exact ho x hx
        · rw [List.mem_singleton.mp hx]
          have := tk_v2 k2
          rw [fb_ofI (by omega) (by omega)]; exact ⟨this, k3⟩
      · cases h
    · cases h; exact ⟨Nat.le_refl _, Nat.le_add_right _ _, fun h => h⟩
theorem q_man_len {a : Nat → Int32} {n f : Nat} {s : Nat × List Int32} (h : q_man a n f = .inl s) : s.2.length ≤ 5 ∧ ∀ x ∈ s.2, 0 ≤ x.toInt ∧ x.toInt ≤ 1000 := by
  unfold q_man at h
  split at h
  · cases h; exact ⟨Nat.zero_le 5, fun x hx => absurd hx List.not_mem_nil⟩
  · split at h
    · unfold q_pn at h
      split at h
      · rename_i k2
        obtain ⟨i1, i2, i3⟩ := q_pts_len 4 _ _ s h
        have i2 : _ ≤ 1 + 4 := i2
        refine ⟨by omega, i3 (fun x hx => ?_)⟩
        rw [List.mem_singleton.mp hx]
        have := tk_v2 k2.1
        rw [fb_ofI (by omega) (by omega)]; exact ⟨this, k2.2⟩
      · cases h
    · cases h
theorem q_fin_in {a : Nat → Int32} {n g : Nat} {K p : List Int32} {t : List Int32 × List Int32 × Int32} (h : q_fin a n K p g = .inl t) : t.1 = K ∧ t.2.1 = p ∧ (t.2.2 = 0 ∨ t.2.2 = 1 ∨ t.2.2 = 2) := by
  unfold q_fin at h
  split at h
  · split at h
    · cases h; exact ⟨rfl, rfl, Or.inl rfl⟩
    · cases h
  · split at h
    · split at h
      · cases h; exact ⟨rfl, rfl, Or.inr (Or.inl rfl)⟩
      · cases h
    · split at h
      · split at h
        · cases h; exact ⟨rfl, rfl, Or.inr (Or.inr rfl)⟩
        · cases h
      · cases h
/-- rules that may stand -/
def q_std (t : List Int32 × List Int32 × Int32) : Prop := (t.1.length ≤ 300 ∧ q_dn 19 t.1 0 = some 1 ∧ ∀ x ∈ t.1, q_mk x) ∧ (t.2.1.length ≤ 5 ∧ ∀ x ∈ t.2.1, 0 ≤ x.toInt ∧ x.toInt ≤ 1000) ∧ (t.2.2 = 0 ∨ t.2.2 = 1 ∨ t.2.2 = 2)
theorem q_rules_std {a : Nat → Int32} {n f : Nat} {t : List Int32 × List Int32 × Int32} (hn : n ≤ 300) (hf : f ≤ n) (h : q_rules a n f = .inl t) : q_std t := by
  unfold q_rules at h
  split at h
  · have x1 := tk_x_ok (a := a) hf
    have ok := q_cond_ok (a := a) (item := q_not a n 8) (q_not_ok (a := a) 8) _ x1.2.1
    have wf := q_cond_w (a := a) (n := n) (item := q_not a n 8) (fun g => q_not_w 8 g) (tk_x a n f)
    cases e : q_cond a n (q_not a n 8) (tk_x a n f) with
    | inr z => rw [e] at h; cases h
    | inl r =>
      rw [e] at h ok
      have h : q_mid a n r.2 r.1 = .inl t := h
      have w := wf r e
      unfold q_mid at h
      split at h
      · cases e2 : q_man a n (tk_x a n r.1) with
        | inr z => rw [e2] at h; cases h
        | inl s =>
          rw [e2] at h
          have h : q_end a n r.2 s.2 s.1 = .inl t := h
          have ml := q_man_len e2
          unfold q_end at h
          split at h
          · split at h
            · obtain ⟨f1, f2, f3⟩ := q_fin_in h
              obtain ⟨o1, o2, o3, o4, o5⟩ := ok
              refine ⟨⟨?_, ?_, ?_⟩, ?_, f3⟩
              · rw [f1]; omega
              · rw [f1]; exact w 19 0 (by omega)
              · rw [f1]; exact o4
              · rw [f2]; exact ml
            · cases h
          · cases h
      · cases h
  · cases h
/-- marks in their places can be reckoned -/
theorem q_dn_val {c : Nat → Int32} {M : Nat} : ∀ (L : List Int32) (i d e : Nat), (∀ j, j < L.length → c (i + j) = L.getD j 0) → m_dep c i = d → q_dn M L d = some e → (∀ j, i ≤ j → j < i + L.length → ((c j).toInt = -3 → 1 ≤ m_dep c j) ∧ ((c j).toInt = -4 ∨ (c j).toInt = -5 → 2 ≤ m_dep c j)) ∧ m_dep c (i + L.length) = e
  | [], i, d, e, hc, hd, h => by
    cases h
    exact ⟨fun j h1 h2 => absurd h2 (Nat.not_lt.mpr h1), hd⟩
  | x :: L, i, d, e, hc, hd, h => by
    have hx : c i = x := hc 0 (Nat.succ_pos _)
    have hc' : ∀ j, j < L.length → c (i + 1 + j) = L.getD j 0 := fun j hj => by
      have := hc (j + 1) (Nat.succ_lt_succ hj)
      rw [show i + 1 + j = i + (j + 1) by omega]; exact this
    have dd : m_dep c (i + 1) = if (c i).toInt = -3 then m_dep c i else if (c i).toInt = -4 ∨ (c i).toInt = -5 then m_dep c i - 1 else m_dep c i + 1 := rfl
    rw [hx, hd] at dd
    unfold q_dn at h
    have fin : ∀ d', m_dep c (i + 1) = d' → q_dn M L d' = some e → ((x.toInt = -3 → 1 ≤ d) ∧ (x.toInt = -4 ∨ x.toInt = -5 → 2 ≤ d)) → (∀ j, i ≤ j → j < i + (x :: L).length → ((c j).toInt = -3 → 1 ≤ m_dep c j) ∧ ((c j).toInt = -4 ∨ (c j).toInt = -5 → 2 ≤ m_dep c j)) ∧ m_dep c (i + (x :: L).length) = e := by
      intro d' h1 h2 h3
      obtain ⟨r1, r2⟩ := q_dn_val L (i + 1) d' e hc' h1 h2
      have ll : i + (x :: L).length = i + 1 + L.length := by show i + (L.length + 1) = _; omega
      rw [ll]
      refine ⟨fun j g1 g2 => ?_, r2⟩
      by_cases cj : j = i
      · subst cj; rw [hx, hd]; exact h3
      · exact r1 j (by omega) g2
    split at h
    · rename_i c3
      rw [if_pos c3] at dd
      split at h
      · rename_i g; exact fin d dd h ⟨fun _ => g, fun q => by omega⟩
      · cases h
    · rename_i c3
      rw [if_neg c3] at dd
      split at h
      · rename_i c4
        rw [if_pos c4] at dd
        split at h
        · rename_i g; exact fin (d - 1) dd h ⟨fun q => absurd q c3, fun _ => g⟩
        · cases h
      · rename_i c4
        rw [if_neg c4] at dd
        split at h
        · exact fin (d + 1) dd h ⟨fun q => absurd q c3, fun q => absurd q c4⟩
        · cases h
theorem q_std_val {c : Nat → Int32} {K : List Int32} {M e : Nat} (h : m_ls c K) (w : q_dn M K 0 = some e) : m_val c K.length := by
  obtain ⟨r1, -⟩ := q_dn_val (c := c) K 0 0 e (fun j hj => by rw [Nat.zero_add]; exact h j hj) rfl w
  exact fun i hi => r1 i (Nat.zero_le _) (by omega)

