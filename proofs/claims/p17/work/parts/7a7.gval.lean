/-! GRID behind a change, reckoned out of what was before -/
def gI (V : Nat → Nat → Int32) : Prop := (∀ j, 0 ≤ (V 7 j).toInt ∧ (V 7 j).toInt ≤ 1000) ∧ (∀ j, 0 ≤ (V 21 j).toInt ∧ (V 21 j).toInt ≤ 300) ∧ (∀ j, 0 ≤ (V 2 j).toInt ∧ (V 2 j).toInt ≤ 2000)
def g_W (V : Nat → Nat → Int32) (c s : Nat) : Int32 := g_min (g_alone V (V 15 s) (V 17 s) / (1 + nI c)) (V 2 (V 16 s).toNatClampNeg)
theorem g_worth_W {V : Nat → Nat → Int32} {n s : Nat} : g_worth V n s = g_W V (jx_ct (g_pn V s) n) s := rfl
def g_rp (V : Nat → Nat → Int32) (x s o : Nat) : Bool := g_pn V s o && !(o == x)
def g_rc (V : Nat → Nat → Int32) (n x s : Nat) : Nat := jx_ct (g_rp V x s) n
def g_rw (V : Nat → Nat → Int32) (n x s : Nat) : Int32 := if (V 14 s).toInt = 0 ∨ s = x then 0 else g_W V (g_rc V n x s) s
def g_rest (V : Nat → Nat → Int32) (n x : Nat) : Int32 := gs (g_rw V n x) n
/-- runs beside the changed one -/
def g_nr (V : Nat → Nat → Int32) (x : Nat) (h b e : Int32) (o : Nat) : Bool := decide (¬ (V 14 o).toInt = 0 ∧ ¬ o = x ∧ (V 1 h.toNatClampNeg).toInt = (V 1 (V 16 o).toNatClampNeg).toInt ∧ (V 17 o).toInt < e.toInt ∧ b.toInt < (g_end V o).toInt)
def g_D (V : Nat → Nat → Int32) (n x : Nat) (h b e : Int32) (o : Nat) : Int32 := if g_nr V x h b e o = true then g_W V (g_rc V n x o + 1) o - g_W V (g_rc V n x o) o else 0
def g_F (V : Nat → Nat → Int32) (n x : Nat) (h b e : Int32) (o : Nat) : Int32 := if (V 14 o).toInt = 0 ∨ o = x then 0 else g_W V (g_rc V n x o + (if g_nr V x h b e o = true then 1 else 0)) o
def g_T (V : Nat → Nat → Int32) (n x : Nat) (h b e : Int32) : Int32 := g_min (g_alone V (V 15 x) b / (1 + nI (jx_ct (g_nr V x h b e) n))) (V 2 h.toNatClampNeg)
theorem gs_add {f g : Nat → Int32} : ∀ n, gs (fun k => f k + g k) n = gs f n + gs g n
  | 0 => rfl
  | n + 1 => by
    rw [gs, gs, gs, gs_add n, Int32.add_assoc, Int32.add_assoc, ← Int32.add_assoc (gs g n), Int32.add_comm (gs g n), Int32.add_assoc]
theorem gs_one {x : Nat} {t : Int32} : ∀ n, gs (fun k => if k = x then t else 0) n = if x < n then t else 0
  | 0 => rfl
  | n + 1 => by
    rw [gs, gs_one n]
    by_cases h : x < n
    · rw [if_pos h, if_neg (by omega), if_pos (by omega), Int32.add_zero]
    · by_cases e : n = x
      · rw [if_neg h, if_pos e, if_pos (by omega), Int32.zero_add]
      · rw [if_neg h, if_neg e, if_neg (by omega), Int32.add_zero]
theorem g_F_D {V : Nat → Nat → Int32} {n x : Nat} {h b e : Int32} (o : Nat) : g_F V n x h b e o = g_rw V n x o + g_D V n x h b e o := by
  unfold g_F g_rw g_D
  by_cases c1 : (V 14 o).toInt = 0 ∨ o = x
  · have : g_nr V x h b e o = false := by unfold g_nr; exact decide_eq_false (by omega)
    rw [if_pos c1, if_pos c1, this]; rfl
  · rw [if_neg c1, if_neg c1]
    split
    · rw [Int32.sub_eq_add_neg, Int32.add_comm (g_W V (g_rc V n x o + 1) o), ← Int32.add_assoc, Int32.add_right_neg, Int32.zero_add]
    · rw [Int32.add_zero]; rfl
section
variable {V : Nat → Nat → Int32} {x : Nat} {h b : Int32}
theorem g_mv_o {k : Nat} (h1 : k ≠ 16) (h2 : k ≠ 17) : g_mv V x h b k = V k := by unfold g_mv gU; rw [if_neg h2, if_neg h1]
theorem g_mv_h : g_mv V x h b 16 x = h := by unfold g_mv gU upd; rw [if_neg (by decide), if_pos rfl, if_pos rfl]
theorem g_mv_b : g_mv V x h b 17 x = b := by unfold g_mv gU upd; rw [if_pos rfl, if_pos rfl]
theorem g_mv_hn {o : Nat} (ho : o ≠ x) : g_mv V x h b 16 o = V 16 o := by unfold g_mv gU upd; rw [if_neg (by decide), if_pos rfl, if_neg ho]
theorem g_mv_bn {o : Nat} (ho : o ≠ x) : g_mv V x h b 17 o = V 17 o := by unfold g_mv gU upd; rw [if_pos rfl, if_neg ho, if_neg (by decide)]
theorem g_mv_e : g_end (g_mv V x h b) x = b + V 5 (V 15 x).toNatClampNeg := by
  unfold g_end; rw [g_mv_b, g_mv_o (by decide) (by decide), g_mv_o (by decide) (by decide)]
theorem g_mv_en {o : Nat} (ho : o ≠ x) : g_end (g_mv V x h b) o = g_end V o := by
  unfold g_end; rw [g_mv_bn ho, g_mv_o (by decide) (by decide), g_mv_o (by decide) (by decide)]
theorem g_mv_al {f c : Int32} : g_alone (g_mv V x h b) f c = g_alone V f c := by
  unfold g_alone; rw [g_mv_o (by decide) (by decide), g_mv_o (by decide) (by decide)]
theorem g_mv_W {o c : Nat} (ho : o ≠ x) : g_W (g_mv V x h b) c o = g_W V c o := by
  unfold g_W; rw [g_mv_al, g_mv_o (k := 15) (by decide) (by decide), g_mv_o (k := 2) (by decide) (by decide), g_mv_hn ho, g_mv_bn ho]
theorem g_mv_pn {s o : Nat} (hs : s ≠ x) (ho : o ≠ x) : g_pn (g_mv V x h b) s o = g_pn V s o := by
  unfold g_pn; rw [g_mv_o (k := 14) (by decide) (by decide), g_mv_o (k := 1) (by decide) (by decide), g_mv_hn hs, g_mv_hn ho, g_mv_bn hs, g_mv_bn ho, g_mv_en hs, g_mv_en ho]
theorem g_mv_px {s : Nat} (hs : s ≠ x) (hi : ¬ (V 14 s).toInt = 0) (hx : ¬ (V 14 x).toInt = 0) : g_pn (g_mv V x h b) s x = g_nr V x h b (b + V 5 (V 15 x).toNatClampNeg) s := by
  unfold g_pn g_nr
  rw [g_mv_o (k := 14) (by decide) (by decide), g_mv_o (k := 1) (by decide) (by decide), g_mv_hn hs, g_mv_h, g_mv_bn hs, g_mv_b, g_mv_en hs, g_mv_e]
  refine decide_eq_decide.mpr ?_
  constructor
  · rintro ⟨-, -, a, c, d⟩; exact ⟨hi, hs, a, d, c⟩
  · rintro ⟨-, -, a, c, d⟩; exact ⟨hx, fun e => hs e.symm, a, d, c⟩
theorem g_mv_xp {o : Nat} : g_pn (g_mv V x h b) x o = g_nr V x h b (b + V 5 (V 15 x).toNatClampNeg) o := by
  by_cases ho : o = x
  · unfold g_pn g_nr
    rw [decide_eq_false (fun q => q.2.1 ho), decide_eq_false (fun q => q.2.1 ho)]
  · unfold g_pn g_nr
    rw [g_mv_o (k := 14) (by decide) (by decide), g_mv_o (k := 1) (by decide) (by decide), g_mv_hn ho, g_mv_h, g_mv_bn ho, g_mv_b, g_mv_en ho, g_mv_e]
    refine decide_eq_decide.mpr ?_
    constructor
    · rintro ⟨a1, a2, a, c, d⟩; exact ⟨a1, a2, a.symm, c, d⟩
    · rintro ⟨a1, a2, a, c, d⟩; exact ⟨a1, a2, a.symm, c, d⟩
end
theorem jx_ct_add {p q : Nat → Bool} {i : Nat} (hq : q i = false) (h : ∀ j, j ≠ i → q j = p j) {n : Nat} (hi : i < n) : jx_ct p n = jx_ct q n + (if p i = true then 1 else 0) := by
  by_cases c : p i = true
  · rw [if_pos c, ← jx_ct_off c hq h hi]
  · rw [if_neg c, Nat.add_zero]
    refine jx_ct_cong (fun k _ => ?_)
    by_cases e : k = i
    · rw [e, hq]; cases z : p i with
      | true => exact absurd z c
      | false => rfl
    · exact (h k e).symm
theorem g_rp_x {V : Nat → Nat → Int32} {x s : Nat} : g_rp V x s x = false := by unfold g_rp; rw [show (x == x) = true from beq_self_eq_true x, Bool.not_true, Bool.and_false]
theorem g_rp_o {V : Nat → Nat → Int32} {x s o : Nat} (h : o ≠ x) : g_rp V x s o = g_pn V s o := by unfold g_rp; rw [show (o == x) = false from beq_false_of_ne h, Bool.not_false, Bool.and_true]
/-- all beside it: those without x, and x -/
theorem g_rc_a {V : Nat → Nat → Int32} {n x s : Nat} (hx : x < n) : jx_ct (g_pn V s) n = g_rc V n x s + (if g_pn V s x = true then 1 else 0) := jx_ct_add g_rp_x (fun j hj => g_rp_o hj) hx
theorem g_ct_mv {V : Nat → Nat → Int32} {n x s : Nat} {h b : Int32} (hx : x < n) (hs : s ≠ x) (hi : ¬ (V 14 s).toInt = 0) (hix : ¬ (V 14 x).toInt = 0) : jx_ct (g_pn (g_mv V x h b) s) n = g_rc V n x s + (if g_nr V x h b (b + V 5 (V 15 x).toNatClampNeg) s = true then 1 else 0) := by
  rw [jx_ct_add (p := g_pn (g_mv V x h b) s) (q := g_rp V x s) (i := x) g_rp_x (fun j hj => by rw [g_rp_o hj, g_mv_pn hs hj]) hx, g_mv_px hs hi hix]; rfl
theorem g_w_mv {V : Nat → Nat → Int32} {n x : Nat} {h b : Int32} (hx : x < n) (hix : ¬ (V 14 x).toInt = 0) (s : Nat) : g_w (g_mv V x h b) n s = g_F V n x h b (b + V 5 (V 15 x).toNatClampNeg) s + (if s = x then g_T V n x h b (b + V 5 (V 15 x).toNatClampNeg) else 0) := by
  unfold g_w
  rw [g_mv_o (k := 14) (by decide) (by decide)]
  by_cases e : s = x
  · rw [e, if_neg hix, if_pos rfl, show g_F V n x h b (b + V 5 (V 15 x).toNatClampNeg) x = 0 from if_pos (Or.inr rfl), Int32.zero_add]
    unfold g_worth g_crowd g_T
    rw [g_mv_al, g_mv_h, g_mv_b, g_mv_o (k := 15) (by decide) (by decide), g_mv_o (k := 2) (by decide) (by decide), jx_ct_cong (fun k _ => g_mv_xp (o := k))]
  · rw [if_neg e, Int32.add_zero]
    unfold g_F
    by_cases i : (V 14 s).toInt = 0
    · rw [if_pos i, if_pos (Or.inl i)]
    · rw [if_neg i, if_neg (by rintro (q | q) <;> contradiction), g_worth_W, g_mv_W e, g_ct_mv hx e i hix]
theorem g_grid_F {V : Nat → Nat → Int32} {n x : Nat} {h b : Int32} (hx : x < n) (hix : ¬ (V 14 x).toInt = 0) : g_grid (g_mv V x h b) n = gs (g_F V n x h b (b + V 5 (V 15 x).toNatClampNeg)) n + g_T V n x h b (b + V 5 (V 15 x).toNatClampNeg) := by
  unfold g_grid
  rw [gs_cong (fun k _ => g_w_mv hx hix k), gs_add, gs_one, if_pos hx]
/-- the value that the class reckons -/
theorem g_value {V : Nat → Nat → Int32} {n x : Nat} {h b : Int32} (hx : x < n) (hix : ¬ (V 14 x).toInt = 0) : g_rest V n x + gs (g_D V n x h b (b + V 5 (V 15 x).toNatClampNeg)) n + g_T V n x h b (b + V 5 (V 15 x).toNatClampNeg) = g_grid (g_mv V x h b) n := by
  rw [g_grid_F hx hix, gs_cong (fun k _ => g_F_D k), gs_add]; rfl
/-- how great these are -/
theorem g_alone_n {V : Nat → Nat → Int32} (hI : gI V) (f b : Int32) : ∃ A : Nat, A ≤ 3000 ∧ g_alone V f b = nI A := by
  have h1 := hI.1 f.toNatClampNeg
  have h2 := hI.2.1 ((b - b / 1440 * 1440) / 60).toNatClampNeg
  have t1 := ji_tn h1.1
  have t2 := ji_tn h2.1
  have m1 : (V 7 f.toNatClampNeg).toNatClampNeg * (V 21 ((b - b / 1440 * 1440) / 60).toNatClampNeg).toNatClampNeg ≤ 1000 * 300 := Nat.mul_le_mul (by omega) (by omega)
  refine ⟨(V 7 f.toNatClampNeg).toNatClampNeg * (V 21 ((b - b / 1440 * 1440) / 60).toNatClampNeg).toNatClampNeg / 100, by omega, ?_⟩
  unfold g_alone
  have e := pk_mul (V 7 f.toNatClampNeg).toNatClampNeg (V 21 ((b - b / 1440 * 1440) / 60).toNatClampNeg).toNatClampNeg
  rw [← ji_nI h1.1, ← ji_nI h2.1] at e
  rw [e]
  exact pk_div (a := (V 7 f.toNatClampNeg).toNatClampNeg * (V 21 ((b - b / 1440 * 1440) / 60).toNatClampNeg).toNatClampNeg) (d := 100) (by omega) (by decide) (by decide)
theorem g_q_n {A c : Nat} (hA : A ≤ 3000) (hc : c ≤ 61) : nI A / (1 + nI c) = nI (A / (c + 1)) := by
  rw [Int32.add_comm, nI_1]
  exact pk_div (by omega) (by omega) (by omega)
theorem g_min_i {A : Nat} {s : Int32} (hA : A ≤ 3000) : (g_min (nI A) s).toInt = min (A : Int) s.toInt := by
  have e : (nI A).toInt = (A : Int) := nI_toInt (by omega)
  unfold g_min
  rw [e]
  split
  · rw [e]; omega
  · omega
theorem g_W_r {V : Nat → Nat → Int32} (hI : gI V) {c : Nat} (s : Nat) (hc : c ≤ 61) : 0 ≤ (g_W V c s).toInt ∧ (g_W V c s).toInt ≤ 2000 := by
  obtain ⟨A, hA, e⟩ := g_alone_n hI (V 15 s) (V 17 s)
  have h2 := hI.2.2 (V 16 s).toNatClampNeg
  have h3 := Nat.div_le_self A (c + 1)
  unfold g_W
  rw [e, g_q_n hA hc, g_min_i (by omega)]
  generalize A / (c + 1) = q at h3 ⊢
  omega
theorem g_W_m {V : Nat → Nat → Int32} (hI : gI V) {c : Nat} (s : Nat) (hc : c ≤ 60) : (g_W V (c + 1) s).toInt ≤ (g_W V c s).toInt := by
  obtain ⟨A, hA, e⟩ := g_alone_n hI (V 15 s) (V 17 s)
  have h3 := Nat.div_le_self A (c + 1)
  have h4 := Nat.div_le_self A (c + 1 + 1)
  have h5 : A / (c + 1 + 1) ≤ A / (c + 1) := Nat.div_le_div_left (by omega) (by omega)
  unfold g_W
  rw [e, g_q_n hA (by omega), g_q_n hA (by omega), g_min_i (by omega), g_min_i (by omega)]
  omega
theorem gs_le {f g : Nat → Int32} : ∀ n, n ≤ 60 → (∀ k, k < n → 0 ≤ (f k).toInt ∧ (f k).toInt ≤ (g k).toInt ∧ (g k).toInt ≤ 2000) → 0 ≤ (gs f n).toInt ∧ (gs f n).toInt ≤ (gs g n).toInt ∧ (gs g n).toInt ≤ 2000 * (n : Int)
  | 0, _, _ => ⟨show 0 ≤ (0 : Int32).toInt by decide, show (0 : Int32).toInt ≤ (0 : Int32).toInt by decide, show (0 : Int32).toInt ≤ 2000 * ((0 : Nat) : Int) by decide⟩
  | n + 1, hn, h => by
    obtain ⟨i1, i2, i3⟩ := gs_le (f := f) (g := g) n (by omega) (fun k hk => h k (by omega))
    obtain ⟨j1, j2, j3⟩ := h n (by omega)
    rw [gs, gs, fb_addI (by omega) (by omega), fb_addI (by omega) (by omega)]
    omega
theorem g_rc_le {V : Nat → Nat → Int32} {n x s : Nat} : g_rc V n x s ≤ n := jx_ct_le _ n
/-- no more than the rest and the changed one alone -/
theorem g_prune {V : Nat → Nat → Int32} (hI : gI V) {n x : Nat} {h b : Int32} (hn : n ≤ 60) (hx : x < n) (hix : ¬ (V 14 x).toInt = 0) : (g_grid (g_mv V x h b) n).toInt ≤ (g_rest V n x + g_min (g_alone V (V 15 x) b) (V 2 h.toNatClampNeg)).toInt := by
  obtain ⟨A, hA, e⟩ := g_alone_n hI (V 15 x) b
  have h2 := hI.2.2 h.toNatClampNeg
  obtain ⟨i1, i2, i3⟩ := gs_le (f := g_F V n x h b (b + V 5 (V 15 x).toNatClampNeg)) (g := g_rw V n x) n hn (fun k hk => by
    have hr := g_rc_le (V := V) (n := n) (x := x) (s := k)
    unfold g_F g_rw
    split
    · exact ⟨by decide, by decide, by decide⟩
    · split
      · exact ⟨(g_W_r hI k (by omega)).1, g_W_m hI k (by omega), (g_W_r hI k (by omega)).2⟩
      · exact ⟨(g_W_r hI k (by omega)).1, Int.le_refl _, (g_W_r hI k (by omega)).2⟩)
  have hc := jx_ct_le (g_nr V x h b (b + V 5 (V 15 x).toNatClampNeg)) n
  have h3 := Nat.div_le_self A (jx_ct (g_nr V x h b (b + V 5 (V 15 x).toNatClampNeg)) n + 1)
  have tT : (g_T V n x h b (b + V 5 (V 15 x).toNatClampNeg)).toInt = min ((A / (jx_ct (g_nr V x h b (b + V 5 (V 15 x).toNatClampNeg)) n + 1) : Nat) : Int) (V 2 h.toNatClampNeg).toInt := by
    unfold g_T
    rw [e, g_q_n hA (by omega), g_min_i (by omega)]
  have tA : (g_min (g_alone V (V 15 x) b) (V 2 h.toNatClampNeg)).toInt = min (A : Int) (V 2 h.toNatClampNeg).toInt := by rw [e, g_min_i hA]
  have i2' : (gs (g_F V n x h b (b + V 5 (V 15 x).toNatClampNeg)) n).toInt ≤ (g_rest V n x).toInt := i2
  have i3' : (g_rest V n x).toInt ≤ 2000 * (n : Int) := i3
  generalize A / (jx_ct (g_nr V x h b (b + V 5 (V 15 x).toNatClampNeg)) n + 1) = q at h3 tT
  rw [g_grid_F hx hix, fb_addI (by omega) (by omega), fb_addI (by omega) (by omega)]
  omega
theorem jx_ct_lt {p : Nat → Bool} {n i : Nat} (hi : i < n) (hp : p i = false) : jx_ct p n < n := by
  have := jx_ct_off (p := fun j => if j = i then true else p j) (q := p) (i := i) (by simp) hp (fun j hj => by simp [hj]) hi
  have h2 := jx_ct_le (fun j => if j = i then true else p j) n
  omega

