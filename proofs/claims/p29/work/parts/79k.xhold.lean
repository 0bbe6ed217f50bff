/-! the class: holds, passes, counts exactly -/
theorem l_gd : ∀ (P : List Bool) (n : Nat), P.length ≤ n → P.getD n false = false
  | [], n, _ => by simp
  | a :: Q, 0, h => absurd h (Nat.not_succ_le_zero _)
  | a :: Q, n + 1, h => by rw [List.getD_cons_succ]; exact l_gd Q n (Nat.le_of_succ_le_succ h)
theorem l_gs : ∀ (P : List Bool) (i : Nat), P.tail.getD i false = P.getD (i + 1) false
  | [], i => by simp
  | a :: Q, i => by rw [List.getD_cons_succ]; rfl
theorem l_g0 : ∀ P : List Bool, P.headD false = P.getD 0 false
  | [] => rfl
  | a :: Q => rfl
theorem l_g1 (P : List Bool) : P.tail.headD false = P.getD 1 false := by rw [l_g0, l_gs]
theorem l_gss (P : List Bool) (i : Nat) : P.tail.tail.getD i false = P.getD (i + 2) false := by rw [l_gs, l_gs]
theorem l_mapd : ∀ (L : List Int32) (i : Nat), i < L.length → (L.map q_st).getD i 0 = q_st (L.getD i 0)
  | [], i, h => absurd h (Nat.not_lt_zero _)
  | x :: L, 0, _ => rfl
  | x :: L, i + 1, h => by
    rw [List.map_cons, List.getD_cons_succ, List.getD_cons_succ]
    exact l_mapd L i (Nat.lt_of_succ_lt_succ h)
theorem l_memd : ∀ (L : List Int32) (i : Nat), i < L.length → L.getD i 0 ∈ L
  | [], i, h => absurd h (Nat.not_lt_zero _)
  | x :: L, 0, _ => List.mem_cons_self
  | x :: L, i + 1, h => by
    rw [List.getD_cons_succ]
    exact List.mem_cons_of_mem _ (l_memd L i (Nat.lt_of_succ_lt_succ h))
/-- the pile of the class: bits of a number -/
def x_pb (p : Int64) (P : List Bool) : Prop := ∀ i, i < 64 → p.toBitVec.getLsbD i = P.getD i false
theorem x_pb_cons {p : Int64} {b : Bool} {P : List Bool} (h0 : p.toBitVec.getLsbD 0 = b) (hs : ∀ i, i + 1 < 64 → p.toBitVec.getLsbD (i + 1) = P.getD i false) : x_pb p (b :: P)
  | 0, _ => h0
  | i + 1, hi => by rw [List.getD_cons_succ]; exact hs i hi
theorem x_b1 (i : Nat) : (1 : BitVec 64).getLsbD i = decide (i = 0) := by
  by_cases h : i < 64
  · have : ∀ j : Fin 64, (1 : BitVec 64).getLsbD j.1 = decide (j.1 = 0) := by decide
    exact this ⟨i, h⟩
  · rw [BitVec.getLsbD_of_ge _ _ (by omega)]; symm; exact decide_eq_false (by omega)
theorem x_b2 (i : Nat) (h : i < 64) : (Int64.toBitVec (-2)).getLsbD i = !decide (i = 0) := by
  have : ∀ j : Fin 64, (Int64.toBitVec (-2)).getLsbD j.1 = !decide (j.1 = 0) := by decide
  exact this ⟨i, h⟩
theorem x_pb_0 : x_pb 0 [] := fun i hi => by
  show (0 : BitVec 64).getLsbD i = _
  simp
theorem x_pb_not {p : Int64} {P : List Bool} (h : x_pb p P) : x_pb (p ^^^ 1) ((!(P.headD false)) :: P.tail) := by
  refine x_pb_cons ?_ (fun i hi => ?_)
  · show (p.toBitVec ^^^ (1 : BitVec 64)).getLsbD 0 = _
    rw [BitVec.getLsbD_xor, h 0 (by decide), l_g0]
    cases P.getD 0 false <;> decide
  · show (p.toBitVec ^^^ (1 : BitVec 64)).getLsbD (i + 1) = _
    rw [BitVec.getLsbD_xor, h (i + 1) hi, x_b1, decide_eq_false (by omega), Bool.xor_false, l_gs]
theorem x_sh {p : Int64} {P : List Bool} (h : x_pb p P) (hl : P.length ≤ 19) (i : Nat) (hi : i < 64) : (p.toBitVec.sshiftRight 1).getLsbD i = P.getD (i + 1) false := by
  rw [BitVec.getLsbD_sshiftRight]
  have h1 : ¬ 64 ≤ i := by omega
  rw [decide_eq_false h1, Bool.not_false, Bool.true_and]
  by_cases c : 1 + i < 64
  · rw [if_pos c, Nat.add_comm 1 i]; exact h (i + 1) (by omega)
  · rw [if_neg c, BitVec.msb_eq_getLsbD_last, l_gd P (i + 1) (by omega)]
    exact (h 63 (by decide)).trans (l_gd P 63 (by omega))
theorem x_pb_and {p : Int64} {P : List Bool} (h : x_pb p P) (hl : P.length ≤ 19) : x_pb ((p >>> ((1 : Int32).toInt64 &&& 63)) &&& ((p &&& 1) ||| (-2))) ((P.tail.headD false && P.headD false) :: P.tail.tail) := by
  refine x_pb_cons ?_ (fun i hi => ?_)
  · show (p.toBitVec.sshiftRight 1 &&& ((p.toBitVec &&& (1 : BitVec 64)) ||| Int64.toBitVec (-2))).getLsbD 0 = _
    rw [BitVec.getLsbD_and, BitVec.getLsbD_or, BitVec.getLsbD_and, x_sh h hl 0 (by decide), h 0 (by decide), x_b1, x_b2 0 (by decide), l_g1, l_g0]
    cases P.getD 0 false <;> cases P.getD (0 + 1) false <;> rfl
  · show (p.toBitVec.sshiftRight 1 &&& ((p.toBitVec &&& (1 : BitVec 64)) ||| Int64.toBitVec (-2))).getLsbD (i + 1) = _
    rw [BitVec.getLsbD_and, BitVec.getLsbD_or, BitVec.getLsbD_and, x_sh h hl (i + 1) hi, x_b1, x_b2 (i + 1) hi, decide_eq_false (show ¬ i + 1 = 0 by omega), l_gss, Bool.and_false, Bool.false_or, Bool.not_false, Bool.and_true]
theorem x_pb_or {p : Int64} {P : List Bool} (h : x_pb p P) (hl : P.length ≤ 19) : x_pb ((p >>> ((1 : Int32).toInt64 &&& 63)) ||| (p &&& 1)) ((P.tail.headD false || P.headD false) :: P.tail.tail) := by
  refine x_pb_cons ?_ (fun i hi => ?_)
  · show (p.toBitVec.sshiftRight 1 ||| (p.toBitVec &&& (1 : BitVec 64))).getLsbD 0 = _
    rw [BitVec.getLsbD_or, BitVec.getLsbD_and, x_sh h hl 0 (by decide), h 0 (by decide), x_b1, l_g1, l_g0]
    cases P.getD 0 false <;> cases P.getD (0 + 1) false <;> rfl
  · show (p.toBitVec.sshiftRight 1 ||| (p.toBitVec &&& (1 : BitVec 64))).getLsbD (i + 1) = _
    rw [BitVec.getLsbD_or, BitVec.getLsbD_and, x_sh h hl (i + 1) hi, x_b1, decide_eq_false (show ¬ i + 1 = 0 by omega), l_gss, Bool.and_false, Bool.or_false]
theorem x_pb_push {p : Int64} {P : List Bool} {b : Bool} {v : Int32} (h : x_pb p P) (hv : v = q_b b) : x_pb ((p <<< ((1 : Int32).toInt64 &&& 63)) ||| v.toInt64) (b :: P) := by
  subst hv
  have z0 : (Int64.toBitVec (q_b b).toInt64).getLsbD 0 = b := by cases b <;> decide
  have zs : ∀ i, i + 1 < 64 → (Int64.toBitVec (q_b b).toInt64).getLsbD (i + 1) = false := by
    intro i hi
    have q1 : ∀ j : Fin 64, (Int64.toBitVec (q_b true).toInt64).getLsbD j.1 = decide (j.1 = 0) := by decide
    have q0 : ∀ j : Fin 64, (Int64.toBitVec (q_b false).toInt64).getLsbD j.1 = false := by decide
    cases b
    · exact q0 ⟨i + 1, hi⟩
    · exact (q1 ⟨i + 1, hi⟩).trans (decide_eq_false (show ¬ i + 1 = 0 by omega))
  refine x_pb_cons ?_ (fun i hi => ?_)
  · show (p.toBitVec <<< (1 : Nat) ||| Int64.toBitVec (q_b b).toInt64).getLsbD 0 = _
    rw [BitVec.getLsbD_or, BitVec.getLsbD_shiftLeft, z0]
    cases b <;> rfl
  · show (p.toBitVec <<< (1 : Nat) ||| Int64.toBitVec (q_b b).toInt64).getLsbD (i + 1) = _
    rw [BitVec.getLsbD_or, BitVec.getLsbD_shiftLeft, zs i hi, decide_eq_true hi, decide_eq_false (show ¬ i + 1 < 1 by omega), Nat.add_sub_cancel, h i (by omega), Bool.or_false, Bool.not_false, Bool.and_true, Bool.true_and]
theorem x_eb {p : Int64} {P : List Bool} (h : x_pb p P) : p &&& 1 = (if P.headD false = true then (1 : Int64) else 0) := by
  have k : ∀ b : Bool, P.headD false = b → p &&& 1 = (if b = true then (1 : Int64) else 0) := by
    intro b hb
    rw [l_g0] at hb
    apply Int64.toBitVec_inj.mp
    have e : (if b = true then (1 : Int64) else 0).toBitVec = (if b = true then (1 : BitVec 64) else 0) := by cases b <;> rfl
    rw [e]
    show p.toBitVec &&& (1 : BitVec 64) = _
    apply BitVec.eq_of_getLsbD_eq
    intro i hi
    rw [BitVec.getLsbD_and, h i hi, x_b1]
    by_cases c : i = 0
    · subst c
      rw [hb]
      cases b <;> decide
    · rw [decide_eq_false c, Bool.and_false]
      cases b
      · show false = (0 : BitVec 64).getLsbD i
        simp
      · show false = (1 : BitVec 64).getLsbD i
        rw [x_b1, decide_eq_false c]
  exact k _ rfl
theorem x_end1 {p : Int64} {P : List Bool} (h : x_pb p P) (e : (lg_cmp (p &&& 1) 1).toInt = 0) : P.headD false = true := by
  have e := Int64.toInt_inj.mp (jl_ceq.mp e)
  rw [x_eb h] at e
  cases q : P.headD false
  · rw [q] at e; exact absurd e (by decide)
  · rfl
theorem x_end0 {p : Int64} {P : List Bool} (h : x_pb p P) (e : ¬ (lg_cmp (p &&& 1) 1).toInt = 0) : ¬ P.headD false = true := by
  intro q
  refine e (jl_ceq.mpr ?_)
  rw [x_eb h, if_pos q]
/-- a step and its mark -/
def q_si (x z : Int32) : Prop := (z.toInt = 2 ↔ x.toInt = -3) ∧ (z.toInt = 3 ↔ x.toInt = -4) ∧ (z.toInt = 4 ↔ x.toInt = -5) ∧ (z.toInt = 0 ↔ x.toInt = -1) ∧ (z.toInt = 1 ↔ x.toInt = -2) ∧ (0 ≤ x.toInt → z.toInt = 5 + x.toInt) ∧ (0 ≤ z.toInt ∧ z.toInt ≤ 1005) ∧ -5 ≤ x.toInt
theorem q_st_is {x z : Int32} (h : q_mk x) (e : z = q_st x) : q_si x z := by
  obtain ⟨m1, m2⟩ := h
  have h5 : (5 + x).toInt = 5 + x.toInt := fb_addI (by show _ ≤ (5 : Int) + _; omega) (by show (5 : Int) + _ < _; omega)
  subst e
  have k0 : (0 : Int32).toInt = 0 := rfl
  have k1 : (1 : Int32).toInt = 1 := rfl
  have k2 : (2 : Int32).toInt = 2 := rfl
  have k3 : (3 : Int32).toInt = 3 := rfl
  have k4 : (4 : Int32).toInt = 4 := rfl
  unfold q_st q_si
  repeat' split
  all_goals omega
/-- the class's rules, as their marks -/
def x_rs (σ : jf_S) (L : List Int32) : Prop := ((σ.1 8 3)).toInt = (L.length : Int) ∧ m_ls ((σ.1 47)) (L.map q_st) ∧ L.length ≤ 300 ∧ q_dn 19 L 0 = some 1 ∧ ∀ x ∈ L, q_mk x
theorem x_vp_3 {s k : Bool} {c : Int32} {D : Nat → Int32} {i : Nat} {p : Int64} (hx : (D i).toInt = -3) (h : x_pb p (q_vp s k c D i)) : x_pb (p ^^^ 1) (q_vp s k c D (i + 1)) := by
  show x_pb _ (q_e1 s k c (D i) (q_vp s k c D i))
  rw [q_e1_3 hx]; exact x_pb_not h
theorem x_vp_4 {s k : Bool} {c : Int32} {D : Nat → Int32} {i : Nat} {p : Int64} (hx : (D i).toInt = -4) (h : x_pb p (q_vp s k c D i)) (hl : (q_vp s k c D i).length ≤ 19) : x_pb ((p >>> ((1 : Int32).toInt64 &&& 63)) &&& ((p &&& 1) ||| (-2))) (q_vp s k c D (i + 1)) := by
  show x_pb _ (q_e1 s k c (D i) (q_vp s k c D i))
  rw [q_e1_4 hx]; exact x_pb_and h hl
theorem x_vp_5 {s k : Bool} {c : Int32} {D : Nat → Int32} {i : Nat} {p : Int64} (hx : (D i).toInt = -5) (h : x_pb p (q_vp s k c D i)) (hl : (q_vp s k c D i).length ≤ 19) : x_pb ((p >>> ((1 : Int32).toInt64 &&& 63)) ||| (p &&& 1)) (q_vp s k c D (i + 1)) := by
  show x_pb _ (q_e1 s k c (D i) (q_vp s k c D i))
  rw [q_e1_5 hx]; exact x_pb_or h hl
theorem x_vp_l {s k : Bool} {c v : Int32} {D : Nat → Int32} {i : Nat} {p : Int64} (h3 : ¬ (D i).toInt = -3) (h4 : ¬ ((D i).toInt = -4 ∨ (D i).toInt = -5)) (h : x_pb p (q_vp s k c D i)) (hv : v = q_b (q_lf s k c (D i))) : x_pb ((p <<< ((1 : Int32).toInt64 &&& 63)) ||| v.toInt64) (q_vp s k c D (i + 1)) := by
  show x_pb _ (q_e1 s k c (D i) (q_vp s k c D i))
  rw [q_e1_l h3 h4]; exact x_pb_push h hv
theorem q_b_az {a : Int32} {s : Bool} (ha : a = q_b s) (h : a.toInt = 0) : 0 = q_b s := by rw [← ha]; exact (Int32.toInt_inj.mp h).symm
theorem q_b_an {a : Int32} {s : Bool} (ha : a = q_b s) (h : ¬ a.toInt = 0) : 1 = q_b s := by subst ha; rw [q_b_nz h]; rfl
theorem ct_X7_holds2 (E : jf_E) (σ : jf_S) (a b c : Int32) (s k : Bool) (L : List Int32) (ha : a = q_b s) (hb : b = q_b k) (hr : x_rs σ L) : jf_I jh_X E yX7_holds cX7_holds 12 .boolean 0 [jf_r E 8, .int a, .int b, .int c] σ (fun r τ => r = jb ((q_vp s k c (fun i => L.getD i 0) L.length).headD false = true) ∧ τ = σ) := by
  refine jf_mkI (by decide) (Nat.le_of_ble_eq_true rfl) ?_
  intro G C ret
  obtain ⟨hn, hS, h3, hw, hq⟩ := hr
  have ok := q_rk_of (c := fun i => L.getD i 0) (L := L) (fun i _ => rfl) hw
  have len : ∀ i, i ≤ L.length → (q_vp s k c (fun i => L.getD i 0) i).length ≤ 19 := fun i hi => by rw [q_vp_len ok.1 i hi]; exact ok.2.2 i hi
  have Z : ∀ (i : Nat), i < L.length → q_si (L.getD i 0) ((σ.1 47) i) := fun i hi => q_st_is (hq _ (l_memd L i hi)) ((hS i (by rw [List.length_map]; exact hi)).trans (l_mapd L i hi))
  have lp : ∀ (m : Nat) (p : Int64) (o : Int32), 0 ≤ o.toInt → o.toInt ≤ (L.length : Int) → (L.length : Int) - o.toInt < m → x_pb p (q_vp s k c (fun i => L.getD i 0) o.toNatClampNeg) → jf_X jh_X E G 12 6 [(0, jf_r E 8), (1, .int a), (2, .int b), (3, .int c), (4, .long p), (6, .int o)] [] σ := by
    intro m
    induction m with
    | zero => intro p o g1 g2 g3 g4; exfalso; omega
    | succ m ih =>
      intro p o g1 g2 g3 g4
      have e1 := ji_inc (k := o) (by omega)
      have t1 := ji_tn g1
      have e2 : (o + Int32.ofInt 1).toNatClampNeg = o.toNatClampNeg + 1 := ji_cl (by rw [e1, Int.natCast_add, ji_tn g1]; rfl)
      have Y : ¬ ((σ.1 8 3)).toInt ≤ o.toInt → q_si (L.getD o.toNatClampNeg 0) ((σ.1 47) o.toNatClampNeg) := fun h => Z _ (by omega)
      have s5 : ¬ ((σ.1 8 3)).toInt ≤ o.toInt → ((σ.1 47) o.toNatClampNeg - 5).toInt = ((σ.1 47) o.toNatClampNeg).toInt - 5 := fun h => by
        have := (Y h).2.2.2.2.2.2.1
        exact fb_subI (by show _ ≤ _ - (5 : Int); omega) (by show _ - (5 : Int) < _; omega)
      have ln := len o.toNatClampNeg (by omega)
      have N : ∀ (p : Int64), ¬ ((σ.1 8 3)).toInt ≤ o.toInt → x_pb p (q_vp s k c (fun i => L.getD i 0) (o.toNatClampNeg + 1)) → jf_X jh_X E G 12 6 [(0, jf_r E 8), (1, .int a), (2, .int b), (3, .int c), (4, .long p), (6, .int (o + Int32.ofInt 1))] [] σ := fun p h k => ih p _ (by omega) (by omega) (by omega) (by rw [e2]; exact k)
      have F : ∀ v : Int32, ¬ ((σ.1 8 3)).toInt ≤ o.toInt → ¬ ((σ.1 47) o.toNatClampNeg).toInt = 2 → ¬ ((σ.1 47) o.toNatClampNeg).toInt = 3 → ¬ ((σ.1 47) o.toNatClampNeg).toInt = 4 → v = q_b (q_lf s k c (L.getD o.toNatClampNeg 0)) → x_pb ((p <<< ((1 : Int32).toInt64 &&& 63)) ||| v.toInt64) (q_vp s k c (fun i => L.getD i 0) (o.toNatClampNeg + 1)) := fun v h f2 f3 f4 hv => by
        have y := Y h
        exact x_vp_l (fun q => f2 (y.1.mpr q)) (fun q => q.elim (fun q => f3 (y.2.1.mpr q)) (fun q => f4 (y.2.2.1.mpr q))) g4 hv
      have F0 : ¬ ((σ.1 8 3)).toInt ≤ o.toInt → ((σ.1 47) o.toNatClampNeg).toInt = 0 → ∀ v : Int32, v = q_b s → v = q_b (q_lf s k c (L.getD o.toNatClampNeg 0)) := fun h f v hv => q_lf_s ((Y h).2.2.2.1.mp f) hv
      have F1 : ¬ ((σ.1 8 3)).toInt ≤ o.toInt → ¬ ((σ.1 47) o.toNatClampNeg).toInt = 0 → ((σ.1 47) o.toNatClampNeg).toInt = 1 → ∀ v : Int32, v = q_b k → v = q_b (q_lf s k c (L.getD o.toNatClampNeg 0)) := fun h f g v hv => q_lf_k (fun q => f ((Y h).2.2.2.1.mpr q)) ((Y h).2.2.2.2.1.mp g) hv
      have F5 : ¬ ((σ.1 8 3)).toInt ≤ o.toInt → ¬ ((σ.1 47) o.toNatClampNeg).toInt = 2 → ¬ ((σ.1 47) o.toNatClampNeg).toInt = 3 → ¬ ((σ.1 47) o.toNatClampNeg).toInt = 4 → ¬ ((σ.1 47) o.toNatClampNeg).toInt = 0 → ¬ ((σ.1 47) o.toNatClampNeg).toInt = 1 → ∀ v : Int32, ((v = 1 ∧ ¬ c.toInt < ((σ.1 47) o.toNatClampNeg - 5).toInt) ∨ (v = 0 ∧ c.toInt < ((σ.1 47) o.toNatClampNeg - 5).toInt)) → v = q_b (q_lf s k c (L.getD o.toNatClampNeg 0)) := fun h f2 f3 f4 f0 f1 v hv => by
        have y := Y h
        unfold q_si at y
        have y5 := s5 h
        refine q_lf_o (fun q => f0 (y.2.2.2.1.mpr q)) (fun q => f1 (y.2.2.2.2.1.mpr q)) ?_
        rcases hv with ⟨rfl, w⟩ | ⟨rfl, w⟩
        · exact q_b_d1 (by omega)
        · exact q_b_d0 (by omega)
      refine jr_iload C dX7_holds_6 rfl ?_
      refine jr_aload_n C dX7_holds_8 rfl ?_
      refine jr_getv C kf_X7_20_8 dX7_holds_9 (v := σ.1 8 3) rfl ?_
      refine jr_ncmp_ge C 149 dX7_holds_12 (by decide) rfl rfl (fun b12 => ?_) (fun b12 => ?_)
      · refine jr_lload C dX7_holds_149 rfl ?_
        refine jr_lconst C (v := 1) dX7_holds_151 (by decide) ?_
        refine jr_land C dX7_holds_152 ?_
        refine jr_lconst C (v := 1) dX7_holds_153 (by decide) ?_
        refine jr_lcmp C dX7_holds_154 ?_
        refine jr_nif_ne C 162 dX7_holds_155 (by decide) (fun b155 => ?_) (fun b155 => ?_)
        · refine jr_iconst C (v := 0) dX7_holds_162 (by decide) ?_
          exact ret _ _ _ _ dX7_holds_163 (rfl) ((by have q : o.toNatClampNeg = L.length := (by omega); rw [q] at g4; first | exact ⟨jb_tt (x_end1 g4 b155), rfl⟩ | exact ⟨jb_ff (x_end0 g4 b155), rfl⟩))
        · refine jr_iconst C (v := 1) dX7_holds_158 (by decide) ?_
          refine jr_goto C 163 dX7_holds_159 (by decide) ?_
          exact ret _ _ _ _ dX7_holds_163 (rfl) ((by have q : o.toNatClampNeg = L.length := (by omega); rw [q] at g4; first | exact ⟨jb_tt (x_end1 g4 b155), rfl⟩ | exact ⟨jb_ff (x_end0 g4 b155), rfl⟩))
      · refine jr_aload_n C dX7_holds_15 rfl ?_
        refine jr_getr C kf_X7_9_8 dX7_holds_16 ?_
        refine jr_iload C dX7_holds_19 rfl ?_
        refine jr_ialv C ka_X_47 dX7_holds_21 (ji_in (i := o) (by omega) (by omega)) (v := σ.1 47 _) rfl ?_
        refine jr_istore C dX7_holds_22 (by decide) ?_
        refine jr_iload C dX7_holds_24 rfl ?_
        refine jr_iconst C (v := 2) dX7_holds_26 (by decide) ?_
        refine jr_ncmp_ne C (b := 2) 39 dX7_holds_27 (by decide) rfl rfl (fun b27 => ?_) (fun b27 => ?_)
        · refine jr_iload C dX7_holds_39 rfl ?_
          refine jr_iconst C (v := 3) dX7_holds_41 (by decide) ?_
          refine jr_ncmp_eq C (b := 3) 51 dX7_holds_42 (by decide) rfl rfl (fun b42 => ?_) (fun b42 => ?_)
          · refine jr_lload C dX7_holds_51 rfl ?_
            refine jr_lconst C (v := 1) dX7_holds_53 (by decide) ?_
            refine jr_land C dX7_holds_54 ?_
            refine jr_lstore C dX7_holds_55 (by decide) ?_
            refine jr_lload C dX7_holds_57 rfl ?_
            refine jr_iconst C (v := 1) dX7_holds_59 (by decide) ?_
            refine jr_lshr C dX7_holds_60 ?_
            refine jr_lstore C dX7_holds_61 (by decide) ?_
            refine jr_iload C dX7_holds_63 rfl ?_
            refine jr_iconst C (v := 3) dX7_holds_65 (by decide) ?_
            refine jr_ncmp_ne C (b := 3) 81 dX7_holds_66 (by decide) rfl rfl (fun b66 => ?_) (fun b66 => ?_)
            · refine jr_lload C dX7_holds_81 rfl ?_
              refine jr_lload C dX7_holds_83 rfl ?_
              refine jr_lor C dX7_holds_85 ?_
              refine jr_lstore C dX7_holds_86 (by decide) ?_
              refine jr_goto C 143 dX7_holds_88 (by decide) ?_
              refine jr_iinc C _ dX7_holds_143 rfl rfl (by decide) ?_
              refine jr_goto C 6 dX7_holds_146 (by decide) ?_
              first | (have h9 : ((σ.1 47) o.toNatClampNeg).toInt = 2 := b27; exact jr_sub [(0, jf_r E 8), (1, .int a), (2, .int b), (3, .int c), (4, .long _), (6, .int _)] rfl (N _ b12 (x_vp_3 ((Y b12).1.mp h9) g4))) | (have h9 : ((σ.1 47) o.toNatClampNeg).toInt = 3 := b66; exact jr_sub [(0, jf_r E 8), (1, .int a), (2, .int b), (3, .int c), (4, .long _), (6, .int _)] rfl (N _ b12 (x_vp_4 ((Y b12).2.1.mp h9) g4 ln))) | (have h9 : ¬ ((σ.1 47) o.toNatClampNeg).toInt = 3 := b66; have h8 : ((σ.1 47) o.toNatClampNeg).toInt = 4 := (by omega); exact jr_sub [(0, jf_r E 8), (1, .int a), (2, .int b), (3, .int c), (4, .long _), (6, .int _)] rfl (N _ b12 (x_vp_5 ((Y b12).2.2.1.mp h8) g4 ln))) | (have h9 : ¬ ((σ.1 47) o.toNatClampNeg).toInt = 4 := b48; exact jr_sub [(0, jf_r E 8), (1, .int a), (2, .int b), (3, .int c), (4, .long _), (6, .int _)] rfl (N _ b12 (F _ b12 b27 b42 b48 (by first | exact F0 b12 b93 _ (q_b_an ha b131) | exact F0 b12 b93 _ (q_b_az ha b131) | exact F1 b12 b93 b103 _ (q_b_an hb b131) | exact F1 b12 b93 b103 _ (q_b_az hb b131) | exact F5 b12 b27 b42 b48 b93 b103 _ (Or.inl ⟨rfl, b115⟩) | exact F5 b12 b27 b42 b48 b93 b103 _ (Or.inr ⟨rfl, b115⟩)))))
            · refine jr_lload C dX7_holds_69 rfl ?_
              refine jr_lload C dX7_holds_71 rfl ?_
              refine jr_ldc2 C kc_X7_36 dX7_holds_73 ?_
              refine jr_lor C dX7_holds_76 ?_
              refine jr_land C dX7_holds_77 ?_
              refine jr_goto C 86 dX7_holds_78 (by decide) ?_
              refine jr_lstore C dX7_holds_86 (by decide) ?_
              refine jr_goto C 143 dX7_holds_88 (by decide) ?_
              refine jr_iinc C _ dX7_holds_143 rfl rfl (by decide) ?_
              refine jr_goto C 6 dX7_holds_146 (by decide) ?_
              first | (have h9 : ((σ.1 47) o.toNatClampNeg).toInt = 2 := b27; exact jr_sub [(0, jf_r E 8), (1, .int a), (2, .int b), (3, .int c), (4, .long _), (6, .int _)] rfl (N _ b12 (x_vp_3 ((Y b12).1.mp h9) g4))) | (have h9 : ((σ.1 47) o.toNatClampNeg).toInt = 3 := b66; exact jr_sub [(0, jf_r E 8), (1, .int a), (2, .int b), (3, .int c), (4, .long _), (6, .int _)] rfl (N _ b12 (x_vp_4 ((Y b12).2.1.mp h9) g4 ln))) | (have h9 : ¬ ((σ.1 47) o.toNatClampNeg).toInt = 3 := b66; have h8 : ((σ.1 47) o.toNatClampNeg).toInt = 4 := (by omega); exact jr_sub [(0, jf_r E 8), (1, .int a), (2, .int b), (3, .int c), (4, .long _), (6, .int _)] rfl (N _ b12 (x_vp_5 ((Y b12).2.2.1.mp h8) g4 ln))) | (have h9 : ¬ ((σ.1 47) o.toNatClampNeg).toInt = 4 := b48; exact jr_sub [(0, jf_r E 8), (1, .int a), (2, .int b), (3, .int c), (4, .long _), (6, .int _)] rfl (N _ b12 (F _ b12 b27 b42 b48 (by first | exact F0 b12 b93 _ (q_b_an ha b131) | exact F0 b12 b93 _ (q_b_az ha b131) | exact F1 b12 b93 b103 _ (q_b_an hb b131) | exact F1 b12 b93 b103 _ (q_b_az hb b131) | exact F5 b12 b27 b42 b48 b93 b103 _ (Or.inl ⟨rfl, b115⟩) | exact F5 b12 b27 b42 b48 b93 b103 _ (Or.inr ⟨rfl, b115⟩)))))
          · refine jr_iload C dX7_holds_45 rfl ?_
            refine jr_iconst C (v := 4) dX7_holds_47 (by decide) ?_
            refine jr_ncmp_ne C (b := 4) 91 dX7_holds_48 (by decide) rfl rfl (fun b48 => ?_) (fun b48 => ?_)
            · refine jr_iload C dX7_holds_91 rfl ?_
              refine jr_nif_ne C 100 dX7_holds_93 (by decide) (fun b93 => ?_) (fun b93 => ?_)
              · refine jr_iload C dX7_holds_100 rfl ?_
                refine jr_iconst C (v := 1) dX7_holds_102 (by decide) ?_
                refine jr_ncmp_ne C (b := 1) 110 dX7_holds_103 (by decide) rfl rfl (fun b103 => ?_) (fun b103 => ?_)
                · refine jr_iload_n C dX7_holds_110 rfl ?_
                  refine jr_iload C dX7_holds_111 rfl ?_
                  refine jr_iconst C (v := 5) dX7_holds_113 (by decide) ?_
                  refine jr_isub C dX7_holds_114 ?_
                  refine jr_ncmp_lt C 122 dX7_holds_115 (by decide) rfl rfl (fun b115 => ?_) (fun b115 => ?_)
                  · refine jr_iconst C (v := 0) dX7_holds_122 (by decide) ?_
                    refine jr_istore C dX7_holds_123 (by decide) ?_
                    refine jr_lload C dX7_holds_125 rfl ?_
                    refine jr_iconst C (v := 1) dX7_holds_127 (by decide) ?_
                    refine jr_lshl C dX7_holds_128 ?_
                    refine jr_iload C dX7_holds_129 rfl ?_
                    refine jr_if_eq C 138 dX7_holds_131 (by decide) (fun _ => ?_) (fun b => absurd b (by decide))
                    refine jr_iconst C (v := 0) dX7_holds_138 (by decide) ?_
                    refine jr_i2l C dX7_holds_139 ?_
                    refine jr_lor C dX7_holds_140 ?_
                    refine jr_lstore C dX7_holds_141 (by decide) ?_
                    refine jr_iinc C _ dX7_holds_143 rfl rfl (by decide) ?_
                    refine jr_goto C 6 dX7_holds_146 (by decide) ?_
                    first | (have h9 : ((σ.1 47) o.toNatClampNeg).toInt = 2 := b27; exact jr_sub [(0, jf_r E 8), (1, .int a), (2, .int b), (3, .int c), (4, .long _), (6, .int _)] rfl (N _ b12 (x_vp_3 ((Y b12).1.mp h9) g4))) | (have h9 : ((σ.1 47) o.toNatClampNeg).toInt = 3 := b66; exact jr_sub [(0, jf_r E 8), (1, .int a), (2, .int b), (3, .int c), (4, .long _), (6, .int _)] rfl (N _ b12 (x_vp_4 ((Y b12).2.1.mp h9) g4 ln))) | (have h9 : ¬ ((σ.1 47) o.toNatClampNeg).toInt = 3 := b66; have h8 : ((σ.1 47) o.toNatClampNeg).toInt = 4 := (by omega); exact jr_sub [(0, jf_r E 8), (1, .int a), (2, .int b), (3, .int c), (4, .long _), (6, .int _)] rfl (N _ b12 (x_vp_5 ((Y b12).2.2.1.mp h8) g4 ln))) | (have h9 : ¬ ((σ.1 47) o.toNatClampNeg).toInt = 4 := b48; exact jr_sub [(0, jf_r E 8), (1, .int a), (2, .int b), (3, .int c), (4, .long _), (6, .int _)] rfl (N _ b12 (F _ b12 b27 b42 b48 (by first | exact F0 b12 b93 _ (q_b_an ha b131) | exact F0 b12 b93 _ (q_b_az ha b131) | exact F1 b12 b93 b103 _ (q_b_an hb b131) | exact F1 b12 b93 b103 _ (q_b_az hb b131) | exact F5 b12 b27 b42 b48 b93 b103 _ (Or.inl ⟨rfl, b115⟩) | exact F5 b12 b27 b42 b48 b93 b103 _ (Or.inr ⟨rfl, b115⟩)))))
                  · refine jr_iconst C (v := 1) dX7_holds_118 (by decide) ?_
                    refine jr_goto C 123 dX7_holds_119 (by decide) ?_
                    refine jr_istore C dX7_holds_123 (by decide) ?_
                    refine jr_lload C dX7_holds_125 rfl ?_
                    refine jr_iconst C (v := 1) dX7_holds_127 (by decide) ?_
                    refine jr_lshl C dX7_holds_128 ?_
                    refine jr_iload C dX7_holds_129 rfl ?_
                    refine jr_if_eq C 138 dX7_holds_131 (by decide) (fun b => absurd b (by decide)) (fun _ => ?_)
                    refine jr_iconst C (v := 1) dX7_holds_134 (by decide) ?_
                    refine jr_goto C 139 dX7_holds_135 (by decide) ?_
                    refine jr_i2l C dX7_holds_139 ?_
                    refine jr_lor C dX7_holds_140 ?_
                    refine jr_lstore C dX7_holds_141 (by decide) ?_
                    refine jr_iinc C _ dX7_holds_143 rfl rfl (by decide) ?_
                    refine jr_goto C 6 dX7_holds_146 (by decide) ?_
                    first | (have h9 : ((σ.1 47) o.toNatClampNeg).toInt = 2 := b27; exact jr_sub [(0, jf_r E 8), (1, .int a), (2, .int b), (3, .int c), (4, .long _), (6, .int _)] rfl (N _ b12 (x_vp_3 ((Y b12).1.mp h9) g4))) | (have h9 : ((σ.1 47) o.toNatClampNeg).toInt = 3 := b66; exact jr_sub [(0, jf_r E 8), (1, .int a), (2, .int b), (3, .int c), (4, .long _), (6, .int _)] rfl (N _ b12 (x_vp_4 ((Y b12).2.1.mp h9) g4 ln))) | (have h9 : ¬ ((σ.1 47) o.toNatClampNeg).toInt = 3 := b66; have h8 : ((σ.1 47) o.toNatClampNeg).toInt = 4 := (by omega); exact jr_sub [(0, jf_r E 8), (1, .int a), (2, .int b), (3, .int c), (4, .long _), (6, .int _)] rfl (N _ b12 (x_vp_5 ((Y b12).2.2.1.mp h8) g4 ln))) | (have h9 : ¬ ((σ.1 47) o.toNatClampNeg).toInt = 4 := b48; exact jr_sub [(0, jf_r E 8), (1, .int a), (2, .int b), (3, .int c), (4, .long _), (6, .int _)] rfl (N _ b12 (F _ b12 b27 b42 b48 (by first | exact F0 b12 b93 _ (q_b_an ha b131) | exact F0 b12 b93 _ (q_b_az ha b131) | exact F1 b12 b93 b103 _ (q_b_an hb b131) | exact F1 b12 b93 b103 _ (q_b_az hb b131) | exact F5 b12 b27 b42 b48 b93 b103 _ (Or.inl ⟨rfl, b115⟩) | exact F5 b12 b27 b42 b48 b93 b103 _ (Or.inr ⟨rfl, b115⟩)))))
                · refine jr_iload_n C dX7_holds_106 rfl ?_
                  refine jr_goto C 123 dX7_holds_107 (by decide) ?_
                  refine jr_istore C dX7_holds_123 (by decide) ?_
                  refine jr_lload C dX7_holds_125 rfl ?_
                  refine jr_iconst C (v := 1) dX7_holds_127 (by decide) ?_
                  refine jr_lshl C dX7_holds_128 ?_
                  refine jr_iload C dX7_holds_129 rfl ?_
                  refine jr_nif_eq C 138 dX7_holds_131 (by decide) (fun b131 => ?_) (fun b131 => ?_)
                  · refine jr_iconst C (v := 0) dX7_holds_138 (by decide) ?_
                    refine jr_i2l C dX7_holds_139 ?_
                    refine jr_lor C dX7_holds_140 ?_
                    refine jr_lstore C dX7_holds_141 (by decide) ?_
                    refine jr_iinc C _ dX7_holds_143 rfl rfl (by decide) ?_
                    refine jr_goto C 6 dX7_holds_146 (by decide) ?_
                    first | (have h9 : ((σ.1 47) o.toNatClampNeg).toInt = 2 := b27; exact jr_sub [(0, jf_r E 8), (1, .int a), (2, .int b), (3, .int c), (4, .long _), (6, .int _)] rfl (N _ b12 (x_vp_3 ((Y b12).1.mp h9) g4))) | (have h9 : ((σ.1 47) o.toNatClampNeg).toInt = 3 := b66; exact jr_sub [(0, jf_r E 8), (1, .int a), (2, .int b), (3, .int c), (4, .long _), (6, .int _)] rfl (N _ b12 (x_vp_4 ((Y b12).2.1.mp h9) g4 ln))) | (have h9 : ¬ ((σ.1 47) o.toNatClampNeg).toInt = 3 := b66; have h8 : ((σ.1 47) o.toNatClampNeg).toInt = 4 := (by omega); exact jr_sub [(0, jf_r E 8), (1, .int a), (2, .int b), (3, .int c), (4, .long _), (6, .int _)] rfl (N _ b12 (x_vp_5 ((Y b12).2.2.1.mp h8) g4 ln))) | (have h9 : ¬ ((σ.1 47) o.toNatClampNeg).toInt = 4 := b48; exact jr_sub [(0, jf_r E 8), (1, .int a), (2, .int b), (3, .int c), (4, .long _), (6, .int _)] rfl (N _ b12 (F _ b12 b27 b42 b48 (by first | exact F0 b12 b93 _ (q_b_an ha b131) | exact F0 b12 b93 _ (q_b_az ha b131) | exact F1 b12 b93 b103 _ (q_b_an hb b131) | exact F1 b12 b93 b103 _ (q_b_az hb b131) | exact F5 b12 b27 b42 b48 b93 b103 _ (Or.inl ⟨rfl, b115⟩) | exact F5 b12 b27 b42 b48 b93 b103 _ (Or.inr ⟨rfl, b115⟩)))))
                  · refine jr_iconst C (v := 1) dX7_holds_134 (by decide) ?_
                    refine jr_goto C 139 dX7_holds_135 (by decide) ?_
                    refine jr_i2l C dX7_holds_139 ?_
                    refine jr_lor C dX7_holds_140 ?_
                    refine jr_lstore C dX7_holds_141 (by decide) ?_
                    refine jr_iinc C _ dX7_holds_143 rfl rfl (by decide) ?_
                    refine jr_goto C 6 dX7_holds_146 (by decide) ?_
                    first | (have h9 : ((σ.1 47) o.toNatClampNeg).toInt = 2 := b27; exact jr_sub [(0, jf_r E 8), (1, .int a), (2, .int b), (3, .int c), (4, .long _), (6, .int _)] rfl (N _ b12 (x_vp_3 ((Y b12).1.mp h9) g4))) | (have h9 : ((σ.1 47) o.toNatClampNeg).toInt = 3 := b66; exact jr_sub [(0, jf_r E 8), (1, .int a), (2, .int b), (3, .int c), (4, .long _), (6, .int _)] rfl (N _ b12 (x_vp_4 ((Y b12).2.1.mp h9) g4 ln))) | (have h9 : ¬ ((σ.1 47) o.toNatClampNeg).toInt = 3 := b66; have h8 : ((σ.1 47) o.toNatClampNeg).toInt = 4 := (by omega); exact jr_sub [(0, jf_r E 8), (1, .int a), (2, .int b), (3, .int c), (4, .long _), (6, .int _)] rfl (N _ b12 (x_vp_5 ((Y b12).2.2.1.mp h8) g4 ln))) | (have h9 : ¬ ((σ.1 47) o.toNatClampNeg).toInt = 4 := b48; exact jr_sub [(0, jf_r E 8), (1, .int a), (2, .int b), (3, .int c), (4, .long _), (6, .int _)] rfl (N _ b12 (F _ b12 b27 b42 b48 (by first | exact F0 b12 b93 _ (q_b_an ha b131) | exact F0 b12 b93 _ (q_b_az ha b131) | exact F1 b12 b93 b103 _ (q_b_an hb b131) | exact F1 b12 b93 b103 _ (q_b_az hb b131) | exact F5 b12 b27 b42 b48 b93 b103 _ (Or.inl ⟨rfl, b115⟩) | exact F5 b12 b27 b42 b48 b93 b103 _ (Or.inr ⟨rfl, b115⟩)))))
              · refine jr_iload_n C dX7_holds_96 rfl ?_
                refine jr_goto C 123 dX7_holds_97 (by decide) ?_
                refine jr_istore C dX7_holds_123 (by decide) ?_
                refine jr_lload C dX7_holds_125 rfl ?_
                refine jr_iconst C (v := 1) dX7_holds_127 (by decide) ?_
                refine jr_lshl C dX7_holds_128 ?_
                refine jr_iload C dX7_holds_129 rfl ?_
                refine jr_nif_eq C 138 dX7_holds_131 (by decide) (fun b131 => ?_) (fun b131 => ?_)
                · refine jr_iconst C (v := 0) dX7_holds_138 (by decide) ?_
                  refine jr_i2l C dX7_holds_139 ?_
                  refine jr_lor C dX7_holds_140 ?_
                  refine jr_lstore C dX7_holds_141 (by decide) ?_
                  refine jr_iinc C _ dX7_holds_143 rfl rfl (by decide) ?_
                  refine jr_goto C 6 dX7_holds_146 (by decide) ?_
                  first | (have h9 : ((σ.1 47) o.toNatClampNeg).toInt = 2 := b27; exact jr_sub [(0, jf_r E 8), (1, .int a), (2, .int b), (3, .int c), (4, .long _), (6, .int _)] rfl (N _ b12 (x_vp_3 ((Y b12).1.mp h9) g4))) | (have h9 : ((σ.1 47) o.toNatClampNeg).toInt = 3 := b66; exact jr_sub [(0, jf_r E 8), (1, .int a), (2, .int b), (3, .int c), (4, .long _), (6, .int _)] rfl (N _ b12 (x_vp_4 ((Y b12).2.1.mp h9) g4 ln))) | (have h9 : ¬ ((σ.1 47) o.toNatClampNeg).toInt = 3 := b66; have h8 : ((σ.1 47) o.toNatClampNeg).toInt = 4 := (by omega); exact jr_sub [(0, jf_r E 8), (1, .int a), (2, .int b), (3, .int c), (4, .long _), (6, .int _)] rfl (N _ b12 (x_vp_5 ((Y b12).2.2.1.mp h8) g4 ln))) | (have h9 : ¬ ((σ.1 47) o.toNatClampNeg).toInt = 4 := b48; exact jr_sub [(0, jf_r E 8), (1, .int a), (2, .int b), (3, .int c), (4, .long _), (6, .int _)] rfl (N _ b12 (F _ b12 b27 b42 b48 (by first | exact F0 b12 b93 _ (q_b_an ha b131) | exact F0 b12 b93 _ (q_b_az ha b131) | exact F1 b12 b93 b103 _ (q_b_an hb b131) | exact F1 b12 b93 b103 _ (q_b_az hb b131) | exact F5 b12 b27 b42 b48 b93 b103 _ (Or.inl ⟨rfl, b115⟩) | exact F5 b12 b27 b42 b48 b93 b103 _ (Or.inr ⟨rfl, b115⟩)))))
                · refine jr_iconst C (v := 1) dX7_holds_134 (by decide) ?_
                  refine jr_goto C 139 dX7_holds_135 (by decide) ?_
                  refine jr_i2l C dX7_holds_139 ?_
                  refine jr_lor C dX7_holds_140 ?_
                  refine jr_lstore C dX7_holds_141 (by decide) ?_
                  refine jr_iinc C _ dX7_holds_143 rfl rfl (by decide) ?_
                  refine jr_goto C 6 dX7_holds_146 (by decide) ?_
                  first | (have h9 : ((σ.1 47) o.toNatClampNeg).toInt = 2 := b27; exact jr_sub [(0, jf_r E 8), (1, .int a), (2, .int b), (3, .int c), (4, .long _), (6, .int _)] rfl (N _ b12 (x_vp_3 ((Y b12).1.mp h9) g4))) | (have h9 : ((σ.1 47) o.toNatClampNeg).toInt = 3 := b66; exact jr_sub [(0, jf_r E 8), (1, .int a), (2, .int b), (3, .int c), (4, .long _), (6, .int _)] rfl (N _ b12 (x_vp_4 ((Y b12).2.1.mp h9) g4 ln))) | (have h9 : ¬ ((σ.1 47) o.toNatClampNeg).toInt = 3 := b66; have h8 : ((σ.1 47) o.toNatClampNeg).toInt = 4 := (by omega); exact jr_sub [(0, jf_r E 8), (1, .int a), (2, .int b), (3, .int c), (4, .long _), (6, .int _)] rfl (N _ b12 (x_vp_5 ((Y b12).2.2.1.mp h8) g4 ln))) | (have h9 : ¬ ((σ.1 47) o.toNatClampNeg).toInt = 4 := b48; exact jr_sub [(0, jf_r E 8), (1, .int a), (2, .int b), (3, .int c), (4, .long _), (6, .int _)] rfl (N _ b12 (F _ b12 b27 b42 b48 (by first | exact F0 b12 b93 _ (q_b_an ha b131) | exact F0 b12 b93 _ (q_b_az ha b131) | exact F1 b12 b93 b103 _ (q_b_an hb b131) | exact F1 b12 b93 b103 _ (q_b_az hb b131) | exact F5 b12 b27 b42 b48 b93 b103 _ (Or.inl ⟨rfl, b115⟩) | exact F5 b12 b27 b42 b48 b93 b103 _ (Or.inr ⟨rfl, b115⟩)))))
            · refine jr_lload C dX7_holds_51 rfl ?_
              refine jr_lconst C (v := 1) dX7_holds_53 (by decide) ?_
              refine jr_land C dX7_holds_54 ?_
              refine jr_lstore C dX7_holds_55 (by decide) ?_
              refine jr_lload C dX7_holds_57 rfl ?_
              refine jr_iconst C (v := 1) dX7_holds_59 (by decide) ?_
              refine jr_lshr C dX7_holds_60 ?_
              refine jr_lstore C dX7_holds_61 (by decide) ?_
              refine jr_iload C dX7_holds_63 rfl ?_
              refine jr_iconst C (v := 3) dX7_holds_65 (by decide) ?_
              refine jr_ncmp_ne C (b := 3) 81 dX7_holds_66 (by decide) rfl rfl (fun b66 => ?_) (fun b66 => ?_)
              · refine jr_lload C dX7_holds_81 rfl ?_
                refine jr_lload C dX7_holds_83 rfl ?_
                refine jr_lor C dX7_holds_85 ?_
                refine jr_lstore C dX7_holds_86 (by decide) ?_
                refine jr_goto C 143 dX7_holds_88 (by decide) ?_
                refine jr_iinc C _ dX7_holds_143 rfl rfl (by decide) ?_
                refine jr_goto C 6 dX7_holds_146 (by decide) ?_
                first | (have h9 : ((σ.1 47) o.toNatClampNeg).toInt = 2 := b27; exact jr_sub [(0, jf_r E 8), (1, .int a), (2, .int b), (3, .int c), (4, .long _), (6, .int _)] rfl (N _ b12 (x_vp_3 ((Y b12).1.mp h9) g4))) | (have h9 : ((σ.1 47) o.toNatClampNeg).toInt = 3 := b66; exact jr_sub [(0, jf_r E 8), (1, .int a), (2, .int b), (3, .int c), (4, .long _), (6, .int _)] rfl (N _ b12 (x_vp_4 ((Y b12).2.1.mp h9) g4 ln))) | (have h9 : ¬ ((σ.1 47) o.toNatClampNeg).toInt = 3 := b66; have h8 : ((σ.1 47) o.toNatClampNeg).toInt = 4 := (by omega); exact jr_sub [(0, jf_r E 8), (1, .int a), (2, .int b), (3, .int c), (4, .long _), (6, .int _)] rfl (N _ b12 (x_vp_5 ((Y b12).2.2.1.mp h8) g4 ln))) | (have h9 : ¬ ((σ.1 47) o.toNatClampNeg).toInt = 4 := b48; exact jr_sub [(0, jf_r E 8), (1, .int a), (2, .int b), (3, .int c), (4, .long _), (6, .int _)] rfl (N _ b12 (F _ b12 b27 b42 b48 (by first | exact F0 b12 b93 _ (q_b_an ha b131) | exact F0 b12 b93 _ (q_b_az ha b131) | exact F1 b12 b93 b103 _ (q_b_an hb b131) | exact F1 b12 b93 b103 _ (q_b_az hb b131) | exact F5 b12 b27 b42 b48 b93 b103 _ (Or.inl ⟨rfl, b115⟩) | exact F5 b12 b27 b42 b48 b93 b103 _ (Or.inr ⟨rfl, b115⟩)))))
              · refine jr_lload C dX7_holds_69 rfl ?_
                refine jr_lload C dX7_holds_71 rfl ?_
                refine jr_ldc2 C kc_X7_36 dX7_holds_73 ?_
                refine jr_lor C dX7_holds_76 ?_
                refine jr_land C dX7_holds_77 ?_
                refine jr_goto C 86 dX7_holds_78 (by decide) ?_
                refine jr_lstore C dX7_holds_86 (by decide) ?_
                refine jr_goto C 143 dX7_holds_88 (by decide) ?_
                refine jr_iinc C _ dX7_holds_143 rfl rfl (by decide) ?_
                refine jr_goto C 6 dX7_holds_146 (by decide) ?_
                first | (have h9 : ((σ.1 47) o.toNatClampNeg).toInt = 2 := b27; exact jr_sub [(0, jf_r E 8), (1, .int a), (2, .int b), (3, .int c), (4, .long _), (6, .int _)] rfl (N _ b12 (x_vp_3 ((Y b12).1.mp h9) g4))) | (have h9 : ((σ.1 47) o.toNatClampNeg).toInt = 3 := b66; exact jr_sub [(0, jf_r E 8), (1, .int a), (2, .int b), (3, .int c), (4, .long _), (6, .int _)] rfl (N _ b12 (x_vp_4 ((Y b12).2.1.mp h9) g4 ln))) | (have h9 : ¬ ((σ.1 47) o.toNatClampNeg).toInt = 3 := b66; have h8 : ((σ.1 47) o.toNatClampNeg).toInt = 4 := (by omega); exact jr_sub [(0, jf_r E 8), (1, .int a), (2, .int b), (3, .int c), (4, .long _), (6, .int _)] rfl (N _ b12 (x_vp_5 ((Y b12).2.2.1.mp h8) g4 ln))) | (have h9 : ¬ ((σ.1 47) o.toNatClampNeg).toInt = 4 := b48; exact jr_sub [(0, jf_r E 8), (1, .int a), (2, .int b), (3, .int c), (4, .long _), (6, .int _)] rfl (N _ b12 (F _ b12 b27 b42 b48 (by first | exact F0 b12 b93 _ (q_b_an ha b131) | exact F0 b12 b93 _ (q_b_az ha b131) | exact F1 b12 b93 b103 _ (q_b_an hb b131) | exact F1 b12 b93 b103 _ (q_b_az hb b131) | exact F5 b12 b27 b42 b48 b93 b103 _ (Or.inl ⟨rfl, b115⟩) | exact F5 b12 b27 b42 b48 b93 b103 _ (Or.inr ⟨rfl, b115⟩)))))
        · refine jr_lload C dX7_holds_30 rfl ?_
          refine jr_lconst C (v := 1) dX7_holds_32 (by decide) ?_
          refine jr_lxor C dX7_holds_33 ?_
          refine jr_lstore C dX7_holds_34 (by decide) ?_
          refine jr_goto C 143 dX7_holds_36 (by decide) ?_
          refine jr_iinc C _ dX7_holds_143 rfl rfl (by decide) ?_
          refine jr_goto C 6 dX7_holds_146 (by decide) ?_
          first | (have h9 : ((σ.1 47) o.toNatClampNeg).toInt = 2 := b27; exact jr_sub [(0, jf_r E 8), (1, .int a), (2, .int b), (3, .int c), (4, .long _), (6, .int _)] rfl (N _ b12 (x_vp_3 ((Y b12).1.mp h9) g4))) | (have h9 : ((σ.1 47) o.toNatClampNeg).toInt = 3 := b66; exact jr_sub [(0, jf_r E 8), (1, .int a), (2, .int b), (3, .int c), (4, .long _), (6, .int _)] rfl (N _ b12 (x_vp_4 ((Y b12).2.1.mp h9) g4 ln))) | (have h9 : ¬ ((σ.1 47) o.toNatClampNeg).toInt = 3 := b66; have h8 : ((σ.1 47) o.toNatClampNeg).toInt = 4 := (by omega); exact jr_sub [(0, jf_r E 8), (1, .int a), (2, .int b), (3, .int c), (4, .long _), (6, .int _)] rfl (N _ b12 (x_vp_5 ((Y b12).2.2.1.mp h8) g4 ln))) | (have h9 : ¬ ((σ.1 47) o.toNatClampNeg).toInt = 4 := b48; exact jr_sub [(0, jf_r E 8), (1, .int a), (2, .int b), (3, .int c), (4, .long _), (6, .int _)] rfl (N _ b12 (F _ b12 b27 b42 b48 (by first | exact F0 b12 b93 _ (q_b_an ha b131) | exact F0 b12 b93 _ (q_b_az ha b131) | exact F1 b12 b93 b103 _ (q_b_an hb b131) | exact F1 b12 b93 b103 _ (q_b_az hb b131) | exact F5 b12 b27 b42 b48 b93 b103 _ (Or.inl ⟨rfl, b115⟩) | exact F5 b12 b27 b42 b48 b93 b103 _ (Or.inr ⟨rfl, b115⟩)))))
  refine jr_lconst C (v := 0) dX7_holds_0 (by decide) ?_
  refine jr_lstore C dX7_holds_1 (by decide) ?_
  refine jr_iconst C (v := 0) dX7_holds_3 (by decide) ?_
  refine jr_istore C dX7_holds_4 (by decide) ?_
  exact jr_sub [(0, jf_r E 8), (1, .int a), (2, .int b), (3, .int c), (4, .long 0), (6, .int 0)] rfl (lp 301 _ _ (by decide) (by show (0 : Int) ≤ _; omega) (by show _ - (0 : Int) < _; omega) x_pb_0)
theorem x_rwstep {A B C D : Nat → Int32} {s j f k o : Int32} (g1 : 0 ≤ o.toInt) (ho : o.toInt < 1000) (x1 : ∀ i : Nat, i < o.toNatClampNeg → ¬ ((A i).toInt = s.toInt ∧ (B i).toInt = j.toInt ∧ (C i).toInt = f.toInt ∧ (D i).toInt ≤ k.toInt)) (b : ¬ ((A o.toNatClampNeg).toInt = s.toInt ∧ (B o.toNatClampNeg).toInt = j.toInt ∧ (C o.toNatClampNeg).toInt = f.toInt ∧ (D o.toNatClampNeg).toInt ≤ k.toInt)) : ∀ i : Nat, i < (o + Int32.ofInt 1).toNatClampNeg → ¬ ((A i).toInt = s.toInt ∧ (B i).toInt = j.toInt ∧ (C i).toInt = f.toInt ∧ (D i).toInt ≤ k.toInt) := by
  intro i hi
  have e1 := ji_inc (k := o) (by omega)
  have t1 := ji_tn g1
  have t2 := ji_tn (x := o + Int32.ofInt 1) (by omega)
  rcases Nat.lt_or_ge i o.toNatClampNeg with q | q
  · exact x1 i q
  · rw [show i = o.toNatClampNeg by omega]; exact b
theorem sp_rw_f {A B C D : Nat → Int32} {n s j f k o : Int32} (g : o.toInt = n.toInt) (x1 : ∀ i : Nat, i < o.toNatClampNeg → ¬ ((A i).toInt = s.toInt ∧ (B i).toInt = j.toInt ∧ (C i).toInt = f.toInt ∧ (D i).toInt ≤ k.toInt)) : ¬ sp_rw A B C D n s j f k = true := fun q => by
  rw [Int32.toInt_inj.mp g] at x1
  obtain ⟨i, q1, q2⟩ := jx_any_iff.mp q
  exact x1 i q1 (of_decide_eq_true q2)
theorem sp_rw_t {A B C D : Nat → Int32} {n s j f k o : Int32} (g1 : 0 ≤ o.toInt) (g : o.toInt < n.toInt) (b : (A o.toNatClampNeg).toInt = s.toInt ∧ (B o.toNatClampNeg).toInt = j.toInt ∧ (C o.toNatClampNeg).toInt = f.toInt ∧ (D o.toNatClampNeg).toInt ≤ k.toInt) : sp_rw A B C D n s j f k = true :=
  jx_any_iff.mpr ⟨o.toNatClampNeg, by have := ji_tn g1; have := ji_tn (x := n) (by omega); omega, decide_eq_true b⟩
theorem ct_X4_hasRow2 (E : jf_E) (σ : jf_S) (s j f k : Int32) (hr : 0 ≤ ((σ.1 7 8)).toInt ∧ ((σ.1 7 8)).toInt ≤ 100) : jf_I jh_X E yX4_hasRow cX4_hasRow 6 .boolean 0 [jf_r E 7, .int s, .int j, .int f, .int k] σ (fun r τ => r = jb (sp_rw ((σ.1 43)) ((σ.1 44)) ((σ.1 45)) ((σ.1 46)) ((σ.1 7 8)) s j f k = true) ∧ τ = σ) := by
  refine jf_mkI (by decide) (Nat.le_of_ble_eq_true rfl) ?_
  intro G C ret
  have lp : ∀ (m : Nat) (o : Int32), 0 ≤ o.toInt → o.toInt ≤ ((σ.1 7 8)).toInt → ((σ.1 7 8)).toInt - o.toInt < m → (∀ i : Nat, i < o.toNatClampNeg → ¬ (((σ.1 43) i).toInt = s.toInt ∧ ((σ.1 44) i).toInt = j.toInt ∧ ((σ.1 45) i).toInt = f.toInt ∧ ((σ.1 46) i).toInt ≤ k.toInt)) → jf_X jh_X E G 6 3 [(0, jf_r E 7), (1, .int s), (2, .int j), (3, .int f), (4, .int k), (5, .int o)] [] σ := by
    intro m
    induction m with
    | zero => intro o g1 g2 g3 x1; exfalso; omega
    | succ m ih =>
      intro o g1 g2 g3 x1
      have e1 := ji_inc (k := o) (by omega)
      refine jr_iload C dX4_hasRow_3 rfl ?_
      refine jr_aload_n C dX4_hasRow_5 rfl ?_
      refine jr_getv C kf_X4_37_7 dX4_hasRow_6 (v := σ.1 7 8) rfl ?_
      refine jr_ncmp_ge C 65 dX4_hasRow_9 (by decide) rfl rfl (fun b9 => ?_) (fun b9 => ?_)
      · refine jr_iconst C (v := 0) dX4_hasRow_65 (by decide) ?_
        exact ret _ _ _ _ dX4_hasRow_66 (rfl) ((by first | exact ⟨jb_tt (sp_rw_t g1 (by omega) ⟨by omega, by omega, by omega, by omega⟩), rfl⟩ | exact ⟨jb_ff (sp_rw_f (by omega) x1), rfl⟩))
      · refine jr_aload_n C dX4_hasRow_12 rfl ?_
        refine jr_getr C kf_X4_21_7 dX4_hasRow_13 ?_
        refine jr_iload C dX4_hasRow_16 rfl ?_
        refine jr_ialv C ka_X_43 dX4_hasRow_18 (ji_in (i := o) (by omega) (by omega)) (v := σ.1 43 _) rfl ?_
        refine jr_iload_n C dX4_hasRow_19 rfl ?_
        refine jr_ncmp_ne C 59 dX4_hasRow_20 (by decide) rfl rfl (fun b20 => ?_) (fun b20 => ?_)
        · refine jr_iinc C _ dX4_hasRow_59 rfl rfl (by decide) ?_
          refine jr_goto C 3 dX4_hasRow_62 (by decide) ?_
          exact jr_sub [(0, jf_r E 7), (1, .int s), (2, .int j), (3, .int f), (4, .int k), (5, .int _)] rfl (ih _ (by omega) (by omega) (by omega) (x_rwstep g1 (by omega) x1 (by omega)))
        · refine jr_aload_n C dX4_hasRow_23 rfl ?_
          refine jr_getr C kf_X4_24_7 dX4_hasRow_24 ?_
          refine jr_iload C dX4_hasRow_27 rfl ?_
          refine jr_ialv C ka_X_44 dX4_hasRow_29 (ji_in (i := o) (by omega) (by omega)) (v := σ.1 44 _) rfl ?_
          refine jr_iload_n C dX4_hasRow_30 rfl ?_
          refine jr_ncmp_ne C 59 dX4_hasRow_31 (by decide) rfl rfl (fun b31 => ?_) (fun b31 => ?_)
          · refine jr_iinc C _ dX4_hasRow_59 rfl rfl (by decide) ?_
            refine jr_goto C 3 dX4_hasRow_62 (by decide) ?_
            exact jr_sub [(0, jf_r E 7), (1, .int s), (2, .int j), (3, .int f), (4, .int k), (5, .int _)] rfl (ih _ (by omega) (by omega) (by omega) (x_rwstep g1 (by omega) x1 (by omega)))
          · refine jr_aload_n C dX4_hasRow_34 rfl ?_
            refine jr_getr C kf_X4_27_7 dX4_hasRow_35 ?_
            refine jr_iload C dX4_hasRow_38 rfl ?_
            refine jr_ialv C ka_X_45 dX4_hasRow_40 (ji_in (i := o) (by omega) (by omega)) (v := σ.1 45 _) rfl ?_
            refine jr_iload_n C dX4_hasRow_41 rfl ?_
            refine jr_ncmp_ne C 59 dX4_hasRow_42 (by decide) rfl rfl (fun b42 => ?_) (fun b42 => ?_)
            · refine jr_iinc C _ dX4_hasRow_59 rfl rfl (by decide) ?_
              refine jr_goto C 3 dX4_hasRow_62 (by decide) ?_
              exact jr_sub [(0, jf_r E 7), (1, .int s), (2, .int j), (3, .int f), (4, .int k), (5, .int _)] rfl (ih _ (by omega) (by omega) (by omega) (x_rwstep g1 (by omega) x1 (by omega)))
            · refine jr_aload_n C dX4_hasRow_45 rfl ?_
              refine jr_getr C kf_X4_30_7 dX4_hasRow_46 ?_
              refine jr_iload C dX4_hasRow_49 rfl ?_
              refine jr_ialv C ka_X_46 dX4_hasRow_51 (ji_in (i := o) (by omega) (by omega)) (v := σ.1 46 _) rfl ?_
              refine jr_iload C dX4_hasRow_52 rfl ?_
              refine jr_ncmp_gt C 59 dX4_hasRow_54 (by decide) rfl rfl (fun b54 => ?_) (fun b54 => ?_)
              · refine jr_iinc C _ dX4_hasRow_59 rfl rfl (by decide) ?_
                refine jr_goto C 3 dX4_hasRow_62 (by decide) ?_
                exact jr_sub [(0, jf_r E 7), (1, .int s), (2, .int j), (3, .int f), (4, .int k), (5, .int _)] rfl (ih _ (by omega) (by omega) (by omega) (x_rwstep g1 (by omega) x1 (by omega)))
              · refine jr_iconst C (v := 1) dX4_hasRow_57 (by decide) ?_
                exact ret _ _ _ _ dX4_hasRow_58 (rfl) ((by first | exact ⟨jb_tt (sp_rw_t g1 (by omega) ⟨by omega, by omega, by omega, by omega⟩), rfl⟩ | exact ⟨jb_ff (sp_rw_f (by omega) x1), rfl⟩))
  refine jr_iconst C (v := 0) dX4_hasRow_0 (by decide) ?_
  refine jr_istore C dX4_hasRow_1 (by decide) ?_
  exact jr_sub [(0, jf_r E 7), (1, .int s), (2, .int j), (3, .int f), (4, .int k), (5, .int _)] rfl (lp 101 _ (by decide) hr.1 (by show _ - (0 : Int) < _; omega) (fun i hi => absurd hi (Nat.not_lt_zero i)))
def x_h (σ : jf_S) (L : List Int32) (j f k : Int32) : Bool := q_h ((σ.1 43)) ((σ.1 44)) ((σ.1 45)) ((σ.1 46)) ((σ.1 7 8)) ((σ.1 40) j.toNatClampNeg) (fun i => L.getD i 0) L.length j f k
theorem ct_X4_passes2 (E : jf_E) (σ : jf_S) (j f k : Int32) (L : List Int32) (hr : 0 ≤ ((σ.1 7 8)).toInt ∧ ((σ.1 7 8)).toInt ≤ 100) (hs : x_rs σ L) (j0 : 0 ≤ j.toInt ∧ j.toInt < 10) : jf_I jh_X E yX4_passes cX4_passes 5 .boolean 1 [jf_r E 7, jf_r E 8, .int j, .int f, .int k] σ (fun r τ => r = jb (x_h σ L j f k = true) ∧ τ = σ) := by
  refine jf_mkI (by decide) (Nat.le_of_ble_eq_true rfl) ?_
  intro G C ret
  refine jr_aload_n C dX4_passes_0 rfl ?_
  refine jr_aload_n C dX4_passes_1 rfl ?_
  refine jr_iconst C (v := 0) dX4_passes_2 (by decide) ?_
  refine jr_iload_n C dX4_passes_3 rfl ?_
  refine jr_iload_n C dX4_passes_4 rfl ?_
  refine jr_iload C dX4_passes_5 rfl ?_
  refine jr_vip C [.int _, .int _, .int _, .int _] _ (ct_X4_hasRow2 E _ _ _ _ _ hr) ky_X4_hasRow kv_X4_hasRow kk_X_7 km_X4_44 (by decide) rfl (Nat.le_of_ble_eq_true rfl) dX4_passes_7 ?_
  refine jr_aload_n C dX4_passes_10 rfl ?_
  refine jr_iconst C (v := 1) dX4_passes_11 (by decide) ?_
  refine jr_iload_n C dX4_passes_12 rfl ?_
  refine jr_iload_n C dX4_passes_13 rfl ?_
  refine jr_iload C dX4_passes_14 rfl ?_
  refine jr_vip C [.int _, .int _, .int _, .int _] _ (ct_X4_hasRow2 E _ _ _ _ _ hr) ky_X4_hasRow kv_X4_hasRow kk_X_7 km_X4_44 (by decide) rfl (Nat.le_of_ble_eq_true rfl) dX4_passes_16 ?_
  refine jr_aload_n C dX4_passes_19 rfl ?_
  refine jr_getr C kf_X4_9_7 dX4_passes_20 ?_
  refine jr_iload_n C dX4_passes_23 rfl ?_
  refine jr_ialv C ka_X_40 dX4_passes_24 (ji_in j0.1 j0.2) (v := σ.1 40 _) rfl ?_
  refine jr_vip C [.int _, .int _, .int _] _ (ct_X7_holds2 E _ _ _ _ (sp_rw ((σ.1 43)) ((σ.1 44)) ((σ.1 45)) ((σ.1 46)) ((σ.1 7 8)) 0 j f k) (sp_rw ((σ.1 43)) ((σ.1 44)) ((σ.1 45)) ((σ.1 46)) ((σ.1 7 8)) 1 j f k) L rfl rfl hs) ky_X7_holds kv_X7_holds kk_X_8 km_X4_48 (by decide) rfl (Nat.le_of_ble_eq_true rfl) dX4_passes_25 ?_
  exact ret _ _ _ _ dX4_passes_28 (jb_n) (⟨rfl, rfl⟩)
def x_cf (σ : jf_S) (L : List Int32) (j f k : Int32) : Bool := sp_has ((σ.1 42)) ((σ.1 41) j.toNatClampNeg) j.toNatClampNeg f && x_h σ L j f k
def x_cq (σ : jf_S) (L : List Int32) (j f k : Int32) : Int32 :=
  if ¬ (0 ≤ k.toInt ∧ k.toInt ≤ 100000) then -1
  else if ¬ ((0 ≤ j.toInt ∧ j.toInt < ((σ.1 7 7)).toInt) ∧ (0 ≤ f.toInt ∧ f.toInt < ((σ.1 2 8)).toInt)) then -2
  else if ((σ.1 8 2)).toInt = 0 then -6 else q_b (x_cf σ L j f k)
theorem ct_X10_counts2 (E : jf_E) (σ : jf_S) (j f k : Int32) (L : List Int32) (hr : 0 ≤ ((σ.1 7 8)).toInt ∧ ((σ.1 7 8)).toInt ≤ 100) (hs : ¬ ((σ.1 8 2)).toInt = 0 → x_rs σ L) (hj : ((σ.1 7 7)).toInt ≤ 10) (hv : ∀ i, 0 ≤ ((σ.1 41) i).toInt ∧ ((σ.1 41) i).toInt ≤ 5) : jf_I jh_X E yX10_counts cX10_counts 4 .int 2 [jf_r E 0, .int j, .int f, .int k] σ (fun r τ => r = x_cq σ L j f k ∧ σ = τ) := by
  refine jf_mkI (by decide) (Nat.le_of_ble_eq_true rfl) ?_
  intro G C ret
  have N1 : ¬ (0 ≤ k.toInt ∧ k.toInt ≤ 100000) → -1 = x_cq σ L j f k := fun q => (if_pos q).symm
  have N2 : (0 ≤ k.toInt ∧ k.toInt ≤ 100000) → ¬ ((0 ≤ j.toInt ∧ j.toInt < ((σ.1 7 7)).toInt) ∧ (0 ≤ f.toInt ∧ f.toInt < ((σ.1 2 8)).toInt)) → -2 = x_cq σ L j f k := fun q1 q2 => by
    unfold x_cq; rw [if_neg (fun h => h q1), if_pos q2]
  have N3 : (0 ≤ k.toInt ∧ k.toInt ≤ 100000) → ((0 ≤ j.toInt ∧ j.toInt < ((σ.1 7 7)).toInt) ∧ (0 ≤ f.toInt ∧ f.toInt < ((σ.1 2 8)).toInt)) → ((σ.1 8 2)).toInt = 0 → -6 = x_cq σ L j f k := fun q1 q2 q3 => by
    unfold x_cq; rw [if_neg (fun h => h q1), if_neg (fun h => h q2), if_pos q3]
  have N4 : (0 ≤ k.toInt ∧ k.toInt ≤ 100000) → ((0 ≤ j.toInt ∧ j.toInt < ((σ.1 7 7)).toInt) ∧ (0 ≤ f.toInt ∧ f.toInt < ((σ.1 2 8)).toInt)) → ¬ ((σ.1 8 2)).toInt = 0 → ∀ b : Bool, x_cf σ L j f k = b → q_b b = x_cq σ L j f k := fun q1 q2 q3 b e => by
    unfold x_cq; rw [if_neg (fun h => h q1), if_neg (fun h => h q2), if_neg q3, e]
  refine jr_iload_n C dX10_counts_0 rfl ?_
  refine jr_sip C [.int _] _ (ct_X10_isKnown E _ _) ky_X10_isKnown ks_X10_isKnown km_X10_212 (by decide) rfl (Nat.le_of_ble_eq_true rfl) dX10_counts_1 ?_
  refine jr_if_ne C 9 dX10_counts_4 (by decide) (fun b4 => ?_) (fun b4 => ?_)
  · replace b4 := jb_t b4
    refine jr_aload_n C dX10_counts_9 rfl ?_
    refine jr_getr C kf_X10_58_0 dX10_counts_10 ?_
    refine jr_iload_n C dX10_counts_13 rfl ?_
    refine jr_vip C [.int _] _ (ct_X4_has E _ _ (σ.1 7 7) rfl) ky_X4_has kv_X4_has kk_X_7 km_X10_204 (by decide) rfl (Nat.le_of_ble_eq_true rfl) dX10_counts_14 ?_
    refine jr_if_eq C 31 dX10_counts_17 (by decide) (fun b17 => ?_) (fun b17 => ?_)
    · replace b17 := jb_f b17
      refine jr_bipush C (v := -2) dX10_counts_31 (by decide) ?_
      exact ret _ _ _ _ dX10_counts_33 rfl ((by first | exact ⟨N1 (by omega), rfl⟩ | exact ⟨N2 (by omega) (by omega), rfl⟩ | exact ⟨N3 (by omega) (by omega) (by omega), rfl⟩ | exact ⟨N4 (by omega) (by omega) (by omega) true (by unfold x_cf; rw [b56, b73]; rfl), rfl⟩ | exact ⟨N4 (by omega) (by omega) (by omega) false (by unfold x_cf; rw [Bool.eq_false_iff.mpr b56]; rfl), rfl⟩ | exact ⟨N4 (by omega) (by omega) (by omega) false (by unfold x_cf; rw [Bool.eq_false_iff.mpr b73, Bool.and_false]), rfl⟩))
    · replace b17 := jb_t b17
      refine jr_aload_n C dX10_counts_20 rfl ?_
      refine jr_getr C kf_X10_19_0 dX10_counts_21 ?_
      refine jr_iload_n C dX10_counts_24 rfl ?_
      refine jr_vip C [.int _] _ (ct_X2_has E _ _ (σ.1 2 8) rfl) ky_X2_has kv_X2_has kk_X_2 km_X10_115 (by decide) rfl (Nat.le_of_ble_eq_true rfl) dX10_counts_25 ?_
      refine jr_if_ne C 34 dX10_counts_28 (by decide) (fun b28 => ?_) (fun b28 => ?_)
      · replace b28 := jb_t b28
        refine jr_aload_n C dX10_counts_34 rfl ?_
        refine jr_getr C kf_X10_65_0 dX10_counts_35 ?_
        refine jr_getv C kf_X10_242_8 dX10_counts_38 (v := σ.1 8 2) rfl ?_
        refine jr_nif_ne C 47 dX10_counts_41 (by decide) (fun b41 => ?_) (fun b41 => ?_)
        · refine jr_aload_n C dX10_counts_47 rfl ?_
          refine jr_getr C kf_X10_58_0 dX10_counts_48 ?_
          refine jr_iload_n C dX10_counts_51 rfl ?_
          refine jr_iload_n C dX10_counts_52 rfl ?_
          refine jr_vip C [.int _, .int _] _ (ct_X4_votesFor E _ _ _ ⟨by omega, by omega⟩ (hv _)) ky_X4_votesFor kv_X4_votesFor kk_X_7 km_X10_246 (by decide) rfl (Nat.le_of_ble_eq_true rfl) dX10_counts_53 ?_
          refine jr_if_eq C 80 dX10_counts_56 (by decide) (fun b56 => ?_) (fun b56 => ?_)
          · replace b56 := jb_f b56
            refine jr_iconst C (v := 0) dX10_counts_80 (by decide) ?_
            exact ret _ _ _ _ dX10_counts_81 rfl ((by first | exact ⟨N1 (by omega), rfl⟩ | exact ⟨N2 (by omega) (by omega), rfl⟩ | exact ⟨N3 (by omega) (by omega) (by omega), rfl⟩ | exact ⟨N4 (by omega) (by omega) (by omega) true (by unfold x_cf; rw [b56, b73]; rfl), rfl⟩ | exact ⟨N4 (by omega) (by omega) (by omega) false (by unfold x_cf; rw [Bool.eq_false_iff.mpr b56]; rfl), rfl⟩ | exact ⟨N4 (by omega) (by omega) (by omega) false (by unfold x_cf; rw [Bool.eq_false_iff.mpr b73, Bool.and_false]), rfl⟩))
          · replace b56 := jb_t b56
            refine jr_aload_n C dX10_counts_59 rfl ?_
            refine jr_getr C kf_X10_58_0 dX10_counts_60 ?_
            refine jr_aload_n C dX10_counts_63 rfl ?_
            refine jr_getr C kf_X10_65_0 dX10_counts_64 ?_
            refine jr_iload_n C dX10_counts_67 rfl ?_
            refine jr_iload_n C dX10_counts_68 rfl ?_
            refine jr_iload_n C dX10_counts_69 rfl ?_
            refine jr_vip C [_, .int _, .int _, .int _] _ (ct_X4_passes2 E _ _ _ _ L hr (hs (by omega)) ⟨by omega, by omega⟩) ky_X4_passes kv_X4_passes kk_X_7 km_X10_250 (by decide) rfl (Nat.le_of_ble_eq_true rfl) dX10_counts_70 ?_
            refine jr_if_eq C 80 dX10_counts_73 (by decide) (fun b73 => ?_) (fun b73 => ?_)
            · replace b73 := jb_f b73
              refine jr_iconst C (v := 0) dX10_counts_80 (by decide) ?_
              exact ret _ _ _ _ dX10_counts_81 rfl ((by first | exact ⟨N1 (by omega), rfl⟩ | exact ⟨N2 (by omega) (by omega), rfl⟩ | exact ⟨N3 (by omega) (by omega) (by omega), rfl⟩ | exact ⟨N4 (by omega) (by omega) (by omega) true (by unfold x_cf; rw [b56, b73]; rfl), rfl⟩ | exact ⟨N4 (by omega) (by omega) (by omega) false (by unfold x_cf; rw [Bool.eq_false_iff.mpr b56]; rfl), rfl⟩ | exact ⟨N4 (by omega) (by omega) (by omega) false (by unfold x_cf; rw [Bool.eq_false_iff.mpr b73, Bool.and_false]), rfl⟩))
            · replace b73 := jb_t b73
              refine jr_iconst C (v := 1) dX10_counts_76 (by decide) ?_
              refine jr_goto C 81 dX10_counts_77 (by decide) ?_
              exact ret _ _ _ _ dX10_counts_81 rfl ((by first | exact ⟨N1 (by omega), rfl⟩ | exact ⟨N2 (by omega) (by omega), rfl⟩ | exact ⟨N3 (by omega) (by omega) (by omega), rfl⟩ | exact ⟨N4 (by omega) (by omega) (by omega) true (by unfold x_cf; rw [b56, b73]; rfl), rfl⟩ | exact ⟨N4 (by omega) (by omega) (by omega) false (by unfold x_cf; rw [Bool.eq_false_iff.mpr b56]; rfl), rfl⟩ | exact ⟨N4 (by omega) (by omega) (by omega) false (by unfold x_cf; rw [Bool.eq_false_iff.mpr b73, Bool.and_false]), rfl⟩))
        · refine jr_bipush C (v := -6) dX10_counts_44 (by decide) ?_
          exact ret _ _ _ _ dX10_counts_46 rfl ((by first | exact ⟨N1 (by omega), rfl⟩ | exact ⟨N2 (by omega) (by omega), rfl⟩ | exact ⟨N3 (by omega) (by omega) (by omega), rfl⟩ | exact ⟨N4 (by omega) (by omega) (by omega) true (by unfold x_cf; rw [b56, b73]; rfl), rfl⟩ | exact ⟨N4 (by omega) (by omega) (by omega) false (by unfold x_cf; rw [Bool.eq_false_iff.mpr b56]; rfl), rfl⟩ | exact ⟨N4 (by omega) (by omega) (by omega) false (by unfold x_cf; rw [Bool.eq_false_iff.mpr b73, Bool.and_false]), rfl⟩))
      · replace b28 := jb_f b28
        refine jr_bipush C (v := -2) dX10_counts_31 (by decide) ?_
        exact ret _ _ _ _ dX10_counts_33 rfl ((by first | exact ⟨N1 (by omega), rfl⟩ | exact ⟨N2 (by omega) (by omega), rfl⟩ | exact ⟨N3 (by omega) (by omega) (by omega), rfl⟩ | exact ⟨N4 (by omega) (by omega) (by omega) true (by unfold x_cf; rw [b56, b73]; rfl), rfl⟩ | exact ⟨N4 (by omega) (by omega) (by omega) false (by unfold x_cf; rw [Bool.eq_false_iff.mpr b56]; rfl), rfl⟩ | exact ⟨N4 (by omega) (by omega) (by omega) false (by unfold x_cf; rw [Bool.eq_false_iff.mpr b73, Bool.and_false]), rfl⟩))
  · replace b4 := jb_f b4
    refine jr_iconst C (v := -1) dX10_counts_7 (by decide) ?_
    exact ret _ _ _ _ dX10_counts_8 rfl ((by first | exact ⟨N1 (by omega), rfl⟩ | exact ⟨N2 (by omega) (by omega), rfl⟩ | exact ⟨N3 (by omega) (by omega) (by omega), rfl⟩ | exact ⟨N4 (by omega) (by omega) (by omega) true (by unfold x_cf; rw [b56, b73]; rfl), rfl⟩ | exact ⟨N4 (by omega) (by omega) (by omega) false (by unfold x_cf; rw [Bool.eq_false_iff.mpr b56]; rfl), rfl⟩ | exact ⟨N4 (by omega) (by omega) (by omega) false (by unfold x_cf; rw [Bool.eq_false_iff.mpr b73, Bool.and_false]), rfl⟩))

