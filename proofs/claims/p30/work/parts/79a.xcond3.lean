/-! the class: conditions whole, exactly -/
theorem x_map1 {S o : List Int32} {x v : Int32} (h : v = q_st x) : S ++ o.map q_st ++ [v] = S ++ (o ++ [x]).map q_st := by
  rw [List.map_append, List.append_assoc, h]; rfl
theorem x_map2 {S o p : List Int32} : S ++ o.map q_st ++ p.map q_st = S ++ (o ++ p).map q_st := by
  rw [List.map_append, List.append_assoc]
theorem x_map3 {S o p : List Int32} {x : Int32} : S ++ (o ++ p ++ [x]).map q_st = S ++ o.map q_st ++ (p ++ [x]).map q_st := by
  rw [x_map2, List.append_assoc o p [x]]
/-- one more mark behind what was read -/
def q_pp (x : Int32) : q_R → q_R
  | .inl r => .inl (r.1, r.2 ++ [x])
  | .inr e => .inr e
theorem x_out_p {a : Nat → Int32} {n g : Nat} {S : List Int32} {σ υ τ ρ : jf_S} {res : q_R} {r v x : Int32} (h : x_out a n S υ τ res r) (hx : v = q_st x) (z : xS_e σ υ) (hn : n ≤ 300) (hS : S.length + 1 ≤ g) (ok : q_ok n g res) (p : (((τ.1 11 3)).toInt < 300 → ρ = jf_i (jf_i τ 55 ((τ.1 11 3)).toNatClampNeg v) 11 3 ((τ.1 11 3) + 1)) ∧ (¬ ((τ.1 11 3)).toInt < 300 → ρ = τ)) : x_out a n S σ ρ (q_pp x res) r := by
  obtain ⟨h1, h2, h3, h4⟩ := h
  have fr : xS_e σ ρ ∧ (ρ.1 9 4) = (τ.1 9 4) ∧ (0 ≤ ((ρ.1 11 3)).toInt ∧ ((ρ.1 11 3)).toInt ≤ 300) := by
    by_cases c : ((τ.1 11 3)).toInt < 300
    · rw [p.1 c]
      have e := ji_inc1 (k := (τ.1 11 3)) (by omega)
      exact ⟨xS_e_t (xS_e_t z h4) xS_e_p, rfl, show 0 ≤ ((τ.1 11 3) + 1).toInt ∧ ((τ.1 11 3) + 1).toInt ≤ 300 by omega⟩
    · rw [p.2 c]
      exact ⟨xS_e_t z h4, rfl, h3⟩
  cases e : res with
  | inl q =>
    obtain ⟨r1, r2, r3⟩ := h1 q e
    rw [e] at ok
    obtain ⟨o1, o2, o3, -, -⟩ := ok
    have ln : (S ++ q.2.map q_st).length = S.length + q.2.length := by rw [List.length_append, List.length_map]
    have lt : ((τ.1 11 3)).toInt < 300 := by have := r3.1; omega
    refine ⟨fun p' hp => ?_, fun e' he => (by cases he), fr.2.2, fr.1⟩
    cases hp
    rw [p.1 lt]
    refine ⟨r1, x_tk_p r2, ?_⟩
    show x_st _ (S ++ (q.2 ++ [x]).map q_st)
    rw [← x_map1 hx]
    exact x_st_p r3 (by omega)
  | inr q =>
    obtain ⟨r1, r2⟩ := h2 q e
    refine ⟨fun p' hp => (by cases hp), fun e' he => ?_, fr.2.2, fr.1⟩
    cases he
    exact ⟨r1, by rw [fr.2.1]; exact r2⟩
theorem x_out_w {a : Nat → Int32} {n : Nat} {S : List Int32} {σ υ τ : jf_S} {res : q_R} {r : Int32} (z : xS_e σ υ) (h : x_out a n S υ τ res r) : x_out a n S σ τ res r := ⟨h.1, h.2.1, h.2.2.1, xS_e_t z h.2.2.2⟩
theorem co_takeNot2 (E : jf_E) (σ : jf_S) (vq : Value) (ad av : Nat → Nat) (p : Int32) (k : Nat) (a : Nat → Int32) (n f : Nat) (S : List Int32) (hp : p.toInt = 8 - (k : Int)) (h : x_tk a n σ f) (hs : x_st σ S) (hS : S.length + 1 ≤ f) (ihN : k ≠ 0 → ∀ (E : jf_E) (σ : jf_S) (vq : Value) (ad av : Nat → Nat) (p : Int32) (a : Nat → Int32) (n f : Nat) (S : List Int32), p.toInt = 8 - (((k - 1 : Nat) : Int) : Int) → x_tk a n σ f → x_st σ S → S.length + 1 ≤ f → jf_IZ (js_Z vq ad av (jf_A jh_X E)) jh_X E yX6_takeNot cX6_takeNot 3 .boolean (6 + 3 * (k - 1)) [jf_r E 9, .int p] σ (fun r τ => x_out a n S σ τ (q_not a n (k - 1) f) r)) (ihC : k ≠ 0 → ∀ (E : jf_E) (σ : jf_S) (vq : Value) (ad av : Nat → Nat) (p : Int32) (a : Nat → Int32) (n f : Nat) (S : List Int32), p.toInt = 8 - (((k - 1 : Nat) : Int) : Int) → x_tk a n σ f → x_st σ S → S.length + 1 ≤ f → jf_IZ (js_Z vq ad av (jf_A jh_X E)) jh_X E yX6_takeCond cX6_takeCond 4 .boolean (8 + 3 * (k - 1)) [jf_r E 9, .int p] σ (fun r τ => x_out a n S σ τ (q_cond a n (q_not a n (k - 1)) f) r)) : jf_IZ (js_Z vq ad av (jf_A jh_X E)) jh_X E yX6_takeNot cX6_takeNot 3 .boolean (6 + 3 * k) [jf_r E 9, .int p] σ (fun r τ => x_out a n S σ τ (q_not a n k f) r) := by
  refine jf_mkIZ (by decide) (Nat.le_of_ble_eq_true rfl) ?_
  intro G C hZ ret
  have hn := h.1.2.2
  have fle := h.2.1
  have x1 := tk_x_ok (a := a) fle
  have e1 := ji_inc1 (k := p) (by omega)
  have q0 : k = 0 → q_not a n k f = q_asked a n f := fun e => by subst e; rfl
  have q1 : k ≠ 0 → tk_wb a n f qN = true → q_not a n k f = q_pp (-3) (q_not a n (k - 1) (tk_x a n f)) := by
    intro hk w
    cases k with
    | zero => exact absurd rfl hk
    | succ k => show (if tk_wb a n f qN = true then _ else _) = _; rw [if_pos w]; rfl
  have q2 : k ≠ 0 → ¬ tk_wb a n f qN = true → tk_sb a n f 40 = true → q_not a n k f = (match q_cond a n (q_not a n (k - 1)) (tk_x a n f) with
      | .inl r => if tk_sb a n r.1 41 = true then .inl (tk_x a n r.1, r.2) else .inr r.1
      | .inr e => .inr e) := by
    intro hk w v
    cases k with
    | zero => exact absurd rfl hk
    | succ k => show (if tk_wb a n f qN = true then _ else if tk_sb a n f 40 = true then _ else _) = _; rw [if_neg w, if_pos v]; rfl
  have q3 : ¬ tk_wb a n f qN = true → ¬ tk_sb a n f 40 = true → q_not a n k f = q_asked a n f := by
    intro w v
    cases k with
    | zero => rfl
    | succ k => show (if tk_wb a n f qN = true then _ else if tk_sb a n f 40 = true then _ else _) = _; rw [if_neg w, if_neg v]
  have J73 : q_not a n k f = q_asked a n f → jf_X jh_X E G 3 73 [(0, jf_r E 9), (1, .int p)] [] σ := by
    intro e
    refine jr_aload_n C dX6_takeNot_73 rfl ?_
    refine jr_viZ C (js_ZK vq ad av _) hZ [] _ (ct_X6_takeAsked2 E _ vq ad av a n f S h hs (by omega)) ky_X6_takeAsked kv_X6_takeAsked kk_X_9 km_X6_104 (by omega) rfl (Nat.le_of_ble_eq_true rfl) dX6_takeNot_74 (fun r74 τ74 h74 => ?_)
    exact ret _ _ _ _ dX6_takeNot_77 (x_nb (x_out_b h74)) ((by rw [e]; exact h74))
  have J33 : (k ≠ 0 → ¬ tk_wb a n f qN = true) → jf_X jh_X E G 3 33 [(0, jf_r E 9), (1, .int p)] [] σ := by
    intro hnot
    refine jr_iload_n C dX6_takeNot_33 rfl ?_
    refine jr_bipush C (v := 8) dX6_takeNot_34 (by decide) ?_
    refine jr_ncmp_ge C (b := 8) 73 dX6_takeNot_36 (by decide) rfl rfl (fun b36 => ?_) (fun b36 => ?_)
    · first | exact J73 (q0 (by omega)) | exact J73 (q3 (hnot (by omega)) w45)
    · refine jr_aload_n C dX6_takeNot_39 rfl ?_
      refine jr_bipush C (v := 40) dX6_takeNot_40 (by decide) ?_
      refine jr_vi C [.int _] _ (ct_X6_takeByte2 E _ _ a n f h) ky_X6_takeByte kv_X6_takeByte kk_X_9 km_X6_48 (by omega) rfl (Nat.le_of_ble_eq_true rfl) dX6_takeNot_42 (fun r42 τ42 h42 => ?_)
      refine jr_nif_eq C 73 dX6_takeNot_45 (by decide) (fun b45 => ?_) (fun b45 => ?_)
      · first | (have q9 := x_y h42 b45; obtain ⟨w45, z45, k45⟩ := q9) | (have q9 := x_n h42 b45; obtain ⟨w45, e45⟩ := q9; subst e45)
        first | exact J73 (q0 (by omega)) | exact J73 (q3 (hnot (by omega)) w45)
      · first | (have q9 := x_y h42 b45; obtain ⟨w45, z45, k45⟩ := q9) | (have q9 := x_n h42 b45; obtain ⟨w45, e45⟩ := q9; subst e45)
        refine jr_aload_n C dX6_takeNot_48 rfl ?_
        refine jr_iload_n C dX6_takeNot_49 rfl ?_
        refine jr_iconst C (v := 1) dX6_takeNot_50 (by decide) ?_
        refine jr_iadd C dX6_takeNot_51 ?_
        refine jr_viZ C (js_ZK vq ad av _) hZ [.int _] _ ((ihC (by omega)) E _ vq ad av _ a n (tk_x a n f) S (by omega) k45 (x_st_t z45 hs) (by have := (tk_sb_i.mp w45).1; omega)) ky_X6_takeCond kv_X6_takeCond kk_X_9 km_X6_44 (by omega) rfl (Nat.le_of_ble_eq_true rfl) dX6_takeNot_52 (fun r52 τ52 h52 => ?_)
        refine jr_nif_eq C 71 dX6_takeNot_55 (by decide) (fun b55 => ?_) (fun b55 => ?_)
        · first | (have q9 := x_out_1 h52 b55; obtain ⟨p55, e55, k55, s55⟩ := q9) | (have q9 := x_out_0 h52 b55; obtain ⟨p55, e55, k55⟩ := q9)
          refine jr_iconst C (v := 0) dX6_takeNot_71 (by decide) ?_
          exact ret _ _ _ _ dX6_takeNot_72 (rfl) (by first | (have q := q2 (by omega) (hnot (by omega)) w45; rw [e55] at q; have q' : q_not a n k f = .inr p55 := q; exact ⟨fun p' hp' => (by rw [q'] at hp'; cases hp'), fun e' he => (by rw [q'] at he; cases he; exact ⟨rfl, k55⟩), h52.2.2.1, xS_e_t (xS_e_s z45) h52.2.2.2⟩) | (have q := q2 (by omega) (hnot (by omega)) w45; rw [e55] at q; have q' : q_not a n k f = .inl (tk_x a n p55.1, p55.2) := q.trans (if_pos w64); exact ⟨fun p' hp' => (by rw [q'] at hp'; cases hp'; exact ⟨rfl, k64, x_st_t z64 s55⟩), fun e' he => (by rw [q'] at he; cases he), (by rw [z64.2.1 11 (by decide)]; exact h52.2.2.1), xS_e_t (xS_e_t (xS_e_s z45) h52.2.2.2) (xS_e_s z64)⟩) | (have q := q2 (by omega) (hnot (by omega)) w45; rw [e55] at q; have q' : q_not a n k f = .inr p55.1 := q.trans (if_neg w64); exact ⟨fun p' hp' => (by rw [q'] at hp'; cases hp'), fun e' he => (by rw [q'] at he; cases he; exact ⟨rfl, k55.2.2.1⟩), h52.2.2.1, xS_e_t (xS_e_s z45) h52.2.2.2⟩))
        · first | (have q9 := x_out_1 h52 b55; obtain ⟨p55, e55, k55, s55⟩ := q9) | (have q9 := x_out_0 h52 b55; obtain ⟨p55, e55, k55⟩ := q9)
          refine jr_aload_n C dX6_takeNot_58 rfl ?_
          refine jr_bipush C (v := 41) dX6_takeNot_59 (by decide) ?_
          refine jr_vi C [.int _] _ (ct_X6_takeByte2 E _ _ a n p55.1 k55) ky_X6_takeByte kv_X6_takeByte kk_X_9 km_X6_48 (by omega) rfl (Nat.le_of_ble_eq_true rfl) dX6_takeNot_61 (fun r61 τ61 h61 => ?_)
          refine jr_nif_eq C 71 dX6_takeNot_64 (by decide) (fun b64 => ?_) (fun b64 => ?_)
          · first | (have q9 := x_y h61 b64; obtain ⟨w64, z64, k64⟩ := q9) | (have q9 := x_n h61 b64; obtain ⟨w64, e64⟩ := q9; subst e64)
            refine jr_iconst C (v := 0) dX6_takeNot_71 (by decide) ?_
            exact ret _ _ _ _ dX6_takeNot_72 (rfl) (by first | (have q := q2 (by omega) (hnot (by omega)) w45; rw [e55] at q; have q' : q_not a n k f = .inr p55 := q; exact ⟨fun p' hp' => (by rw [q'] at hp'; cases hp'), fun e' he => (by rw [q'] at he; cases he; exact ⟨rfl, k55⟩), h52.2.2.1, xS_e_t (xS_e_s z45) h52.2.2.2⟩) | (have q := q2 (by omega) (hnot (by omega)) w45; rw [e55] at q; have q' : q_not a n k f = .inl (tk_x a n p55.1, p55.2) := q.trans (if_pos w64); exact ⟨fun p' hp' => (by rw [q'] at hp'; cases hp'; exact ⟨rfl, k64, x_st_t z64 s55⟩), fun e' he => (by rw [q'] at he; cases he), (by rw [z64.2.1 11 (by decide)]; exact h52.2.2.1), xS_e_t (xS_e_t (xS_e_s z45) h52.2.2.2) (xS_e_s z64)⟩) | (have q := q2 (by omega) (hnot (by omega)) w45; rw [e55] at q; have q' : q_not a n k f = .inr p55.1 := q.trans (if_neg w64); exact ⟨fun p' hp' => (by rw [q'] at hp'; cases hp'), fun e' he => (by rw [q'] at he; cases he; exact ⟨rfl, k55.2.2.1⟩), h52.2.2.1, xS_e_t (xS_e_s z45) h52.2.2.2⟩))
          · first | (have q9 := x_y h61 b64; obtain ⟨w64, z64, k64⟩ := q9) | (have q9 := x_n h61 b64; obtain ⟨w64, e64⟩ := q9; subst e64)
            refine jr_iconst C (v := 1) dX6_takeNot_67 (by decide) ?_
            refine jr_goto C 72 dX6_takeNot_68 (by decide) ?_
            exact ret _ _ _ _ dX6_takeNot_72 (rfl) (by first | (have q := q2 (by omega) (hnot (by omega)) w45; rw [e55] at q; have q' : q_not a n k f = .inr p55 := q; exact ⟨fun p' hp' => (by rw [q'] at hp'; cases hp'), fun e' he => (by rw [q'] at he; cases he; exact ⟨rfl, k55⟩), h52.2.2.1, xS_e_t (xS_e_s z45) h52.2.2.2⟩) | (have q := q2 (by omega) (hnot (by omega)) w45; rw [e55] at q; have q' : q_not a n k f = .inl (tk_x a n p55.1, p55.2) := q.trans (if_pos w64); exact ⟨fun p' hp' => (by rw [q'] at hp'; cases hp'; exact ⟨rfl, k64, x_st_t z64 s55⟩), fun e' he => (by rw [q'] at he; cases he), (by rw [z64.2.1 11 (by decide)]; exact h52.2.2.1), xS_e_t (xS_e_t (xS_e_s z45) h52.2.2.2) (xS_e_s z64)⟩) | (have q := q2 (by omega) (hnot (by omega)) w45; rw [e55] at q; have q' : q_not a n k f = .inr p55.1 := q.trans (if_neg w64); exact ⟨fun p' hp' => (by rw [q'] at hp'; cases hp'), fun e' he => (by rw [q'] at he; cases he; exact ⟨rfl, k55.2.2.1⟩), h52.2.2.1, xS_e_t (xS_e_s z45) h52.2.2.2⟩))
  refine jr_iload_n C dX6_takeNot_0 rfl ?_
  refine jr_bipush C (v := 8) dX6_takeNot_1 (by decide) ?_
  refine jr_ncmp_ge C (b := 8) 33 dX6_takeNot_3 (by decide) rfl rfl (fun b3 => ?_) (fun b3 => ?_)
  · first | exact J33 (fun h => absurd h (by omega)) | exact J33 (fun _ => w12)
  · refine jr_aload_n C dX6_takeNot_6 rfl ?_
    refine jr_ldcS C (hZ.2 9 _ rfl).1 dX6_takeNot_7 ?_
    refine jr_viZ C (js_ZK vq ad av _) hZ [_] _ (ct_X6_takeWord2 E _ vq ad av 9 _ rfl a n f h) ky_X6_takeWord kv_X6_takeWord kk_X_9 km_X6_40 (by omega) rfl (Nat.le_of_ble_eq_true rfl) dX6_takeNot_9 (fun r9 τ9 h9 => ?_)
    refine jr_nif_eq C 33 dX6_takeNot_12 (by decide) (fun b12 => ?_) (fun b12 => ?_)
    · first | (have q9 := x_y h9 b12; obtain ⟨w12, z12, k12⟩ := q9) | (have q9 := x_n h9 b12; obtain ⟨w12, e12⟩ := q9; subst e12)
      first | exact J33 (fun h => absurd h (by omega)) | exact J33 (fun _ => w12)
    · first | (have q9 := x_y h9 b12; obtain ⟨w12, z12, k12⟩ := q9) | (have q9 := x_n h9 b12; obtain ⟨w12, e12⟩ := q9; subst e12)
      refine jr_aload_n C dX6_takeNot_15 rfl ?_
      refine jr_iload_n C dX6_takeNot_16 rfl ?_
      refine jr_iconst C (v := 1) dX6_takeNot_17 (by decide) ?_
      refine jr_iadd C dX6_takeNot_18 ?_
      refine jr_viZ C (js_ZK vq ad av _) hZ [.int _] _ ((ihN (by omega)) E _ vq ad av _ a n (tk_x a n f) S (by omega) k12 (x_st_t z12 hs) (by have := tk_wb_lt (by decide) w12; omega)) ky_X6_takeNot kv_X6_takeNot kk_X_9 km_X6_97 (by omega) rfl (Nat.le_of_ble_eq_true rfl) dX6_takeNot_19 (fun r19 τ19 h19 => ?_)
      refine jr_istore_n C dX6_takeNot_22 (by decide) ?_
      refine jr_aload_n C dX6_takeNot_23 rfl ?_
      refine jr_getr C kf_X6_18_9 dX6_takeNot_24 ?_
      refine jr_iconst C (v := 2) dX6_takeNot_27 (by decide) ?_
      refine jr_vv C [.int _] _ (ct_X7_addStep2 E _ _ h19.2.2.1) ky_X7_addStep kv_X7_addStep kk_X_11 km_X6_93 (by omega) rfl (Nat.le_of_ble_eq_true rfl) dX6_takeNot_28 (fun τ28 h28 => ?_)
      refine jr_iload_n C dX6_takeNot_31 rfl ?_
      exact ret _ _ _ _ dX6_takeNot_32 (x_nb (x_out_b h19)) ((by rw [q1 (by omega) w12]; exact x_out_p (x := -3) h19 rfl (xS_e_s z12) hn (by have := tk_wb_lt (by decide) w12; omega) (q_not_ok _ _ x1.2.1) h28))
theorem co_takeAnd2 (E : jf_E) (σ : jf_S) (vq : Value) (ad av : Nat → Nat) (p : Int32) (k : Nat) (a : Nat → Int32) (n f : Nat) (S : List Int32) (hp : p.toInt = 8 - (k : Int)) (h : x_tk a n σ f) (hs : x_st σ S) (hS : S.length + 1 ≤ f) (ihN : ∀ (E : jf_E) (σ : jf_S) (vq : Value) (ad av : Nat → Nat) (p : Int32) (a : Nat → Int32) (n f : Nat) (S : List Int32), p.toInt = 8 - ((k : Int) : Int) → x_tk a n σ f → x_st σ S → S.length + 1 ≤ f → jf_IZ (js_Z vq ad av (jf_A jh_X E)) jh_X E yX6_takeNot cX6_takeNot 3 .boolean (6 + 3 * k) [jf_r E 9, .int p] σ (fun r τ => x_out a n S σ τ (q_not a n k f) r)) : jf_IZ (js_Z vq ad av (jf_A jh_X E)) jh_X E yX6_takeAnd cX6_takeAnd 4 .boolean (7 + 3 * k) [jf_r E 9, .int p] σ (fun r τ => x_out a n S σ τ (q_and a n (q_not a n k) f) r) := by
  refine jf_mkIZ (by decide) (Nat.le_of_ble_eq_true rfl) ?_
  intro G C hZ ret
  have hn := h.1.2.2
  have fle := h.2.1
  have iok : ∀ f, f ≤ n → q_ok n f ((q_not a n k) f) := q_not_ok k
  have l8 : ∀ (m : Nat) (τ : jf_S) (g i : Int32), ((g = 1 ∧ ∃ (gp : Nat) (o : List Int32), x_tk a n τ gp ∧ x_st τ (S ++ o.map q_st) ∧ q_and a n (q_not a n k) f = q_loop a n qA (-4) (q_not a n k) (300 - i.toNatClampNeg) gp o ∧ o.length + f ≤ gp) ∨ (g = 0 ∧ ∃ e : Nat, q_and a n (q_not a n k) f = .inr e ∧ ((τ.1 9 4)).toInt = (e : Int))) → (0 ≤ ((τ.1 11 3)).toInt ∧ ((τ.1 11 3)).toInt ≤ 300) → xS_e σ τ → 0 ≤ i.toInt → i.toInt ≤ 300 → 300 - i.toInt < m → jf_X jh_X E G 4 8 [(0, jf_r E 9), (1, .int p), (2, .int g), (3, .int i)] [] τ := by
    intro m
    induction m with
    | zero => intro τ g i q w z g1 g2 g3; exfalso; omega
    | succ m ih =>
      intro τ g i q w z g1 g2 g3
      have e1 := ji_inc (k := i) (by omega)
      have ei := ji_tn g1
      have gb : g = 0 ∨ g = 1 := by rcases q with q | q; exact Or.inr q.1; exact Or.inl q.1
      have F0 : ∀ e : Nat, g = 0 → q_and a n (q_not a n k) f = .inr e → ((τ.1 9 4)).toInt = (e : Int) → x_out a n S σ τ (q_and a n (q_not a n k) f) g := fun e hg q1 q2 => ⟨fun p' hp' => (by rw [q1] at hp'; cases hp'), fun e' he => (by rw [q1] at he; cases he; exact ⟨hg, q2⟩), w, z⟩
      have F1 : ∀ (gp : Nat) (o : List Int32), g = 1 → x_tk a n τ gp → x_st τ (S ++ o.map q_st) → q_and a n (q_not a n k) f = .inl (gp, o) → x_out a n S σ τ (q_and a n (q_not a n k) f) g := fun gp o hg k1 k2 q1 => ⟨fun p' hp' => (by rw [q1] at hp'; cases hp'; exact ⟨hg, k1, k2⟩), fun e' he => (by rw [q1] at he; cases he), w, z⟩
      rcases q with ⟨hg, gp, o, k1, k2, k3, k4⟩ | ⟨hg, e, k1, k2⟩
      · subst hg
        have gle := k1.2.1
        have x1 := tk_x_ok (a := a) gle
        have ln : (S ++ o.map q_st).length = S.length + o.length := by rw [List.length_append, List.length_map]
        refine jr_iload_n C dX6_takeAnd_8 rfl ?_
        refine jr_sipush C (v := 300) dX6_takeAnd_9 (by decide) ?_
        refine jr_ncmp_ge C (b := 300) 48 dX6_takeAnd_12 (by decide) rfl rfl (fun b12 => ?_) (fun b12 => ?_)
        · refine jr_iload_n C dX6_takeAnd_48 rfl ?_
          exact ret _ _ _ _ dX6_takeAnd_49 (x_nb gb) (by first | exact F1 gp o rfl k1 k2 (by rw [k3, show 300 - i.toNatClampNeg = 0 by omega]; rfl) | exact absurd b16 (by decide) | exact F1 gp o rfl k1 k2 (by rw [k3, show 300 - i.toNatClampNeg = (300 - i.toNatClampNeg - 1) + 1 by omega]; show (if tk_wb a n gp qA = true then _ else _) = _; rw [if_neg w25]))
        · refine jr_iload_n C dX6_takeAnd_15 rfl ?_
          refine jr_nif_eq C 48 dX6_takeAnd_16 (by decide) (fun b16 => ?_) (fun b16 => ?_)
          · refine jr_iload_n C dX6_takeAnd_48 rfl ?_
            exact ret _ _ _ _ dX6_takeAnd_49 (x_nb gb) (by first | exact F1 gp o rfl k1 k2 (by rw [k3, show 300 - i.toNatClampNeg = 0 by omega]; rfl) | exact absurd b16 (by decide) | exact F1 gp o rfl k1 k2 (by rw [k3, show 300 - i.toNatClampNeg = (300 - i.toNatClampNeg - 1) + 1 by omega]; show (if tk_wb a n gp qA = true then _ else _) = _; rw [if_neg w25]))
          · refine jr_aload_n C dX6_takeAnd_19 rfl ?_
            refine jr_ldcS C (hZ.2 8 _ rfl).1 dX6_takeAnd_20 ?_
            refine jr_viZ C (js_ZK vq ad av _) hZ [_] _ (ct_X6_takeWord2 E _ vq ad av 8 _ rfl a n gp k1) ky_X6_takeWord kv_X6_takeWord kk_X_9 km_X6_40 (by omega) rfl (Nat.le_of_ble_eq_true rfl) dX6_takeAnd_22 (fun r22 τ22 h22 => ?_)
            refine jr_nif_eq C 48 dX6_takeAnd_25 (by decide) (fun b25 => ?_) (fun b25 => ?_)
            · first | (have q9 := x_y h22 b25; obtain ⟨w25, z25, k25⟩ := q9) | (have q9 := x_n h22 b25; obtain ⟨w25, e25⟩ := q9; subst e25)
              refine jr_iload_n C dX6_takeAnd_48 rfl ?_
              exact ret _ _ _ _ dX6_takeAnd_49 (x_nb gb) (by first | exact F1 gp o rfl k1 k2 (by rw [k3, show 300 - i.toNatClampNeg = 0 by omega]; rfl) | exact absurd b16 (by decide) | exact F1 gp o rfl k1 k2 (by rw [k3, show 300 - i.toNatClampNeg = (300 - i.toNatClampNeg - 1) + 1 by omega]; show (if tk_wb a n gp qA = true then _ else _) = _; rw [if_neg w25]))
            · first | (have q9 := x_y h22 b25; obtain ⟨w25, z25, k25⟩ := q9) | (have q9 := x_n h22 b25; obtain ⟨w25, e25⟩ := q9; subst e25)
              refine jr_aload_n C dX6_takeAnd_28 rfl ?_
              refine jr_iload_n C dX6_takeAnd_29 rfl ?_
              refine jr_viZ C (js_ZK vq ad av _) hZ [.int _] _ (ihN E _ vq ad av _ a n (tk_x a n gp) (S ++ o.map q_st) hp k25 (x_st_t z25 k2) (by have := tk_wb_lt (by decide) w25; omega)) ky_X6_takeNot kv_X6_takeNot kk_X_9 km_X6_97 (by omega) rfl (Nat.le_of_ble_eq_true rfl) dX6_takeAnd_30 (fun r30 τ30 h30 => ?_)
              refine jr_istore_n C dX6_takeAnd_33 (by decide) ?_
              refine jr_aload_n C dX6_takeAnd_34 rfl ?_
              refine jr_getr C kf_X6_18_9 dX6_takeAnd_35 ?_
              refine jr_iconst C (v := 3) dX6_takeAnd_38 (by decide) ?_
              refine jr_vv C [.int _] _ (ct_X7_addStep2 E _ _ h30.2.2.1) ky_X7_addStep kv_X7_addStep kk_X_11 km_X6_93 (by omega) rfl (Nat.le_of_ble_eq_true rfl) dX6_takeAnd_39 (fun τ39 h39 => ?_)
              have y39 := x_out_p (x := -4) h30 rfl (xS_e_t z (xS_e_s z25)) hn (by have := tk_wb_lt (by decide) w25; omega) (iok _ x1.2.1) h39; have k3' := k3; rw [show 300 - i.toNatClampNeg = (300 - (i + Int32.ofInt 1).toNatClampNeg) + 1 by have := ji_tn (x := i + Int32.ofInt 1) (by omega); omega] at k3'; have k5 : q_and a n (q_not a n k) f = (match (q_not a n k) (tk_x a n gp) with | .inl r => q_loop a n qA (-4) (q_not a n k) (300 - (i + Int32.ofInt 1).toNatClampNeg) r.1 (o ++ r.2 ++ [-4]) | .inr e => .inr e) := k3'.trans (by show (if tk_wb a n gp qA = true then _ else _) = _; rw [if_pos w25]; rfl)
              refine jr_iinc C _ dX6_takeAnd_42 rfl rfl (by decide) ?_
              refine jr_goto C 8 dX6_takeAnd_45 (by decide) ?_
              refine jr_sub [(0, jf_r E 9), (1, .int p), (2, .int _), (3, .int _)] rfl (ih _ _ _ ?_ y39.2.2.1 y39.2.2.2 (by omega) (by omega) (by omega)); cases ee : (q_not a n k) (tk_x a n gp) with | inl r => (rw [ee] at y39 k5; have rk := iok (tk_x a n gp) x1.2.1; rw [ee] at rk; obtain ⟨t1, t2, t3⟩ := y39.1 _ rfl; exact Or.inl ⟨t1, r.1, o ++ r.2 ++ [-4], t2, (by rw [x_map3]; exact t3), k5, by have := rk.2.2.1; rw [List.length_append, List.length_append]; show _ + _ + 1 + _ ≤ _; have := tk_wb_lt (by decide) w25; omega⟩) | inr e => (rw [ee] at y39 k5; obtain ⟨t1, t2⟩ := y39.2.1 _ rfl; exact Or.inr ⟨t1, e, k5, t2⟩)
      · have fin := F0 e hg k1 k2
        subst hg
        refine jr_iload_n C dX6_takeAnd_8 rfl ?_
        refine jr_sipush C (v := 300) dX6_takeAnd_9 (by decide) ?_
        refine jr_ncmp_ge C (b := 300) 48 dX6_takeAnd_12 (by decide) rfl rfl (fun b12 => ?_) (fun b12 => ?_)
        · refine jr_iload_n C dX6_takeAnd_48 rfl ?_
          exact ret _ _ _ _ dX6_takeAnd_49 (x_nb gb) (fin)
        · refine jr_iload_n C dX6_takeAnd_15 rfl ?_
          refine jr_nif_eq C 48 dX6_takeAnd_16 (by decide) (fun _ => ?_) (fun b => absurd rfl b)
          refine jr_iload_n C dX6_takeAnd_48 rfl ?_
          exact ret _ _ _ _ dX6_takeAnd_49 (x_nb gb) (fin)
  refine jr_aload_n C dX6_takeAnd_0 rfl ?_
  refine jr_iload_n C dX6_takeAnd_1 rfl ?_
  refine jr_viZ C (js_ZK vq ad av _) hZ [.int _] _ (ihN E _ vq ad av _ a n f S hp h hs hS) ky_X6_takeNot kv_X6_takeNot kk_X_9 km_X6_97 (by omega) rfl (Nat.le_of_ble_eq_true rfl) dX6_takeAnd_2 (fun r2 τ2 h2 => ?_)
  refine jr_istore_n C dX6_takeAnd_5 (by decide) ?_
  refine jr_iconst C (v := 0) dX6_takeAnd_6 (by decide) ?_
  refine jr_istore_n C dX6_takeAnd_7 (by decide) ?_
  refine jr_sub [(0, jf_r E 9), (1, .int p), (2, .int _), (3, .int 0)] rfl (l8 302 _ _ _ ?_ h2.2.2.1 h2.2.2.2 (by decide) (by decide) (by decide)); have qq : q_and a n (q_not a n k) f = (match (q_not a n k) f with | .inl r => q_loop a n qA (-4) (q_not a n k) 300 r.1 r.2 | .inr e => .inr e) := rfl; cases ee : (q_not a n k) f with | inl r => (rw [ee] at qq; have rk := iok f fle; rw [ee] at rk; obtain ⟨t1, t2, t3⟩ := h2.1 _ ee; exact Or.inl ⟨t1, r.1, r.2, t2, t3, qq, rk.2.2.1⟩) | inr e => (rw [ee] at qq; obtain ⟨t1, t2⟩ := h2.2.1 _ ee; exact Or.inr ⟨t1, e, qq, t2⟩)
theorem co_takeCond2 (E : jf_E) (σ : jf_S) (vq : Value) (ad av : Nat → Nat) (p : Int32) (k : Nat) (a : Nat → Int32) (n f : Nat) (S : List Int32) (hp : p.toInt = 8 - (k : Int)) (h : x_tk a n σ f) (hs : x_st σ S) (hS : S.length + 1 ≤ f) (ihN : ∀ (E : jf_E) (σ : jf_S) (vq : Value) (ad av : Nat → Nat) (p : Int32) (a : Nat → Int32) (n f : Nat) (S : List Int32), p.toInt = 8 - ((k : Int) : Int) → x_tk a n σ f → x_st σ S → S.length + 1 ≤ f → jf_IZ (js_Z vq ad av (jf_A jh_X E)) jh_X E yX6_takeAnd cX6_takeAnd 4 .boolean (7 + 3 * k) [jf_r E 9, .int p] σ (fun r τ => x_out a n S σ τ (q_and a n (q_not a n k) f) r)) : jf_IZ (js_Z vq ad av (jf_A jh_X E)) jh_X E yX6_takeCond cX6_takeCond 4 .boolean (8 + 3 * k) [jf_r E 9, .int p] σ (fun r τ => x_out a n S σ τ (q_cond a n (q_not a n k) f) r) := by
  refine jf_mkIZ (by decide) (Nat.le_of_ble_eq_true rfl) ?_
  intro G C hZ ret
  have hn := h.1.2.2
  have fle := h.2.1
  have iok : ∀ f, f ≤ n → q_ok n f ((q_and a n (q_not a n k)) f) := q_and_ok (q_not_ok k)
  have l8 : ∀ (m : Nat) (τ : jf_S) (g i : Int32), ((g = 1 ∧ ∃ (gp : Nat) (o : List Int32), x_tk a n τ gp ∧ x_st τ (S ++ o.map q_st) ∧ q_cond a n (q_not a n k) f = q_loop a n qO (-5) (q_and a n (q_not a n k)) (300 - i.toNatClampNeg) gp o ∧ o.length + f ≤ gp) ∨ (g = 0 ∧ ∃ e : Nat, q_cond a n (q_not a n k) f = .inr e ∧ ((τ.1 9 4)).toInt = (e : Int))) → (0 ≤ ((τ.1 11 3)).toInt ∧ ((τ.1 11 3)).toInt ≤ 300) → xS_e σ τ → 0 ≤ i.toInt → i.toInt ≤ 300 → 300 - i.toInt < m → jf_X jh_X E G 4 8 [(0, jf_r E 9), (1, .int p), (2, .int g), (3, .int i)] [] τ := by
    intro m
    induction m with
    | zero => intro τ g i q w z g1 g2 g3; exfalso; omega
    | succ m ih =>
      intro τ g i q w z g1 g2 g3
      have e1 := ji_inc (k := i) (by omega)
      have ei := ji_tn g1
      have gb : g = 0 ∨ g = 1 := by rcases q with q | q; exact Or.inr q.1; exact Or.inl q.1
      have F0 : ∀ e : Nat, g = 0 → q_cond a n (q_not a n k) f = .inr e → ((τ.1 9 4)).toInt = (e : Int) → x_out a n S σ τ (q_cond a n (q_not a n k) f) g := fun e hg q1 q2 => ⟨fun p' hp' => (by rw [q1] at hp'; cases hp'), fun e' he => (by rw [q1] at he; cases he; exact ⟨hg, q2⟩), w, z⟩
      have F1 : ∀ (gp : Nat) (o : List Int32), g = 1 → x_tk a n τ gp → x_st τ (S ++ o.map q_st) → q_cond a n (q_not a n k) f = .inl (gp, o) → x_out a n S σ τ (q_cond a n (q_not a n k) f) g := fun gp o hg k1 k2 q1 => ⟨fun p' hp' => (by rw [q1] at hp'; cases hp'; exact ⟨hg, k1, k2⟩), fun e' he => (by rw [q1] at he; cases he), w, z⟩
      rcases q with ⟨hg, gp, o, k1, k2, k3, k4⟩ | ⟨hg, e, k1, k2⟩
      · subst hg
        have gle := k1.2.1
        have x1 := tk_x_ok (a := a) gle
        have ln : (S ++ o.map q_st).length = S.length + o.length := by rw [List.length_append, List.length_map]
        refine jr_iload_n C dX6_takeCond_8 rfl ?_
        refine jr_sipush C (v := 300) dX6_takeCond_9 (by decide) ?_
        refine jr_ncmp_ge C (b := 300) 48 dX6_takeCond_12 (by decide) rfl rfl (fun b12 => ?_) (fun b12 => ?_)
        · refine jr_iload_n C dX6_takeCond_48 rfl ?_
          exact ret _ _ _ _ dX6_takeCond_49 (x_nb gb) (by first | exact F1 gp o rfl k1 k2 (by rw [k3, show 300 - i.toNatClampNeg = 0 by omega]; rfl) | exact absurd b16 (by decide) | exact F1 gp o rfl k1 k2 (by rw [k3, show 300 - i.toNatClampNeg = (300 - i.toNatClampNeg - 1) + 1 by omega]; show (if tk_wb a n gp qO = true then _ else _) = _; rw [if_neg w25]))
        · refine jr_iload_n C dX6_takeCond_15 rfl ?_
          refine jr_nif_eq C 48 dX6_takeCond_16 (by decide) (fun b16 => ?_) (fun b16 => ?_)
          · refine jr_iload_n C dX6_takeCond_48 rfl ?_
            exact ret _ _ _ _ dX6_takeCond_49 (x_nb gb) (by first | exact F1 gp o rfl k1 k2 (by rw [k3, show 300 - i.toNatClampNeg = 0 by omega]; rfl) | exact absurd b16 (by decide) | exact F1 gp o rfl k1 k2 (by rw [k3, show 300 - i.toNatClampNeg = (300 - i.toNatClampNeg - 1) + 1 by omega]; show (if tk_wb a n gp qO = true then _ else _) = _; rw [if_neg w25]))
          · refine jr_aload_n C dX6_takeCond_19 rfl ?_
            refine jr_ldcS C (hZ.2 7 _ rfl).1 dX6_takeCond_20 ?_
            refine jr_viZ C (js_ZK vq ad av _) hZ [_] _ (ct_X6_takeWord2 E _ vq ad av 7 _ rfl a n gp k1) ky_X6_takeWord kv_X6_takeWord kk_X_9 km_X6_40 (by omega) rfl (Nat.le_of_ble_eq_true rfl) dX6_takeCond_22 (fun r22 τ22 h22 => ?_)
            refine jr_nif_eq C 48 dX6_takeCond_25 (by decide) (fun b25 => ?_) (fun b25 => ?_)
            · first | (have q9 := x_y h22 b25; obtain ⟨w25, z25, k25⟩ := q9) | (have q9 := x_n h22 b25; obtain ⟨w25, e25⟩ := q9; subst e25)
              refine jr_iload_n C dX6_takeCond_48 rfl ?_
              exact ret _ _ _ _ dX6_takeCond_49 (x_nb gb) (by first | exact F1 gp o rfl k1 k2 (by rw [k3, show 300 - i.toNatClampNeg = 0 by omega]; rfl) | exact absurd b16 (by decide) | exact F1 gp o rfl k1 k2 (by rw [k3, show 300 - i.toNatClampNeg = (300 - i.toNatClampNeg - 1) + 1 by omega]; show (if tk_wb a n gp qO = true then _ else _) = _; rw [if_neg w25]))
            · first | (have q9 := x_y h22 b25; obtain ⟨w25, z25, k25⟩ := q9) | (have q9 := x_n h22 b25; obtain ⟨w25, e25⟩ := q9; subst e25)
              refine jr_aload_n C dX6_takeCond_28 rfl ?_
              refine jr_iload_n C dX6_takeCond_29 rfl ?_
              refine jr_viZ C (js_ZK vq ad av _) hZ [.int _] _ (ihN E _ vq ad av _ a n (tk_x a n gp) (S ++ o.map q_st) hp k25 (x_st_t z25 k2) (by have := tk_wb_lt (by decide) w25; omega)) ky_X6_takeAnd kv_X6_takeAnd kk_X_9 km_X6_88 (by omega) rfl (Nat.le_of_ble_eq_true rfl) dX6_takeCond_30 (fun r30 τ30 h30 => ?_)
              refine jr_istore_n C dX6_takeCond_33 (by decide) ?_
              refine jr_aload_n C dX6_takeCond_34 rfl ?_
              refine jr_getr C kf_X6_18_9 dX6_takeCond_35 ?_
              refine jr_iconst C (v := 4) dX6_takeCond_38 (by decide) ?_
              refine jr_vv C [.int _] _ (ct_X7_addStep2 E _ _ h30.2.2.1) ky_X7_addStep kv_X7_addStep kk_X_11 km_X6_93 (by omega) rfl (Nat.le_of_ble_eq_true rfl) dX6_takeCond_39 (fun τ39 h39 => ?_)
              have y39 := x_out_p (x := -5) h30 rfl (xS_e_t z (xS_e_s z25)) hn (by have := tk_wb_lt (by decide) w25; omega) (iok _ x1.2.1) h39; have k3' := k3; rw [show 300 - i.toNatClampNeg = (300 - (i + Int32.ofInt 1).toNatClampNeg) + 1 by have := ji_tn (x := i + Int32.ofInt 1) (by omega); omega] at k3'; have k5 : q_cond a n (q_not a n k) f = (match (q_and a n (q_not a n k)) (tk_x a n gp) with | .inl r => q_loop a n qO (-5) (q_and a n (q_not a n k)) (300 - (i + Int32.ofInt 1).toNatClampNeg) r.1 (o ++ r.2 ++ [-5]) | .inr e => .inr e) := k3'.trans (by show (if tk_wb a n gp qO = true then _ else _) = _; rw [if_pos w25]; rfl)
              refine jr_iinc C _ dX6_takeCond_42 rfl rfl (by decide) ?_
              refine jr_goto C 8 dX6_takeCond_45 (by decide) ?_
              refine jr_sub [(0, jf_r E 9), (1, .int p), (2, .int _), (3, .int _)] rfl (ih _ _ _ ?_ y39.2.2.1 y39.2.2.2 (by omega) (by omega) (by omega)); cases ee : (q_and a n (q_not a n k)) (tk_x a n gp) with | inl r => (rw [ee] at y39 k5; have rk := iok (tk_x a n gp) x1.2.1; rw [ee] at rk; obtain ⟨t1, t2, t3⟩ := y39.1 _ rfl; exact Or.inl ⟨t1, r.1, o ++ r.2 ++ [-5], t2, (by rw [x_map3]; exact t3), k5, by have := rk.2.2.1; rw [List.length_append, List.length_append]; show _ + _ + 1 + _ ≤ _; have := tk_wb_lt (by decide) w25; omega⟩) | inr e => (rw [ee] at y39 k5; obtain ⟨t1, t2⟩ := y39.2.1 _ rfl; exact Or.inr ⟨t1, e, k5, t2⟩)
      · have fin := F0 e hg k1 k2
        subst hg
        refine jr_iload_n C dX6_takeCond_8 rfl ?_
        refine jr_sipush C (v := 300) dX6_takeCond_9 (by decide) ?_
        refine jr_ncmp_ge C (b := 300) 48 dX6_takeCond_12 (by decide) rfl rfl (fun b12 => ?_) (fun b12 => ?_)
        · refine jr_iload_n C dX6_takeCond_48 rfl ?_
          exact ret _ _ _ _ dX6_takeCond_49 (x_nb gb) (fin)
        · refine jr_iload_n C dX6_takeCond_15 rfl ?_
          refine jr_nif_eq C 48 dX6_takeCond_16 (by decide) (fun _ => ?_) (fun b => absurd rfl b)
          refine jr_iload_n C dX6_takeCond_48 rfl ?_
          exact ret _ _ _ _ dX6_takeCond_49 (x_nb gb) (fin)
  refine jr_aload_n C dX6_takeCond_0 rfl ?_
  refine jr_iload_n C dX6_takeCond_1 rfl ?_
  refine jr_viZ C (js_ZK vq ad av _) hZ [.int _] _ (ihN E _ vq ad av _ a n f S hp h hs hS) ky_X6_takeAnd kv_X6_takeAnd kk_X_9 km_X6_88 (by omega) rfl (Nat.le_of_ble_eq_true rfl) dX6_takeCond_2 (fun r2 τ2 h2 => ?_)
  refine jr_istore_n C dX6_takeCond_5 (by decide) ?_
  refine jr_iconst C (v := 0) dX6_takeCond_6 (by decide) ?_
  refine jr_istore_n C dX6_takeCond_7 (by decide) ?_
  refine jr_sub [(0, jf_r E 9), (1, .int p), (2, .int _), (3, .int 0)] rfl (l8 302 _ _ _ ?_ h2.2.2.1 h2.2.2.2 (by decide) (by decide) (by decide)); have qq : q_cond a n (q_not a n k) f = (match (q_and a n (q_not a n k)) f with | .inl r => q_loop a n qO (-5) (q_and a n (q_not a n k)) 300 r.1 r.2 | .inr e => .inr e) := rfl; cases ee : (q_and a n (q_not a n k)) f with | inl r => (rw [ee] at qq; have rk := iok f fle; rw [ee] at rk; obtain ⟨t1, t2, t3⟩ := h2.1 _ ee; exact Or.inl ⟨t1, r.1, r.2, t2, t3, qq, rk.2.2.1⟩) | inr e => (rw [ee] at qq; obtain ⟨t1, t2⟩ := h2.2.1 _ ee; exact Or.inr ⟨t1, e, qq, t2⟩)
theorem co_conds2 : ∀ k : Nat, (∀ (E : jf_E) (σ : jf_S) (vq : Value) (ad av : Nat → Nat) (p : Int32) (a : Nat → Int32) (n f : Nat) (S : List Int32), p.toInt = 8 - ((k : Int) : Int) → x_tk a n σ f → x_st σ S → S.length + 1 ≤ f → jf_IZ (js_Z vq ad av (jf_A jh_X E)) jh_X E yX6_takeNot cX6_takeNot 3 .boolean (6 + 3 * k) [jf_r E 9, .int p] σ (fun r τ => x_out a n S σ τ (q_not a n k f) r)) ∧ (∀ (E : jf_E) (σ : jf_S) (vq : Value) (ad av : Nat → Nat) (p : Int32) (a : Nat → Int32) (n f : Nat) (S : List Int32), p.toInt = 8 - ((k : Int) : Int) → x_tk a n σ f → x_st σ S → S.length + 1 ≤ f → jf_IZ (js_Z vq ad av (jf_A jh_X E)) jh_X E yX6_takeCond cX6_takeCond 4 .boolean (8 + 3 * k) [jf_r E 9, .int p] σ (fun r τ => x_out a n S σ τ (q_cond a n (q_not a n k) f) r)) := by
  have st : ∀ k : Nat, (∀ (E : jf_E) (σ : jf_S) (vq : Value) (ad av : Nat → Nat) (p : Int32) (a : Nat → Int32) (n f : Nat) (S : List Int32), p.toInt = 8 - ((k : Int) : Int) → x_tk a n σ f → x_st σ S → S.length + 1 ≤ f → jf_IZ (js_Z vq ad av (jf_A jh_X E)) jh_X E yX6_takeNot cX6_takeNot 3 .boolean (6 + 3 * k) [jf_r E 9, .int p] σ (fun r τ => x_out a n S σ τ (q_not a n k f) r)) → (∀ (E : jf_E) (σ : jf_S) (vq : Value) (ad av : Nat → Nat) (p : Int32) (a : Nat → Int32) (n f : Nat) (S : List Int32), p.toInt = 8 - ((k : Int) : Int) → x_tk a n σ f → x_st σ S → S.length + 1 ≤ f → jf_IZ (js_Z vq ad av (jf_A jh_X E)) jh_X E yX6_takeCond cX6_takeCond 4 .boolean (8 + 3 * k) [jf_r E 9, .int p] σ (fun r τ => x_out a n S σ τ (q_cond a n (q_not a n k) f) r)) :=
    fun k hN E σ vq ad av p a n f S hp h hs hS => co_takeCond2 E σ vq ad av p k a n f S hp h hs hS (fun E σ vq ad av p a n f S hp h hs hS => co_takeAnd2 E σ vq ad av p k a n f S hp h hs hS hN)
  intro k
  induction k with
  | zero =>
    have hN := fun (E : jf_E) (σ : jf_S) (vq : Value) (ad av : Nat → Nat) (p : Int32) (a : Nat → Int32) (n f : Nat) (S : List Int32) (hp : p.toInt = 8 - ((0 : Nat) : Int)) (h : x_tk a n σ f) (hs : x_st σ S) (hS : S.length + 1 ≤ f) => co_takeNot2 E σ vq ad av p 0 a n f S hp h hs hS (fun h => absurd rfl h) (fun h => absurd rfl h)
    exact ⟨hN, st 0 hN⟩
  | succ k ih =>
    have hN := fun (E : jf_E) (σ : jf_S) (vq : Value) (ad av : Nat → Nat) (p : Int32) (a : Nat → Int32) (n f : Nat) (S : List Int32) (hp : p.toInt = 8 - ((k + 1 : Nat) : Int)) (h : x_tk a n σ f) (hs : x_st σ S) (hS : S.length + 1 ≤ f) => co_takeNot2 E σ vq ad av p (k + 1) a n f S hp h hs hS (fun _ => ih.1) (fun _ => ih.2)
    exact ⟨hN, st (k + 1) hN⟩

