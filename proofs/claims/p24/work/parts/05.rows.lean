/-! rows over the frame: one an instruction -/
/-- a local by its number -/
def jf_lk (i : Nat) : List (Nat × Value) → Option Value
  | [] => none
  | q :: r => bif Nat.beq q.1 i then some q.2 else jf_lk i r
theorem jf_lk_mem {i : Nat} {v : Value} : ∀ {L : List (Nat × Value)}, jf_lk i L = some v → (i, v) ∈ L
  | [], h => by cases h
  | q :: r, h => by
    unfold jf_lk at h
    cases hb : Nat.beq q.1 i with
    | true =>
      rw [hb] at h
      have e : q.1 = i := Nat.eq_of_beq_eq_true hb
      have e2 : q.2 = v := Option.some.inj h
      rw [← e, ← e2]
      exact List.mem_cons_self
    | false =>
      rw [hb] at h
      exact List.mem_cons_of_mem _ (jf_lk_mem h)
theorem jf_lk_at {ls : Array Slot} {nL i : Nat} {L : List (Nat × Value)} {v : Value} (h : lv_has ls nL L) (hi : jf_lk i L = some v) : ls[i]? = some (.val v) := h.2.2 (i, v) (jf_lk_mem hi)
theorem jf_lk_ix {i : Nat} {v : Value} {L : List (Nat × Value)} (h : jf_lk i L = some v) : ∃ j : Nat, L[j]? = some (i, v) := List.getElem?_of_mem (jf_lk_mem h)
def jf_s1 (i : Nat) (v : Value) (L : List (Nat × Value)) : List (Nat × Value) := (i, v) :: L.filter (fun q => !(q.1 == i) && !(q.1 + 1 == i && q.2.category == 2))
def jf_s2 (i : Nat) (v : Value) (L : List (Nat × Value)) : List (Nat × Value) := (i, v) :: L.filter (fun q => !(q.1 == i) && (!(q.1 == i + 1) && !(q.1 + 1 == i && q.2.category == 2)))
theorem jf_lk_mem2 {i : Nat} {w : Value} {k : Nat} {v : Value} (hne : k ≠ i) : ∀ {L : List (Nat × Value)}, jf_lk k L = some w → w.category = 1 → jf_lk k (L.filter (fun q => !(q.1 == i) && !(q.1 + 1 == i && q.2.category == 2))) = some w
  | [], h, _ => by cases h
  | q :: r, h, hc => by
    unfold jf_lk at h
    cases hb : Nat.beq q.1 k with
    | true =>
      rw [hb] at h
      have e : q.1 = k := Nat.eq_of_beq_eq_true hb
      have e2 : q.2 = w := Option.some.inj h
      have hp : (!(q.1 == i) && !(q.1 + 1 == i && q.2.category == 2)) = true := by rw [e2, hc, e]; simp [hne]
      rw [List.filter_cons, if_pos hp]
      unfold jf_lk; rw [hb, e2]; rfl
    | false =>
      rw [hb] at h
      have ih := jf_lk_mem2 (v := v) hne (L := r) h hc
      rw [List.filter_cons]
      split
      · unfold jf_lk; rw [hb]; exact ih
      · exact ih
/-- a store leaves the other locals -/
theorem jf_lk_s1 {i k : Nat} {v w : Value} {L : List (Nat × Value)} (hne : k ≠ i) (h : jf_lk k L = some w) (hc : w.category = 1 := by rfl) : jf_lk k (jf_s1 i v L) = some w := by
  unfold jf_s1 jf_lk
  cases hb : Nat.beq i k with
  | true => exact absurd (Nat.eq_of_beq_eq_true hb).symm hne
  | false => exact jf_lk_mem2 (v := v) hne h hc
theorem jf_sub {ls : Array Slot} {nL : Nat} {L L' : List (Nat × Value)} (h : lv_has ls nL L) (hL : L'.map (fun q => jf_lk q.1 L) = L'.map (fun q => some q.2)) : lv_has ls nL L' := by
  refine ⟨h.1, h.2.1, fun q hq => ?_⟩
  obtain ⟨j, hj⟩ := List.getElem?_of_mem hq
  have e : (L'.map (fun q => jf_lk q.1 L))[j]? = (L'.map (fun q => some q.2))[j]? := by rw [hL]
  rw [List.getElem?_map, List.getElem?_map, hj] at e
  exact jf_lk_at h (Option.some.inj e)
theorem jn_eq {x : Int32} : x = 0 ↔ x.toInt = 0 := by rw [← Int32.toInt_inj]; rfl
theorem jn_eqf {x : Int32} : ¬ x = 0 ↔ ¬ x.toInt = 0 := not_congr jn_eq
theorem jn_ne {x : Int32} : ¬ x = 0 ↔ ¬ x.toInt = 0 := not_congr jn_eq
theorem jn_nef {x : Int32} : x = 0 ↔ x.toInt = 0 := jn_eq
theorem jn_lt {x : Int32} : x < 0 ↔ x.toInt < 0 := Int32.lt_iff_toInt_lt
theorem jn_ltf {x : Int32} : ¬ x < 0 ↔ ¬ x.toInt < 0 := not_congr jn_lt
theorem jn_ge {x : Int32} : 0 ≤ x ↔ 0 ≤ x.toInt := Int32.le_iff_toInt_le
theorem jn_gef {x : Int32} : ¬ 0 ≤ x ↔ ¬ 0 ≤ x.toInt := not_congr jn_ge
theorem jn_gt {x : Int32} : 0 < x ↔ 0 < x.toInt := Int32.lt_iff_toInt_lt
theorem jn_gtf {x : Int32} : ¬ 0 < x ↔ ¬ 0 < x.toInt := not_congr jn_gt
theorem jn_le {x : Int32} : x ≤ 0 ↔ x.toInt ≤ 0 := Int32.le_iff_toInt_le
theorem jn_lef {x : Int32} : ¬ x ≤ 0 ↔ ¬ x.toInt ≤ 0 := not_congr jn_le
theorem jn_ceq {x y : Int32} : x = y ↔ x.toInt = y.toInt := Int32.toInt_inj.symm
theorem jn_ceqf {x y : Int32} : ¬ x = y ↔ ¬ x.toInt = y.toInt := not_congr jn_ceq
theorem jn_cne {x y : Int32} : ¬ x = y ↔ ¬ x.toInt = y.toInt := not_congr jn_ceq
theorem jn_cnef {x y : Int32} : x = y ↔ x.toInt = y.toInt := jn_ceq
theorem jn_clt {x y : Int32} : x < y ↔ x.toInt < y.toInt := Int32.lt_iff_toInt_lt
theorem jn_cltf {x y : Int32} : ¬ x < y ↔ ¬ x.toInt < y.toInt := not_congr jn_clt
theorem jn_cge {x y : Int32} : y ≤ x ↔ y.toInt ≤ x.toInt := Int32.le_iff_toInt_le
theorem jn_cgef {x y : Int32} : ¬ y ≤ x ↔ ¬ y.toInt ≤ x.toInt := not_congr jn_cge
theorem jn_cgt {x y : Int32} : y < x ↔ y.toInt < x.toInt := Int32.lt_iff_toInt_lt
theorem jn_cgtf {x y : Int32} : ¬ y < x ↔ ¬ y.toInt < x.toInt := not_congr jn_cgt
theorem jn_cle {x y : Int32} : x ≤ y ↔ x.toInt ≤ y.toInt := Int32.le_iff_toInt_le
theorem jn_clef {x y : Int32} : ¬ x ≤ y ↔ ¬ x.toInt ≤ y.toInt := not_congr jn_cle
section JR
variable {sh : List jf_K} {E : jf_E} {G : jf_G} {nL d pc : Nat} {cc : ByteArray} {own : String} {L : List (Nat × Value)} {st : List Value} {σ : jf_S}
theorem jr_iconst (C : jf_C sh E G nL cc own d) {n : Int} {v : Int32} (hd : decode cc pc = .ok (.iconst n, 1)) (hv : Int32.ofInt n = v) (k : jf_X sh E G nL (pc + 1) L (.int v :: st) σ) : jf_X sh E G nL pc L st σ := by
  intro H locs ls hP hS hl
  exact lv_iconst C.1 C.2.1 hd hv (k H locs ls hP hS hl)
theorem jr_bipush (C : jf_C sh E G nL cc own d) {n : Int} {v : Int32} (hd : decode cc pc = .ok (.bipush n, 2)) (hv : (Int8.ofInt n).toInt32 = v) (k : jf_X sh E G nL (pc + 2) L (.int v :: st) σ) : jf_X sh E G nL pc L st σ := by
  intro H locs ls hP hS hl
  exact lv_bipush C.1 C.2.1 hd hv (k H locs ls hP hS hl)
theorem jr_sipush (C : jf_C sh E G nL cc own d) {n : Int} {v : Int32} (hd : decode cc pc = .ok (.sipush n, 3)) (hv : (Int16.ofInt n).toInt32 = v) (k : jf_X sh E G nL (pc + 3) L (.int v :: st) σ) : jf_X sh E G nL pc L st σ := by
  intro H locs ls hP hS hl
  exact lv_sipush C.1 C.2.1 hd hv (k H locs ls hP hS hl)
theorem jr_lconst (C : jf_C sh E G nL cc own d) {n : Fin 2} {v : Int64} (hd : decode cc pc = .ok (.lconst n, 1)) (hv : Int64.ofNat (n : Nat) = v) (k : jf_X sh E G nL (pc + 1) L (.long v :: st) σ) : jf_X sh E G nL pc L st σ := by
  intro H locs ls hP hS hl
  exact lv_lconst C.1 C.2.1 hd hv (k H locs ls hP hS hl)
theorem jr_ldc (C : jf_C sh E G nL cc own d) {idx : Nat} {v : Int32} (hw : Cond.constant own idx v ∈ jf_tb) (hd : decode cc pc = .ok (.ldc idx, 2)) (k : jf_X sh E G nL (pc + 2) L (.int v :: st) σ) : jf_X sh E G nL pc L st σ := by
  intro H locs ls hP hS hl
  exact lv_ldc C.1 C.2.1 C.2.2.2.1 (C.2.2.2.2.1 _ hw) hd (k H locs ls hP hS hl)
theorem jr_ldc2 (C : jf_C sh E G nL cc own d) {idx : Nat} {v : Int64} (hw : Cond.constantLong own idx v ∈ jf_tb) (hd : decode cc pc = .ok (.ldc2_w idx, 3)) (k : jf_X sh E G nL (pc + 3) L (.long v :: st) σ) : jf_X sh E G nL pc L st σ := by
  intro H locs ls hP hS hl
  exact lv_ldc2 C.1 C.2.1 C.2.2.2.1 (C.2.2.2.2.1 _ hw) hd (k H locs ls hP hS hl)
theorem jr_iload_n (C : jf_C sh E G nL cc own d) {k : Fin 4} {x : Int32} (hd : decode cc pc = .ok (.iload_n k, 1)) (hL : jf_lk (k : Nat) L = some (.int x)) (kk : jf_X sh E G nL (pc + 1) L (.int x :: st) σ) : jf_X sh E G nL pc L st σ := by
  intro H locs ls hP hS hl
  exact lv_iload_n C.1 C.2.1 hd rfl (jf_lk_at hl hL) (kk H locs ls hP hS hl)
theorem jr_iload (C : jf_C sh E G nL cc own d) {i : Nat} {x : Int32} (hd : decode cc pc = .ok (.iload i, 2)) (hL : jf_lk i L = some (.int x)) (kk : jf_X sh E G nL (pc + 2) L (.int x :: st) σ) : jf_X sh E G nL pc L st σ := by
  intro H locs ls hP hS hl
  exact lv_iload C.1 C.2.1 hd (jf_lk_at hl hL) (kk H locs ls hP hS hl)
theorem jr_lload_n (C : jf_C sh E G nL cc own d) {k : Fin 4} {x : Int64} (hd : decode cc pc = .ok (.lload_n k, 1)) (hL : jf_lk (k : Nat) L = some (.long x)) (kk : jf_X sh E G nL (pc + 1) L (.long x :: st) σ) : jf_X sh E G nL pc L st σ := by
  intro H locs ls hP hS hl
  exact lv_lload_n C.1 C.2.1 hd rfl (jf_lk_at hl hL) (kk H locs ls hP hS hl)
theorem jr_lload (C : jf_C sh E G nL cc own d) {i : Nat} {x : Int64} (hd : decode cc pc = .ok (.lload i, 2)) (hL : jf_lk i L = some (.long x)) (kk : jf_X sh E G nL (pc + 2) L (.long x :: st) σ) : jf_X sh E G nL pc L st σ := by
  intro H locs ls hP hS hl
  exact lv_lload C.1 C.2.1 hd (jf_lk_at hl hL) (kk H locs ls hP hS hl)
theorem jr_aload_n (C : jf_C sh E G nL cc own d) {k : Fin 4} {x : Nat} (hd : decode cc pc = .ok (.aload_n k, 1)) (hL : jf_lk (k : Nat) L = some (.ref x)) (kk : jf_X sh E G nL (pc + 1) L (.ref x :: st) σ) : jf_X sh E G nL pc L st σ := by
  intro H locs ls hP hS hl
  exact lv_aload_n C.1 C.2.1 hd rfl (jf_lk_at hl hL) (kk H locs ls hP hS hl)
theorem jr_aload (C : jf_C sh E G nL cc own d) {i : Nat} {x : Nat} (hd : decode cc pc = .ok (.aload i, 2)) (hL : jf_lk i L = some (.ref x)) (kk : jf_X sh E G nL (pc + 2) L (.ref x :: st) σ) : jf_X sh E G nL pc L st σ := by
  intro H locs ls hP hS hl
  exact lv_aload C.1 C.2.1 hd (jf_lk_at hl hL) (kk H locs ls hP hS hl)
theorem jr_istore_n (C : jf_C sh E G nL cc own d) {k : Fin 4} {x : Int32} (hd : decode cc pc = .ok (.istore_n k, 1)) (hn : (k : Nat) < nL) (kk : jf_X sh E G nL (pc + 1) (jf_s1 (k : Nat) (.int x) L) st σ) : jf_X sh E G nL pc L (.int x :: st) σ := by
  intro H locs ls hP hS hl
  exact lv_istore_n C.1 C.2.1 hd rfl hl hn rfl (fun ls' hl' => kk H locs ls' hP hS hl')
theorem jr_istore (C : jf_C sh E G nL cc own d) {i : Nat} {x : Int32} (hd : decode cc pc = .ok (.istore i, 2)) (hn : i < nL) (kk : jf_X sh E G nL (pc + 2) (jf_s1 i (.int x) L) st σ) : jf_X sh E G nL pc L (.int x :: st) σ := by
  intro H locs ls hP hS hl
  exact lv_istore C.1 C.2.1 hd hl hn rfl (fun ls' hl' => kk H locs ls' hP hS hl')
theorem jr_lstore_n (C : jf_C sh E G nL cc own d) {k : Fin 4} {x : Int64} (hd : decode cc pc = .ok (.lstore_n k, 1)) (hn : (k : Nat) + 1 < nL) (kk : jf_X sh E G nL (pc + 1) (jf_s2 (k : Nat) (.long x) L) st σ) : jf_X sh E G nL pc L (.long x :: st) σ := by
  intro H locs ls hP hS hl
  exact lv_lstore_n C.1 C.2.1 hd rfl hl hn rfl (fun ls' hl' => kk H locs ls' hP hS hl')
theorem jr_lstore (C : jf_C sh E G nL cc own d) {i : Nat} {x : Int64} (hd : decode cc pc = .ok (.lstore i, 2)) (hn : i + 1 < nL) (kk : jf_X sh E G nL (pc + 2) (jf_s2 i (.long x) L) st σ) : jf_X sh E G nL pc L (.long x :: st) σ := by
  intro H locs ls hP hS hl
  exact lv_lstore C.1 C.2.1 hd hl hn rfl (fun ls' hl' => kk H locs ls' hP hS hl')
theorem jr_astore_n (C : jf_C sh E G nL cc own d) {k : Fin 4} {x : Nat} (hd : decode cc pc = .ok (.astore_n k, 1)) (hn : (k : Nat) < nL) (kk : jf_X sh E G nL (pc + 1) (jf_s1 (k : Nat) (.ref x) L) st σ) : jf_X sh E G nL pc L (.ref x :: st) σ := by
  intro H locs ls hP hS hl
  exact lv_astore_n C.1 C.2.1 hd rfl hl hn rfl (fun ls' hl' => kk H locs ls' hP hS hl')
theorem jr_astore (C : jf_C sh E G nL cc own d) {i : Nat} {x : Nat} (hd : decode cc pc = .ok (.astore i, 2)) (hn : i < nL) (kk : jf_X sh E G nL (pc + 2) (jf_s1 i (.ref x) L) st σ) : jf_X sh E G nL pc L (.ref x :: st) σ := by
  intro H locs ls hP hS hl
  exact lv_astore C.1 C.2.1 hd hl hn rfl (fun ls' hl' => kk H locs ls' hP hS hl')
theorem jr_iinc (C : jf_C sh E G nL cc own d) {i : Nat} {n : Int} {x : Int32} (v : Int32) (hd : decode cc pc = .ok (.iinc i n, 3)) (hj : jf_lk i L = some (.int x)) (hv : x + Int32.ofInt n = v) (hn : i < nL) (kk : jf_X sh E G nL (pc + 3) (jf_s1 i (.int v) L) st σ) : jf_X sh E G nL pc L st σ := by
  intro H locs ls hP hS hl
  obtain ⟨j, hj⟩ := jf_lk_ix hj
  exact lv_iinc C.1 C.2.1 hd hl hj hv hn rfl (fun ls' hl' => kk H locs ls' hP hS hl')
theorem jr_iadd (C : jf_C sh E G nL cc own d) {x y : Int32} (hd : decode cc pc = .ok (.iadd, 1)) (k : jf_X sh E G nL (pc + 1) L (.int (x + y) :: st) σ) : jf_X sh E G nL pc L (.int y :: .int x :: st) σ := by
  intro H locs ls hP hS hl
  exact lv_iadd C.1 C.2.1 hd (k H locs ls hP hS hl)
theorem jr_isub (C : jf_C sh E G nL cc own d) {x y : Int32} (hd : decode cc pc = .ok (.isub, 1)) (k : jf_X sh E G nL (pc + 1) L (.int (x - y) :: st) σ) : jf_X sh E G nL pc L (.int y :: .int x :: st) σ := by
  intro H locs ls hP hS hl
  exact lv_isub C.1 C.2.1 hd (k H locs ls hP hS hl)
theorem jr_imul (C : jf_C sh E G nL cc own d) {x y : Int32} (hd : decode cc pc = .ok (.imul, 1)) (k : jf_X sh E G nL (pc + 1) L (.int (x * y) :: st) σ) : jf_X sh E G nL pc L (.int y :: .int x :: st) σ := by
  intro H locs ls hP hS hl
  exact lv_imul C.1 C.2.1 hd (k H locs ls hP hS hl)
theorem jr_iand (C : jf_C sh E G nL cc own d) {x y : Int32} (hd : decode cc pc = .ok (.iand, 1)) (k : jf_X sh E G nL (pc + 1) L (.int (x &&& y) :: st) σ) : jf_X sh E G nL pc L (.int y :: .int x :: st) σ := by
  intro H locs ls hP hS hl
  exact lv_iand C.1 C.2.1 hd (k H locs ls hP hS hl)
theorem jr_ior (C : jf_C sh E G nL cc own d) {x y : Int32} (hd : decode cc pc = .ok (.ior, 1)) (k : jf_X sh E G nL (pc + 1) L (.int (x ||| y) :: st) σ) : jf_X sh E G nL pc L (.int y :: .int x :: st) σ := by
  intro H locs ls hP hS hl
  exact lv_ior C.1 C.2.1 hd (k H locs ls hP hS hl)
theorem jr_ixor (C : jf_C sh E G nL cc own d) {x y : Int32} (hd : decode cc pc = .ok (.ixor, 1)) (k : jf_X sh E G nL (pc + 1) L (.int (x ^^^ y) :: st) σ) : jf_X sh E G nL pc L (.int y :: .int x :: st) σ := by
  intro H locs ls hP hS hl
  exact lv_ixor C.1 C.2.1 hd (k H locs ls hP hS hl)
theorem jr_ishl (C : jf_C sh E G nL cc own d) {x y : Int32} (hd : decode cc pc = .ok (.ishl, 1)) (k : jf_X sh E G nL (pc + 1) L (.int (x <<< (y &&& 31)) :: st) σ) : jf_X sh E G nL pc L (.int y :: .int x :: st) σ := by
  intro H locs ls hP hS hl
  exact lv_ishl C.1 C.2.1 hd (k H locs ls hP hS hl)
theorem jr_ishr (C : jf_C sh E G nL cc own d) {x y : Int32} (hd : decode cc pc = .ok (.ishr, 1)) (k : jf_X sh E G nL (pc + 1) L (.int (x >>> (y &&& 31)) :: st) σ) : jf_X sh E G nL pc L (.int y :: .int x :: st) σ := by
  intro H locs ls hP hS hl
  exact lv_ishr C.1 C.2.1 hd (k H locs ls hP hS hl)
theorem jr_iushr (C : jf_C sh E G nL cc own d) {x y : Int32} (hd : decode cc pc = .ok (.iushr, 1)) (k : jf_X sh E G nL (pc + 1) L (.int ((x.toUInt32 >>> (y.toUInt32 &&& Int32.toUInt32 31)).toInt32) :: st) σ) : jf_X sh E G nL pc L (.int y :: .int x :: st) σ := by
  intro H locs ls hP hS hl
  exact lv_iushr C.1 C.2.1 hd rfl (k H locs ls hP hS hl)
theorem jr_idiv (C : jf_C sh E G nL cc own d) {x y : Int32} (hd : decode cc pc = .ok (.idiv, 1)) (hne : ¬ y = 0) (k : jf_X sh E G nL (pc + 1) L (.int (x / y) :: st) σ) : jf_X sh E G nL pc L (.int y :: .int x :: st) σ := by
  intro H locs ls hP hS hl
  exact lv_idiv C.1 C.2.1 hd hne (k H locs ls hP hS hl)
theorem jr_irem (C : jf_C sh E G nL cc own d) {x y : Int32} (hd : decode cc pc = .ok (.irem, 1)) (hne : ¬ y = 0) (k : jf_X sh E G nL (pc + 1) L (.int (x - x / y * y) :: st) σ) : jf_X sh E G nL pc L (.int y :: .int x :: st) σ := by
  intro H locs ls hP hS hl
  exact lv_irem C.1 C.2.1 hd hne (k H locs ls hP hS hl)
theorem jr_ladd (C : jf_C sh E G nL cc own d) {x y : Int64} (hd : decode cc pc = .ok (.ladd, 1)) (k : jf_X sh E G nL (pc + 1) L (.long (x + y) :: st) σ) : jf_X sh E G nL pc L (.long y :: .long x :: st) σ := by
  intro H locs ls hP hS hl
  exact lv_ladd C.1 C.2.1 hd (k H locs ls hP hS hl)
theorem jr_lsub (C : jf_C sh E G nL cc own d) {x y : Int64} (hd : decode cc pc = .ok (.lsub, 1)) (k : jf_X sh E G nL (pc + 1) L (.long (x - y) :: st) σ) : jf_X sh E G nL pc L (.long y :: .long x :: st) σ := by
  intro H locs ls hP hS hl
  exact lv_lsub C.1 C.2.1 hd (k H locs ls hP hS hl)
theorem jr_lmul (C : jf_C sh E G nL cc own d) {x y : Int64} (hd : decode cc pc = .ok (.lmul, 1)) (k : jf_X sh E G nL (pc + 1) L (.long (x * y) :: st) σ) : jf_X sh E G nL pc L (.long y :: .long x :: st) σ := by
  intro H locs ls hP hS hl
  exact lv_lmul C.1 C.2.1 hd (k H locs ls hP hS hl)
theorem jr_land (C : jf_C sh E G nL cc own d) {x y : Int64} (hd : decode cc pc = .ok (.land, 1)) (k : jf_X sh E G nL (pc + 1) L (.long (x &&& y) :: st) σ) : jf_X sh E G nL pc L (.long y :: .long x :: st) σ := by
  intro H locs ls hP hS hl
  exact lv_land C.1 C.2.1 hd (k H locs ls hP hS hl)
theorem jr_lor (C : jf_C sh E G nL cc own d) {x y : Int64} (hd : decode cc pc = .ok (.lor, 1)) (k : jf_X sh E G nL (pc + 1) L (.long (x ||| y) :: st) σ) : jf_X sh E G nL pc L (.long y :: .long x :: st) σ := by
  intro H locs ls hP hS hl
  exact lv_lor C.1 C.2.1 hd (k H locs ls hP hS hl)
theorem jr_lxor (C : jf_C sh E G nL cc own d) {x y : Int64} (hd : decode cc pc = .ok (.lxor, 1)) (k : jf_X sh E G nL (pc + 1) L (.long (x ^^^ y) :: st) σ) : jf_X sh E G nL pc L (.long y :: .long x :: st) σ := by
  intro H locs ls hP hS hl
  exact lv_lxor C.1 C.2.1 hd (k H locs ls hP hS hl)
theorem jr_lcmp (C : jf_C sh E G nL cc own d) {x y : Int64} (hd : decode cc pc = .ok (.lcmp, 1)) (k : jf_X sh E G nL (pc + 1) L (.int (lg_cmp x y) :: st) σ) : jf_X sh E G nL pc L (.long y :: .long x :: st) σ := by
  intro H locs ls hP hS hl
  exact W.lcmp C.1 C.2.1 hd (k H locs ls hP hS hl)
theorem jr_i2l (C : jf_C sh E G nL cc own d) {x : Int32} (hd : decode cc pc = .ok (.i2l, 1)) (k : jf_X sh E G nL (pc + 1) L (.long x.toInt64 :: st) σ) : jf_X sh E G nL pc L (.int x :: st) σ := by
  intro H locs ls hP hS hl
  exact lv_i2l C.1 C.2.1 hd rfl (k H locs ls hP hS hl)
theorem jr_l2i (C : jf_C sh E G nL cc own d) {x : Int64} (hd : decode cc pc = .ok (.l2i, 1)) (k : jf_X sh E G nL (pc + 1) L (.int x.toInt32 :: st) σ) : jf_X sh E G nL pc L (.long x :: st) σ := by
  intro H locs ls hP hS hl
  exact lv_l2i C.1 C.2.1 hd rfl (k H locs ls hP hS hl)
theorem jr_lshl (C : jf_C sh E G nL cc own d) {x : Int64} {y : Int32} (hd : decode cc pc = .ok (.lshl, 1)) (k : jf_X sh E G nL (pc + 1) L (.long (x <<< (y.toInt64 &&& 63)) :: st) σ) : jf_X sh E G nL pc L (.int y :: .long x :: st) σ := by
  intro H locs ls hP hS hl
  exact lv_lshl C.1 C.2.1 hd rfl (k H locs ls hP hS hl)
theorem jr_lshr (C : jf_C sh E G nL cc own d) {x : Int64} {y : Int32} (hd : decode cc pc = .ok (.lshr, 1)) (k : jf_X sh E G nL (pc + 1) L (.long (x >>> (y.toInt64 &&& 63)) :: st) σ) : jf_X sh E G nL pc L (.int y :: .long x :: st) σ := by
  intro H locs ls hP hS hl
  exact lv_lshr C.1 C.2.1 hd rfl (k H locs ls hP hS hl)
theorem jr_dup (C : jf_C sh E G nL cc own d) {a : Value} (hd : decode cc pc = .ok (.dup, 1)) (ha : a.category = 1) (k : jf_X sh E G nL (pc + 1) L (a :: a :: st) σ) : jf_X sh E G nL pc L (a :: st) σ := by
  intro H locs ls hP hS hl
  exact lv_dup C.1 C.2.1 hd ha (k H locs ls hP hS hl)
theorem jr_pop (C : jf_C sh E G nL cc own d) {a : Value} (hd : decode cc pc = .ok (.pop, 1)) (ha : a.category = 1) (k : jf_X sh E G nL (pc + 1) L st σ) : jf_X sh E G nL pc L (a :: st) σ := by
  intro H locs ls hP hS hl
  exact lv_pop C.1 C.2.1 hd ha (k H locs ls hP hS hl)
theorem jr_dup_x1 (C : jf_C sh E G nL cc own d) {a b : Value} (hd : decode cc pc = .ok (.dup_x1, 1)) (ha : a.category = 1) (hb : b.category = 1) (k : jf_X sh E G nL (pc + 1) L (a :: b :: a :: st) σ) : jf_X sh E G nL pc L (a :: b :: st) σ := by
  intro H locs ls hP hS hl
  exact lv_dup_x1 C.1 C.2.1 hd ha hb (k H locs ls hP hS hl)
theorem jr_dup2 (C : jf_C sh E G nL cc own d) {a b : Value} (hd : decode cc pc = .ok (.dup2, 1)) (ha : a.category = 1) (hb : b.category = 1) (k : jf_X sh E G nL (pc + 1) L (a :: b :: a :: b :: st) σ) : jf_X sh E G nL pc L (a :: b :: st) σ := by
  intro H locs ls hP hS hl
  exact lv_dup2_11 C.1 C.2.1 hd ha hb (k H locs ls hP hS hl)
theorem jr_if_eq (C : jf_C sh E G nL cc own d) {x : Int32} {off : Int} (tgt : Nat) (hd : decode cc pc = .ok (.ifCond .eq off, 3)) (ht : (pc : Int) + off = (tgt : Int)) (kt : x = 0 → jf_X sh E G nL tgt L st σ) (kf : ¬ x = 0 → jf_X sh E G nL (pc + 3) L st σ) : jf_X sh E G nL pc L (.int x :: st) σ := by
  intro H locs ls hP hS hl
  exact lv_if_eq C.1 C.2.1 hd ht (fun q => kt q H locs ls hP hS hl) (fun q => kf q H locs ls hP hS hl)
theorem jr_if_ne (C : jf_C sh E G nL cc own d) {x : Int32} {off : Int} (tgt : Nat) (hd : decode cc pc = .ok (.ifCond .ne off, 3)) (ht : (pc : Int) + off = (tgt : Int)) (kt : ¬ x = 0 → jf_X sh E G nL tgt L st σ) (kf : x = 0 → jf_X sh E G nL (pc + 3) L st σ) : jf_X sh E G nL pc L (.int x :: st) σ := by
  intro H locs ls hP hS hl
  exact lv_if_ne C.1 C.2.1 hd ht (fun q => kt q H locs ls hP hS hl) (fun q => kf q H locs ls hP hS hl)
theorem jr_if_lt (C : jf_C sh E G nL cc own d) {x : Int32} {off : Int} (tgt : Nat) (hd : decode cc pc = .ok (.ifCond .lt off, 3)) (ht : (pc : Int) + off = (tgt : Int)) (kt : x < 0 → jf_X sh E G nL tgt L st σ) (kf : ¬ x < 0 → jf_X sh E G nL (pc + 3) L st σ) : jf_X sh E G nL pc L (.int x :: st) σ := by
  intro H locs ls hP hS hl
  exact lv_if_lt C.1 C.2.1 hd ht (fun q => kt q H locs ls hP hS hl) (fun q => kf q H locs ls hP hS hl)
theorem jr_if_ge (C : jf_C sh E G nL cc own d) {x : Int32} {off : Int} (tgt : Nat) (hd : decode cc pc = .ok (.ifCond .ge off, 3)) (ht : (pc : Int) + off = (tgt : Int)) (kt : 0 ≤ x → jf_X sh E G nL tgt L st σ) (kf : ¬ 0 ≤ x → jf_X sh E G nL (pc + 3) L st σ) : jf_X sh E G nL pc L (.int x :: st) σ := by
  intro H locs ls hP hS hl
  exact lv_if_ge C.1 C.2.1 hd ht (fun q => kt q H locs ls hP hS hl) (fun q => kf q H locs ls hP hS hl)
theorem jr_if_gt (C : jf_C sh E G nL cc own d) {x : Int32} {off : Int} (tgt : Nat) (hd : decode cc pc = .ok (.ifCond .gt off, 3)) (ht : (pc : Int) + off = (tgt : Int)) (kt : 0 < x → jf_X sh E G nL tgt L st σ) (kf : ¬ 0 < x → jf_X sh E G nL (pc + 3) L st σ) : jf_X sh E G nL pc L (.int x :: st) σ := by
  intro H locs ls hP hS hl
  exact lv_if_gt C.1 C.2.1 hd ht (fun q => kt q H locs ls hP hS hl) (fun q => kf q H locs ls hP hS hl)
theorem jr_if_le (C : jf_C sh E G nL cc own d) {x : Int32} {off : Int} (tgt : Nat) (hd : decode cc pc = .ok (.ifCond .le off, 3)) (ht : (pc : Int) + off = (tgt : Int)) (kt : x ≤ 0 → jf_X sh E G nL tgt L st σ) (kf : ¬ x ≤ 0 → jf_X sh E G nL (pc + 3) L st σ) : jf_X sh E G nL pc L (.int x :: st) σ := by
  intro H locs ls hP hS hl
  exact lv_if_le C.1 C.2.1 hd ht (fun q => kt q H locs ls hP hS hl) (fun q => kf q H locs ls hP hS hl)
theorem jr_icmp_eq (C : jf_C sh E G nL cc own d) {x y : Int32} {off : Int} (tgt : Nat) (hd : decode cc pc = .ok (.if_icmp .eq off, 3)) (ht : (pc : Int) + off = (tgt : Int)) (kt : x = y → jf_X sh E G nL tgt L st σ) (kf : ¬ x = y → jf_X sh E G nL (pc + 3) L st σ) : jf_X sh E G nL pc L (.int y :: .int x :: st) σ := by
  intro H locs ls hP hS hl
  exact lv_icmp_eq C.1 C.2.1 hd ht (fun q => kt q H locs ls hP hS hl) (fun q => kf q H locs ls hP hS hl)
theorem jr_icmp_ne (C : jf_C sh E G nL cc own d) {x y : Int32} {off : Int} (tgt : Nat) (hd : decode cc pc = .ok (.if_icmp .ne off, 3)) (ht : (pc : Int) + off = (tgt : Int)) (kt : ¬ x = y → jf_X sh E G nL tgt L st σ) (kf : x = y → jf_X sh E G nL (pc + 3) L st σ) : jf_X sh E G nL pc L (.int y :: .int x :: st) σ := by
  intro H locs ls hP hS hl
  exact lv_icmp_ne C.1 C.2.1 hd ht (fun q => kt q H locs ls hP hS hl) (fun q => kf q H locs ls hP hS hl)
theorem jr_icmp_lt (C : jf_C sh E G nL cc own d) {x y : Int32} {off : Int} (tgt : Nat) (hd : decode cc pc = .ok (.if_icmp .lt off, 3)) (ht : (pc : Int) + off = (tgt : Int)) (kt : x < y → jf_X sh E G nL tgt L st σ) (kf : ¬ x < y → jf_X sh E G nL (pc + 3) L st σ) : jf_X sh E G nL pc L (.int y :: .int x :: st) σ := by
  intro H locs ls hP hS hl
  exact lv_icmp_lt C.1 C.2.1 hd ht (fun q => kt q H locs ls hP hS hl) (fun q => kf q H locs ls hP hS hl)
theorem jr_icmp_ge (C : jf_C sh E G nL cc own d) {x y : Int32} {off : Int} (tgt : Nat) (hd : decode cc pc = .ok (.if_icmp .ge off, 3)) (ht : (pc : Int) + off = (tgt : Int)) (kt : y ≤ x → jf_X sh E G nL tgt L st σ) (kf : ¬ y ≤ x → jf_X sh E G nL (pc + 3) L st σ) : jf_X sh E G nL pc L (.int y :: .int x :: st) σ := by
  intro H locs ls hP hS hl
  exact lv_icmp_ge C.1 C.2.1 hd ht (fun q => kt q H locs ls hP hS hl) (fun q => kf q H locs ls hP hS hl)
theorem jr_icmp_gt (C : jf_C sh E G nL cc own d) {x y : Int32} {off : Int} (tgt : Nat) (hd : decode cc pc = .ok (.if_icmp .gt off, 3)) (ht : (pc : Int) + off = (tgt : Int)) (kt : y < x → jf_X sh E G nL tgt L st σ) (kf : ¬ y < x → jf_X sh E G nL (pc + 3) L st σ) : jf_X sh E G nL pc L (.int y :: .int x :: st) σ := by
  intro H locs ls hP hS hl
  exact lv_icmp_gt C.1 C.2.1 hd ht (fun q => kt q H locs ls hP hS hl) (fun q => kf q H locs ls hP hS hl)
theorem jr_icmp_le (C : jf_C sh E G nL cc own d) {x y : Int32} {off : Int} (tgt : Nat) (hd : decode cc pc = .ok (.if_icmp .le off, 3)) (ht : (pc : Int) + off = (tgt : Int)) (kt : x ≤ y → jf_X sh E G nL tgt L st σ) (kf : ¬ x ≤ y → jf_X sh E G nL (pc + 3) L st σ) : jf_X sh E G nL pc L (.int y :: .int x :: st) σ := by
  intro H locs ls hP hS hl
  exact lv_icmp_le C.1 C.2.1 hd ht (fun q => kt q H locs ls hP hS hl) (fun q => kf q H locs ls hP hS hl)
theorem jr_nif_eq (C : jf_C sh E G nL cc own d) {x : Int32} {off : Int} (tgt : Nat) (hd : decode cc pc = .ok (.ifCond .eq off, 3)) (ht : (pc : Int) + off = (tgt : Int)) (kt : x.toInt = 0 → jf_X sh E G nL tgt L st σ) (kf : ¬ x.toInt = 0 → jf_X sh E G nL (pc + 3) L st σ) : jf_X sh E G nL pc L (.int x :: st) σ := by
  intro H locs ls hP hS hl
  exact jr_if_eq C tgt hd ht (fun q => kt (jn_eq.mp q)) (fun q => kf (jn_eqf.mp q)) H locs ls hP hS hl
theorem jr_nif_ne (C : jf_C sh E G nL cc own d) {x : Int32} {off : Int} (tgt : Nat) (hd : decode cc pc = .ok (.ifCond .ne off, 3)) (ht : (pc : Int) + off = (tgt : Int)) (kt : ¬ x.toInt = 0 → jf_X sh E G nL tgt L st σ) (kf : x.toInt = 0 → jf_X sh E G nL (pc + 3) L st σ) : jf_X sh E G nL pc L (.int x :: st) σ := by
  intro H locs ls hP hS hl
  exact jr_if_ne C tgt hd ht (fun q => kt (jn_ne.mp q)) (fun q => kf (jn_nef.mp q)) H locs ls hP hS hl
theorem jr_nif_lt (C : jf_C sh E G nL cc own d) {x : Int32} {off : Int} (tgt : Nat) (hd : decode cc pc = .ok (.ifCond .lt off, 3)) (ht : (pc : Int) + off = (tgt : Int)) (kt : x.toInt < 0 → jf_X sh E G nL tgt L st σ) (kf : ¬ x.toInt < 0 → jf_X sh E G nL (pc + 3) L st σ) : jf_X sh E G nL pc L (.int x :: st) σ := by
  intro H locs ls hP hS hl
  exact jr_if_lt C tgt hd ht (fun q => kt (jn_lt.mp q)) (fun q => kf (jn_ltf.mp q)) H locs ls hP hS hl
theorem jr_nif_ge (C : jf_C sh E G nL cc own d) {x : Int32} {off : Int} (tgt : Nat) (hd : decode cc pc = .ok (.ifCond .ge off, 3)) (ht : (pc : Int) + off = (tgt : Int)) (kt : 0 ≤ x.toInt → jf_X sh E G nL tgt L st σ) (kf : ¬ 0 ≤ x.toInt → jf_X sh E G nL (pc + 3) L st σ) : jf_X sh E G nL pc L (.int x :: st) σ := by
  intro H locs ls hP hS hl
  exact jr_if_ge C tgt hd ht (fun q => kt (jn_ge.mp q)) (fun q => kf (jn_gef.mp q)) H locs ls hP hS hl
theorem jr_nif_gt (C : jf_C sh E G nL cc own d) {x : Int32} {off : Int} (tgt : Nat) (hd : decode cc pc = .ok (.ifCond .gt off, 3)) (ht : (pc : Int) + off = (tgt : Int)) (kt : 0 < x.toInt → jf_X sh E G nL tgt L st σ) (kf : ¬ 0 < x.toInt → jf_X sh E G nL (pc + 3) L st σ) : jf_X sh E G nL pc L (.int x :: st) σ := by
  intro H locs ls hP hS hl
  exact jr_if_gt C tgt hd ht (fun q => kt (jn_gt.mp q)) (fun q => kf (jn_gtf.mp q)) H locs ls hP hS hl
theorem jr_nif_le (C : jf_C sh E G nL cc own d) {x : Int32} {off : Int} (tgt : Nat) (hd : decode cc pc = .ok (.ifCond .le off, 3)) (ht : (pc : Int) + off = (tgt : Int)) (kt : x.toInt ≤ 0 → jf_X sh E G nL tgt L st σ) (kf : ¬ x.toInt ≤ 0 → jf_X sh E G nL (pc + 3) L st σ) : jf_X sh E G nL pc L (.int x :: st) σ := by
  intro H locs ls hP hS hl
  exact jr_if_le C tgt hd ht (fun q => kt (jn_le.mp q)) (fun q => kf (jn_lef.mp q)) H locs ls hP hS hl
theorem jr_ncmp_eq (C : jf_C sh E G nL cc own d) {x y : Int32} {a b : Int} {off : Int} (tgt : Nat) (hd : decode cc pc = .ok (.if_icmp .eq off, 3)) (ht : (pc : Int) + off = (tgt : Int)) (hx : x.toInt = a) (hy : y.toInt = b) (kt : a = b → jf_X sh E G nL tgt L st σ) (kf : ¬ a = b → jf_X sh E G nL (pc + 3) L st σ) : jf_X sh E G nL pc L (.int y :: .int x :: st) σ := by
  intro H locs ls hP hS hl
  subst hx; subst hy; exact jr_icmp_eq C tgt hd ht (fun q => kt (jn_ceq.mp q)) (fun q => kf (jn_ceqf.mp q)) H locs ls hP hS hl
theorem jr_ncmp_ne (C : jf_C sh E G nL cc own d) {x y : Int32} {a b : Int} {off : Int} (tgt : Nat) (hd : decode cc pc = .ok (.if_icmp .ne off, 3)) (ht : (pc : Int) + off = (tgt : Int)) (hx : x.toInt = a) (hy : y.toInt = b) (kt : ¬ a = b → jf_X sh E G nL tgt L st σ) (kf : a = b → jf_X sh E G nL (pc + 3) L st σ) : jf_X sh E G nL pc L (.int y :: .int x :: st) σ := by
  intro H locs ls hP hS hl
  subst hx; subst hy; exact jr_icmp_ne C tgt hd ht (fun q => kt (jn_cne.mp q)) (fun q => kf (jn_cnef.mp q)) H locs ls hP hS hl
theorem jr_ncmp_lt (C : jf_C sh E G nL cc own d) {x y : Int32} {a b : Int} {off : Int} (tgt : Nat) (hd : decode cc pc = .ok (.if_icmp .lt off, 3)) (ht : (pc : Int) + off = (tgt : Int)) (hx : x.toInt = a) (hy : y.toInt = b) (kt : a < b → jf_X sh E G nL tgt L st σ) (kf : ¬ a < b → jf_X sh E G nL (pc + 3) L st σ) : jf_X sh E G nL pc L (.int y :: .int x :: st) σ := by
  intro H locs ls hP hS hl
  subst hx; subst hy; exact jr_icmp_lt C tgt hd ht (fun q => kt (jn_clt.mp q)) (fun q => kf (jn_cltf.mp q)) H locs ls hP hS hl
theorem jr_ncmp_ge (C : jf_C sh E G nL cc own d) {x y : Int32} {a b : Int} {off : Int} (tgt : Nat) (hd : decode cc pc = .ok (.if_icmp .ge off, 3)) (ht : (pc : Int) + off = (tgt : Int)) (hx : x.toInt = a) (hy : y.toInt = b) (kt : b ≤ a → jf_X sh E G nL tgt L st σ) (kf : ¬ b ≤ a → jf_X sh E G nL (pc + 3) L st σ) : jf_X sh E G nL pc L (.int y :: .int x :: st) σ := by
  intro H locs ls hP hS hl
  subst hx; subst hy; exact jr_icmp_ge C tgt hd ht (fun q => kt (jn_cge.mp q)) (fun q => kf (jn_cgef.mp q)) H locs ls hP hS hl
theorem jr_ncmp_gt (C : jf_C sh E G nL cc own d) {x y : Int32} {a b : Int} {off : Int} (tgt : Nat) (hd : decode cc pc = .ok (.if_icmp .gt off, 3)) (ht : (pc : Int) + off = (tgt : Int)) (hx : x.toInt = a) (hy : y.toInt = b) (kt : b < a → jf_X sh E G nL tgt L st σ) (kf : ¬ b < a → jf_X sh E G nL (pc + 3) L st σ) : jf_X sh E G nL pc L (.int y :: .int x :: st) σ := by
  intro H locs ls hP hS hl
  subst hx; subst hy; exact jr_icmp_gt C tgt hd ht (fun q => kt (jn_cgt.mp q)) (fun q => kf (jn_cgtf.mp q)) H locs ls hP hS hl
theorem jr_ncmp_le (C : jf_C sh E G nL cc own d) {x y : Int32} {a b : Int} {off : Int} (tgt : Nat) (hd : decode cc pc = .ok (.if_icmp .le off, 3)) (ht : (pc : Int) + off = (tgt : Int)) (hx : x.toInt = a) (hy : y.toInt = b) (kt : a ≤ b → jf_X sh E G nL tgt L st σ) (kf : ¬ a ≤ b → jf_X sh E G nL (pc + 3) L st σ) : jf_X sh E G nL pc L (.int y :: .int x :: st) σ := by
  intro H locs ls hP hS hl
  subst hx; subst hy; exact jr_icmp_le C tgt hd ht (fun q => kt (jn_cle.mp q)) (fun q => kf (jn_clef.mp q)) H locs ls hP hS hl
theorem jr_goto (C : jf_C sh E G nL cc own d) {off : Int} (tgt : Nat) (hd : decode cc pc = .ok (.goto off, 3)) (ht : (pc : Int) + off = (tgt : Int)) (k : jf_X sh E G nL tgt L st σ) : jf_X sh E G nL pc L st σ := by
  intro H locs ls hP hS hl
  exact lv_goto C.1 C.2.1 hd ht (k H locs ls hP hS hl)
theorem jr_tabOut (C : jf_C sh E G nL cc own d) {dflt lo hi : Int} {offs : Array Int} {len : Nat} {x : Int32} (tgt : Nat) (hd : decode cc pc = .ok (.tableswitch dflt lo hi offs, len)) (h : x.toInt < lo ∨ hi < x.toInt) (ht : (pc : Int) + dflt = (tgt : Int)) (k : jf_X sh E G nL tgt L st σ) : jf_X sh E G nL pc L (.int x :: st) σ := by
  intro H locs ls hP hS hl
  exact lv_tableOut C.1 C.2.1 hd h ht (k H locs ls hP hS hl)
theorem jr_tabIn (C : jf_C sh E G nL cc own d) {dflt lo hi : Int} {offs : Array Int} {len : Nat} {x : Int32} {off : Int} (tgt : Nat) (hd : decode cc pc = .ok (.tableswitch dflt lo hi offs, len)) (h1 : ¬ x.toInt < lo) (h2 : ¬ hi < x.toInt) (ho : offs[(x.toInt - lo).toNat]? = some off) (ht : (pc : Int) + off = (tgt : Int)) (k : jf_X sh E G nL tgt L st σ) : jf_X sh E G nL pc L (.int x :: st) σ := by
  intro H locs ls hP hS hl
  exact lv_tableIn C.1 C.2.1 hd h1 h2 ho ht (k H locs ls hP hS hl)
theorem jr_get (C : jf_C sh E G nL cc own d) {idx k j : Nat} {kd : Option (Option Nat)} (hf : jf_f sh own idx k j kd) (hd : decode cc pc = .ok (.getfield idx, 3)) (kk : jf_X sh E G nL (pc + 3) L (jf_v E σ k j kd :: st) σ) : jf_X sh E G nL pc L (jf_r E k :: st) σ := by
  intro H locs ls hP hS hl
  obtain ⟨ci, fs, C0, T, N, h1, h2, h3, h4, h5, h6⟩ := hf
  exact va_get (D := jf_D E) (Ts := jf_tb) C.1 C.2.1 C.2.2.2.2.1 h5 C.2.2.2.1 C.2.2.2.2.2.1 hP k (jf_w_at h1) h3 j h4 (C.2.2.2.2.1 _ h6) (fun _ h9 => h9) (by rw [List.getElem?_mapIdx, h2]; rfl) hd (kk H locs ls hP hS hl)
theorem jr_geti (C : jf_C sh E G nL cc own d) {idx k j : Nat} (hf : jf_f sh own idx k j none) (hd : decode cc pc = .ok (.getfield idx, 3)) (kk : jf_X sh E G nL (pc + 3) L (.int (σ.1 k j) :: st) σ) : jf_X sh E G nL pc L (jf_r E k :: st) σ := by
  intro H locs ls hP hS hl
  exact jr_get C hf hd kk H locs ls hP hS hl
theorem jr_getl (C : jf_C sh E G nL cc own d) {idx k j : Nat} (hf : jf_f sh own idx k j (some none)) (hd : decode cc pc = .ok (.getfield idx, 3)) (kk : jf_X sh E G nL (pc + 3) L (.long (σ.2 k j) :: st) σ) : jf_X sh E G nL pc L (jf_r E k :: st) σ := by
  intro H locs ls hP hS hl
  exact jr_get C hf hd kk H locs ls hP hS hl
theorem jr_getr (C : jf_C sh E G nL cc own d) {idx k j q : Nat} (hf : jf_f sh own idx k j (some (some q))) (hd : decode cc pc = .ok (.getfield idx, 3)) (kk : jf_X sh E G nL (pc + 3) L (jf_r E q :: st) σ) : jf_X sh E G nL pc L (jf_r E k :: st) σ := by
  intro H locs ls hP hS hl
  exact jr_get C hf hd kk H locs ls hP hS hl
theorem jr_getv (C : jf_C sh E G nL cc own d) {idx k j : Nat} {v : Int32} (hf : jf_f sh own idx k j none) (hd : decode cc pc = .ok (.getfield idx, 3)) (hv : σ.1 k j = v) (kk : jf_X sh E G nL (pc + 3) L (.int v :: st) σ) : jf_X sh E G nL pc L (jf_r E k :: st) σ := by
  intro H locs ls hP hS hl
  subst hv; exact jr_get C hf hd kk H locs ls hP hS hl
theorem jr_puti (C : jf_C sh E G nL cc own d) {idx k j : Nat} {v : Int32} (hf : jf_p sh own idx k j none .int) (hd : decode cc pc = .ok (.putfield idx, 3)) (kk : jf_X sh E G nL (pc + 3) L st (jf_i σ k j v)) : jf_X sh E G nL pc L (.int v :: jf_r E k :: st) σ := by
  intro H locs ls hP hS hl
  obtain ⟨ci, fs, C0, T, N, ty0, h1, h2, h3, h4, h5, h6, h7, h8, h9, hA⟩ := hf
  refine va_put (D := jf_D E) (Ts := jf_tb) (A := jf_A sh E) C.1 C.2.1 C.2.2.2.2.1 h5 ty0 h7 h8 C.2.2.2.1 C.2.2.2.2.2.1 hP (jf_Dd σ C.2.2.2.2.2.2.1) hS k (jf_w_at h1) h3 j h4 (C.2.2.2.2.1 _ h6) (fun _ h9 => h9) h9 hA (vp_nar_int v) rfl (by rw [List.length_mapIdx]; exact (List.getElem?_eq_some_iff.mp h2).1) hd (fun H1 locs1 q1 _ q3 => kk H1 locs1 ls ?_ q3 hl)
  have q1 := q1
  rw [jf_seti h1 h2] at q1
  exact q1
theorem jr_putz (C : jf_C sh E G nL cc own d) {idx k j : Nat} {v : Int32} (hf : jf_p sh own idx k j none .boolean) (hv : v = 0 ∨ v = 1) (hd : decode cc pc = .ok (.putfield idx, 3)) (kk : jf_X sh E G nL (pc + 3) L st (jf_i σ k j v)) : jf_X sh E G nL pc L (.int v :: jf_r E k :: st) σ := by
  intro H locs ls hP hS hl
  obtain ⟨ci, fs, C0, T, N, ty0, h1, h2, h3, h4, h5, h6, h7, h8, h9, hA⟩ := hf
  refine va_put (D := jf_D E) (Ts := jf_tb) (A := jf_A sh E) C.1 C.2.1 C.2.2.2.2.1 h5 ty0 h7 h8 C.2.2.2.1 C.2.2.2.2.2.1 hP (jf_Dd σ C.2.2.2.2.2.2.1) hS k (jf_w_at h1) h3 j h4 (C.2.2.2.2.1 _ h6) (fun _ h9 => h9) h9 hA (by rcases hv with rfl | rfl <;> rfl) (by rcases hv with rfl | rfl <;> rfl) (by rw [List.length_mapIdx]; exact (List.getElem?_eq_some_iff.mp h2).1) hd (fun H1 locs1 q1 _ q3 => kk H1 locs1 ls ?_ q3 hl)
  have q1 := q1
  rw [jf_seti h1 h2] at q1
  exact q1
theorem jr_putl (C : jf_C sh E G nL cc own d) {idx k j : Nat} {v : Int64} (hf : jf_p sh own idx k j (some none) .long) (hd : decode cc pc = .ok (.putfield idx, 3)) (kk : jf_X sh E G nL (pc + 3) L st (jf_l σ k j v)) : jf_X sh E G nL pc L (.long v :: jf_r E k :: st) σ := by
  intro H locs ls hP hS hl
  obtain ⟨ci, fs, C0, T, N, ty0, h1, h2, h3, h4, h5, h6, h7, h8, h9, hA⟩ := hf
  refine va_put (D := jf_D E) (Ts := jf_tb) (A := jf_A sh E) C.1 C.2.1 C.2.2.2.2.1 h5 ty0 h7 h8 C.2.2.2.1 C.2.2.2.2.2.1 hP (jf_Dd σ C.2.2.2.2.2.2.1) hS k (jf_w_at h1) h3 j h4 (C.2.2.2.2.1 _ h6) (fun _ h9 => h9) h9 hA rfl rfl (by rw [List.length_mapIdx]; exact (List.getElem?_eq_some_iff.mp h2).1) hd (fun H1 locs1 q1 _ q3 => kk H1 locs1 ls ?_ q3 hl)
  have q1 := q1
  rw [jf_setl h1 h2] at q1
  exact q1
theorem jr_iald (C : jf_C sh E G nL cc own d) {k n : Nat} {i : Int32} (hk : sh[k]? = some (.inr (0, n))) (hd : decode cc pc = .ok (.iaload, 1)) (hin : vp_in i n) (kk : jf_X sh E G nL (pc + 1) L (.int (σ.1 k i.toNatClampNeg) :: st) σ) : jf_X sh E G nL pc L (.int i :: jf_r E k :: st) σ := by
  intro H locs ls hP hS hl
  exact va_iald C.1 C.2.1 C.2.2.2.2.2.1 hP k 0 (jf_w_at hk) rfl hin hd (kk H locs ls hP hS hl)
theorem jr_zald (C : jf_C sh E G nL cc own d) {k n : Nat} {i : Int32} (hk : sh[k]? = some (.inr (1, n))) (hd : decode cc pc = .ok (.baload, 1)) (hin : vp_in i n) (kk : jf_X sh E G nL (pc + 1) L (.int (σ.1 k i.toNatClampNeg) :: st) σ) : jf_X sh E G nL pc L (.int i :: jf_r E k :: st) σ := by
  intro H locs ls hP hS hl
  exact va_zald C.1 C.2.1 C.2.2.2.2.2.1 hP k 1 (jf_w_at hk) rfl hin hd (kk H locs ls hP hS hl)
theorem jr_iast (C : jf_C sh E G nL cc own d) {k n : Nat} {i x : Int32} (hk : sh[k]? = some (.inr (0, n))) (hd : decode cc pc = .ok (.iastore, 1)) (hin : vp_in i n) (kk : jf_X sh E G nL (pc + 1) L st (jf_i σ k i.toNatClampNeg x)) : jf_X sh E G nL pc L (.int x :: .int i :: jf_r E k :: st) σ := by
  intro H locs ls hP hS hl
  refine va_iast C.1 C.2.1 C.2.2.2.2.2.1 hP (jf_Dd σ C.2.2.2.2.2.2.1) hS k 0 (jf_w_at hk) rfl hin hd (fun H1 locs1 q1 _ q3 => kk H1 locs1 ls ?_ q3 hl)
  have q1 := q1
  rw [jf_seta hk] at q1
  exact q1
theorem jr_zast (C : jf_C sh E G nL cc own d) {k n : Nat} {i x : Int32} (hk : sh[k]? = some (.inr (1, n))) (hd : decode cc pc = .ok (.bastore, 1)) (hin : vp_in i n) (hx : x = 0 ∨ x = 1) (kk : jf_X sh E G nL (pc + 1) L st (jf_i σ k i.toNatClampNeg x)) : jf_X sh E G nL pc L (.int x :: .int i :: jf_r E k :: st) σ := by
  intro H locs ls hP hS hl
  refine va_zast C.1 C.2.1 C.2.2.2.2.2.1 hP (jf_Dd σ C.2.2.2.2.2.2.1) hS k 1 (jf_w_at hk) rfl hin hd (fun H1 locs1 q1 _ q3 => kk H1 locs1 ls ?_ q3 hl)
  have q1 := q1
  rw [show vp_nar .boolean x = x by rcases hx with rfl | rfl <;> rfl] at q1
  rw [jf_seta hk] at q1
  exact q1
theorem jr_ialv (C : jf_C sh E G nL cc own d) {k n : Nat} {i v : Int32} (hk : sh[k]? = some (.inr (0, n))) (hd : decode cc pc = .ok (.iaload, 1)) (hin : vp_in i n) (hv : σ.1 k i.toNatClampNeg = v) (kk : jf_X sh E G nL (pc + 1) L (.int v :: st) σ) : jf_X sh E G nL pc L (.int i :: jf_r E k :: st) σ := by
  intro H locs ls hP hS hl
  subst hv; exact jr_iald C hk hd hin kk H locs ls hP hS hl
theorem jr_zalv (C : jf_C sh E G nL cc own d) {k n : Nat} {i v : Int32} (hk : sh[k]? = some (.inr (1, n))) (hd : decode cc pc = .ok (.baload, 1)) (hin : vp_in i n) (hv : σ.1 k i.toNatClampNeg = v) (kk : jf_X sh E G nL (pc + 1) L (.int v :: st) σ) : jf_X sh E G nL pc L (.int i :: jf_r E k :: st) σ := by
  intro H locs ls hP hS hl
  subst hv; exact jr_zald C hk hd hin kk H locs ls hP hS hl
theorem jr_sub (L' : List (Nat × Value)) (hL : L'.map (fun q => jf_lk q.1 L) = L'.map (fun q => some q.2)) (k : jf_X sh E G nL pc L' st σ) : jf_X sh E G nL pc L st σ := fun H locs ls hP hS hl => k H locs ls hP hS (jf_sub hl hL)
theorem jr_topi {x : Int32} (k : ∀ y : Int32, y = x → jf_X sh E G nL pc L (.int y :: st) σ) : jf_X sh E G nL pc L (.int x :: st) σ := k x rfl
theorem jr_topl {x : Int64} (k : ∀ y : Int64, y = x → jf_X sh E G nL pc L (.long y :: st) σ) : jf_X sh E G nL pc L (.long x :: st) σ := k x rfl
theorem jr_val {x y : Int32} (e : x = y) (k : jf_X sh E G nL pc L (.int y :: st) σ) : jf_X sh E G nL pc L (.int x :: st) σ := e ▸ k
theorem jr_st {τ : jf_S} (e : σ = τ) (k : jf_X sh E G nL pc L st τ) : jf_X sh E G nL pc L st σ := e ▸ k
theorem jr_mmin (C : jf_C sh E G nL cc own d) {x y : Int32} {idx : Nat} (hw : Cond.methodLink own idx Lib.Math.min.name ∈ jf_tb ∧ Cond.static Lib.Math.min.name ∈ jf_tb ∧ Cond.initialized "java/lang/Math" ∈ jf_tb ∧ Cond.code Lib.Math.min.name Lib.Math.min.code 2 (some .int) ∈ jf_tb) (hd0 : 1 ≤ d) (hr : (st.map fun v => v.category).sum ≤ 8) (hd : decode cc pc = .ok (.invokestatic idx, 3)) (kk : jf_X sh E G nL (pc + 3) L (.int (if y < x then y else x) :: st) σ) : jf_X sh E G nL pc L (.int y :: .int x :: st) σ := by
  intro H locs ls hP hS hl
  have h1 := C.2.2.2.2.2.2.2.1
  have h2 := C.2.2.2.2.2.2.2.2
  exact va_mmin C.1 C.2.1 (by rw [C.2.2.1]; exact hl.1.symm) C.2.2.2.1 (C.2.2.2.2.1 _ hw.1) (C.2.2.2.2.1 _ hw.2.1) (C.2.2.2.2.1 _ hw.2.2.1) (C.2.2.2.2.1 _ hw.2.2.2) (by omega) (by omega) (Nat.zero_le _) (Nat.zero_le _) hd (kk H locs ls hP hS hl)
theorem jr_mmax (C : jf_C sh E G nL cc own d) {x y : Int32} {idx : Nat} (hw : Cond.methodLink own idx Lib.Math.max.name ∈ jf_tb ∧ Cond.static Lib.Math.max.name ∈ jf_tb ∧ Cond.initialized "java/lang/Math" ∈ jf_tb ∧ Cond.code Lib.Math.max.name Lib.Math.max.code 2 (some .int) ∈ jf_tb) (hd0 : 1 ≤ d) (hr : (st.map fun v => v.category).sum ≤ 8) (hd : decode cc pc = .ok (.invokestatic idx, 3)) (kk : jf_X sh E G nL (pc + 3) L (.int (if x < y then y else x) :: st) σ) : jf_X sh E G nL pc L (.int y :: .int x :: st) σ := by
  intro H locs ls hP hS hl
  have h1 := C.2.2.2.2.2.2.2.1
  have h2 := C.2.2.2.2.2.2.2.2
  exact va_mmax C.1 C.2.1 (by rw [C.2.2.1]; exact hl.1.symm) C.2.2.2.1 (C.2.2.2.2.1 _ hw.1) (C.2.2.2.2.1 _ hw.2.1) (C.2.2.2.2.1 _ hw.2.2.1) (C.2.2.2.2.1 _ hw.2.2.2) (by omega) (by omega) (Nat.zero_le _) (Nat.zero_le _) hd (kk H locs ls hP hS hl)
end JR
/-! contracts -/
/-- a method that answers an int (or a boolean): from the state σ with these arguments it returns, and 'post answer state' -/
def jf_I (sh : List jf_K) (E : jf_E) (y : MethodName) (cc : ByteArray) (maxL : Nat) (ret : FieldType) (d : Nat) (As : List Value) (σ : jf_S) (post : Int32 → jf_S → Prop) : Prop :=
  Met E.1 y (.code y cc maxL (some ret) :: jf_tb) (jf_rm d) (va_Pc As (jf_B sh E σ)) (va_Qi post (jf_B sh E) (jf_A sh E)) 0 0 (jf_A sh E)
def jf_V (sh : List jf_K) (E : jf_E) (y : MethodName) (cc : ByteArray) (maxL : Nat) (d : Nat) (As : List Value) (σ : jf_S) (post : jf_S → Prop) : Prop :=
  Met E.1 y (.code y cc maxL none :: jf_tb) (jf_rm d) (va_Pc As (jf_B sh E σ)) (va_Qv post (jf_B sh E) (jf_A sh E)) 0 0 (jf_A sh E)
def jf_O (sh : List jf_K) (E : jf_E) (y : MethodName) (cc : ByteArray) (maxL : Nat) (d : Nat) (As : List Value) (σ : jf_S) (post : Int64 → jf_S → Prop) : Prop :=
  Met E.1 y (.code y cc maxL (some .long) :: jf_tb) (jf_rm d) (va_Pc As (jf_B sh E σ)) (va_Ql post (jf_B sh E) (jf_A sh E)) 0 0 (jf_A sh E)
set_option maxHeartbeats 1000000 in
theorem jf_mkI {sh : List jf_K} {E : jf_E} {y : MethodName} {cc : ByteArray} {maxL : Nat} {ret : FieldType} {d : Nat} {As : List Value} {σ : jf_S} {post : Int32 → jf_S → Prop} (hy : plainName y.cls = true) (hsl : (lg_sl As).length ≤ maxL)
    (body : ∀ G : jf_G, jf_C sh E G maxL cc y.cls d → (∀ (pc : Nat) (L : List (Nat × Value)) (v : Int32) (τ : jf_S), decode cc pc = .ok (.ireturn, 1) → narrow ret (.int v) = .int v → post v τ → jf_X sh E G maxL pc L [.int v] τ) → jf_X sh E G maxL 0 (lv_args 0 As) [] σ) : jf_I sh E y cc maxL ret d As σ post := by
  refine Met.ofW (cc := cc) (maxL := maxL) (ret := some ret) hy rfl ?_
  intro p e s m args below meth c s₁ B hml hv
  obtain ⟨rfl, hP, hK, hJ⟩ := hv
  have hx := B.exec
  have hb := B.bytes
  have hr := B.returns
  have hts := atoms_spec (ws := .code y cc maxL (some ret) :: jf_tb) B.pre
  have hown : s.vm.findClass y.cls = some m.cls := findClass_of_methodNamed B.named
  have hlocks := B.notSynchronized
  have key := body (p, e, jf_rm d, s, m, As.toArray, below, meth, c, MQ below (va_Qi post (jf_B sh E) (jf_A sh E)) As.toArray s 0 0 (jf_A sh E)) ⟨hx, hb, hml, hown, fun w h => hts w (List.mem_cons_of_mem _ h), hK, hJ, Nat.le_refl _, Nat.le_refl _⟩ ?_
  · rw [lg_entry_eq]
    exact key s.heap [] _ hP va_S.rf (lv_entry As hsl)
  · intro pc L v τ hd hn hp H locs ls hP' hS hl
    exact W.zret (ty := ret) hx hb hr hn (fun t ht hW => ⟨⟨v, τ, rfl, hp, by rw [ht]; exact hP', va_K.moved hW.alike hK, hJ⟩, hS.F ht⟩) hS.2.2 hd hlocks
set_option maxHeartbeats 1000000 in
theorem jf_mkV {sh : List jf_K} {E : jf_E} {y : MethodName} {cc : ByteArray} {maxL : Nat} {d : Nat} {As : List Value} {σ : jf_S} {post : jf_S → Prop} (hy : plainName y.cls = true) (hsl : (lg_sl As).length ≤ maxL)
    (body : ∀ G : jf_G, jf_C sh E G maxL cc y.cls d → (∀ (pc : Nat) (L : List (Nat × Value)) (τ : jf_S), decode cc pc = .ok (.return_, 1) → post τ → jf_X sh E G maxL pc L [] τ) → jf_X sh E G maxL 0 (lv_args 0 As) [] σ) : jf_V sh E y cc maxL d As σ post := by
  refine Met.ofW (cc := cc) (maxL := maxL) (ret := none) hy rfl ?_
  intro p e s m args below meth c s₁ B hml hv
  obtain ⟨rfl, hP, hK, hJ⟩ := hv
  have hx := B.exec
  have hb := B.bytes
  have hr := B.returns
  have hts := atoms_spec (ws := .code y cc maxL (none) :: jf_tb) B.pre
  have hown : s.vm.findClass y.cls = some m.cls := findClass_of_methodNamed B.named
  have hlocks := B.notSynchronized
  have key := body (p, e, jf_rm d, s, m, As.toArray, below, meth, c, MQ below (va_Qv post (jf_B sh E) (jf_A sh E)) As.toArray s 0 0 (jf_A sh E)) ⟨hx, hb, hml, hown, fun w h => hts w (List.mem_cons_of_mem _ h), hK, hJ, Nat.le_refl _, Nat.le_refl _⟩ ?_
  · rw [lg_entry_eq]
    exact key s.heap [] _ hP va_S.rf (lv_entry As hsl)
  · intro pc L τ hd hp H locs ls hP' hS hl
    exact W.vret hx hb hr (fun t ht hW => ⟨⟨τ, rfl, hp, by rw [ht]; exact hP', va_K.moved hW.alike hK, hJ⟩, hS.F ht⟩) hS.2.2 hd hlocks
set_option maxHeartbeats 1000000 in
theorem jf_mkO {sh : List jf_K} {E : jf_E} {y : MethodName} {cc : ByteArray} {maxL : Nat} {d : Nat} {As : List Value} {σ : jf_S} {post : Int64 → jf_S → Prop} (hy : plainName y.cls = true) (hsl : (lg_sl As).length ≤ maxL)
    (body : ∀ G : jf_G, jf_C sh E G maxL cc y.cls d → (∀ (pc : Nat) (L : List (Nat × Value)) (v : Int64) (τ : jf_S), decode cc pc = .ok (.lreturn, 1) → post v τ → jf_X sh E G maxL pc L [.long v] τ) → jf_X sh E G maxL 0 (lv_args 0 As) [] σ) : jf_O sh E y cc maxL d As σ post := by
  refine Met.ofW (cc := cc) (maxL := maxL) (ret := some .long) hy rfl ?_
  intro p e s m args below meth c s₁ B hml hv
  obtain ⟨rfl, hP, hK, hJ⟩ := hv
  have hx := B.exec
  have hb := B.bytes
  have hr := B.returns
  have hts := atoms_spec (ws := .code y cc maxL (some .long) :: jf_tb) B.pre
  have hown : s.vm.findClass y.cls = some m.cls := findClass_of_methodNamed B.named
  have hlocks := B.notSynchronized
  have key := body (p, e, jf_rm d, s, m, As.toArray, below, meth, c, MQ below (va_Ql post (jf_B sh E) (jf_A sh E)) As.toArray s 0 0 (jf_A sh E)) ⟨hx, hb, hml, hown, fun w h => hts w (List.mem_cons_of_mem _ h), hK, hJ, Nat.le_refl _, Nat.le_refl _⟩ ?_
  · rw [lg_entry_eq]
    exact key s.heap [] _ hP va_S.rf (lv_entry As hsl)
  · intro pc L v τ hd hp H locs ls hP' hS hl
    exact W.lret hx hb hr (fun t ht hW => ⟨⟨v, τ, rfl, hp, by rw [ht]; exact hP', va_K.moved hW.alike hK, hJ⟩, hS.F ht⟩) hS.2.2 hd hlocks
theorem jf_blind {sh : List jf_K} {E : jf_E} {σ : jf_S} {As : List Value} : FrameBlind (va_Pc As (jf_B sh E σ)) := fun a U g mk q => by
  obtain ⟨q0, qP, qK, qJ⟩ := q
  exact ⟨q0, qP, va_K.moved (u := U) (U := U.calling g mk a) (Vm.Alike.refl U.vm) qK, qJ⟩
set_option maxHeartbeats 1000000 in
theorem jr_vi {sh : List jf_K} {E : jf_E} {G : jf_G} {nL d pc : Nat} {cc : ByteArray} {own : String} {L : List (Nat × Value)} {st : List Value} {σ : jf_S} (C : jf_C sh E G nL cc own d) {idx k maxL' d' : Nat} {y : MethodName} {b' : ByteArray} {ret' : FieldType} {post : Int32 → jf_S → Prop} (As rest : List Value) (hM : jf_I sh E y b' maxL' ret' d' (jf_r E k :: As) σ post) (hy : jf_y y b' maxL' (some ret') As.length) (hyv : jf_yv y) (hk : jf_cl sh k y.cls) (hw : Cond.methodLink own idx y ∈ jf_tb) (hlev : d' + 1 ≤ d) (hst : st = As.reverse ++ jf_r E k :: rest) (hr : (rest.map fun v => v.category).sum ≤ 8) (hd : decode cc pc = .ok (.invokevirtual idx, 3)) (kk : ∀ (r : Int32) (τ : jf_S), post r τ → jf_X sh E G nL (pc + 3) L (.int r :: rest) τ) : jf_X sh E G nL pc L st σ := by
  intro H locs ls hP hS hl
  obtain ⟨ci, fs, T, N, h1, h2⟩ := hk
  have g1 := C.2.2.2.2.2.2.2.1
  have g2 := C.2.2.2.2.2.2.2.2
  have g3 := hy.2.2.2
  have hB : CallB G.2.2.1 G.2.2.2.1 G.2.2.2.2.2.1 own idx y b' maxL' (some ret') (.code y b' maxL' (some ret') :: jf_tb) (jf_rm d') 0 0 As.length :=
    callB_of As.length C.2.2.2.2.1 (jf_gin hy.1) rfl rfl rfl (C.2.2.2.2.1 _ hy.2.1) (C.2.2.2.2.1 _ hw) hy.2.2.1 ⟨by show d' + 1 ≤ _; omega, by show 8 + (maxL' + 11) + 64 * d' ≤ _; omega⟩
  refine va_calli (va_runV (As := As) (rest := rest) (C := y.cls) (Ts := jf_tb) ⟨C.1, C.2.1, C.2.2.1, C.2.2.2.1, C.2.2.2.2.1⟩ hM ⟨hB, C.2.2.2.2.1 _ hyv.1, C.2.2.2.2.1 _ hyv.2⟩ ⟨jf_blind, va_recv C.2.2.2.2.2.1 hP h2 (jf_w_at h1), fun U hU hW => ⟨rfl, by rw [hU]; exact hP, va_K.moved hW.alike C.2.2.2.2.2.1, C.2.2.2.2.2.2.1⟩⟩ rfl rfl hl.1 hst (lv_room hr) hd ⟨Nat.zero_le _, Nat.zero_le _⟩) hS (fun q _ h => h) (fun q h => h) (fun r u t H1 locs1 e1 e2 e3 e4 e5 e6 e7 => ?_)
  have hP1 : va_P (jf_D E) vwCl (jf_w sh E u) H1 := by rw [← e1]; exact e4.1
  exact kk r u e3 H1 locs1 ls hP1 e7 hl
set_option maxHeartbeats 1000000 in
theorem jr_si {sh : List jf_K} {E : jf_E} {G : jf_G} {nL d pc : Nat} {cc : ByteArray} {own : String} {L : List (Nat × Value)} {st : List Value} {σ : jf_S} (C : jf_C sh E G nL cc own d) {idx maxL' d' : Nat} {y : MethodName} {b' : ByteArray} {ret' : FieldType} {post : Int32 → jf_S → Prop} (As rest : List Value) (hM : jf_I sh E y b' maxL' ret' d' As σ post) (hy : jf_y y b' maxL' (some ret') As.length) (hys : Cond.static y ∈ jf_tb) (hw : Cond.methodLink own idx y ∈ jf_tb) (hlev : d' + 1 ≤ d) (hst : st = As.reverse ++ rest) (hr : (rest.map fun v => v.category).sum ≤ 8) (hd : decode cc pc = .ok (.invokestatic idx, 3)) (kk : ∀ (r : Int32) (τ : jf_S), post r τ → jf_X sh E G nL (pc + 3) L (.int r :: rest) τ) : jf_X sh E G nL pc L st σ := by
  intro H locs ls hP hS hl
  have g1 := C.2.2.2.2.2.2.2.1
  have g2 := C.2.2.2.2.2.2.2.2
  have g3 := hy.2.2.2
  have hB : CallB G.2.2.1 G.2.2.2.1 G.2.2.2.2.2.1 own idx y b' maxL' (some ret') (.code y b' maxL' (some ret') :: jf_tb) (jf_rm d') 0 0 As.length :=
    callB_of As.length C.2.2.2.2.1 (jf_gin hy.1) rfl rfl rfl (C.2.2.2.2.1 _ hy.2.1) (C.2.2.2.2.1 _ hw) hy.2.2.1 ⟨by show d' + 1 ≤ _; omega, by show 8 + (maxL' + 11) + 64 * d' ≤ _; omega⟩
  refine va_calli (va_runS (As := As) (rest := rest) (Ts := jf_tb) ⟨C.1, C.2.1, C.2.2.1, C.2.2.2.1, C.2.2.2.2.1⟩ hM ⟨hB, C.2.2.2.2.1 _ hys⟩ ⟨jf_blind, fun U hU hW => ⟨rfl, by rw [hU]; exact hP, va_K.moved hW.alike C.2.2.2.2.2.1, C.2.2.2.2.2.2.1⟩⟩ rfl rfl hl.1 hst (lv_room hr) hd ⟨Nat.zero_le _, Nat.zero_le _⟩) hS (fun q _ h => h) (fun q h => h) (fun r u t H1 locs1 e1 e2 e3 e4 e5 e6 e7 => ?_)
  have hP1 : va_P (jf_D E) vwCl (jf_w sh E u) H1 := by rw [← e1]; exact e4.1
  exact kk r u e3 H1 locs1 ls hP1 e7 hl
set_option maxHeartbeats 1000000 in
theorem jr_vv {sh : List jf_K} {E : jf_E} {G : jf_G} {nL d pc : Nat} {cc : ByteArray} {own : String} {L : List (Nat × Value)} {st : List Value} {σ : jf_S} (C : jf_C sh E G nL cc own d) {idx k maxL' d' : Nat} {y : MethodName} {b' : ByteArray} {post : jf_S → Prop} (As rest : List Value) (hM : jf_V sh E y b' maxL' d' (jf_r E k :: As) σ post) (hy : jf_y y b' maxL' (none) As.length) (hyv : jf_yv y) (hk : jf_cl sh k y.cls) (hw : Cond.methodLink own idx y ∈ jf_tb) (hlev : d' + 1 ≤ d) (hst : st = As.reverse ++ jf_r E k :: rest) (hr : (rest.map fun v => v.category).sum ≤ 8) (hd : decode cc pc = .ok (.invokevirtual idx, 3)) (kk : ∀ (τ : jf_S), post τ → jf_X sh E G nL (pc + 3) L rest τ) : jf_X sh E G nL pc L st σ := by
  intro H locs ls hP hS hl
  obtain ⟨ci, fs, T, N, h1, h2⟩ := hk
  have g1 := C.2.2.2.2.2.2.2.1
  have g2 := C.2.2.2.2.2.2.2.2
  have g3 := hy.2.2.2
  have hB : CallB G.2.2.1 G.2.2.2.1 G.2.2.2.2.2.1 own idx y b' maxL' (none) (.code y b' maxL' (none) :: jf_tb) (jf_rm d') 0 0 As.length :=
    callB_of As.length C.2.2.2.2.1 (jf_gin hy.1) rfl rfl rfl (C.2.2.2.2.1 _ hy.2.1) (C.2.2.2.2.1 _ hw) hy.2.2.1 ⟨by show d' + 1 ≤ _; omega, by show 8 + (maxL' + 11) + 64 * d' ≤ _; omega⟩
  refine va_callv (va_runV (As := As) (rest := rest) (C := y.cls) (Ts := jf_tb) ⟨C.1, C.2.1, C.2.2.1, C.2.2.2.1, C.2.2.2.2.1⟩ hM ⟨hB, C.2.2.2.2.1 _ hyv.1, C.2.2.2.2.1 _ hyv.2⟩ ⟨jf_blind, va_recv C.2.2.2.2.2.1 hP h2 (jf_w_at h1), fun U hU hW => ⟨rfl, by rw [hU]; exact hP, va_K.moved hW.alike C.2.2.2.2.2.1, C.2.2.2.2.2.2.1⟩⟩ rfl rfl hl.1 hst (lv_room hr) hd ⟨Nat.zero_le _, Nat.zero_le _⟩) hS (fun q _ h => h) (fun q h => h) (fun u t H1 locs1 e1 e2 e3 e4 e5 e6 e7 => ?_)
  have hP1 : va_P (jf_D E) vwCl (jf_w sh E u) H1 := by rw [← e1]; exact e4.1
  exact kk u e3 H1 locs1 ls hP1 e7 hl
set_option maxHeartbeats 1000000 in
theorem jr_sv {sh : List jf_K} {E : jf_E} {G : jf_G} {nL d pc : Nat} {cc : ByteArray} {own : String} {L : List (Nat × Value)} {st : List Value} {σ : jf_S} (C : jf_C sh E G nL cc own d) {idx maxL' d' : Nat} {y : MethodName} {b' : ByteArray} {post : jf_S → Prop} (As rest : List Value) (hM : jf_V sh E y b' maxL' d' As σ post) (hy : jf_y y b' maxL' (none) As.length) (hys : Cond.static y ∈ jf_tb) (hw : Cond.methodLink own idx y ∈ jf_tb) (hlev : d' + 1 ≤ d) (hst : st = As.reverse ++ rest) (hr : (rest.map fun v => v.category).sum ≤ 8) (hd : decode cc pc = .ok (.invokestatic idx, 3)) (kk : ∀ (τ : jf_S), post τ → jf_X sh E G nL (pc + 3) L rest τ) : jf_X sh E G nL pc L st σ := by
  intro H locs ls hP hS hl
  have g1 := C.2.2.2.2.2.2.2.1
  have g2 := C.2.2.2.2.2.2.2.2
  have g3 := hy.2.2.2
  have hB : CallB G.2.2.1 G.2.2.2.1 G.2.2.2.2.2.1 own idx y b' maxL' (none) (.code y b' maxL' (none) :: jf_tb) (jf_rm d') 0 0 As.length :=
    callB_of As.length C.2.2.2.2.1 (jf_gin hy.1) rfl rfl rfl (C.2.2.2.2.1 _ hy.2.1) (C.2.2.2.2.1 _ hw) hy.2.2.1 ⟨by show d' + 1 ≤ _; omega, by show 8 + (maxL' + 11) + 64 * d' ≤ _; omega⟩
  refine va_callv (va_runS (As := As) (rest := rest) (Ts := jf_tb) ⟨C.1, C.2.1, C.2.2.1, C.2.2.2.1, C.2.2.2.2.1⟩ hM ⟨hB, C.2.2.2.2.1 _ hys⟩ ⟨jf_blind, fun U hU hW => ⟨rfl, by rw [hU]; exact hP, va_K.moved hW.alike C.2.2.2.2.2.1, C.2.2.2.2.2.2.1⟩⟩ rfl rfl hl.1 hst (lv_room hr) hd ⟨Nat.zero_le _, Nat.zero_le _⟩) hS (fun q _ h => h) (fun q h => h) (fun u t H1 locs1 e1 e2 e3 e4 e5 e6 e7 => ?_)
  have hP1 : va_P (jf_D E) vwCl (jf_w sh E u) H1 := by rw [← e1]; exact e4.1
  exact kk u e3 H1 locs1 ls hP1 e7 hl
set_option maxHeartbeats 1000000 in
theorem jr_vl {sh : List jf_K} {E : jf_E} {G : jf_G} {nL d pc : Nat} {cc : ByteArray} {own : String} {L : List (Nat × Value)} {st : List Value} {σ : jf_S} (C : jf_C sh E G nL cc own d) {idx k maxL' d' : Nat} {y : MethodName} {b' : ByteArray} {post : Int64 → jf_S → Prop} (As rest : List Value) (hM : jf_O sh E y b' maxL' d' (jf_r E k :: As) σ post) (hy : jf_y y b' maxL' (some .long) As.length) (hyv : jf_yv y) (hk : jf_cl sh k y.cls) (hw : Cond.methodLink own idx y ∈ jf_tb) (hlev : d' + 1 ≤ d) (hst : st = As.reverse ++ jf_r E k :: rest) (hr : (rest.map fun v => v.category).sum ≤ 8) (hd : decode cc pc = .ok (.invokevirtual idx, 3)) (kk : ∀ (r : Int64) (τ : jf_S), post r τ → jf_X sh E G nL (pc + 3) L (.long r :: rest) τ) : jf_X sh E G nL pc L st σ := by
  intro H locs ls hP hS hl
  obtain ⟨ci, fs, T, N, h1, h2⟩ := hk
  have g1 := C.2.2.2.2.2.2.2.1
  have g2 := C.2.2.2.2.2.2.2.2
  have g3 := hy.2.2.2
  have hB : CallB G.2.2.1 G.2.2.2.1 G.2.2.2.2.2.1 own idx y b' maxL' (some .long) (.code y b' maxL' (some .long) :: jf_tb) (jf_rm d') 0 0 As.length :=
    callB_of As.length C.2.2.2.2.1 (jf_gin hy.1) rfl rfl rfl (C.2.2.2.2.1 _ hy.2.1) (C.2.2.2.2.1 _ hw) hy.2.2.1 ⟨by show d' + 1 ≤ _; omega, by show 8 + (maxL' + 11) + 64 * d' ≤ _; omega⟩
  refine va_calll (va_runV (As := As) (rest := rest) (C := y.cls) (Ts := jf_tb) ⟨C.1, C.2.1, C.2.2.1, C.2.2.2.1, C.2.2.2.2.1⟩ hM ⟨hB, C.2.2.2.2.1 _ hyv.1, C.2.2.2.2.1 _ hyv.2⟩ ⟨jf_blind, va_recv C.2.2.2.2.2.1 hP h2 (jf_w_at h1), fun U hU hW => ⟨rfl, by rw [hU]; exact hP, va_K.moved hW.alike C.2.2.2.2.2.1, C.2.2.2.2.2.2.1⟩⟩ rfl rfl hl.1 hst (lv_room hr) hd ⟨Nat.zero_le _, Nat.zero_le _⟩) hS (fun q _ h => h) (fun q h => h) (fun r u t H1 locs1 e1 e2 e3 e4 e5 e6 e7 => ?_)
  have hP1 : va_P (jf_D E) vwCl (jf_w sh E u) H1 := by rw [← e1]; exact e4.1
  exact kk r u e3 H1 locs1 ls hP1 e7 hl
set_option maxHeartbeats 1000000 in
theorem jr_sl {sh : List jf_K} {E : jf_E} {G : jf_G} {nL d pc : Nat} {cc : ByteArray} {own : String} {L : List (Nat × Value)} {st : List Value} {σ : jf_S} (C : jf_C sh E G nL cc own d) {idx maxL' d' : Nat} {y : MethodName} {b' : ByteArray} {post : Int64 → jf_S → Prop} (As rest : List Value) (hM : jf_O sh E y b' maxL' d' As σ post) (hy : jf_y y b' maxL' (some .long) As.length) (hys : Cond.static y ∈ jf_tb) (hw : Cond.methodLink own idx y ∈ jf_tb) (hlev : d' + 1 ≤ d) (hst : st = As.reverse ++ rest) (hr : (rest.map fun v => v.category).sum ≤ 8) (hd : decode cc pc = .ok (.invokestatic idx, 3)) (kk : ∀ (r : Int64) (τ : jf_S), post r τ → jf_X sh E G nL (pc + 3) L (.long r :: rest) τ) : jf_X sh E G nL pc L st σ := by
  intro H locs ls hP hS hl
  have g1 := C.2.2.2.2.2.2.2.1
  have g2 := C.2.2.2.2.2.2.2.2
  have g3 := hy.2.2.2
  have hB : CallB G.2.2.1 G.2.2.2.1 G.2.2.2.2.2.1 own idx y b' maxL' (some .long) (.code y b' maxL' (some .long) :: jf_tb) (jf_rm d') 0 0 As.length :=
    callB_of As.length C.2.2.2.2.1 (jf_gin hy.1) rfl rfl rfl (C.2.2.2.2.1 _ hy.2.1) (C.2.2.2.2.1 _ hw) hy.2.2.1 ⟨by show d' + 1 ≤ _; omega, by show 8 + (maxL' + 11) + 64 * d' ≤ _; omega⟩
  refine va_calll (va_runS (As := As) (rest := rest) (Ts := jf_tb) ⟨C.1, C.2.1, C.2.2.1, C.2.2.2.1, C.2.2.2.2.1⟩ hM ⟨hB, C.2.2.2.2.1 _ hys⟩ ⟨jf_blind, fun U hU hW => ⟨rfl, by rw [hU]; exact hP, va_K.moved hW.alike C.2.2.2.2.2.1, C.2.2.2.2.2.2.1⟩⟩ rfl rfl hl.1 hst (lv_room hr) hd ⟨Nat.zero_le _, Nat.zero_le _⟩) hS (fun q _ h => h) (fun q h => h) (fun r u t H1 locs1 e1 e2 e3 e4 e5 e6 e7 => ?_)
  have hP1 : va_P (jf_D E) vwCl (jf_w sh E u) H1 := by rw [← e1]; exact e4.1
  exact kk r u e3 H1 locs1 ls hP1 e7 hl
theorem jr_vip {sh : List jf_K} {E : jf_E} {G : jf_G} {nL d pc : Nat} {cc : ByteArray} {own : String} {L : List (Nat × Value)} {st : List Value} {σ : jf_S} (C : jf_C sh E G nL cc own d) {idx k maxL' d' : Nat} {y : MethodName} {b' : ByteArray} {ret' : FieldType} {f : Int32} {g : jf_S} (As rest : List Value) (hM : jf_I sh E y b' maxL' ret' d' (jf_r E k :: As) σ (fun r τ => r = f ∧ τ = g)) (hy : jf_y y b' maxL' (some ret') As.length) (hyv : jf_yv y) (hk : jf_cl sh k y.cls) (hw : Cond.methodLink own idx y ∈ jf_tb) (hlev : d' + 1 ≤ d) (hst : st = As.reverse ++ jf_r E k :: rest) (hr : (rest.map fun v => v.category).sum ≤ 8) (hd : decode cc pc = .ok (.invokevirtual idx, 3)) (kk : jf_X sh E G nL (pc + 3) L (.int f :: rest) g) : jf_X sh E G nL pc L st σ :=
  jr_vi C As rest hM hy hyv hk hw hlev hst hr hd (fun r τ h => by obtain ⟨h1, h2⟩ := h; subst h1; subst h2; exact kk)
theorem jr_vvp {sh : List jf_K} {E : jf_E} {G : jf_G} {nL d pc : Nat} {cc : ByteArray} {own : String} {L : List (Nat × Value)} {st : List Value} {σ : jf_S} (C : jf_C sh E G nL cc own d) {idx k maxL' d' : Nat} {y : MethodName} {b' : ByteArray} {g : jf_S} (As rest : List Value) (hM : jf_V sh E y b' maxL' d' (jf_r E k :: As) σ (fun τ => τ = g)) (hy : jf_y y b' maxL' (none) As.length) (hyv : jf_yv y) (hk : jf_cl sh k y.cls) (hw : Cond.methodLink own idx y ∈ jf_tb) (hlev : d' + 1 ≤ d) (hst : st = As.reverse ++ jf_r E k :: rest) (hr : (rest.map fun v => v.category).sum ≤ 8) (hd : decode cc pc = .ok (.invokevirtual idx, 3)) (kk : jf_X sh E G nL (pc + 3) L rest g) : jf_X sh E G nL pc L st σ :=
  jr_vv C As rest hM hy hyv hk hw hlev hst hr hd (fun τ h => by subst h; exact kk)
theorem jr_vlp {sh : List jf_K} {E : jf_E} {G : jf_G} {nL d pc : Nat} {cc : ByteArray} {own : String} {L : List (Nat × Value)} {st : List Value} {σ : jf_S} (C : jf_C sh E G nL cc own d) {idx k maxL' d' : Nat} {y : MethodName} {b' : ByteArray} {f : Int64} {g : jf_S} (As rest : List Value) (hM : jf_O sh E y b' maxL' d' (jf_r E k :: As) σ (fun r τ => r = f ∧ τ = g)) (hy : jf_y y b' maxL' (some .long) As.length) (hyv : jf_yv y) (hk : jf_cl sh k y.cls) (hw : Cond.methodLink own idx y ∈ jf_tb) (hlev : d' + 1 ≤ d) (hst : st = As.reverse ++ jf_r E k :: rest) (hr : (rest.map fun v => v.category).sum ≤ 8) (hd : decode cc pc = .ok (.invokevirtual idx, 3)) (kk : jf_X sh E G nL (pc + 3) L (.long f :: rest) g) : jf_X sh E G nL pc L st σ :=
  jr_vl C As rest hM hy hyv hk hw hlev hst hr hd (fun r τ h => by obtain ⟨h1, h2⟩ := h; subst h1; subst h2; exact kk)
theorem jr_sip {sh : List jf_K} {E : jf_E} {G : jf_G} {nL d pc : Nat} {cc : ByteArray} {own : String} {L : List (Nat × Value)} {st : List Value} {σ : jf_S} (C : jf_C sh E G nL cc own d) {idx maxL' d' : Nat} {y : MethodName} {b' : ByteArray} {ret' : FieldType} {f : Int32} {g : jf_S} (As rest : List Value) (hM : jf_I sh E y b' maxL' ret' d' As σ (fun r τ => r = f ∧ τ = g)) (hy : jf_y y b' maxL' (some ret') As.length) (hys : Cond.static y ∈ jf_tb) (hw : Cond.methodLink own idx y ∈ jf_tb) (hlev : d' + 1 ≤ d) (hst : st = As.reverse ++ rest) (hr : (rest.map fun v => v.category).sum ≤ 8) (hd : decode cc pc = .ok (.invokestatic idx, 3)) (kk : jf_X sh E G nL (pc + 3) L (.int f :: rest) g) : jf_X sh E G nL pc L st σ :=
  jr_si C As rest hM hy hys hw hlev hst hr hd (fun r τ h => by obtain ⟨h1, h2⟩ := h; subst h1; subst h2; exact kk)
theorem jr_svp {sh : List jf_K} {E : jf_E} {G : jf_G} {nL d pc : Nat} {cc : ByteArray} {own : String} {L : List (Nat × Value)} {st : List Value} {σ : jf_S} (C : jf_C sh E G nL cc own d) {idx maxL' d' : Nat} {y : MethodName} {b' : ByteArray} {g : jf_S} (As rest : List Value) (hM : jf_V sh E y b' maxL' d' As σ (fun τ => τ = g)) (hy : jf_y y b' maxL' (none) As.length) (hys : Cond.static y ∈ jf_tb) (hw : Cond.methodLink own idx y ∈ jf_tb) (hlev : d' + 1 ≤ d) (hst : st = As.reverse ++ rest) (hr : (rest.map fun v => v.category).sum ≤ 8) (hd : decode cc pc = .ok (.invokestatic idx, 3)) (kk : jf_X sh E G nL (pc + 3) L rest g) : jf_X sh E G nL pc L st σ :=
  jr_sv C As rest hM hy hys hw hlev hst hr hd (fun τ h => by subst h; exact kk)
theorem jr_slp {sh : List jf_K} {E : jf_E} {G : jf_G} {nL d pc : Nat} {cc : ByteArray} {own : String} {L : List (Nat × Value)} {st : List Value} {σ : jf_S} (C : jf_C sh E G nL cc own d) {idx maxL' d' : Nat} {y : MethodName} {b' : ByteArray} {f : Int64} {g : jf_S} (As rest : List Value) (hM : jf_O sh E y b' maxL' d' As σ (fun r τ => r = f ∧ τ = g)) (hy : jf_y y b' maxL' (some .long) As.length) (hys : Cond.static y ∈ jf_tb) (hw : Cond.methodLink own idx y ∈ jf_tb) (hlev : d' + 1 ≤ d) (hst : st = As.reverse ++ rest) (hr : (rest.map fun v => v.category).sum ≤ 8) (hd : decode cc pc = .ok (.invokestatic idx, 3)) (kk : jf_X sh E G nL (pc + 3) L (.long f :: rest) g) : jf_X sh E G nL pc L st σ :=
  jr_sl C As rest hM hy hys hw hlev hst hr hd (fun r τ h => by obtain ⟨h1, h2⟩ := h; subst h1; subst h2; exact kk)
