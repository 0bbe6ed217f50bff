/-! THE FRAME: a world of fixed shape (all cells made once), its abstract state, rows over it; contracts of methods that make nothing. -/
def jf_tb : List Cond := lw_tbl.filter goodWord
theorem jf_mem {w : Cond} (h : w ∈ lw_tbl) (g : goodWord w = true) : w ∈ jf_tb := List.mem_filter.mpr ⟨h, g⟩
/-- the abstract state: ints by cell and place (fields, array elements), longs by cell and place -/
abbrev jf_S : Type := (Nat → Nat → Int32) × (Nat → Nat → Int64)
/-- a cell's shape: an object (its number among vwCl, its fields: none an int, some none a long, some (some k) the cell k), or an array (0 of ints, 1 of booleans; its length) -/
abbrev jf_K : Type := (Nat × List (Option (Option Nat))) ⊕ (Nat × Nat)
/-- launch, class ids, slots, array class ids, addresses -/
abbrev jf_E : Type := Launch × (Nat → ClassId) × (Nat → Nat → Nat) × (Nat → ClassId) × (Nat → Nat)
/-- what stands still while a method runs -/
abbrev jf_G : Type := Program × Env × Room × State × MethodId × Array Value × List Frame × Method × Code × (State → Prop)
abbrev jf_r (E : jf_E) (k : Nat) : Value := .ref (E.2.2.2.2 k)
def jf_v (E : jf_E) (σ : jf_S) (k j : Nat) (x : Option (Option Nat)) : Value := match x with
  | none => .int (σ.1 k j)
  | some none => .long (σ.2 k j)
  | some (some q) => jf_r E q
def jf_e (E : jf_E) (σ : jf_S) (k : Nat) (x : jf_K) : va_E := match x with
  | .inl o => .inr (o.1, o.2.mapIdx (fun j y => jf_v E σ k j y))
  | .inr a => .inl (E.2.2.2.1 a.1, a.2, .inl (σ.1 k))
def jf_w (sh : List jf_K) (E : jf_E) (σ : jf_S) : va_W := sh.mapIdx (fun k x => (E.2.2.2.2 k, jf_e E σ k x))
def jf_A (sh : List jf_K) (E : jf_E) : Nat → Prop := fun q => ∃ k, k < sh.length ∧ q = E.2.2.2.2 k
def jf_J (sh : List jf_K) (E : jf_E) : Prop := ∀ i j, i < sh.length → j < sh.length → E.2.2.2.2 i = E.2.2.2.2 j → i = j
abbrev jf_D (E : jf_E) : va_G := (E.2.1, E.2.2.1)
abbrev jf_T (E : jf_E) : List (ClassId × FieldType) := [(E.2.2.2.1 0, .int), (E.2.2.2.1 1, .boolean)]
def jf_B (sh : List jf_K) (E : jf_E) (σ : jf_S) (U : State) : Prop := va_P (jf_D E) vwCl (jf_w sh E σ) U.heap ∧ va_K (jf_D E) vwCl (jf_T E) U ∧ jf_J sh E
def jf_rm (d : Nat) : Room := { frames := d, cells := 0, slots := 0, locals := 64 * d }
/-- an int is written -/
def jf_i (σ : jf_S) (k j : Nat) (v : Int32) : jf_S := (fun a b => if a = k ∧ b = j then v else σ.1 a b, σ.2)
/-- a long is written -/
def jf_l (σ : jf_S) (k j : Nat) (v : Int64) : jf_S := (σ.1, fun a b => if a = k ∧ b = j then v else σ.2 a b)
def jf_C (sh : List jf_K) (E : jf_E) (G : jf_G) (nL : Nat) (cc : ByteArray) (own : String) (d : Nat) : Prop :=
  G.1.tables.exec = Jvm.exec ∧ G.2.2.2.2.2.2.2.2.1.code = cc ∧ G.2.2.2.2.2.2.2.2.1.maxLocals = nL ∧ G.2.2.2.1.vm.findClass own = some G.2.2.2.2.1.cls ∧ (∀ w ∈ jf_tb, w.before G.2.2.2.2.2.1 G.2.2.2.1 = true) ∧ va_K (jf_D E) vwCl (jf_T E) G.2.2.2.1 ∧ jf_J sh E ∧ d ≤ G.2.2.1.frames ∧ 64 * d ≤ G.2.2.1.locals
/-- from this place, with these locals, this stack, this state of the world, the machine comes to its end -/
def jf_X (sh : List jf_K) (E : jf_E) (G : jf_G) (nL pc : Nat) (L : List (Nat × Value)) (st : List Value) (σ : jf_S) : Prop :=
  ∀ (H : Heap) (locs : List Loc) (ls : Array Slot), va_P (jf_D E) vwCl (jf_w sh E σ) H → va_S (jf_A sh E) G.2.2.2.1.heap H locs → lv_has ls nL L → W G.1 E.1 G.2.1 G.2.2.1 G.2.2.2.1 G.2.2.2.2.1 G.2.2.2.2.2.1 G.2.2.2.2.2.2.1 G.2.2.2.2.2.2.2.1 G.2.2.2.2.2.2.2.2.1 H locs 0 0 G.2.2.2.2.2.2.2.2.2 (F0 G.2.2.2.2.1 pc ls st)
theorem jf_w_at {sh : List jf_K} {E : jf_E} {σ : jf_S} {k : Nat} {x : jf_K} (h : sh[k]? = some x) : (jf_w sh E σ)[k]? = some (E.2.2.2.2 k, jf_e E σ k x) := by
  unfold jf_w; rw [List.getElem?_mapIdx, h]; rfl
theorem jf_w_of {sh : List jf_K} {E : jf_E} {σ : jf_S} {k : Nat} {q : Nat × va_E} (h : (jf_w sh E σ)[k]? = some q) : ∃ x, sh[k]? = some x ∧ q = (E.2.2.2.2 k, jf_e E σ k x) := by
  unfold jf_w at h; rw [List.getElem?_mapIdx] at h
  cases hx : sh[k]? with
  | none => rw [hx] at h; cases h
  | some x => rw [hx] at h; exact ⟨x, rfl, (Option.some.inj h).symm⟩
theorem jf_Dd {sh : List jf_K} {E : jf_E} (σ : jf_S) (h : jf_J sh E) : va_D (jf_A sh E) (jf_w sh E σ) := by
  refine ⟨fun i j p q hi hj e => ?_, fun k q hk => ?_⟩
  · obtain ⟨x, h1, rfl⟩ := jf_w_of hi
    obtain ⟨y, h2, rfl⟩ := jf_w_of hj
    exact h i j (List.getElem?_eq_some_iff.mp h1).1 (List.getElem?_eq_some_iff.mp h2).1 e
  · obtain ⟨x, h1, rfl⟩ := jf_w_of hk
    exact ⟨k, (List.getElem?_eq_some_iff.mp h1).1, rfl⟩
/-- a state that differs in the cell k alone -/
theorem jf_w_set {sh : List jf_K} {E : jf_E} {σ τ : jf_S} {k : Nat} {x : jf_K} {v : va_E} (h : sh[k]? = some x) (hv : jf_e E τ k x = v) (h1 : ∀ a, a ≠ k → τ.1 a = σ.1 a) (h2 : ∀ a, a ≠ k → τ.2 a = σ.2 a) : (jf_w sh E σ).set k (E.2.2.2.2 k, v) = jf_w sh E τ := by
  have hl : k < (jf_w sh E σ).length := (List.getElem?_eq_some_iff.mp (jf_w_at (σ := σ) (E := E) h)).1
  apply List.ext_getElem?
  intro i
  by_cases hi : i = k
  · subst hi
    rw [List.getElem?_set_self hl, jf_w_at h, hv]
  · rw [List.getElem?_set_ne (Ne.symm hi)]
    unfold jf_w
    rw [List.getElem?_mapIdx, List.getElem?_mapIdx]
    cases hx : sh[i]? with
    | none => rfl
    | some y =>
      show some _ = some _
      congr 2
      cases y with
      | inl o =>
        have key : o.2.mapIdx (fun j y => jf_v E σ i j y) = o.2.mapIdx (fun j y => jf_v E τ i j y) := by
          apply List.ext_getElem?
          intro j
          rw [List.getElem?_mapIdx, List.getElem?_mapIdx]
          cases o.2[j]? with
          | none => rfl
          | some z => simp only [Option.map, jf_v]; rw [h1 i hi, h2 i hi]
        simp only [jf_e]; rw [key]
      | inr a => simp only [jf_e]; rw [h1 i hi]
theorem jf_i_o {σ : jf_S} {k j : Nat} {v : Int32} (a : Nat) (h : a ≠ k) : (jf_i σ k j v).1 a = σ.1 a := by
  funext b; simp [jf_i, h]
theorem jf_l_o {σ : jf_S} {k j : Nat} {v : Int64} (a : Nat) (h : a ≠ k) : (jf_l σ k j v).2 a = σ.2 a := by
  funext b; simp [jf_l, h]
theorem jf_i_at (σ : jf_S) (k j : Nat) (v : Int32) : (jf_i σ k j v).1 k = upd (σ.1 k) j v := by
  funext b; simp [jf_i, upd]
/-- the object cell behind a written int -/
theorem jf_seti {sh : List jf_K} {E : jf_E} {σ : jf_S} {k j ci : Nat} {fs : List (Option (Option Nat))} {v : Int32} (h : sh[k]? = some (.inl (ci, fs))) (hj : fs[j]? = some none) : (jf_w sh E σ).set k (E.2.2.2.2 k, .inr (ci, (fs.mapIdx (fun j y => jf_v E σ k j y)).set j (.int v))) = jf_w sh E (jf_i σ k j v) := by
  refine jf_w_set h ?_ (fun a ha => jf_i_o a ha) (fun a _ => rfl)
  show Sum.inr (ci, _) = Sum.inr (ci, _)
  congr 2
  apply List.ext_getElem?
  intro i
  have hl : j < (fs.mapIdx (fun j y => jf_v E σ k j y)).length := by rw [List.length_mapIdx]; exact (List.getElem?_eq_some_iff.mp hj).1
  by_cases hi : i = j
  · subst hi
    rw [List.getElem?_set_self hl, List.getElem?_mapIdx, hj]
    simp [jf_v, jf_i]
  · rw [List.getElem?_set_ne (Ne.symm hi), List.getElem?_mapIdx, List.getElem?_mapIdx]
    cases fs[i]? with
    | none => rfl
    | some z =>
      cases z with
      | none => simp [jf_v, jf_i, hi]
      | some z => cases z <;> simp [jf_v, jf_i]
theorem jf_setl {sh : List jf_K} {E : jf_E} {σ : jf_S} {k j ci : Nat} {fs : List (Option (Option Nat))} {v : Int64} (h : sh[k]? = some (.inl (ci, fs))) (hj : fs[j]? = some (some none)) : (jf_w sh E σ).set k (E.2.2.2.2 k, .inr (ci, (fs.mapIdx (fun j y => jf_v E σ k j y)).set j (.long v))) = jf_w sh E (jf_l σ k j v) := by
  refine jf_w_set h ?_ (fun a _ => rfl) (fun a ha => jf_l_o a ha)
  show Sum.inr (ci, _) = Sum.inr (ci, _)
  congr 2
  apply List.ext_getElem?
  intro i
  have hl : j < (fs.mapIdx (fun j y => jf_v E σ k j y)).length := by rw [List.length_mapIdx]; exact (List.getElem?_eq_some_iff.mp hj).1
  by_cases hi : i = j
  · subst hi
    rw [List.getElem?_set_self hl, List.getElem?_mapIdx, hj]
    simp [jf_v, jf_l]
  · rw [List.getElem?_set_ne (Ne.symm hi), List.getElem?_mapIdx, List.getElem?_mapIdx]
    cases fs[i]? with
    | none => rfl
    | some z =>
      cases z with
      | none => simp [jf_v, jf_l]
      | some z => cases z <;> simp [jf_v, jf_l, hi]
theorem jf_seta {sh : List jf_K} {E : jf_E} {σ : jf_S} {k j t n : Nat} {v : Int32} (h : sh[k]? = some (.inr (t, n))) : (jf_w sh E σ).set k (E.2.2.2.2 k, .inl (E.2.2.2.1 t, n, .inl (upd (σ.1 k) j v))) = jf_w sh E (jf_i σ k j v) := by
  refine jf_w_set h ?_ (fun a ha => jf_i_o a ha) (fun a _ => rfl)
  show Sum.inl (_, _, Sum.inl _) = Sum.inl (_, _, Sum.inl _)
  rw [jf_i_at]
/-! words -/
/-- the field idx of the class own is the place j (of the kind kd) of the cell k -/
def jf_f (sh : List jf_K) (own : String) (idx k j : Nat) (kd : Option (Option Nat)) : Prop := ∃ (ci : Nat) (fs : List (Option (Option Nat))) (C : String) (T : u_T) (N : Nat), sh[k]? = some (.inl (ci, fs)) ∧ fs[j]? = some kd ∧ vwCl[ci]? = some (C, T, N) ∧ j < N ∧ (∀ w ∈ u_ws C T N, w ∈ jf_tb) ∧ Cond.fieldLink own idx (T j).1 (T j).2.1 (T j).2.2.1 ∈ jf_tb
/-- and may be written -/
def jf_p (sh : List jf_K) (own : String) (idx k j : Nat) (kd : Option (Option Nat)) (ty : FieldType) : Prop := ∃ (ci : Nat) (fs : List (Option (Option Nat))) (C : String) (T : u_T) (N : Nat) (ty0 : Nat → FieldType), sh[k]? = some (.inl (ci, fs)) ∧ fs[j]? = some kd ∧ vwCl[ci]? = some (C, T, N) ∧ j < N ∧ (∀ w ∈ u_ws C T N, w ∈ jf_tb) ∧ Cond.fieldLink own idx (T j).1 (T j).2.1 (T j).2.2.1 ∈ jf_tb ∧ (∀ k, k < N → parseFieldDescriptor (T k).2.2.1 = some (ty0 k)) ∧ (∀ a, a < N → ∀ b, b < N → a ≠ b → (T a).2.1 ≠ (T b).2.1) ∧ (T j).2.2.2 = false ∧ parseFieldDescriptor (T j).2.2.1 = some ty
/-- a method as the tables have it -/
def jf_y (y : MethodName) (cc : ByteArray) (maxL : Nat) (ret : Option FieldType) (n : Nat) : Prop := Cond.code y cc maxL ret ∈ jf_tb ∧ Cond.initialized y.cls ∈ jf_tb ∧ (y.cls ≠ "java/lang/invoke/MethodHandle" ∧ y.cls ≠ "java/lang/invoke/VarHandle" ∧ (parseMethodDescriptor y.desc).map (fun d => d.parameters.length) = some n) ∧ maxL ≤ 45
def jf_yv (y : MethodName) : Prop := Cond.instanceMethod y ∈ jf_tb ∧ Cond.selects y.cls y y ∈ jf_tb
def jf_cl (sh : List jf_K) (k : Nat) (C : String) : Prop := ∃ (ci : Nat) (fs : List (Option (Option Nat))) (T : u_T) (N : Nat), sh[k]? = some (.inl (ci, fs)) ∧ vwCl[ci]? = some (C, T, N)
theorem jf_gin {w : Cond} (h : w ∈ jf_tb) : GoodIn jf_tb (w :: jf_tb) := by
  intro x hx
  have hm : x ∈ jf_tb := by
    rcases List.mem_cons.mp hx with e | e
    · rw [e]; exact h
    · exact e
  exact ⟨hm, good_of_word (List.mem_filter.mp hm).2⟩
