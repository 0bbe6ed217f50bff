/-! THE MAKERS' FRAME: a world that grows (constructors, the law) -/
section JR2
variable {sh : List jf_K} {E : jf_E} {G : jf_G} {nL d pc : Nat} {cc : ByteArray} {own : String} {L : List (Nat × Value)} {st : List Value} {σ : jf_S}
theorem jr_ldcw (C : jf_C sh E G nL cc own d) {idx : Nat} {v : Int32} (hw : Cond.constant own idx v ∈ jf_tb) (hd : decode cc pc = .ok (.ldc_w idx, 3)) (k : jf_X sh E G nL (pc + 3) L (.int v :: st) σ) : jf_X sh E G nL pc L st σ := by
  intro H locs ls hP hS hl
  exact lv_ldcw C.1 C.2.1 C.2.2.2.1 (C.2.2.2.2.1 _ hw) hd (k H locs ls hP hS hl)
theorem jr_alen (C : jf_C sh E G nL cc own d) {k n : Nat} (hk : sh[k]? = some (.inr (0, n))) (hd : decode cc pc = .ok (.arraylength, 1)) (kk : jf_X sh E G nL (pc + 1) L (.int (Int32.ofNat n) :: st) σ) : jf_X sh E G nL pc L (jf_r E k :: st) σ := by
  intro H locs ls hP hS hl
  exact va_alen C.1 C.2.1 C.2.2.2.2.2.1 hP k 0 (jf_w_at hk) rfl rfl hd (kk H locs ls hP hS hl)
end JR2
def jg_E (E : jf_E) (f : Nat → Nat) : jf_E := (E.1, E.2.1, E.2.2.1, E.2.2.2.1, f)
def jg_C (E : jf_E) (G : jf_G) (A : Nat → Prop) (nL : Nat) (cc : ByteArray) (own : String) (d mc ms : Nat) : Prop :=
  G.1.tables.exec = Jvm.exec ∧ G.2.2.2.2.2.2.2.2.1.code = cc ∧ G.2.2.2.2.2.2.2.2.1.maxLocals = nL ∧ G.2.2.2.1.vm.findClass own = some G.2.2.2.2.1.cls ∧ (∀ w ∈ jf_tb, w.before G.2.2.2.2.2.1 G.2.2.2.1 = true) ∧ va_K (jf_D E) vwCl (jf_T E) G.2.2.2.1 ∧ (∀ q, G.2.2.2.1.heap.size ≤ q → A q) ∧ d ≤ G.2.2.1.frames ∧ 64 * d ≤ G.2.2.1.locals ∧ mc ≤ G.2.2.1.cells ∧ ms ≤ G.2.2.1.slots
def jg_X (E : jf_E) (G : jf_G) (A : Nat → Prop) (nL pc : Nat) (L : List (Nat × Value)) (st : List Value) (ws : va_W) (cs ss : Nat) : Prop :=
  ∀ (H : Heap) (locs : List Loc) (ls : Array Slot), va_P (jf_D E) vwCl ws H → va_D A ws → va_S A G.2.2.2.1.heap H locs → lv_has ls nL L → W G.1 E.1 G.2.1 G.2.2.1 G.2.2.2.1 G.2.2.2.2.1 G.2.2.2.2.2.1 G.2.2.2.2.2.2.1 G.2.2.2.2.2.2.2.1 G.2.2.2.2.2.2.2.2.1 H locs cs ss G.2.2.2.2.2.2.2.2.2 (F0 G.2.2.2.2.1 pc ls st)
/-- a field of the class that the cells of kind ci have -/
def jg_f (own : String) (idx ci j : Nat) (fin : Bool) (ty : FieldType) : Prop := ∃ (C : String) (T : u_T) (N : Nat) (ty0 : Nat → FieldType), vwCl[ci]? = some (C, T, N) ∧ j < N ∧ (∀ w ∈ u_ws C T N, w ∈ jf_tb) ∧ Cond.fieldLink own idx (T j).1 (T j).2.1 (T j).2.2.1 ∈ jf_tb ∧ (∀ k, k < N → parseFieldDescriptor (T k).2.2.1 = some (ty0 k)) ∧ (∀ a, a < N → ∀ b, b < N → a ≠ b → (T a).2.1 ≠ (T b).2.1) ∧ (T j).2.2.2 = fin ∧ (T j).1 = own ∧ parseFieldDescriptor (T j).2.2.1 = some ty
/-- a new object of kind ci, its fields as they are born -/
def jg_n (own : String) (idx ci N : Nat) (fs : List Value) : Prop := ∃ (C : String) (T : u_T) (ty0 : Nat → FieldType), vwCl[ci]? = some (C, T, N) ∧ (∀ w ∈ u_ws C T N, w ∈ jf_tb) ∧ (∀ k, k < N → parseFieldDescriptor (T k).2.2.1 = some (ty0 k)) ∧ Cond.classLink own idx C ∈ jf_tb ∧ Cond.instantiable C N ∈ jf_tb ∧ Cond.initialized C ∈ jf_tb ∧ (∀ j, j < N → defaultValue (ty0 j) = vp_V fs j)
/-- a constructor: from its object alone, as born, it makes its world -/
def jg_M (Z : State → Prop) (E : jf_E) (y : MethodName) (cc : ByteArray) (maxL d mc ms : Nat) (h0 ci : Nat) (fs : List Value) (As : List Value) (sz : Nat) (post : va_W → Prop) : Prop :=
  Met E.1 y (.code y cc maxL none :: jf_tb) { frames := d, cells := mc, slots := ms, locals := 64 * d } (va_Pc (.ref h0 :: As) (fun U => U.heap.size = sz ∧ va_P (jf_D E) vwCl [(h0, .inr (ci, fs))] U.heap ∧ va_K (jf_D E) vwCl (jf_T E) U ∧ Z U)) (va_Qv post (fun ws t => va_P (jf_D E) vwCl ws t.heap ∧ va_K (jf_D E) vwCl (jf_T E) t ∧ va_D (va_A [(h0, .inr (ci, fs))] sz) ws) (va_A [(h0, .inr (ci, fs))] sz)) mc ms (va_A [(h0, .inr (ci, fs))] sz)
/-- what is said of the state, and stays while it is called and warmed -/
def jg_ZK (Z : State → Prop) : Prop := (∀ (U : State) (g : JFrame) (mk : MethodId) (a : Array Value), Z U → Z (U.calling g mk a)) ∧ ∀ (s U : State), s.WarmedH U.vm → Z s → Z U
theorem jg_ZT : jg_ZK (fun _ => True) := ⟨fun _ _ _ _ _ => trivial, fun _ _ _ _ => trivial⟩
set_option maxHeartbeats 1000000 in
theorem jg_mk {Z : State → Prop} {E : jf_E} {y : MethodName} {cc : ByteArray} {maxL d mc ms : Nat} {h0 ci : Nat} {fs As : List Value} {sz : Nat} {post : va_W → Prop} (hy : plainName y.cls = true) (hn : y.name = "<init>") (hsl : (lg_sl (.ref h0 :: As)).length ≤ maxL)
    (body : ∀ (G : jf_G) (A : Nat → Prop), jg_C E G A maxL cc y.cls d mc ms → G.2.2.2.2.2.2.2.1.name = "<init>" → Z G.2.2.2.1 → (∀ (pc : Nat) (L : List (Nat × Value)) (ws : va_W), decode cc pc = .ok (.return_, 1) → post ws → jg_X E G A maxL pc L [] ws mc ms) → jg_X E G A maxL 0 (lv_args 0 (.ref h0 :: As)) [] [(h0, .inr (ci, fs))] 0 0) : jg_M Z E y cc maxL d mc ms h0 ci fs As sz post := by
  refine Met.ofW (cc := cc) (maxL := maxL) (ret := none) hy rfl ?_
  intro p e s m args below meth c s₁ B hml hv
  obtain ⟨rfl, hsz, hP, hK, hZ⟩ := hv
  have hx := B.exec
  have hb := B.bytes
  have hr := B.returns
  have hts := atoms_spec (ws := .code y cc maxL none :: jf_tb) B.pre
  have hown : s.vm.findClass y.cls = some m.cls := findClass_of_methodNamed B.named
  have hlocks := B.notSynchronized
  have hin : meth.name = "<init>" := (name_of_methodNamed B.named B.method).1.trans hn
  subst hsz
  have hD0 : va_D (fun _ => True) [(h0, (Sum.inr (ci, fs) : va_E))] := by
    refine ⟨fun i j p q hi hj _ => ?_, fun _ _ _ => trivial⟩
    have h1 := (List.getElem?_eq_some_iff.mp hi).1
    have h2 := (List.getElem?_eq_some_iff.mp hj).1
    simp at h1 h2
    omega
  have hD := hD0.self (sz := s.heap.size)
  have key := body (p, e, { frames := d, cells := mc, slots := ms, locals := 64 * d }, s, m, (Value.ref h0 :: As).toArray, below, meth, c, MQ below (va_Qv post (fun ws t => va_P (jf_D E) vwCl ws t.heap ∧ va_K (jf_D E) vwCl (jf_T E) t ∧ va_D (va_A [(h0, .inr (ci, fs))] s.heap.size) ws) (va_A [(h0, .inr (ci, fs))] s.heap.size)) (Value.ref h0 :: As).toArray s mc ms (va_A [(h0, .inr (ci, fs))] s.heap.size)) (va_A [(h0, .inr (ci, fs))] s.heap.size) ⟨hx, hb, hml, hown, fun w h => hts w (List.mem_cons_of_mem _ h), hK, fun q h => Or.inr h, Nat.le_refl _, Nat.le_refl _, Nat.le_refl _, Nat.le_refl _⟩ hin hZ ?_
  · rw [lg_entry_eq]
    exact key s.heap [] _ hP hD va_S.rf (lv_entry (.ref h0 :: As) hsl)
  · intro pc L ws hd hp H locs ls hP' hD' hS hl
    exact W.vret hx hb hr (fun t ht hW => ⟨⟨ws, rfl, hp, by rw [ht]; exact hP', va_K.moved hW.alike hK, hD'⟩, hS.F ht⟩) hS.2.2 hd hlocks
section JG
variable {E : jf_E} {G : jf_G} {A : Nat → Prop} {nL d mc ms pc cs ss : Nat} {cc : ByteArray} {own : String} {L : List (Nat × Value)} {st : List Value} {ws : va_W}
theorem jg_aload_n (C : jg_C E G A nL cc own d mc ms) {k : Fin 4} {x : Nat} (hd : decode cc pc = .ok (.aload_n k, 1)) (hL : jf_lk (k : Nat) L = some (.ref x)) (kk : jg_X E G A nL (pc + 1) L (.ref x :: st) ws cs ss) : jg_X E G A nL pc L st ws cs ss := by
  intro H locs ls hP hD hS hl
  exact lv_aload_n C.1 C.2.1 hd rfl (jf_lk_at hl hL) (kk H locs ls hP hD hS hl)
theorem jg_aload (C : jg_C E G A nL cc own d mc ms) {k : Nat} {x : Nat} (hd : decode cc pc = .ok (.aload k, 2)) (hL : jf_lk k L = some (.ref x)) (kk : jg_X E G A nL (pc + 2) L (.ref x :: st) ws cs ss) : jg_X E G A nL pc L st ws cs ss := by
  intro H locs ls hP hD hS hl
  exact lv_aload C.1 C.2.1 hd (jf_lk_at hl hL) (kk H locs ls hP hD hS hl)
theorem jg_iload_n (C : jg_C E G A nL cc own d mc ms) {k : Fin 4} {x : Int32} (hd : decode cc pc = .ok (.iload_n k, 1)) (hL : jf_lk (k : Nat) L = some (.int x)) (kk : jg_X E G A nL (pc + 1) L (.int x :: st) ws cs ss) : jg_X E G A nL pc L st ws cs ss := by
  intro H locs ls hP hD hS hl
  exact lv_iload_n C.1 C.2.1 hd rfl (jf_lk_at hl hL) (kk H locs ls hP hD hS hl)
theorem jg_astore_n (C : jg_C E G A nL cc own d mc ms) {k : Fin 4} {x : Nat} (hd : decode cc pc = .ok (.astore_n k, 1)) (hn : (k : Nat) < nL) (kk : jg_X E G A nL (pc + 1) (jf_s1 (k : Nat) (.ref x) L) st ws cs ss) : jg_X E G A nL pc L (.ref x :: st) ws cs ss := by
  intro H locs ls hP hD hS hl
  exact lv_astore_n C.1 C.2.1 hd rfl hl hn rfl (fun ls' hl' => kk H locs ls' hP hD hS hl')
theorem jg_istore_n (C : jg_C E G A nL cc own d mc ms) {k : Fin 4} {x : Int32} (hd : decode cc pc = .ok (.istore_n k, 1)) (hn : (k : Nat) < nL) (kk : jg_X E G A nL (pc + 1) (jf_s1 (k : Nat) (.int x) L) st ws cs ss) : jg_X E G A nL pc L (.int x :: st) ws cs ss := by
  intro H locs ls hP hD hS hl
  exact lv_istore_n C.1 C.2.1 hd rfl hl hn rfl (fun ls' hl' => kk H locs ls' hP hD hS hl')
theorem jg_iinc (C : jg_C E G A nL cc own d mc ms) {i : Nat} {n : Int} {x : Int32} (v : Int32) (hd : decode cc pc = .ok (.iinc i n, 3)) (hj : jf_lk i L = some (.int x)) (hv : x + Int32.ofInt n = v) (hn : i < nL) (kk : jg_X E G A nL (pc + 3) (jf_s1 i (.int v) L) st ws cs ss) : jg_X E G A nL pc L st ws cs ss := by
  intro H locs ls hP hD hS hl
  obtain ⟨j, hj⟩ := jf_lk_ix hj
  exact lv_iinc C.1 C.2.1 hd hl hj hv hn rfl (fun ls' hl' => kk H locs ls' hP hD hS hl')
theorem jg_iconst (C : jg_C E G A nL cc own d mc ms) {n : Int} (v : Int32) (hd : decode cc pc = .ok (.iconst n, 1)) (hv : Int32.ofInt n = v) (k : jg_X E G A nL (pc + 1) L (.int v :: st) ws cs ss) : jg_X E G A nL pc L st ws cs ss := by
  intro H locs ls hP hD hS hl
  exact lv_iconst C.1 C.2.1 hd hv (k H locs ls hP hD hS hl)
theorem jg_bipush (C : jg_C E G A nL cc own d mc ms) {n : Int} (v : Int32) (hd : decode cc pc = .ok (.bipush n, 2)) (hv : (Int8.ofInt n).toInt32 = v) (k : jg_X E G A nL (pc + 2) L (.int v :: st) ws cs ss) : jg_X E G A nL pc L st ws cs ss := by
  intro H locs ls hP hD hS hl
  exact lv_bipush C.1 C.2.1 hd hv (k H locs ls hP hD hS hl)
theorem jg_sipush (C : jg_C E G A nL cc own d mc ms) {n : Int} (v : Int32) (hd : decode cc pc = .ok (.sipush n, 3)) (hv : (Int16.ofInt n).toInt32 = v) (k : jg_X E G A nL (pc + 3) L (.int v :: st) ws cs ss) : jg_X E G A nL pc L st ws cs ss := by
  intro H locs ls hP hD hS hl
  exact lv_sipush C.1 C.2.1 hd hv (k H locs ls hP hD hS hl)
theorem jg_iadd (C : jg_C E G A nL cc own d mc ms) {x y : Int32} (hd : decode cc pc = .ok (.iadd, 1)) (k : jg_X E G A nL (pc + 1) L (.int (x + y) :: st) ws cs ss) : jg_X E G A nL pc L (.int y :: .int x :: st) ws cs ss := by
  intro H locs ls hP hD hS hl
  exact lv_iadd C.1 C.2.1 hd (k H locs ls hP hD hS hl)
theorem jg_isub (C : jg_C E G A nL cc own d mc ms) {x y : Int32} (hd : decode cc pc = .ok (.isub, 1)) (k : jg_X E G A nL (pc + 1) L (.int (x - y) :: st) ws cs ss) : jg_X E G A nL pc L (.int y :: .int x :: st) ws cs ss := by
  intro H locs ls hP hD hS hl
  exact lv_isub C.1 C.2.1 hd (k H locs ls hP hD hS hl)
theorem jg_iand (C : jg_C E G A nL cc own d mc ms) {x y : Int32} (hd : decode cc pc = .ok (.iand, 1)) (k : jg_X E G A nL (pc + 1) L (.int (x &&& y) :: st) ws cs ss) : jg_X E G A nL pc L (.int y :: .int x :: st) ws cs ss := by
  intro H locs ls hP hD hS hl
  exact lv_iand C.1 C.2.1 hd (k H locs ls hP hD hS hl)
theorem jg_topi {x : Int32} (k : ∀ y : Int32, y = x → jg_X E G A nL pc L (.int y :: st) ws cs ss) : jg_X E G A nL pc L (.int x :: st) ws cs ss := k x rfl
theorem jg_dup (C : jg_C E G A nL cc own d mc ms) {a : Value} (hd : decode cc pc = .ok (.dup, 1)) (ha : a.category = 1) (k : jg_X E G A nL (pc + 1) L (a :: a :: st) ws cs ss) : jg_X E G A nL pc L (a :: st) ws cs ss := by
  intro H locs ls hP hD hS hl
  exact lv_dup C.1 C.2.1 hd ha (k H locs ls hP hD hS hl)
theorem jg_goto (C : jg_C E G A nL cc own d mc ms) {off : Int} (tgt : Nat) (hd : decode cc pc = .ok (.goto off, 3)) (ht : (pc : Int) + off = (tgt : Int)) (k : jg_X E G A nL tgt L st ws cs ss) : jg_X E G A nL pc L st ws cs ss := by
  intro H locs ls hP hD hS hl
  exact lv_goto C.1 C.2.1 hd ht (k H locs ls hP hD hS hl)
theorem jg_icmp_gt (C : jg_C E G A nL cc own d mc ms) {x y : Int32} {off : Int} (tgt : Nat) (hd : decode cc pc = .ok (.if_icmp .gt off, 3)) (ht : (pc : Int) + off = (tgt : Int)) (kt : y < x → jg_X E G A nL tgt L st ws cs ss) (kf : ¬ y < x → jg_X E G A nL (pc + 3) L st ws cs ss) : jg_X E G A nL pc L (.int y :: .int x :: st) ws cs ss := by
  intro H locs ls hP hD hS hl
  exact lv_icmp_gt C.1 C.2.1 hd ht (fun q => kt q H locs ls hP hD hS hl) (fun q => kf q H locs ls hP hD hS hl)
theorem jg_icmp_eq (C : jg_C E G A nL cc own d mc ms) {x y : Int32} {off : Int} (tgt : Nat) (hd : decode cc pc = .ok (.if_icmp .eq off, 3)) (ht : (pc : Int) + off = (tgt : Int)) (kt : x = y → jg_X E G A nL tgt L st ws cs ss) (kf : ¬ x = y → jg_X E G A nL (pc + 3) L st ws cs ss) : jg_X E G A nL pc L (.int y :: .int x :: st) ws cs ss := by
  intro H locs ls hP hD hS hl
  exact lv_icmp_eq C.1 C.2.1 hd ht (fun q => kt q H locs ls hP hD hS hl) (fun q => kf q H locs ls hP hD hS hl)
theorem jg_tabOut (C : jg_C E G A nL cc own d mc ms) {dflt lo hi : Int} {offs : Array Int} {len : Nat} {x : Int32} (tgt : Nat) (hd : decode cc pc = .ok (.tableswitch dflt lo hi offs, len)) (h : x.toInt < lo ∨ hi < x.toInt) (ht : (pc : Int) + dflt = (tgt : Int)) (k : jg_X E G A nL tgt L st ws cs ss) : jg_X E G A nL pc L (.int x :: st) ws cs ss := by
  intro H locs ls hP hD hS hl
  exact lv_tableOut C.1 C.2.1 hd h ht (k H locs ls hP hD hS hl)
theorem jg_tabIn (C : jg_C E G A nL cc own d mc ms) {dflt lo hi : Int} {offs : Array Int} {len : Nat} {x : Int32} {off : Int} (tgt : Nat) (hd : decode cc pc = .ok (.tableswitch dflt lo hi offs, len)) (h1 : ¬ x.toInt < lo) (h2 : ¬ hi < x.toInt) (ho : offs[(x.toInt - lo).toNat]? = some off) (ht : (pc : Int) + off = (tgt : Int)) (k : jg_X E G A nL tgt L st ws cs ss) : jg_X E G A nL pc L (.int x :: st) ws cs ss := by
  intro H locs ls hP hD hS hl
  exact lv_tableIn C.1 C.2.1 hd h1 h2 ho ht (k H locs ls hP hD hS hl)
theorem jg_sld (C : jg_C E G A nL cc own d mc ms) {b n : Nat} {xs : Nat → Int32} {i : Int32} (hX : va_X b n xs G.2.2.2.1 G.2.2.2.1.heap) (hbl : b < G.2.2.2.1.heap.size) (hbA : ¬ A b) (hd : decode cc pc = .ok (.iaload, 1)) (hin : vp_in i n) (kk : jg_X E G A nL (pc + 1) L (.int (xs i.toNatClampNeg) :: st) ws cs ss) : jg_X E G A nL pc L (.int i :: .ref b :: st) ws cs ss := by
  intro H locs ls hP hD hS hl
  exact va_sld C.1 C.2.1 hX hbl hbA hS hin hd (kk H locs ls hP hD hS hl)
theorem jg_slen (C : jg_C E G A nL cc own d mc ms) {b n : Nat} {xs : Nat → Int32} (hX : va_X b n xs G.2.2.2.1 G.2.2.2.1.heap) (hbl : b < G.2.2.2.1.heap.size) (hbA : ¬ A b) (hd : decode cc pc = .ok (.arraylength, 1)) (kk : jg_X E G A nL (pc + 1) L (.int (Int32.ofNat n) :: st) ws cs ss) : jg_X E G A nL pc L (.ref b :: st) ws cs ss := by
  intro H locs ls hP hD hS hl
  exact va_slen C.1 C.2.1 hX hbl hbA hS hd (kk H locs ls hP hD hS hl)
theorem jg_sub (is : List Nat) (ws' : va_W) (hn : va_nd is = true) (hs : is.map (fun i => ws[i]?) = ws'.map some) (k : jg_X E G A nL pc L st ws' cs ss) : jg_X E G A nL pc L st ws cs ss := by
  intro H locs ls hP hD hS hl
  refine k H locs ls ?_ (hD.sub is hn hs) hS hl
  intro i q hi
  have h1 : (is.map (fun i => ws[i]?))[i]? = some (some q) := by rw [hs, List.getElem?_map, hi]; rfl
  rw [List.getElem?_map] at h1
  cases hj : is[i]? with
  | none => rw [hj] at h1; cases h1
  | some j => rw [hj] at h1; exact hP j q (Option.some.inj h1)
theorem jg_wid (cs' ss' : Nat) (h1 : cs ≤ cs') (h2 : ss ≤ ss') (k : jg_X E G A nL pc L st ws cs' ss') : jg_X E G A nL pc L st ws cs ss := by
  intro H locs ls hP hD hS hl
  exact W.widen h1 h2 (k H locs ls hP hD hS hl)
theorem jg_loc (L' : List (Nat × Value)) (hL : L'.map (fun q => jf_lk q.1 L) = L'.map (fun q => some q.2)) (k : jg_X E G A nL pc L' st ws cs ss) : jg_X E G A nL pc L st ws cs ss := fun H locs ls hP hD hS hl => k H locs ls hP hD hS (jf_sub hl hL)
theorem jg_obj (C : jg_C E G A nL cc own d mc ms) {idx a : Nat} (hw : Cond.methodLink own idx Lib.objectInit ∈ jf_tb ∧ Cond.instanceMethod Lib.objectInit ∈ jf_tb ∧ Cond.code Lib.objectInit ⟨#[0xb1]⟩ 1 none ∈ jf_tb) (hd1 : 1 ≤ d) (hr : (st.map fun v => v.category).sum ≤ 8) (hd : decode cc pc = .ok (.invokespecial idx, 3)) (k : jg_X E G A nL (pc + 3) L st ws cs ss) : jg_X E G A nL pc L (.ref a :: st) ws cs ss := by
  intro H locs ls hP hD hS hl
  have g1 := C.2.2.2.2.2.2.2.1
  have g2 := C.2.2.2.2.2.2.2.2.1
  exact W.objInit C.1 C.2.1 C.2.2.2.1 (C.2.2.2.2.1 _ hw.1) (C.2.2.2.2.1 _ hw.2.1) (C.2.2.2.2.1 _ hw.2.2) rfl (by rw [C.2.2.1]; exact hl.1) rfl hd (by omega) (by show 2 * 0 + _ + 12 ≤ _; omega) (k H locs ls hP hD hS hl)
/-- an array of ints (t = 0) or booleans (t = 1) is made -/
theorem jg_newa (C : jg_C E G A nL cc own d mc ms) {t N : Nat} {at' : ArrayType} {n : Int32} (hat : (t = 0 ∧ at' = .int) ∨ (t = 1 ∧ at' = .boolean)) (hw : Cond.arrayClass (newarray.typeOf at') ∈ jf_tb) (hn : ¬ n < 0) (hN : n.toNatClampNeg = N) (hb : N ≤ 100000) (hd : decode cc pc = .ok (.newarray at', 2)) (hc : cs + 1 ≤ mc) (hs : ss + N ≤ ms)
    (kk : ∀ q : Nat, jg_X E G A nL (pc + 2) L (.ref q :: st) (ws ++ [(q, .inl (E.2.2.2.1 t, N, .inl (fun _ => 0)))]) (cs + 1) (ss + N)) : jg_X E G A nL pc L (.int n :: st) ws cs ss := by
  intro H locs ls hP hD hS hl
  have g3 := C.2.2.2.2.2.2.2.2.2.1
  have g4 := C.2.2.2.2.2.2.2.2.2.2
  have hK := C.2.2.2.2.2.1
  rcases hat with ⟨rfl, rfl⟩ | ⟨rfl, rfl⟩
  · refine va_newa (ty := .int) (a0 := (N, .inl (fun _ => 0))) C.1 C.2.1 (C.2.2.2.2.1 _ hw) rfl hK hP hD hS C.2.2.2.2.2.2.1 (fun cA => rfl) hn hN (by show N * 4 ≤ _; omega) (by omega) (by omega) hd (fun q cA H1 k1 p1 d1 s1 => ?_)
    have e : cA = E.2.2.2.1 0 := by
      have h1 := (k1.2 2 (cA, .int) rfl).2
      have h2 := (hK.2 0 (E.2.2.2.1 0, .int) rfl).2
      exact Option.some.inj (h1.symm.trans h2)
    subst e
    exact kk q H1 locs ls p1 d1 s1 hl
  · refine va_newa (ty := .boolean) (a0 := (N, .inl (fun _ => 0))) C.1 C.2.1 (C.2.2.2.2.1 _ hw) rfl hK hP hD hS C.2.2.2.2.2.2.1 (fun cA => rfl) hn hN (by show N * 1 ≤ _; omega) (by omega) (by omega) hd (fun q cA H1 k1 p1 d1 s1 => ?_)
    have e : cA = E.2.2.2.1 1 := by
      have h1 := (k1.2 2 (cA, .boolean) rfl).2
      have h2 := (hK.2 1 (E.2.2.2.1 1, .boolean) rfl).2
      exact Option.some.inj (h1.symm.trans h2)
    subst e
    exact kk q H1 locs ls p1 d1 s1 hl
/-- a final reference of the object at hand is set -/
theorem jg_putF (C : jg_C E G A nL cc own d mc ms) (hI : G.2.2.2.2.2.2.2.1.name = "<init>") {idx ci j a v N : Nat} {ty : FieldType} {fs : List Value} {tl : va_W} (hf : jg_f own idx ci j true ty) (hty : narrow ty (.ref v) = .ref v ∧ fits ty (.ref v) = true) (hl0 : fs.length = N) (hj : j < N) (hd : decode cc pc = .ok (.putfield idx, 3))
    (kk : ∀ fs' : List Value, fs'.length = N → fs' = fs.set j (.ref v) → jg_X E G A nL (pc + 3) L st ((a, .inr (ci, fs')) :: tl) cs ss) : jg_X E G A nL pc L (.ref v :: .ref a :: st) ((a, .inr (ci, fs)) :: tl) cs ss := by
  intro H locs ls hP hD hS hl
  obtain ⟨C0, T, M, ty0, h1, h2, h3, h4, h5, h6, h7, h8, h9⟩ := hf
  exact va_putF (D := jf_D E) (Ts := jf_tb) C.1 C.2.1 C.2.2.2.2.1 h3 ty0 h5 h6 C.2.2.2.1 C.2.2.2.2.2.1 hP hD hS 0 rfl h1 j h2 (C.2.2.2.2.1 _ h4) (fun _ h => h) h7 hI h8 h9 hty.1 hty.2 (by omega) hd (fun H1 locs1 q1 q2 q3 => kk _ (by rw [List.length_set]; exact hl0) rfl H1 locs1 ls q1 q2 q3 hl)
/-- an int (or boolean) of it -/
theorem jg_puti (C : jg_C E G A nL cc own d mc ms) {idx ci j a N : Nat} {v : Int32} {ty : FieldType} {fs : List Value} {tl : va_W} (hf : jg_f own idx ci j false ty) (hty : narrow ty (.int v) = .int v ∧ fits ty (.int v) = true) (hl0 : fs.length = N) (hj : j < N) (hd : decode cc pc = .ok (.putfield idx, 3))
    (kk : ∀ fs' : List Value, fs'.length = N → fs' = fs.set j (.int v) → jg_X E G A nL (pc + 3) L st ((a, .inr (ci, fs')) :: tl) cs ss) : jg_X E G A nL pc L (.int v :: .ref a :: st) ((a, .inr (ci, fs)) :: tl) cs ss := by
  intro H locs ls hP hD hS hl
  obtain ⟨C0, T, M, ty0, h1, h2, h3, h4, h5, h6, h7, h8, h9⟩ := hf
  exact va_put (D := jf_D E) (Ts := jf_tb) C.1 C.2.1 C.2.2.2.2.1 h3 ty0 h5 h6 C.2.2.2.1 C.2.2.2.2.2.1 hP hD hS 0 rfl h1 j h2 (C.2.2.2.2.1 _ h4) (fun _ h => h) h7 h9 hty.1 hty.2 (by omega) hd (fun H1 locs1 q1 q2 q3 => kk _ (by rw [List.length_set]; exact hl0) rfl H1 locs1 ls q1 q2 q3 hl)
theorem jg_get (C : jg_C E G A nL cc own d mc ms) {idx ci j a : Nat} {v : Value} {fin : Bool} {ty : FieldType} {fs : List Value} {tl : va_W} (hf : jg_f own idx ci j fin ty) (hv : fs[j]? = some v) (hd : decode cc pc = .ok (.getfield idx, 3)) (kk : jg_X E G A nL (pc + 3) L (v :: st) ((a, .inr (ci, fs)) :: tl) cs ss) : jg_X E G A nL pc L (.ref a :: st) ((a, .inr (ci, fs)) :: tl) cs ss := by
  intro H locs ls hP hD hS hl
  obtain ⟨C0, T, M, ty0, h1, h2, h3, h4, h5, h6, h7, h8, h9⟩ := hf
  exact va_get (D := jf_D E) (Ts := jf_tb) C.1 C.2.1 C.2.2.2.2.1 h3 C.2.2.2.1 C.2.2.2.2.2.1 hP 0 rfl h1 j h2 (C.2.2.2.2.1 _ h4) (fun _ h => h) hv hd (kk H locs ls hP hD hS hl)
theorem jg_new (C : jg_C E G A nL cc own d mc ms) {idx ci N : Nat} {fs : List Value} (hf : jg_n own idx ci N fs) (hc : cs + 1 ≤ mc) (hs : ss + N ≤ ms) (hd : decode cc pc = .ok (.new idx, 3)) (kk : ∀ q : Nat, jg_X E G A nL (pc + 3) L (.ref q :: st) (ws ++ [(q, .inr (ci, fs))]) (cs + 1) (ss + N)) : jg_X E G A nL pc L st ws cs ss := by
  intro H locs ls hP hD hS hl
  have g3 := C.2.2.2.2.2.2.2.2.2.1
  have g4 := C.2.2.2.2.2.2.2.2.2.2
  obtain ⟨C0, T, ty0, h1, h2, h3, h4, h5, h6, h7⟩ := hf
  exact va_new (D := jf_D E) (Ts := jf_tb) C.1 C.2.1 C.2.2.2.2.1 h2 ty0 h3 C.2.2.2.1 (C.2.2.2.2.1 _ h4) (C.2.2.2.2.1 _ h5) (C.2.2.2.2.1 _ h6) C.2.2.2.2.2.1 hP hD hS C.2.2.2.2.2.2.1 h1 h7 (by omega) (by omega) hd (fun q H1 p1 d1 s1 => kk q H1 locs ls p1 d1 s1 hl)
/-- an array's place is set -/
theorem jg_iast (C : jg_C E G A nL cc own d mc ms) (k : Nat) {a N : Nat} {i x : Int32} {f : Nat → Int32} (ws' : va_W) (hk : ws[k]? = some (a, .inl (E.2.2.2.1 0, N, .inl f))) (hin : vp_in i N) (hw : ws.set k (a, .inl (E.2.2.2.1 0, N, .inl (upd f i.toNatClampNeg x))) = ws') (hd : decode cc pc = .ok (.iastore, 1)) (kk : jg_X E G A nL (pc + 1) L st ws' cs ss) : jg_X E G A nL pc L (.int x :: .int i :: .ref a :: st) ws cs ss := by
  intro H locs ls hP hD hS hl
  subst hw
  exact va_iast C.1 C.2.1 C.2.2.2.2.2.1 hP hD hS k 0 hk rfl hin hd (fun H1 locs1 q1 q2 q3 => kk H1 locs1 ls q1 q2 q3 hl)
theorem jg_rng (wr : va_W) (c : Nat × va_E) : (List.range wr.length).map (fun i => (wr ++ [c])[i]?) = wr.map some := by
  apply List.ext_getElem?
  intro i
  rw [List.getElem?_map, List.getElem?_map]
  by_cases h : i < wr.length
  · rw [List.getElem?_range h]
    show some ((wr ++ [c])[i]?) = _
    rw [List.getElem?_append_left h]
    cases hh : wr[i]? with
    | none => rw [List.getElem?_eq_none_iff] at hh; omega
    | some q => rfl
  · rw [List.getElem?_eq_none (by simp; omega), List.getElem?_eq_none (by omega)]; rfl
theorem jg_nd : ∀ (l : List Nat), l.Nodup → va_nd l = true
  | [], _ => rfl
  | a :: l, h => by
    rw [List.nodup_cons] at h
    simp only [va_nd, Bool.and_eq_true, decide_eq_true_eq]
    exact ⟨h.1, jg_nd l h.2⟩
/-- a constructor is called on the object that was made last -/
theorem jg_call (Z : State → Prop) (hZk : jg_ZK Z) (hZ : Z G.2.2.2.1) (C : jg_C E G A nL cc own d mc ms) {idx q ci maxL' d' mc' ms' : Nat} {y : MethodName} {b' : ByteArray} {fs : List Value} {post : va_W → Prop} (As rest : List Value) (hM : ∀ sz, jg_M Z E y b' maxL' d' mc' ms' q ci fs As sz post) (hy : jf_y y b' maxL' none As.length) (hy1 : y.name = "<init>") (hyi : Cond.instanceMethod y ∈ jf_tb)
    (hw : Cond.methodLink own idx y ∈ jf_tb ∨ ∃ host, va_Nw (.methodLinkNest own idx y host) G.2.2.2.1) (hlev : d' + 1 ≤ d) (hst : st = As.reverse ++ .ref q :: rest) (hr : (rest.map fun v => v.category).sum ≤ 8) (hc : cs + mc' ≤ mc) (hs : ss + ms' ≤ ms) (hd : decode cc pc = .ok (.invokespecial idx, 3))
    (kk : ∀ w1 : va_W, post w1 → jg_X E G A nL (pc + 3) L rest (ws ++ w1) (cs + mc') (ss + ms')) : jg_X E G A nL pc L st (ws ++ [(q, .inr (ci, fs))]) cs ss := by
  intro H locs ls hP hD hS hl
  have g1 := C.2.2.2.2.2.2.2.1
  have g2 := C.2.2.2.2.2.2.2.2.1
  have g3 := C.2.2.2.2.2.2.2.2.2.1
  have g4 := C.2.2.2.2.2.2.2.2.2.2
  have g5 := hy.2.2.2
  have hat : (ws ++ [(q, (Sum.inr (ci, fs) : va_E))])[ws.length]? = some (q, .inr (ci, fs)) := by simp
  have hPc : va_P (jf_D E) vwCl [(q, .inr (ci, fs))] H := by
    intro k x hk
    have h1 := (List.getElem?_eq_some_iff.mp hk).1
    simp at h1
    subst h1
    cases hk
    exact hP _ _ hat
  have hFc := va_free (wc := [(q, .inr (ci, fs))]) hD hS C.2.2.2.2.2.2.1 [ws.length] (by simp)
  have hB : FrameBlind (va_Pc (.ref q :: As) (fun U => U.heap.size = H.size ∧ va_P (jf_D E) vwCl [(q, .inr (ci, fs))] U.heap ∧ va_K (jf_D E) vwCl (jf_T E) U ∧ Z U)) := fun a U g mk h => by
    obtain ⟨q0, q1, q2, q3, q4⟩ := h
    exact ⟨q0, q1, q2, va_K.moved (u := U) (U := U.calling g mk a) (Vm.Alike.refl U.vm) q3, hZk.1 U g mk a q4⟩
  have hp : PreS G.2.2.2.1 H (va_Pc (.ref q :: As) (fun U => U.heap.size = H.size ∧ va_P (jf_D E) vwCl [(q, .inr (ci, fs))] U.heap ∧ va_K (jf_D E) vwCl (jf_T E) U ∧ Z U)) (.ref q :: As) := ⟨hB, fun U hU hW => ⟨rfl, by rw [hU], by rw [hU]; exact hPc, va_K.moved hW.alike C.2.2.2.2.2.1, hZk.2 _ U hW hZ⟩⟩
  have hrm : ({ frames := d', cells := mc', slots := ms', locals := 64 * d' } : Room).frames + 1 ≤ G.2.2.1.frames ∧ 8 + (maxL' + 11) + ({ frames := d', cells := mc', slots := ms', locals := 64 * d' } : Room).locals ≤ G.2.2.1.locals := ⟨by show d' + 1 ≤ _; omega, by show 8 + (maxL' + 11) + 64 * d' ≤ _; omega⟩
  have fin : ∀ (u : va_W) (t : State) (H1 : Heap) (locs1 : List Loc), t.heap = H1 → G.2.2.2.1.vm.Alike t.vm → post u → (va_P (jf_D E) vwCl u t.heap ∧ va_K (jf_D E) vwCl (jf_T E) t ∧ va_D (va_A [(q, .inr (ci, fs))] H.size) u) → H.size ≤ H1.size → (∀ x : Nat, x < H.size → ¬ va_A [(q, .inr (ci, fs))] H.size x → H1[x]? = H[x]?) → va_S A G.2.2.2.1.heap H1 locs1 → W G.1 E.1 G.2.1 G.2.2.1 G.2.2.2.1 G.2.2.2.2.1 G.2.2.2.2.2.1 G.2.2.2.2.2.2.1 G.2.2.2.2.2.2.2.1 G.2.2.2.2.2.2.2.2.1 H1 locs1 (cs + mc') (ss + ms') G.2.2.2.2.2.2.2.2.2 (F0 G.2.2.2.2.1 (pc + 3) ls rest) := by
    intro u t H1 locs1 e1 e2 e3 e4 e5 e6 e7
    obtain ⟨p1, -, d1⟩ := e4
    rw [e1] at p1
    obtain ⟨hP2, hD2⟩ := va_join (wc := [(q, .inr (ci, fs))]) (wr := ws) (w1 := u) hP hD [ws.length] (List.range ws.length) (by simp) (jg_rng ws _) (jg_nd _ List.nodup_range) (fun i hi hj => by simp at hi hj; omega) e6 hFc p1 d1
    exact kk u e3 H1 locs1 ls hP2 hD2 e7 hl
  rcases hw with hw | ⟨host, hw⟩
  · exact va_callv (va_runI (As := As) (rest := rest) (Ts := jf_tb) ⟨C.1, C.2.1, C.2.2.1, C.2.2.2.1, C.2.2.2.2.1⟩ (hM H.size) ⟨callB_of As.length C.2.2.2.2.1 (jf_gin hy.1) rfl rfl rfl (C.2.2.2.2.1 _ hy.2.1) (C.2.2.2.2.1 _ hw) hy.2.2.1 hrm, hy1, C.2.2.2.2.1 _ hyi⟩ hp rfl rfl hl.1 hst (lv_room hr) hd ⟨by omega, by omega⟩) hS (fun x _ h => hFc x h) hFc fin
  · exact va_callv (va_runIN (As := As) (rest := rest) (Ts := jf_tb) ⟨C.1, C.2.1, C.2.2.1, C.2.2.2.1, C.2.2.2.2.1⟩ (hM H.size) ⟨va_cnB As.length C.2.2.2.2.1 (jf_gin hy.1) rfl rfl rfl hw (C.2.2.2.2.1 _ hy.2.1) hy.2.2.1 hrm, hy1, C.2.2.2.2.1 _ hyi⟩ hp rfl rfl hl.1 hst (lv_room hr) hd ⟨by omega, by omega⟩) hS (fun x _ h => hFc x h) hFc fin
end JG
