theorem kw_J0_38 : Cond.fieldLink RJ0 38 "java/lang/String" "COMPACT_STRINGS" "Z" ∈ jf_tb := (jt_4 75 rfl rfl)
theorem kw_J0_15 : Cond.fieldLink RJ0 15 "java/lang/String" "coder" "B" ∈ jf_tb := (jt_7 60 rfl rfl)
theorem kw_J0_9 : Cond.fieldLink RJ0 9 "java/lang/String" "value" "[B" ∈ jf_tb := (jt_7 59 rfl rfl)
theorem kw_J0_335 : Cond.methodLink RJ0 335 yJ0_coder_7d493 ∈ jf_tb := (jt_4 71 rfl rfl)
theorem ky_coder : jf_y yJ0_coder_7d493 cJ0_coder_7d493 1 (some .byte) 0 := ⟨(jt_4 74 rfl rfl), (jt_1 15 rfl rfl), by decide +kernel, by decide⟩
theorem kv_coder : jf_yv yJ0_coder_7d493 := ⟨(jt_4 72 rfl rfl), (jt_4 73 rfl rfl)⟩
theorem ky_length : jf_y yJ0_length_8abf5 cJ0_length_8abf5 1 (some .int) 0 := ⟨(jt_4 70 rfl rfl), (jt_1 15 rfl rfl), by decide +kernel, by decide⟩
theorem kv_length : jf_yv yJ0_length_8abf5 := ⟨(jt_4 68 rfl rfl), (jt_4 69 rfl rfl)⟩
theorem kw_X6_113 : Cond.methodLink RX6 113 yJ0_length_8abf5 ∈ jf_tb := (jt_4 67 rfl rfl)
/-! String constants of the class's reader -/
/-- a String of these bytes (all below 128) -/
def js_one (a v : Nat) (bs : List Int32) (A : Nat → Prop) (U : State) (H : Heap) : Prop := va_O "java/lang/String" a A U H ∧ va_OF "java/lang/String" "coder" "B" (.int 0) a A U H ∧ va_OF "java/lang/String" "value" "[B" (.ref v) a A U H ∧ va_T .byte v bs.length (fun j => .int (bs.getD j 0)) A U H
/-- it, and how Strings are held -/
def js_S (a v : Nat) (bs : List Int32) (A : Nat → Prop) (U : State) (H : Heap) : Prop := va_Z "java/lang/String" "COMPACT_STRINGS" "Z" (.int 1) A U H ∧ js_one a v bs A U H
theorem js_S.moved {a v : Nat} {bs : List Int32} {A : Nat → Prop} {u U : State} {H : Heap} (hvm : u.vm.Alike U.vm) (h : js_S a v bs A u H) : js_S a v bs A U H :=
  ⟨va_Z.moved hvm h.1, va_O.moved hvm h.2.1, va_OF.moved hvm h.2.2.1, va_OF.moved hvm h.2.2.2.1, va_T.moved hvm h.2.2.2.2⟩
theorem js_S.kept {a v : Nat} {bs : List Int32} {A : Nat → Prop} {U : State} {H H1 : Heap} (h : js_S a v bs A U H) (hq : ∀ x : Nat, x < H.size → ¬ A x → H1[x]? = H[x]?) : js_S a v bs A U H1 :=
  ⟨h.1.kept hq, h.2.1.kept hq, h.2.2.1.kept hq, h.2.2.2.1.kept hq, h.2.2.2.2.kept hq⟩
theorem js_S.narrow {a v : Nat} {bs : List Int32} {A B : Nat → Prop} {U : State} {H : Heap} (h : js_S a v bs A U H) (hAB : ∀ q, B q → A q) : js_S a v bs B U H :=
  ⟨h.1.narrow hAB, h.2.1.narrow hAB, h.2.2.1.narrow hAB, h.2.2.2.1.narrow hAB, h.2.2.2.2.narrow hAB⟩
abbrev js_no : Nat → Prop := fun _ => False
/-- a method of a String that only answers -/
def js_I (E : jf_E) (y : MethodName) (cc : ByteArray) (maxL : Nat) (ret : FieldType) (d : Nat) (a v : Nat) (bs : List Int32) (As : List Value) (f : Int32) : Prop :=
  Met E.1 y (.code y cc maxL (some ret) :: jf_tb) (jf_rm d) (va_Pc (.ref a :: As) (fun U => js_S a v bs js_no U U.heap)) (va_Qi (fun (r : Int32) (_ : Unit) => r = f) (fun _ _ => True) js_no) 0 0 js_no
theorem js_blind {a v : Nat} {bs : List Int32} {As : List Value} : FrameBlind (va_Pc As (fun U => js_S a v bs js_no U U.heap)) := fun x U g mk h => ⟨h.1, js_S.moved (u := U) (U := U.calling g mk x) (Vm.Alike.refl U.vm) h.2⟩
set_option maxHeartbeats 1000000 in
theorem js_coder (E : jf_E) (a v : Nat) (bs : List Int32) : js_I E yJ0_coder_7d493 cJ0_coder_7d493 1 .byte 0 a v bs [] 0 := by
  refine Met.ofW (cc := cJ0_coder_7d493) (maxL := 1) (ret := some .byte) (by decide) rfl ?_
  intro p e s m args below meth c s₁ B hml hv
  obtain ⟨rfl, hS0⟩ := hv
  have hx := B.exec
  have hb := B.bytes
  have hr := B.returns
  have hts := atoms_spec (ws := .code yJ0_coder_7d493 cJ0_coder_7d493 1 (some .byte) :: jf_tb) B.pre
  have hown : s.vm.findClass RJ0 = some m.cls := findClass_of_methodNamed B.named
  have hlocks := B.notSynchronized
  have hS : va_S js_no s.heap s.heap [] := va_S.rf
  have hl := lv_entry ([.ref a]) (n := 1) (Nat.le_of_ble_eq_true rfl)
  rw [lg_entry_eq]
  generalize (lg_sl ([.ref a]) ++ List.replicate (1 - (lg_sl ([.ref a])).length) Slot.unset).toArray = ls at hl ⊢
  have hl : lv_has ls 1 [(0, .ref a)] := hl
  refine va_gets hx hb hS0.1 hS hown (hts _ (List.mem_cons_of_mem _ kw_J0_38)) (fun _ h => h) dJ0_coder_7d493_0 ?_
  refine lv_if_eq (tgt := 13) hx hb dJ0_coder_7d493_3 (by decide) (fun h => absurd h (by decide)) (fun _ => ?_)
  refine lv_aload_n hx hb dJ0_coder_7d493_6 rfl (lv_at hl 0 rfl) ?_
  refine vk_getf hx hb hS0.2.2.1 hS hown (hts _ (List.mem_cons_of_mem _ kw_J0_15)) (fun _ h => h) dJ0_coder_7d493_7 ?_
  refine lv_goto (tgt := 14) hx hb dJ0_coder_7d493_10 (by decide) ?_
  exact W.zret (ty := .byte) hx hb hr rfl (fun t ht hW => ⟨⟨0, (), rfl, rfl, trivial⟩, hS.F ht⟩) hS.2.2 dJ0_coder_7d493_14 hlocks
set_option maxHeartbeats 1000000 in
theorem js_length (E : jf_E) (a v : Nat) (bs : List Int32) (f : Int32) (hf : Int32.ofNat bs.length >>> (0 &&& 31) = f) : js_I E yJ0_length_8abf5 cJ0_length_8abf5 1 .int 1 a v bs [] f := by
  refine Met.ofW (cc := cJ0_length_8abf5) (maxL := 1) (ret := some .int) (by decide) rfl ?_
  intro p e s m args below meth c s₁ B hml hv
  obtain ⟨rfl, hS0⟩ := hv
  have hx := B.exec
  have hb := B.bytes
  have hr := B.returns
  have hts := atoms_spec (ws := .code yJ0_length_8abf5 cJ0_length_8abf5 1 (some .int) :: jf_tb) B.pre
  have htb : ∀ w ∈ jf_tb, w.before ([.ref a] : List Value).toArray s = true := fun w h => hts w (List.mem_cons_of_mem _ h)
  have hown : s.vm.findClass RJ0 = some m.cls := findClass_of_methodNamed B.named
  have hlocks := B.notSynchronized
  have hS : va_S js_no s.heap s.heap [] := va_S.rf
  have hl := lv_entry ([.ref a]) (n := 1) (Nat.le_of_ble_eq_true rfl)
  rw [lg_entry_eq]
  generalize (lg_sl ([.ref a]) ++ List.replicate (1 - (lg_sl ([.ref a])).length) Slot.unset).toArray = ls at hl ⊢
  have hl : lv_has ls 1 [(0, .ref a)] := hl
  refine lv_aload_n hx hb dJ0_length_8abf5_0 rfl (lv_at hl 0 rfl) ?_
  refine vk_getf hx hb hS0.2.2.2.1 hS hown (htb _ kw_J0_9) (fun _ h => h) dJ0_length_8abf5_1 ?_
  refine va_tlen hx hb hS0.2.2.2.2 hS rfl dJ0_length_8abf5_4 ?_
  refine lv_aload_n hx hb dJ0_length_8abf5_5 rfl (lv_at hl 0 rfl) ?_
  have hy := ky_coder
  have hB : CallB (jf_rm 1) s ([.ref a] : List Value).toArray RJ0 335 yJ0_coder_7d493 cJ0_coder_7d493 1 (some .byte) (.code yJ0_coder_7d493 cJ0_coder_7d493 1 (some .byte) :: jf_tb) (jf_rm 0) 0 0 0 :=
    callB_of 0 htb (jf_gin hy.1) rfl rfl rfl (htb _ hy.2.1) (htb _ kw_J0_335) hy.2.2.1 ⟨Nat.le_of_ble_eq_true rfl, Nat.le_of_ble_eq_true rfl⟩
  obtain ⟨cell, q1, q2, q3, -⟩ := hS0.2.1
  refine va_calli (va_runV (As := []) (rest := [.int (Int32.ofNat bs.length)]) (C := RJ0) (Ts := jf_tb) ⟨hx, hb, hml, hown, htb⟩ (js_coder E a v bs) ⟨hB, htb _ kv_coder.1, htb _ kv_coder.2⟩ ⟨js_blind, ⟨cell, q1, q2, q3⟩, fun U hU hW => ⟨rfl, by show js_S _ _ _ _ U U.heap; rw [hU]; exact js_S.moved hW.alike hS0⟩⟩ rfl rfl hl.1 rfl (lv_room (Nat.le_of_ble_eq_true rfl)) dJ0_length_8abf5_6 ⟨Nat.zero_le _, Nat.zero_le _⟩) hS (fun _ _ h => h) (fun _ h => h) (fun r u t H1 locs1 e1 e2 e3 e4 e5 e6 e7 => ?_)
  subst e3
  refine lv_ishr hx hb dJ0_length_8abf5_9 ?_
  rw [hf]
  exact W.zret (ty := .int) hx hb hr rfl (fun t ht hW => ⟨⟨f, (), rfl, rfl, trivial⟩, e7.F ht⟩) e7.2.2 dJ0_length_8abf5_10 hlocks
/-! contracts with more said of the state -/
def jf_IZ (Z : State → Prop) (sh : List jf_K) (E : jf_E) (y : MethodName) (cc : ByteArray) (maxL : Nat) (ret : FieldType) (d : Nat) (As : List Value) (σ : jf_S) (post : Int32 → jf_S → Prop) : Prop :=
  Met E.1 y (.code y cc maxL (some ret) :: jf_tb) (jf_rm d) (va_Pc As (fun U => jf_B sh E σ U ∧ Z U)) (va_Qi post (jf_B sh E) (jf_A sh E)) 0 0 (jf_A sh E)
/-- what is said of the state stays while the world's own cells change -/
def jf_ZK (A : Nat → Prop) (Z : State → Prop) : Prop := (∀ (U : State) (g : JFrame) (mk : MethodId) (a : Array Value), Z U → Z (U.calling g mk a)) ∧ ∀ (s U : State) (H : Heap) (locs : List Loc), Z s → va_S A s.heap H locs → U.heap = H → s.WarmedH U.vm → Z U
set_option maxHeartbeats 1000000 in
theorem jf_mkIZ {Z : State → Prop} {sh : List jf_K} {E : jf_E} {y : MethodName} {cc : ByteArray} {maxL : Nat} {ret : FieldType} {d : Nat} {As : List Value} {σ : jf_S} {post : Int32 → jf_S → Prop} (hy : plainName y.cls = true) (hsl : (lg_sl As).length ≤ maxL)
    (body : ∀ G : jf_G, jf_C sh E G maxL cc y.cls d → Z G.2.2.2.1 → (∀ (pc : Nat) (L : List (Nat × Value)) (v : Int32) (τ : jf_S), decode cc pc = .ok (.ireturn, 1) → narrow ret (.int v) = .int v → post v τ → jf_X sh E G maxL pc L [.int v] τ) → jf_X sh E G maxL 0 (lv_args 0 As) [] σ) : jf_IZ Z sh E y cc maxL ret d As σ post := by
  refine Met.ofW (cc := cc) (maxL := maxL) (ret := some ret) hy rfl ?_
  intro p e s m args below meth c s₁ B hml hv
  obtain ⟨rfl, ⟨hP, hK, hJ⟩, hZ⟩ := hv
  have hx := B.exec
  have hb := B.bytes
  have hr := B.returns
  have hts := atoms_spec (ws := .code y cc maxL (some ret) :: jf_tb) B.pre
  have hown : s.vm.findClass y.cls = some m.cls := findClass_of_methodNamed B.named
  have hlocks := B.notSynchronized
  have key := body (p, e, jf_rm d, s, m, As.toArray, below, meth, c, MQ below (va_Qi post (jf_B sh E) (jf_A sh E)) As.toArray s 0 0 (jf_A sh E)) ⟨hx, hb, hml, hown, fun w h => hts w (List.mem_cons_of_mem _ h), hK, hJ, Nat.le_refl _, Nat.le_refl _⟩ hZ ?_
  · rw [lg_entry_eq]
    exact key s.heap [] _ hP va_S.rf (lv_entry As hsl)
  · intro pc L v τ hd hn hp H locs ls hP' hS hl
    exact W.zret (ty := ret) hx hb hr hn (fun t ht hW => ⟨⟨v, τ, rfl, hp, by rw [ht]; exact hP', va_K.moved hW.alike hK, hJ⟩, hS.F ht⟩) hS.2.2 hd hlocks
section JS
variable {sh : List jf_K} {E : jf_E} {G : jf_G} {nL d pc : Nat} {cc : ByteArray} {own : String} {L : List (Nat × Value)} {st : List Value} {σ : jf_S}
theorem jf_blindZ {Z : State → Prop} {As : List Value} (hZk : ∀ (U : State) (g : JFrame) (mk : MethodId) (a : Array Value), Z U → Z (U.calling g mk a)) : FrameBlind (va_Pc As (fun U => jf_B sh E σ U ∧ Z U)) := fun a U g mk q => by
  obtain ⟨q0, ⟨qP, qK, qJ⟩, qZ⟩ := q
  exact ⟨q0, ⟨qP, va_K.moved (u := U) (U := U.calling g mk a) (Vm.Alike.refl U.vm) qK, qJ⟩, hZk U g mk a qZ⟩
set_option maxHeartbeats 1000000 in
theorem jr_viZ (C : jf_C sh E G nL cc own d) {Z : State → Prop} (hZk : jf_ZK (jf_A sh E) Z) (hZ : Z G.2.2.2.1) {idx k maxL' d' : Nat} {y : MethodName} {b' : ByteArray} {ret' : FieldType} {post : Int32 → jf_S → Prop} (As rest : List Value) (hM : jf_IZ Z sh E y b' maxL' ret' d' (jf_r E k :: As) σ post) (hy : jf_y y b' maxL' (some ret') As.length) (hyv : jf_yv y) (hk : jf_cl sh k y.cls) (hw : Cond.methodLink own idx y ∈ jf_tb) (hlev : d' + 1 ≤ d) (hst : st = As.reverse ++ jf_r E k :: rest) (hr : (rest.map fun v => v.category).sum ≤ 8) (hd : decode cc pc = .ok (.invokevirtual idx, 3)) (kk : ∀ (r : Int32) (τ : jf_S), post r τ → jf_X sh E G nL (pc + 3) L (.int r :: rest) τ) : jf_X sh E G nL pc L st σ := by
  intro H locs ls hP hS hl
  obtain ⟨ci, fs, T, N, h1, h2⟩ := hk
  have g1 := C.2.2.2.2.2.2.2.1
  have g2 := C.2.2.2.2.2.2.2.2
  have g3 := hy.2.2.2
  have hB : CallB G.2.2.1 G.2.2.2.1 G.2.2.2.2.2.1 own idx y b' maxL' (some ret') (.code y b' maxL' (some ret') :: jf_tb) (jf_rm d') 0 0 As.length :=
    callB_of As.length C.2.2.2.2.1 (jf_gin hy.1) rfl rfl rfl (C.2.2.2.2.1 _ hy.2.1) (C.2.2.2.2.1 _ hw) hy.2.2.1 ⟨by show d' + 1 ≤ _; omega, by show 8 + (maxL' + 11) + 64 * d' ≤ _; omega⟩
  refine va_calli (va_runV (As := As) (rest := rest) (C := y.cls) (Ts := jf_tb) ⟨C.1, C.2.1, C.2.2.1, C.2.2.2.1, C.2.2.2.2.1⟩ hM ⟨hB, C.2.2.2.2.1 _ hyv.1, C.2.2.2.2.1 _ hyv.2⟩ ⟨jf_blindZ hZk.1, va_recv C.2.2.2.2.2.1 hP h2 (jf_w_at h1), fun U hU hW => ⟨rfl, ⟨by rw [hU]; exact hP, va_K.moved hW.alike C.2.2.2.2.2.1, C.2.2.2.2.2.2.1⟩, hZk.2 _ U H locs hZ hS hU hW⟩⟩ rfl rfl hl.1 hst (lv_room hr) hd ⟨Nat.zero_le _, Nat.zero_le _⟩) hS (fun q _ h => h) (fun q h => h) (fun r u t H1 locs1 e1 e2 e3 e4 e5 e6 e7 => ?_)
  have hP1 : va_P (jf_D E) vwCl (jf_w sh E u) H1 := by rw [← e1]; exact e4.1
  exact kk r u e3 H1 locs1 ls hP1 e7 hl
theorem jr_ldcS (C : jf_C sh E G nL cc own d) {idx a : Nat} {tx : String} (hR : vk_R own idx tx a G.2.2.2.1) (hd : decode cc pc = .ok (.ldc idx, 2)) (k : jf_X sh E G nL (pc + 2) L (.ref a :: st) σ) : jf_X sh E G nL pc L st σ := by
  intro H locs ls hP hS hl
  exact va_ldcS C.1 C.2.1 C.2.2.2.1 hR hd (k H locs ls hP hS hl)
set_option maxHeartbeats 1000000 in
/-- a String's method is asked -/
theorem jr_sti (C : jf_C sh E G nL cc own d) {idx a v maxL' d' : Nat} {y : MethodName} {b' : ByteArray} {ret' : FieldType} {bs : List Int32} {f : Int32} (As rest : List Value) (hS0 : js_S a v bs (jf_A sh E) G.2.2.2.1 G.2.2.2.1.heap) (hM : js_I E y b' maxL' ret' d' a v bs As f) (hc : y.cls = "java/lang/String") (hy : jf_y y b' maxL' (some ret') As.length) (hyv : jf_yv y) (hw : Cond.methodLink own idx y ∈ jf_tb) (hlev : d' + 1 ≤ d) (hst : st = As.reverse ++ .ref a :: rest) (hr : (rest.map fun v => v.category).sum ≤ 8) (hd : decode cc pc = .ok (.invokevirtual idx, 3)) (kk : jf_X sh E G nL (pc + 3) L (.int f :: rest) σ) : jf_X sh E G nL pc L st σ := by
  intro H locs ls hP hS hl
  have g1 := C.2.2.2.2.2.2.2.1
  have g2 := C.2.2.2.2.2.2.2.2
  have g3 := hy.2.2.2
  have hB : CallB G.2.2.1 G.2.2.2.1 G.2.2.2.2.2.1 own idx y b' maxL' (some ret') (.code y b' maxL' (some ret') :: jf_tb) (jf_rm d') 0 0 As.length :=
    callB_of As.length C.2.2.2.2.1 (jf_gin hy.1) rfl rfl rfl (C.2.2.2.2.1 _ hy.2.1) (C.2.2.2.2.1 _ hw) hy.2.2.1 ⟨by show d' + 1 ≤ _; omega, by show 8 + (maxL' + 11) + 64 * d' ≤ _; omega⟩
  have hS1 : js_S a v bs (jf_A sh E) G.2.2.2.1 H := hS0.kept hS.2.1
  obtain ⟨cell, q1, q2, q3, -⟩ := hS1.2.1
  refine va_calli (va_runV (As := As) (rest := rest) (C := y.cls) (Ts := jf_tb) ⟨C.1, C.2.1, C.2.2.1, C.2.2.2.1, C.2.2.2.2.1⟩ hM ⟨hB, C.2.2.2.2.1 _ hyv.1, C.2.2.2.2.1 _ hyv.2⟩ ⟨js_blind, ⟨cell, q1, q2, by rw [hc]; exact q3⟩, fun U hU hW => ⟨rfl, by show js_S _ _ _ _ U U.heap; rw [hU]; exact js_S.moved hW.alike (hS1.narrow (fun _ h => h.elim))⟩⟩ rfl rfl hl.1 hst (lv_room hr) hd ⟨Nat.zero_le _, Nat.zero_le _⟩) hS (fun _ _ h => h.elim) (fun _ h => h.elim) (fun r u t H1 locs1 e1 e2 e3 e4 e5 e6 e7 => ?_)
  subst e3
  have hP1 : va_P (jf_D E) vwCl (jf_w sh E σ) H1 := hP.kept (fun k q hk => e6 q.1 (hP k q hk).lt (fun h => h))
  exact kk H1 locs1 ls hP1 e7 hl
end JS
