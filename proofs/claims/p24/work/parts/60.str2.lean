theorem dJ0_charAt_5068e_0 : decode cJ0_charAt_5068e 0 = .ok (.aload_n 0, 1) := by decide +kernel
theorem dJ0_charAt_5068e_1 : decode cJ0_charAt_5068e 1 = .ok (.invokevirtual 492, 3) := by decide +kernel
theorem dJ0_charAt_5068e_4 : decode cJ0_charAt_5068e 4 = .ok (.ifCond .eq 12, 3) := by decide +kernel
theorem dJ0_charAt_5068e_7 : decode cJ0_charAt_5068e 7 = .ok (.aload_n 0, 1) := by decide +kernel
theorem dJ0_charAt_5068e_8 : decode cJ0_charAt_5068e 8 = .ok (.getfield 9, 3) := by decide +kernel
theorem dJ0_charAt_5068e_11 : decode cJ0_charAt_5068e 11 = .ok (.iload_n 1, 1) := by decide +kernel
theorem dJ0_charAt_5068e_12 : decode cJ0_charAt_5068e 12 = .ok (.invokestatic 495, 3) := by decide +kernel
theorem dJ0_charAt_5068e_15 : decode cJ0_charAt_5068e 15 = .ok (.ireturn, 1) := by decide +kernel
theorem dJ0_charAt_5068e_16 : decode cJ0_charAt_5068e 16 = .ok (.aload_n 0, 1) := by decide +kernel
theorem dJ0_charAt_5068e_17 : decode cJ0_charAt_5068e 17 = .ok (.getfield 9, 3) := by decide +kernel
theorem dJ0_charAt_5068e_20 : decode cJ0_charAt_5068e 20 = .ok (.iload_n 1, 1) := by decide +kernel
theorem dJ0_charAt_5068e_21 : decode cJ0_charAt_5068e 21 = .ok (.invokestatic 498, 3) := by decide +kernel
theorem dJ0_charAt_5068e_24 : decode cJ0_charAt_5068e 24 = .ok (.ireturn, 1) := by decide +kernel
theorem dJ0_isLatin1_aae02_0 : decode cJ0_isLatin1_aae02 0 = .ok (.getstatic 38, 3) := by decide +kernel
theorem dJ0_isLatin1_aae02_3 : decode cJ0_isLatin1_aae02 3 = .ok (.ifCond .eq 14, 3) := by decide +kernel
theorem dJ0_isLatin1_aae02_6 : decode cJ0_isLatin1_aae02 6 = .ok (.aload_n 0, 1) := by decide +kernel
theorem dJ0_isLatin1_aae02_7 : decode cJ0_isLatin1_aae02 7 = .ok (.getfield 15, 3) := by decide +kernel
theorem dJ0_isLatin1_aae02_10 : decode cJ0_isLatin1_aae02 10 = .ok (.ifCond .ne 7, 3) := by decide +kernel
theorem dJ0_isLatin1_aae02_13 : decode cJ0_isLatin1_aae02 13 = .ok (.iconst 1, 1) := by decide +kernel
theorem dJ0_isLatin1_aae02_14 : decode cJ0_isLatin1_aae02 14 = .ok (.goto 4, 3) := by decide +kernel
theorem dJ0_isLatin1_aae02_17 : decode cJ0_isLatin1_aae02 17 = .ok (.iconst 0, 1) := by decide +kernel
theorem dJ0_isLatin1_aae02_18 : decode cJ0_isLatin1_aae02 18 = .ok (.ireturn, 1) := by decide +kernel
theorem dJ0_checkIndex_df160_0 : decode cJ0_checkIndex_df160 0 = .ok (.iload_n 0, 1) := by decide +kernel
theorem dJ0_checkIndex_df160_1 : decode cJ0_checkIndex_df160 1 = .ok (.iload_n 1, 1) := by decide +kernel
theorem dJ0_checkIndex_df160_2 : decode cJ0_checkIndex_df160 2 = .ok (.getstatic 1053, 3) := by decide +kernel
theorem dJ0_checkIndex_df160_5 : decode cJ0_checkIndex_df160 5 = .ok (.invokestatic 1059, 3) := by decide +kernel
theorem dJ0_checkIndex_df160_8 : decode cJ0_checkIndex_df160 8 = .ok (.pop, 1) := by decide +kernel
theorem dJ0_checkIndex_df160_9 : decode cJ0_checkIndex_df160 9 = .ok (.return_, 1) := by decide +kernel
theorem dJ1_charAt_3b067_0 : decode cJ1_charAt_3b067 0 = .ok (.iload_n 1, 1) := by decide +kernel
theorem dJ1_charAt_3b067_1 : decode cJ1_charAt_3b067 1 = .ok (.aload_n 0, 1) := by decide +kernel
theorem dJ1_charAt_3b067_2 : decode cJ1_charAt_3b067 2 = .ok (.arraylength, 1) := by decide +kernel
theorem dJ1_charAt_3b067_3 : decode cJ1_charAt_3b067 3 = .ok (.invokestatic 9, 3) := by decide +kernel
theorem dJ1_charAt_3b067_6 : decode cJ1_charAt_3b067 6 = .ok (.aload_n 0, 1) := by decide +kernel
theorem dJ1_charAt_3b067_7 : decode cJ1_charAt_3b067 7 = .ok (.iload_n 1, 1) := by decide +kernel
theorem dJ1_charAt_3b067_8 : decode cJ1_charAt_3b067 8 = .ok (.baload, 1) := by decide +kernel
theorem dJ1_charAt_3b067_9 : decode cJ1_charAt_3b067 9 = .ok (.sipush 255, 3) := by decide +kernel
theorem dJ1_charAt_3b067_12 : decode cJ1_charAt_3b067 12 = .ok (.iand, 1) := by decide +kernel
theorem dJ1_charAt_3b067_13 : decode cJ1_charAt_3b067 13 = .ok (.i2c, 1) := by decide +kernel
theorem dJ1_charAt_3b067_14 : decode cJ1_charAt_3b067 14 = .ok (.ireturn, 1) := by decide +kernel
theorem dJ3_checkIndex_8e157_0 : decode cJ3_checkIndex_8e157 0 = .ok (.iload_n 0, 1) := by decide +kernel
theorem dJ3_checkIndex_8e157_1 : decode cJ3_checkIndex_8e157 1 = .ok (.ifCond .lt 8, 3) := by decide +kernel
theorem dJ3_checkIndex_8e157_4 : decode cJ3_checkIndex_8e157 4 = .ok (.iload_n 0, 1) := by decide +kernel
theorem dJ3_checkIndex_8e157_5 : decode cJ3_checkIndex_8e157 5 = .ok (.iload_n 1, 1) := by decide +kernel
theorem dJ3_checkIndex_8e157_6 : decode cJ3_checkIndex_8e157 6 = .ok (.if_icmp .lt 10, 3) := by decide +kernel
theorem dJ3_checkIndex_8e157_9 : decode cJ3_checkIndex_8e157 9 = .ok (.aload_n 2, 1) := by decide +kernel
theorem dJ3_checkIndex_8e157_10 : decode cJ3_checkIndex_8e157 10 = .ok (.iload_n 0, 1) := by decide +kernel
theorem dJ3_checkIndex_8e157_11 : decode cJ3_checkIndex_8e157 11 = .ok (.iload_n 1, 1) := by decide +kernel
theorem dJ3_checkIndex_8e157_12 : decode cJ3_checkIndex_8e157 12 = .ok (.invokestatic 95, 3) := by decide +kernel
theorem dJ3_checkIndex_8e157_15 : decode cJ3_checkIndex_8e157 15 = .ok (.athrow, 1) := by decide +kernel
theorem dJ3_checkIndex_8e157_16 : decode cJ3_checkIndex_8e157 16 = .ok (.iload_n 0, 1) := by decide +kernel
theorem dJ3_checkIndex_8e157_17 : decode cJ3_checkIndex_8e157 17 = .ok (.ireturn, 1) := by decide +kernel
theorem kw_J0_1053 : Cond.fieldLink RJ0 1053 "jdk/internal/util/Preconditions" "SIOOBE_FORMATTER" "Ljava/util/function/BiFunction;" ∈ jf_tb := (jt_4 91 rfl rfl)
theorem kw_J0_492 : Cond.methodLink RJ0 492 yJ0_isLatin1_aae02 ∈ jf_tb := (jt_4 81 rfl rfl)
theorem kw_J0_495 : Cond.methodLink RJ0 495 yJ1_charAt_3b067 ∈ jf_tb := (jt_4 85 rfl rfl)
theorem kw_J1_9 : Cond.methodLink RJ1 9 yJ0_checkIndex_df160 ∈ jf_tb := (jt_4 88 rfl rfl)
theorem kw_J0_1059 : Cond.methodLink RJ0 1059 yJ3_checkIndex_8e157 ∈ jf_tb := (jt_4 93 rfl rfl)
theorem kw_X6_118 : Cond.methodLink RX6 118 yJ0_charAt_5068e ∈ jf_tb := (jt_4 77 rfl rfl)
theorem ky_charAt : jf_y yJ0_charAt_5068e cJ0_charAt_5068e 2 (some .char) 1 := ⟨(jt_4 80 rfl rfl), (jt_1 15 rfl rfl), by decide +kernel, by decide⟩
theorem kv_charAt : jf_yv yJ0_charAt_5068e := ⟨(jt_4 78 rfl rfl), (jt_4 79 rfl rfl)⟩
theorem ky_isLatin1 : jf_y yJ0_isLatin1_aae02 cJ0_isLatin1_aae02 1 (some .boolean) 0 := ⟨(jt_4 84 rfl rfl), (jt_1 15 rfl rfl), by decide +kernel, by decide⟩
theorem kv_isLatin1 : jf_yv yJ0_isLatin1_aae02 := ⟨(jt_4 82 rfl rfl), (jt_4 83 rfl rfl)⟩
theorem ky_checkIndex : jf_y yJ0_checkIndex_df160 cJ0_checkIndex_df160 2 none 2 := ⟨(jt_4 90 rfl rfl), (jt_1 15 rfl rfl), by decide +kernel, by decide⟩
theorem ks_checkIndex : Cond.static yJ0_checkIndex_df160 ∈ jf_tb := (jt_4 89 rfl rfl)
theorem ky_charAt1 : jf_y yJ1_charAt_3b067 cJ1_charAt_3b067 2 (some .char) 2 := ⟨(jt_4 87 rfl rfl), (jt_1 16 rfl rfl), by decide +kernel, by decide⟩
theorem ks_charAt1 : Cond.static yJ1_charAt_3b067 ∈ jf_tb := (jt_4 86 rfl rfl)
theorem ky_checkIndex3 : jf_y yJ3_checkIndex_8e157 cJ3_checkIndex_8e157 3 (some .int) 3 := ⟨(jt_4 95 rfl rfl), (jt_1 17 rfl rfl), by decide +kernel, by decide⟩
theorem ks_checkIndex3 : Cond.static yJ3_checkIndex_8e157 ∈ jf_tb := (jt_4 94 rfl rfl)
/-- the String constants of the reader: place in its pool, text, bytes -/
def js_tab : List (Nat × String × List Int32) := [(38, "count", [99, 111, 117, 110, 116]), (56, "tie", [116, 105, 101]), (64, "rounds", [114, 111, 117, 110, 100, 115]), (66, "points", [112, 111, 105, 110, 116, 115]), (80, "fame", [102, 97, 109, 101]), (84, "first", [102, 105, 114, 115, 116]), (86, "film", [102, 105, 108, 109]), (91, "or", [111, 114]), (100, "and", [97, 110, 100]), (102, "not", [110, 111, 116]), (107, "saw", [115, 97, 119]), (109, "kin", [107, 105, 110]), (111, "old", [111, 108, 100])]
/-! String.charAt -/
abbrev js_F (vq : Value) (A : Nat → Prop) (U : State) (H : Heap) : Prop := va_Z "jdk/internal/util/Preconditions" "SIOOBE_FORMATTER" "Ljava/util/function/BiFunction;" vq A U H
abbrev js_nq (vq : Value) : Prop := vq = .null ∨ ∃ t : Nat, vq = .ref t
set_option maxHeartbeats 1000000 in
theorem js_check3 (E : jf_E) (i n : Int32) (vq : Value) (hq : js_nq vq) (h0 : 0 ≤ i.toInt) (h1 : i.toInt < n.toInt) : Met E.1 yJ3_checkIndex_8e157 (.code yJ3_checkIndex_8e157 cJ3_checkIndex_8e157 3 (some .int) :: jf_tb) (jf_rm 0) (va_Pc [.int i, .int n, vq] (fun _ => True)) (va_Qi (fun (r : Int32) (_ : Unit) => r = i) (fun _ _ => True) js_no) 0 0 js_no := by
  rcases hq with rfl | ⟨t, rfl⟩
  all_goals
    refine Met.ofW (cc := cJ3_checkIndex_8e157) (maxL := 3) (ret := some .int) (by decide) rfl ?_
    intro p e s m args below meth c s₁ B hml hv
    obtain ⟨rfl, -⟩ := hv
    have hx := B.exec
    have hb := B.bytes
    have hr := B.returns
    have hlocks := B.notSynchronized
    have hS : va_S js_no s.heap s.heap [] := va_S.rf
    rw [lg_entry_eq]
  · have hl := lv_entry ([.int i, .int n, .null]) (n := 3) (Nat.le_of_ble_eq_true rfl)
    generalize (lg_sl ([.int i, .int n, .null]) ++ List.replicate (3 - (lg_sl ([.int i, .int n, .null])).length) Slot.unset).toArray = ls at hl ⊢
    have hl : lv_has ls 3 [(0, .int i), (1, .int n), (2, .null)] := hl
    refine lv_iload_n hx hb dJ3_checkIndex_8e157_0 rfl (lv_at hl 0 rfl) ?_
    refine lv_if_lt (tgt := 9) hx hb dJ3_checkIndex_8e157_1 (by decide) (fun h => absurd (Int32.lt_iff_toInt_lt.mp h) (by show ¬ i.toInt < 0; omega)) (fun _ => ?_)
    refine lv_iload_n hx hb dJ3_checkIndex_8e157_4 rfl (lv_at hl 0 rfl) ?_
    refine lv_iload_n hx hb dJ3_checkIndex_8e157_5 rfl (lv_at hl 1 rfl) ?_
    refine lv_icmp_lt (tgt := 16) hx hb dJ3_checkIndex_8e157_6 (by decide) (fun _ => ?_) (fun h => absurd (Int32.lt_iff_toInt_lt.mpr h1) h)
    refine lv_iload_n hx hb dJ3_checkIndex_8e157_16 rfl (lv_at hl 0 rfl) ?_
    exact W.zret (ty := .int) hx hb hr rfl (fun t ht hW => ⟨⟨i, (), rfl, rfl, trivial⟩, hS.F ht⟩) hS.2.2 dJ3_checkIndex_8e157_17 hlocks
  · have hl := lv_entry ([.int i, .int n, .ref t]) (n := 3) (Nat.le_of_ble_eq_true rfl)
    generalize (lg_sl ([.int i, .int n, .ref t]) ++ List.replicate (3 - (lg_sl ([.int i, .int n, .ref t])).length) Slot.unset).toArray = ls at hl ⊢
    have hl : lv_has ls 3 [(0, .int i), (1, .int n), (2, .ref t)] := hl
    refine lv_iload_n hx hb dJ3_checkIndex_8e157_0 rfl (lv_at hl 0 rfl) ?_
    refine lv_if_lt (tgt := 9) hx hb dJ3_checkIndex_8e157_1 (by decide) (fun h => absurd (Int32.lt_iff_toInt_lt.mp h) (by show ¬ i.toInt < 0; omega)) (fun _ => ?_)
    refine lv_iload_n hx hb dJ3_checkIndex_8e157_4 rfl (lv_at hl 0 rfl) ?_
    refine lv_iload_n hx hb dJ3_checkIndex_8e157_5 rfl (lv_at hl 1 rfl) ?_
    refine lv_icmp_lt (tgt := 16) hx hb dJ3_checkIndex_8e157_6 (by decide) (fun _ => ?_) (fun h => absurd (Int32.lt_iff_toInt_lt.mpr h1) h)
    refine lv_iload_n hx hb dJ3_checkIndex_8e157_16 rfl (lv_at hl 0 rfl) ?_
    exact W.zret (ty := .int) hx hb hr rfl (fun t ht hW => ⟨⟨i, (), rfl, rfl, trivial⟩, hS.F ht⟩) hS.2.2 dJ3_checkIndex_8e157_17 hlocks
theorem js_blT {As : List Value} : FrameBlind (va_Pc As (fun _ => True)) := fun _ _ _ _ h => h
theorem js_blF {As : List Value} {vq : Value} : FrameBlind (va_Pc As (fun U => js_F vq js_no U U.heap)) := fun x U g mk h => ⟨h.1, va_Z.moved (u := U) (U := U.calling g mk x) (Vm.Alike.refl U.vm) h.2⟩
set_option maxHeartbeats 1000000 in
theorem js_checkIndex (E : jf_E) (i n : Int32) (vq : Value) (hq : js_nq vq) (h0 : 0 ≤ i.toInt) (h1 : i.toInt < n.toInt) : Met E.1 yJ0_checkIndex_df160 (.code yJ0_checkIndex_df160 cJ0_checkIndex_df160 2 none :: jf_tb) (jf_rm 1) (va_Pc [.int i, .int n] (fun U => js_F vq js_no U U.heap)) (va_Qv (fun (_ : Unit) => True) (fun _ _ => True) js_no) 0 0 js_no := by
  refine Met.ofW (cc := cJ0_checkIndex_df160) (maxL := 2) (ret := none) (by decide) rfl ?_
  intro p e s m args below meth c s₁ B hml hv
  obtain ⟨rfl, hF⟩ := hv
  have hx := B.exec
  have hb := B.bytes
  have hr := B.returns
  have hts := atoms_spec (ws := .code yJ0_checkIndex_df160 cJ0_checkIndex_df160 2 none :: jf_tb) B.pre
  have htb : ∀ w ∈ jf_tb, w.before ([.int i, .int n] : List Value).toArray s = true := fun w h => hts w (List.mem_cons_of_mem _ h)
  have hown : s.vm.findClass RJ0 = some m.cls := findClass_of_methodNamed B.named
  have hlocks := B.notSynchronized
  have hS : va_S js_no s.heap s.heap [] := va_S.rf
  have hl := lv_entry ([.int i, .int n]) (n := 2) (Nat.le_of_ble_eq_true rfl)
  rw [lg_entry_eq]
  generalize (lg_sl ([.int i, .int n]) ++ List.replicate (2 - (lg_sl ([.int i, .int n])).length) Slot.unset).toArray = ls at hl ⊢
  have hl : lv_has ls 2 [(0, .int i), (1, .int n)] := hl
  refine lv_iload_n hx hb dJ0_checkIndex_df160_0 rfl (lv_at hl 0 rfl) ?_
  refine lv_iload_n hx hb dJ0_checkIndex_df160_1 rfl (lv_at hl 1 rfl) ?_
  refine va_gets hx hb hF hS hown (htb _ kw_J0_1053) (fun _ h => h) dJ0_checkIndex_df160_2 ?_
  have hy := ky_checkIndex3
  have hB : CallB (jf_rm 1) s ([.int i, .int n] : List Value).toArray RJ0 1059 yJ3_checkIndex_8e157 cJ3_checkIndex_8e157 3 (some .int) (.code yJ3_checkIndex_8e157 cJ3_checkIndex_8e157 3 (some .int) :: jf_tb) (jf_rm 0) 0 0 3 :=
    callB_of 3 htb (jf_gin hy.1) rfl rfl rfl (htb _ hy.2.1) (htb _ kw_J0_1059) hy.2.2.1 ⟨Nat.le_of_ble_eq_true rfl, Nat.le_of_ble_eq_true rfl⟩
  refine va_calli (va_runS (As := [.int i, .int n, vq]) (rest := []) (Ts := jf_tb) ⟨hx, hb, hml, hown, htb⟩ (js_check3 E i n vq hq h0 h1) ⟨hB, htb _ ks_checkIndex3⟩ ⟨js_blT, fun U hU hW => ⟨rfl, trivial⟩⟩ rfl rfl hl.1 rfl (lv_room (Nat.le_of_ble_eq_true rfl)) dJ0_checkIndex_df160_5 ⟨Nat.zero_le _, Nat.zero_le _⟩) hS (fun _ _ h => h) (fun _ h => h) (fun r u t H1 locs1 e1 e2 e3 e4 e5 e6 e7 => ?_)
  refine lv_pop hx hb dJ0_checkIndex_df160_8 rfl ?_
  exact W.vret hx hb hr (fun t ht hW => ⟨⟨(), rfl, trivial, trivial⟩, e7.F ht⟩) e7.2.2 dJ0_checkIndex_df160_9 hlocks
/-- Latin1 bytes -/
def js_A (vq : Value) (v : Nat) (bs : List Int32) (A : Nat → Prop) (U : State) (H : Heap) : Prop := js_F vq A U H ∧ va_T .byte v bs.length (fun j => .int (bs.getD j 0)) A U H
theorem js_blA {As : List Value} {vq : Value} {v : Nat} {bs : List Int32} : FrameBlind (va_Pc As (fun U => js_A vq v bs js_no U U.heap)) := fun x U g mk h => ⟨h.1, va_Z.moved (u := U) (U := U.calling g mk x) (Vm.Alike.refl U.vm) h.2.1, va_T.moved (u := U) (U := U.calling g mk x) (Vm.Alike.refl U.vm) h.2.2⟩
/-- bytes that are characters as they are -/
def js_ok (bs : List Int32) : Prop := bs.length ≤ 100 ∧ ∀ k, k < bs.length → ((bs.getD k 0 &&& 255).toUInt32 % 65536).toInt32 = bs.getD k 0 ∧ narrow .char (.int (bs.getD k 0)) = .int (bs.getD k 0)
set_option maxHeartbeats 1000000 in
theorem js_charAt1 (E : jf_E) (v : Nat) (bs : List Int32) (i : Int32) (vq : Value) (hq : js_nq vq) (ok : js_ok bs) (h0 : 0 ≤ i.toInt) (h1 : i.toInt < (bs.length : Int)) : Met E.1 yJ1_charAt_3b067 (.code yJ1_charAt_3b067 cJ1_charAt_3b067 2 (some .char) :: jf_tb) (jf_rm 2) (va_Pc [.ref v, .int i] (fun U => js_A vq v bs js_no U U.heap)) (va_Qi (fun (r : Int32) (_ : Unit) => r = bs.getD i.toNatClampNeg 0) (fun _ _ => True) js_no) 0 0 js_no := by
  have hk := ok.2 i.toNatClampNeg (by have := ji_tn h0; omega)
  have hn : (Int32.ofNat bs.length).toInt = (bs.length : Int) := nI_toInt (by have := ok.1; omega)
  refine Met.ofW (cc := cJ1_charAt_3b067) (maxL := 2) (ret := some .char) (by decide) rfl ?_
  intro p e s m args below meth c s₁ B hml hv
  obtain ⟨rfl, hF, hT⟩ := hv
  have hx := B.exec
  have hb := B.bytes
  have hr := B.returns
  have hts := atoms_spec (ws := .code yJ1_charAt_3b067 cJ1_charAt_3b067 2 (some .char) :: jf_tb) B.pre
  have htb : ∀ w ∈ jf_tb, w.before ([.ref v, .int i] : List Value).toArray s = true := fun w h => hts w (List.mem_cons_of_mem _ h)
  have hown : s.vm.findClass RJ1 = some m.cls := findClass_of_methodNamed B.named
  have hlocks := B.notSynchronized
  have hS : va_S js_no s.heap s.heap [] := va_S.rf
  have hl := lv_entry ([.ref v, .int i]) (n := 2) (Nat.le_of_ble_eq_true rfl)
  rw [lg_entry_eq]
  generalize (lg_sl ([.ref v, .int i]) ++ List.replicate (2 - (lg_sl ([.ref v, .int i])).length) Slot.unset).toArray = ls at hl ⊢
  have hl : lv_has ls 2 [(0, .ref v), (1, .int i)] := hl
  refine lv_iload_n hx hb dJ1_charAt_3b067_0 rfl (lv_at hl 1 rfl) ?_
  refine lv_aload_n hx hb dJ1_charAt_3b067_1 rfl (lv_at hl 0 rfl) ?_
  refine va_tlen hx hb hT hS rfl dJ1_charAt_3b067_2 ?_
  have hy := ky_checkIndex
  have hB : CallB (jf_rm 2) s ([.ref v, .int i] : List Value).toArray RJ1 9 yJ0_checkIndex_df160 cJ0_checkIndex_df160 2 none (.code yJ0_checkIndex_df160 cJ0_checkIndex_df160 2 none :: jf_tb) (jf_rm 1) 0 0 2 :=
    callB_of 2 htb (jf_gin hy.1) rfl rfl rfl (htb _ hy.2.1) (htb _ kw_J1_9) hy.2.2.1 ⟨Nat.le_of_ble_eq_true rfl, Nat.le_of_ble_eq_true rfl⟩
  refine va_callv (va_runS (As := [.int i, .int (Int32.ofNat bs.length)]) (rest := []) (Ts := jf_tb) ⟨hx, hb, hml, hown, htb⟩ (js_checkIndex E i (Int32.ofNat bs.length) vq hq h0 (by rw [hn]; exact h1)) ⟨hB, htb _ ks_checkIndex⟩ ⟨js_blF, fun U hU hW => ⟨rfl, by show js_F _ _ U U.heap; rw [hU]; exact va_Z.moved hW.alike hF⟩⟩ rfl rfl hl.1 rfl (lv_room (Nat.le_of_ble_eq_true rfl)) dJ1_charAt_3b067_3 ⟨Nat.zero_le _, Nat.zero_le _⟩) hS (fun _ _ h => h) (fun _ h => h) (fun u t H1 locs1 e1 e2 e3 e4 e5 e6 e7 => ?_)
  refine lv_aload_n hx hb dJ1_charAt_3b067_6 rfl (lv_at hl 0 rfl) ?_
  refine lv_iload_n hx hb dJ1_charAt_3b067_7 rfl (lv_at hl 1 rfl) ?_
  refine va_tb hx hb hT e7 (ji_in h0 h1) rfl dJ1_charAt_3b067_8 ?_
  refine lv_sipush hx hb dJ1_charAt_3b067_9 (v := 255) (by decide) ?_
  refine lv_iand hx hb dJ1_charAt_3b067_12 ?_
  refine lv_i2c hx hb dJ1_charAt_3b067_13 hk.1 ?_
  exact W.zret (ty := .char) hx hb hr hk.2 (fun t ht hW => ⟨⟨_, (), rfl, rfl, trivial⟩, e7.F ht⟩) e7.2.2 dJ1_charAt_3b067_14 hlocks
set_option maxHeartbeats 1000000 in
theorem js_isLatin1 (E : jf_E) (a v : Nat) (bs : List Int32) : js_I E yJ0_isLatin1_aae02 cJ0_isLatin1_aae02 1 .boolean 0 a v bs [] 1 := by
  refine Met.ofW (cc := cJ0_isLatin1_aae02) (maxL := 1) (ret := some .boolean) (by decide) rfl ?_
  intro p e s m args below meth c s₁ B hml hv
  obtain ⟨rfl, hS0⟩ := hv
  have hx := B.exec
  have hb := B.bytes
  have hr := B.returns
  have hts := atoms_spec (ws := .code yJ0_isLatin1_aae02 cJ0_isLatin1_aae02 1 (some .boolean) :: jf_tb) B.pre
  have hown : s.vm.findClass RJ0 = some m.cls := findClass_of_methodNamed B.named
  have hlocks := B.notSynchronized
  have hS : va_S js_no s.heap s.heap [] := va_S.rf
  have hl := lv_entry ([.ref a]) (n := 1) (Nat.le_of_ble_eq_true rfl)
  rw [lg_entry_eq]
  generalize (lg_sl ([.ref a]) ++ List.replicate (1 - (lg_sl ([.ref a])).length) Slot.unset).toArray = ls at hl ⊢
  have hl : lv_has ls 1 [(0, .ref a)] := hl
  refine va_gets hx hb hS0.1 hS hown (hts _ (List.mem_cons_of_mem _ kw_J0_38)) (fun _ h => h) dJ0_isLatin1_aae02_0 ?_
  refine lv_if_eq (tgt := 17) hx hb dJ0_isLatin1_aae02_3 (by decide) (fun h => absurd h (by decide)) (fun _ => ?_)
  refine lv_aload_n hx hb dJ0_isLatin1_aae02_6 rfl (lv_at hl 0 rfl) ?_
  refine vk_getf hx hb hS0.2.2.1 hS hown (hts _ (List.mem_cons_of_mem _ kw_J0_15)) (fun _ h => h) dJ0_isLatin1_aae02_7 ?_
  refine lv_if_ne (tgt := 17) hx hb dJ0_isLatin1_aae02_10 (by decide) (fun h => absurd rfl h) (fun _ => ?_)
  refine lv_iconst hx hb dJ0_isLatin1_aae02_13 (v := 1) (by decide) ?_
  refine lv_goto (tgt := 18) hx hb dJ0_isLatin1_aae02_14 (by decide) ?_
  exact W.zret (ty := .boolean) hx hb hr rfl (fun t ht hW => ⟨⟨1, (), rfl, rfl, trivial⟩, hS.F ht⟩) hS.2.2 dJ0_isLatin1_aae02_18 hlocks
/-- a String, and what its charAt rests on -/
def js_Y (vq : Value) (a v : Nat) (bs : List Int32) (A : Nat → Prop) (U : State) (H : Heap) : Prop := js_F vq A U H ∧ js_S a v bs A U H
theorem js_Y.moved {vq : Value} {a v : Nat} {bs : List Int32} {A : Nat → Prop} {u U : State} {H : Heap} (hvm : u.vm.Alike U.vm) (h : js_Y vq a v bs A u H) : js_Y vq a v bs A U H := ⟨va_Z.moved hvm h.1, js_S.moved hvm h.2⟩
theorem js_Y.kept {vq : Value} {a v : Nat} {bs : List Int32} {A : Nat → Prop} {U : State} {H H1 : Heap} (h : js_Y vq a v bs A U H) (hq : ∀ x : Nat, x < H.size → ¬ A x → H1[x]? = H[x]?) : js_Y vq a v bs A U H1 := ⟨h.1.kept hq, h.2.kept hq⟩
theorem js_Y.narrow {vq : Value} {a v : Nat} {bs : List Int32} {A B : Nat → Prop} {U : State} {H : Heap} (h : js_Y vq a v bs A U H) (hAB : ∀ q, B q → A q) : js_Y vq a v bs B U H := ⟨h.1.narrow hAB, h.2.narrow hAB⟩
theorem js_blY {vq : Value} {a v : Nat} {bs : List Int32} {As : List Value} : FrameBlind (va_Pc As (fun U => js_Y vq a v bs js_no U U.heap)) := fun x U g mk h => ⟨h.1, js_Y.moved (u := U) (U := U.calling g mk x) (Vm.Alike.refl U.vm) h.2⟩
set_option maxHeartbeats 1000000 in
theorem js_charAt (E : jf_E) (a v : Nat) (bs : List Int32) (i : Int32) (vq : Value) (hq : js_nq vq) (ok : js_ok bs) (h0 : 0 ≤ i.toInt) (h1 : i.toInt < (bs.length : Int)) : Met E.1 yJ0_charAt_5068e (.code yJ0_charAt_5068e cJ0_charAt_5068e 2 (some .char) :: jf_tb) (jf_rm 3) (va_Pc [.ref a, .int i] (fun U => js_Y vq a v bs js_no U U.heap)) (va_Qi (fun (r : Int32) (_ : Unit) => r = bs.getD i.toNatClampNeg 0) (fun _ _ => True) js_no) 0 0 js_no := by
  have hk := ok.2 i.toNatClampNeg (by have := ji_tn h0; omega)
  refine Met.ofW (cc := cJ0_charAt_5068e) (maxL := 2) (ret := some .char) (by decide) rfl ?_
  intro p e s m args below meth c s₁ B hml hv
  obtain ⟨rfl, hF, hS0⟩ := hv
  have hx := B.exec
  have hb := B.bytes
  have hr := B.returns
  have hts := atoms_spec (ws := .code yJ0_charAt_5068e cJ0_charAt_5068e 2 (some .char) :: jf_tb) B.pre
  have htb : ∀ w ∈ jf_tb, w.before ([.ref a, .int i] : List Value).toArray s = true := fun w h => hts w (List.mem_cons_of_mem _ h)
  have hown : s.vm.findClass RJ0 = some m.cls := findClass_of_methodNamed B.named
  have hlocks := B.notSynchronized
  have hS : va_S js_no s.heap s.heap [] := va_S.rf
  have hl := lv_entry ([.ref a, .int i]) (n := 2) (Nat.le_of_ble_eq_true rfl)
  rw [lg_entry_eq]
  generalize (lg_sl ([.ref a, .int i]) ++ List.replicate (2 - (lg_sl ([.ref a, .int i])).length) Slot.unset).toArray = ls at hl ⊢
  have hl : lv_has ls 2 [(0, .ref a), (1, .int i)] := hl
  refine lv_aload_n hx hb dJ0_charAt_5068e_0 rfl (lv_at hl 0 rfl) ?_
  have hy := ky_isLatin1
  have hB : CallB (jf_rm 3) s ([.ref a, .int i] : List Value).toArray RJ0 492 yJ0_isLatin1_aae02 cJ0_isLatin1_aae02 1 (some .boolean) (.code yJ0_isLatin1_aae02 cJ0_isLatin1_aae02 1 (some .boolean) :: jf_tb) (jf_rm 0) 0 0 0 :=
    callB_of 0 htb (jf_gin hy.1) rfl rfl rfl (htb _ hy.2.1) (htb _ kw_J0_492) hy.2.2.1 ⟨Nat.le_of_ble_eq_true rfl, Nat.le_of_ble_eq_true rfl⟩
  obtain ⟨cell, q1, q2, q3, -⟩ := hS0.2.1
  refine va_calli (va_runV (As := []) (rest := []) (C := RJ0) (Ts := jf_tb) ⟨hx, hb, hml, hown, htb⟩ (js_isLatin1 E a v bs) ⟨hB, htb _ kv_isLatin1.1, htb _ kv_isLatin1.2⟩ ⟨js_blind, ⟨cell, q1, q2, q3⟩, fun U hU hW => ⟨rfl, by show js_S _ _ _ _ U U.heap; rw [hU]; exact js_S.moved hW.alike hS0⟩⟩ rfl rfl hl.1 rfl (lv_room (Nat.le_of_ble_eq_true rfl)) dJ0_charAt_5068e_1 ⟨Nat.zero_le _, Nat.zero_le _⟩) hS (fun _ _ h => h) (fun _ h => h) (fun r u t H1 locs1 e1 e2 e3 e4 e5 e6 e7 => ?_)
  subst e3
  refine lv_if_eq (tgt := 16) hx hb dJ0_charAt_5068e_4 (by decide) (fun h => absurd h (by decide)) (fun _ => ?_)
  refine lv_aload_n hx hb dJ0_charAt_5068e_7 rfl (lv_at hl 0 rfl) ?_
  refine vk_getf hx hb hS0.2.2.2.1 e7 hown (htb _ kw_J0_9) (fun _ h => h) dJ0_charAt_5068e_8 ?_
  refine lv_iload_n hx hb dJ0_charAt_5068e_11 rfl (lv_at hl 1 rfl) ?_
  have hy := ky_charAt1
  have hB : CallB (jf_rm 3) s ([.ref a, .int i] : List Value).toArray RJ0 495 yJ1_charAt_3b067 cJ1_charAt_3b067 2 (some .char) (.code yJ1_charAt_3b067 cJ1_charAt_3b067 2 (some .char) :: jf_tb) (jf_rm 2) 0 0 2 :=
    callB_of 2 htb (jf_gin hy.1) rfl rfl rfl (htb _ hy.2.1) (htb _ kw_J0_495) hy.2.2.1 ⟨Nat.le_of_ble_eq_true rfl, Nat.le_of_ble_eq_true rfl⟩
  refine va_calli (va_runS (As := [.ref v, .int i]) (rest := []) (Ts := jf_tb) ⟨hx, hb, hml, hown, htb⟩ (js_charAt1 E v bs i vq hq ok h0 h1) ⟨hB, htb _ ks_charAt1⟩ ⟨js_blA, fun U hU hW => ⟨rfl, by show js_A _ _ _ _ U U.heap; rw [hU]; exact ⟨va_Z.moved hW.alike (hF.kept e7.2.1), va_T.moved hW.alike (hS0.2.2.2.2.kept e7.2.1)⟩⟩⟩ rfl rfl hl.1 rfl (lv_room (Nat.le_of_ble_eq_true rfl)) dJ0_charAt_5068e_12 ⟨Nat.zero_le _, Nat.zero_le _⟩) e7 (fun _ _ h => h) (fun _ h => h) (fun r u t H2 locs2 f1 f2 f3 f4 f5 f6 f7 => ?_)
  subst f3
  exact W.zret (ty := .char) hx hb hr hk.2 (fun t ht hW => ⟨⟨_, (), rfl, rfl, trivial⟩, f7.F ht⟩) f7.2.2 dJ0_charAt_5068e_15 hlocks
section JS2
variable {sh : List jf_K} {E : jf_E} {G : jf_G} {nL d pc : Nat} {cc : ByteArray} {own : String} {L : List (Nat × Value)} {st : List Value} {σ : jf_S}
set_option maxHeartbeats 1000000 in
theorem jr_chr (C : jf_C sh E G nL cc own d) {idx a v : Nat} {bs : List Int32} {vq : Value} {i f : Int32} (rest : List Value) (hq : js_nq vq) (ok : js_ok bs) (hS0 : js_Y vq a v bs (jf_A sh E) G.2.2.2.1 G.2.2.2.1.heap) (h0 : 0 ≤ i.toInt) (h1 : i.toInt < (bs.length : Int)) (hw : Cond.methodLink own idx yJ0_charAt_5068e ∈ jf_tb) (hlev : 4 ≤ d) (hr : (rest.map fun v => v.category).sum ≤ 8) (hf : bs.getD i.toNatClampNeg 0 = f) (hd : decode cc pc = .ok (.invokevirtual idx, 3)) (kk : jf_X sh E G nL (pc + 3) L (.int f :: rest) σ) : jf_X sh E G nL pc L (.int i :: .ref a :: rest) σ := by
  intro H locs ls hP hS hl
  have g1 := C.2.2.2.2.2.2.2.1
  have g2 := C.2.2.2.2.2.2.2.2
  have hy := ky_charAt
  have hB : CallB G.2.2.1 G.2.2.2.1 G.2.2.2.2.2.1 own idx yJ0_charAt_5068e cJ0_charAt_5068e 2 (some .char) (.code yJ0_charAt_5068e cJ0_charAt_5068e 2 (some .char) :: jf_tb) (jf_rm 3) 0 0 1 :=
    callB_of 1 C.2.2.2.2.1 (jf_gin hy.1) rfl rfl rfl (C.2.2.2.2.1 _ hy.2.1) (C.2.2.2.2.1 _ hw) hy.2.2.1 ⟨by show 3 + 1 ≤ _; omega, by show 8 + (2 + 11) + 64 * 3 ≤ _; omega⟩
  have hS1 : js_Y vq a v bs (jf_A sh E) G.2.2.2.1 H := hS0.kept hS.2.1
  obtain ⟨cell, q1, q2, q3, -⟩ := hS1.2.2.1
  refine va_calli (va_runV (As := [.int i]) (rest := rest) (C := "java/lang/String") (Ts := jf_tb) ⟨C.1, C.2.1, C.2.2.1, C.2.2.2.1, C.2.2.2.2.1⟩ (js_charAt E a v bs i vq hq ok h0 h1) ⟨hB, C.2.2.2.2.1 _ kv_charAt.1, C.2.2.2.2.1 _ kv_charAt.2⟩ ⟨js_blY, ⟨cell, q1, q2, q3⟩, fun U hU hW => ⟨rfl, by show js_Y _ _ _ _ _ U U.heap; rw [hU]; exact js_Y.moved hW.alike (hS1.narrow (fun _ h => h.elim))⟩⟩ rfl rfl hl.1 rfl (lv_room hr) hd ⟨Nat.zero_le _, Nat.zero_le _⟩) hS (fun _ _ h => h.elim) (fun _ h => h.elim) (fun r u t H1 locs1 e1 e2 e3 e4 e5 e6 e7 => ?_)
  subst e3
  subst hf
  have hP1 : va_P (jf_D E) vwCl (jf_w sh E σ) H1 := hP.kept (fun k q hk => e6 q.1 (hP k q hk).lt (fun h => h))
  exact kk H1 locs1 ls hP1 e7 hl
end JS2
/-- all String constants of the reader, as its class holds them -/
def js_Z (vq : Value) (ad av : Nat → Nat) (A : Nat → Prop) (U : State) : Prop := js_nq vq ∧ ∀ (i : Nat) (t : Nat × String × List Int32), js_tab[i]? = some t → vk_R RX6 t.1 t.2.1 (ad i) U ∧ js_Y vq (ad i) (av i) t.2.2 A U U.heap
theorem js_ZK (vq : Value) (ad av : Nat → Nat) (A : Nat → Prop) : jf_ZK A (js_Z vq ad av A) := by
  refine ⟨fun U g mk x h => ⟨h.1, fun i t ht => ⟨vk_R.same (u := U) rfl (h.2 i t ht).1, js_Y.moved (u := U) (U := U.calling g mk x) (Vm.Alike.refl U.vm) (h.2 i t ht).2⟩⟩, fun s U H locs h hS hU hW => ⟨h.1, fun i t ht => ⟨vk_R.warm hW (h.2 i t ht).1, ?_⟩⟩⟩
  rw [hU]
  exact js_Y.moved hW.alike ((h.2 i t ht).2.kept hS.2.1)
theorem js_oks : ∀ t ∈ js_tab, js_ok t.2.2 := by
  have h : ∀ t ∈ js_tab, (t.2.2.length ≤ 100 ∧ ∀ k, k < t.2.2.length → ((t.2.2.getD k 0 &&& 255).toUInt32 % 65536).toInt32 = t.2.2.getD k 0 ∧ narrow .char (.int (t.2.2.getD k 0)) = .int (t.2.2.getD k 0)) := by decide +kernel
  exact h
