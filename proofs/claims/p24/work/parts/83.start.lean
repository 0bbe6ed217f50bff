theorem lw_arr {args : Array Value} {s : State} {ty : FieldType} (h : (Cond.arrayClass ty).before args s = true) (hR : ∀ cA : ClassId, s.vm.findClass ("[" ++ ty.toString) = some cA → va_RA s cA ty) : ∃ cA : ClassId, ArrOfT s cA ty ∧ va_RA s cA ty := by
  obtain ⟨cA, kA, comp, hfind, hk, hkind⟩ := Cond.arrayClass_spec h
  exact ⟨cA, fun n z => ⟨fun k h => (by cases h), kA, hk, comp, hkind⟩, hR cA hfind⟩
set_option maxHeartbeats 4000000 in
set_option maxRecDepth 100000 in
theorem lw_classes {args : Array Value} {s : State} (tb : ∀ w ∈ jf_tb, w.before args s = true) : ∃ (dC : Nat → ClassId) (dI : Nat → Nat → Nat), ∀ (k : Nat) (q : vw_C), vwCl[k]? = some q → u_Kn s q.1 q.2.1 q.2.2 (dC k) (dI k) := by
  obtain ⟨c0, i0, h0⟩ := u_known (C := RX0) (T := TX0) (N := 9) (n := 9) tb inX0 (tb (.instantiable RX0 9) (jt_2 139 rfl rfl))
  obtain ⟨c1, i1, h1⟩ := u_known (C := RX1) (T := TX1) (N := 3) (n := 3) tb inX1 (tb (.instantiable RX1 3) (jt_1 170 rfl rfl))
  obtain ⟨c2, i2, h2⟩ := u_known (C := RX2) (T := TX2) (N := 9) (n := 9) tb inX2 (tb (.instantiable RX2 9) (jt_1 62 rfl rfl))
  obtain ⟨c3, i3, h3⟩ := u_known (C := RX3) (T := TX3) (N := 6) (n := 6) tb inX3 (tb (.instantiable RX3 6) (jt_1 29 rfl rfl))
  obtain ⟨c4, i4, h4⟩ := u_known (C := RX4) (T := TX4) (N := 9) (n := 9) tb inX4 (tb (.instantiable RX4 9) (jt_2 36 rfl rfl))
  obtain ⟨c5, i5, h5⟩ := u_known (C := RX5) (T := TX5) (N := 9) (n := 9) tb inX5 (tb (.instantiable RX5 9) (jt_1 237 rfl rfl))
  obtain ⟨c6, i6, h6⟩ := u_known (C := RX6) (T := TX6) (N := 7) (n := 7) tb inX6 (tb (.instantiable RX6 7) (jt_2 106 rfl rfl))
  obtain ⟨c7, i7, h7⟩ := u_known (C := RX7) (T := TX7) (N := 6) (n := 6) tb inX7 (tb (.instantiable RX7 6) (jt_2 76 rfl rfl))
  obtain ⟨c8, i8, h8⟩ := u_known (C := RX8) (T := TX8) (N := 9) (n := 9) tb inX8 (tb (.instantiable RX8 9) (jt_1 106 rfl rfl))
  obtain ⟨c9, i9, h9⟩ := u_known (C := RX9) (T := TX9) (N := 13) (n := 13) tb inX9 (tb (.instantiable RX9 13) (jt_1 186 rfl rfl))
  obtain ⟨c10, i10, h10⟩ := u_known (C := RX10) (T := TX10) (N := 11) (n := 11) tb inX10 (tb (.instantiable RX10 11) (jt_1 21 rfl rfl))
  obtain ⟨c11, i11, h11⟩ := u_known (C := RX11) (T := TX11) (N := 70) (n := 70) tb inX11 (tb (.instantiable RX11 70) (jt_5 27 rfl rfl))
  have hh : ∀ k : Nat, ∃ p : ClassId × (Nat → Nat), ∀ q : vw_C, vwCl[k]? = some q → u_Kn s q.1 q.2.1 q.2.2 p.1 p.2 := by
    intro k
    match k with
    | 0 => exact ⟨(c0, i0), fun q h => by cases h; exact h0⟩
    | 1 => exact ⟨(c1, i1), fun q h => by cases h; exact h1⟩
    | 2 => exact ⟨(c2, i2), fun q h => by cases h; exact h2⟩
    | 3 => exact ⟨(c3, i3), fun q h => by cases h; exact h3⟩
    | 4 => exact ⟨(c4, i4), fun q h => by cases h; exact h4⟩
    | 5 => exact ⟨(c5, i5), fun q h => by cases h; exact h5⟩
    | 6 => exact ⟨(c6, i6), fun q h => by cases h; exact h6⟩
    | 7 => exact ⟨(c7, i7), fun q h => by cases h; exact h7⟩
    | 8 => exact ⟨(c8, i8), fun q h => by cases h; exact h8⟩
    | 9 => exact ⟨(c9, i9), fun q h => by cases h; exact h9⟩
    | 10 => exact ⟨(c10, i10), fun q h => by cases h; exact h10⟩
    | 11 => exact ⟨(c11, i11), fun q h => by cases h; exact h11⟩
    | k + 12 => exact ⟨(c0, i0), fun q h => by simp [vwCl] at h⟩
  obtain ⟨F, hF⟩ := Classical.axiomOfChoice hh
  exact ⟨fun k => (F k).1, fun k => (F k).2, hF⟩
theorem ls_0 {args : Array Value} {s : State} (hs : ∀ w ∈ flatC (Jvm.Cond.and given_1 narrow_1), w.before args s = true) (hts : ∀ w ∈ lw_tbl, w.before args s = true) {A : Nat → Prop} (hAA : ∀ a : Nat, a < s.heap.size → ¬ A a) : ∃ a v : Nat, vk_R RX6 38 "count" a s ∧ js_one a v [99, 111, 117, 110, 116] A s s.heap := by
  have q1 : (Cond.exactly (.string "FilmWeeks$Reader" 38) "java/lang/String").before args s = true := hs _ (by decide +kernel)
  have q2 : (Cond.eq (.field (.string "FilmWeeks$Reader" 38) "java/lang/String" "coder" "B") (.int 0)).before args s = true := hs _ (by decide +kernel)
  have q3 : (Cond.arrayOf (.field (.string "FilmWeeks$Reader" 38) "java/lang/String" "value" "[B") .byte).before args s = true := hs _ (by decide +kernel)
  have q4 : (Cond.eq (.length (.field (.string "FilmWeeks$Reader" 38) "java/lang/String" "value" "[B")) (.int 5)).before args s = true := hs _ (by decide +kernel)
  have r0 : (Cond.eq (.elem (.field (.string "FilmWeeks$Reader" 38) "java/lang/String" "value" "[B") (.int 0)) (.int 99)).before args s = true := hs _ (by decide +kernel)
  have r1 : (Cond.eq (.elem (.field (.string "FilmWeeks$Reader" 38) "java/lang/String" "value" "[B") (.int 1)) (.int 111)).before args s = true := hs _ (by decide +kernel)
  have r2 : (Cond.eq (.elem (.field (.string "FilmWeeks$Reader" 38) "java/lang/String" "value" "[B") (.int 2)) (.int 117)).before args s = true := hs _ (by decide +kernel)
  have r3 : (Cond.eq (.elem (.field (.string "FilmWeeks$Reader" 38) "java/lang/String" "value" "[B") (.int 3)) (.int 110)).before args s = true := hs _ (by decide +kernel)
  have r4 : (Cond.eq (.elem (.field (.string "FilmWeeks$Reader" 38) "java/lang/String" "value" "[B") (.int 4)) (.int 116)).before args s = true := hs _ (by decide +kernel)
  obtain ⟨adK, adV, hvS, hev⟩ := vk_Sof (args := args) (s := s) (N := 1) (tm := fun _ => .string "FilmWeeks$Reader" 38) (len := [5]) (byt := [[99, 111, 117, 110, 116]]) (A := A)
    (fun i hi => by have : i = 0 := by omega
                    subst this; decide)
    (fun _ _ => q1) (fun _ _ => q2) (fun _ _ => q3)
    (fun i hi => by have : i = 0 := by omega
                    subst this; exact q4)
    (fun i hi j hj => by
      have : i = 0 := by omega
      subst this
      have hj : j < 5 := hj
      have : j = 0 ∨ j = 1 ∨ j = 2 ∨ j = 3 ∨ j = 4 := by omega
      rcases this with rfl | rfl | rfl | rfl | rfl
      · exact r0
      · exact r1
      · exact r2
      · exact r3
      · exact r4)
    (fun i j hi hj h => absurd (show i = j by omega) h) hAA
  exact ⟨adK 0, adV 0, vk_R.of (A := args) (hts _ (List.mem_append_right _ (show _ ∈ tables_1 from (List.mem_append_right _ (List.mem_append_right _ (List.mem_append_right _ (List.mem_append_left _ (List.mem_of_getElem? (show tables_1_4[62]? = some _ from rfl))))))))) (hev 0 (by decide)), (hvS.1 0 (by decide)).1, (hvS.1 0 (by decide)).2.1, (hvS.1 0 (by decide)).2.2.1, (hvS.1 0 (by decide)).2.2.2⟩
theorem ls_1 {args : Array Value} {s : State} (hs : ∀ w ∈ flatC (Jvm.Cond.and given_1 narrow_1), w.before args s = true) (hts : ∀ w ∈ lw_tbl, w.before args s = true) {A : Nat → Prop} (hAA : ∀ a : Nat, a < s.heap.size → ¬ A a) : ∃ a v : Nat, vk_R RX6 56 "tie" a s ∧ js_one a v [116, 105, 101] A s s.heap := by
  have q1 : (Cond.exactly (.string "FilmWeeks$Reader" 56) "java/lang/String").before args s = true := hs _ (by decide +kernel)
  have q2 : (Cond.eq (.field (.string "FilmWeeks$Reader" 56) "java/lang/String" "coder" "B") (.int 0)).before args s = true := hs _ (by decide +kernel)
  have q3 : (Cond.arrayOf (.field (.string "FilmWeeks$Reader" 56) "java/lang/String" "value" "[B") .byte).before args s = true := hs _ (by decide +kernel)
  have q4 : (Cond.eq (.length (.field (.string "FilmWeeks$Reader" 56) "java/lang/String" "value" "[B")) (.int 3)).before args s = true := hs _ (by decide +kernel)
  have r0 : (Cond.eq (.elem (.field (.string "FilmWeeks$Reader" 56) "java/lang/String" "value" "[B") (.int 0)) (.int 116)).before args s = true := hs _ (by decide +kernel)
  have r1 : (Cond.eq (.elem (.field (.string "FilmWeeks$Reader" 56) "java/lang/String" "value" "[B") (.int 1)) (.int 105)).before args s = true := hs _ (by decide +kernel)
  have r2 : (Cond.eq (.elem (.field (.string "FilmWeeks$Reader" 56) "java/lang/String" "value" "[B") (.int 2)) (.int 101)).before args s = true := hs _ (by decide +kernel)
  obtain ⟨adK, adV, hvS, hev⟩ := vk_Sof (args := args) (s := s) (N := 1) (tm := fun _ => .string "FilmWeeks$Reader" 56) (len := [3]) (byt := [[116, 105, 101]]) (A := A)
    (fun i hi => by have : i = 0 := by omega
                    subst this; decide)
    (fun _ _ => q1) (fun _ _ => q2) (fun _ _ => q3)
    (fun i hi => by have : i = 0 := by omega
                    subst this; exact q4)
    (fun i hi j hj => by
      have : i = 0 := by omega
      subst this
      have hj : j < 3 := hj
      have : j = 0 ∨ j = 1 ∨ j = 2 := by omega
      rcases this with rfl | rfl | rfl
      · exact r0
      · exact r1
      · exact r2)
    (fun i j hi hj h => absurd (show i = j by omega) h) hAA
  exact ⟨adK 0, adV 0, vk_R.of (A := args) (hts _ (List.mem_append_right _ (show _ ∈ tables_1 from (List.mem_append_right _ (List.mem_append_right _ (List.mem_append_right _ (List.mem_append_left _ (List.mem_of_getElem? (show tables_1_4[163]? = some _ from rfl))))))))) (hev 0 (by decide)), (hvS.1 0 (by decide)).1, (hvS.1 0 (by decide)).2.1, (hvS.1 0 (by decide)).2.2.1, (hvS.1 0 (by decide)).2.2.2⟩
theorem ls_2 {args : Array Value} {s : State} (hs : ∀ w ∈ flatC (Jvm.Cond.and given_1 narrow_1), w.before args s = true) (hts : ∀ w ∈ lw_tbl, w.before args s = true) {A : Nat → Prop} (hAA : ∀ a : Nat, a < s.heap.size → ¬ A a) : ∃ a v : Nat, vk_R RX6 64 "rounds" a s ∧ js_one a v [114, 111, 117, 110, 100, 115] A s s.heap := by
  have q1 : (Cond.exactly (.string "FilmWeeks$Reader" 64) "java/lang/String").before args s = true := hs _ (by decide +kernel)
  have q2 : (Cond.eq (.field (.string "FilmWeeks$Reader" 64) "java/lang/String" "coder" "B") (.int 0)).before args s = true := hs _ (by decide +kernel)
  have q3 : (Cond.arrayOf (.field (.string "FilmWeeks$Reader" 64) "java/lang/String" "value" "[B") .byte).before args s = true := hs _ (by decide +kernel)
  have q4 : (Cond.eq (.length (.field (.string "FilmWeeks$Reader" 64) "java/lang/String" "value" "[B")) (.int 6)).before args s = true := hs _ (by decide +kernel)
  have r0 : (Cond.eq (.elem (.field (.string "FilmWeeks$Reader" 64) "java/lang/String" "value" "[B") (.int 0)) (.int 114)).before args s = true := hs _ (by decide +kernel)
  have r1 : (Cond.eq (.elem (.field (.string "FilmWeeks$Reader" 64) "java/lang/String" "value" "[B") (.int 1)) (.int 111)).before args s = true := hs _ (by decide +kernel)
  have r2 : (Cond.eq (.elem (.field (.string "FilmWeeks$Reader" 64) "java/lang/String" "value" "[B") (.int 2)) (.int 117)).before args s = true := hs _ (by decide +kernel)
  have r3 : (Cond.eq (.elem (.field (.string "FilmWeeks$Reader" 64) "java/lang/String" "value" "[B") (.int 3)) (.int 110)).before args s = true := hs _ (by decide +kernel)
  have r4 : (Cond.eq (.elem (.field (.string "FilmWeeks$Reader" 64) "java/lang/String" "value" "[B") (.int 4)) (.int 100)).before args s = true := hs _ (by decide +kernel)
  have r5 : (Cond.eq (.elem (.field (.string "FilmWeeks$Reader" 64) "java/lang/String" "value" "[B") (.int 5)) (.int 115)).before args s = true := hs _ (by decide +kernel)
  obtain ⟨adK, adV, hvS, hev⟩ := vk_Sof (args := args) (s := s) (N := 1) (tm := fun _ => .string "FilmWeeks$Reader" 64) (len := [6]) (byt := [[114, 111, 117, 110, 100, 115]]) (A := A)
    (fun i hi => by have : i = 0 := by omega
                    subst this; decide)
    (fun _ _ => q1) (fun _ _ => q2) (fun _ _ => q3)
    (fun i hi => by have : i = 0 := by omega
                    subst this; exact q4)
    (fun i hi j hj => by
      have : i = 0 := by omega
      subst this
      have hj : j < 6 := hj
      have : j = 0 ∨ j = 1 ∨ j = 2 ∨ j = 3 ∨ j = 4 ∨ j = 5 := by omega
      rcases this with rfl | rfl | rfl | rfl | rfl | rfl
      · exact r0
      · exact r1
      · exact r2
      · exact r3
      · exact r4
      · exact r5)
    (fun i j hi hj h => absurd (show i = j by omega) h) hAA
  exact ⟨adK 0, adV 0, vk_R.of (A := args) (hts _ (List.mem_append_right _ (show _ ∈ tables_1 from (List.mem_append_right _ (List.mem_append_right _ (List.mem_append_right _ (List.mem_append_left _ (List.mem_of_getElem? (show tables_1_4[153]? = some _ from rfl))))))))) (hev 0 (by decide)), (hvS.1 0 (by decide)).1, (hvS.1 0 (by decide)).2.1, (hvS.1 0 (by decide)).2.2.1, (hvS.1 0 (by decide)).2.2.2⟩
theorem ls_3 {args : Array Value} {s : State} (hs : ∀ w ∈ flatC (Jvm.Cond.and given_1 narrow_1), w.before args s = true) (hts : ∀ w ∈ lw_tbl, w.before args s = true) {A : Nat → Prop} (hAA : ∀ a : Nat, a < s.heap.size → ¬ A a) : ∃ a v : Nat, vk_R RX6 66 "points" a s ∧ js_one a v [112, 111, 105, 110, 116, 115] A s s.heap := by
  have q1 : (Cond.exactly (.string "FilmWeeks$Reader" 66) "java/lang/String").before args s = true := hs _ (by decide +kernel)
  have q2 : (Cond.eq (.field (.string "FilmWeeks$Reader" 66) "java/lang/String" "coder" "B") (.int 0)).before args s = true := hs _ (by decide +kernel)
  have q3 : (Cond.arrayOf (.field (.string "FilmWeeks$Reader" 66) "java/lang/String" "value" "[B") .byte).before args s = true := hs _ (by decide +kernel)
  have q4 : (Cond.eq (.length (.field (.string "FilmWeeks$Reader" 66) "java/lang/String" "value" "[B")) (.int 6)).before args s = true := hs _ (by decide +kernel)
  have r0 : (Cond.eq (.elem (.field (.string "FilmWeeks$Reader" 66) "java/lang/String" "value" "[B") (.int 0)) (.int 112)).before args s = true := hs _ (by decide +kernel)
  have r1 : (Cond.eq (.elem (.field (.string "FilmWeeks$Reader" 66) "java/lang/String" "value" "[B") (.int 1)) (.int 111)).before args s = true := hs _ (by decide +kernel)
  have r2 : (Cond.eq (.elem (.field (.string "FilmWeeks$Reader" 66) "java/lang/String" "value" "[B") (.int 2)) (.int 105)).before args s = true := hs _ (by decide +kernel)
  have r3 : (Cond.eq (.elem (.field (.string "FilmWeeks$Reader" 66) "java/lang/String" "value" "[B") (.int 3)) (.int 110)).before args s = true := hs _ (by decide +kernel)
  have r4 : (Cond.eq (.elem (.field (.string "FilmWeeks$Reader" 66) "java/lang/String" "value" "[B") (.int 4)) (.int 116)).before args s = true := hs _ (by decide +kernel)
  have r5 : (Cond.eq (.elem (.field (.string "FilmWeeks$Reader" 66) "java/lang/String" "value" "[B") (.int 5)) (.int 115)).before args s = true := hs _ (by decide +kernel)
  obtain ⟨adK, adV, hvS, hev⟩ := vk_Sof (args := args) (s := s) (N := 1) (tm := fun _ => .string "FilmWeeks$Reader" 66) (len := [6]) (byt := [[112, 111, 105, 110, 116, 115]]) (A := A)
    (fun i hi => by have : i = 0 := by omega
                    subst this; decide)
    (fun _ _ => q1) (fun _ _ => q2) (fun _ _ => q3)
    (fun i hi => by have : i = 0 := by omega
                    subst this; exact q4)
    (fun i hi j hj => by
      have : i = 0 := by omega
      subst this
      have hj : j < 6 := hj
      have : j = 0 ∨ j = 1 ∨ j = 2 ∨ j = 3 ∨ j = 4 ∨ j = 5 := by omega
      rcases this with rfl | rfl | rfl | rfl | rfl | rfl
      · exact r0
      · exact r1
      · exact r2
      · exact r3
      · exact r4
      · exact r5)
    (fun i j hi hj h => absurd (show i = j by omega) h) hAA
  exact ⟨adK 0, adV 0, vk_R.of (A := args) (hts _ (List.mem_append_right _ (show _ ∈ tables_1 from (List.mem_append_right _ (List.mem_append_right _ (List.mem_append_right _ (List.mem_append_left _ (List.mem_of_getElem? (show tables_1_4[154]? = some _ from rfl))))))))) (hev 0 (by decide)), (hvS.1 0 (by decide)).1, (hvS.1 0 (by decide)).2.1, (hvS.1 0 (by decide)).2.2.1, (hvS.1 0 (by decide)).2.2.2⟩
theorem ls_4 {args : Array Value} {s : State} (hs : ∀ w ∈ flatC (Jvm.Cond.and given_1 narrow_1), w.before args s = true) (hts : ∀ w ∈ lw_tbl, w.before args s = true) {A : Nat → Prop} (hAA : ∀ a : Nat, a < s.heap.size → ¬ A a) : ∃ a v : Nat, vk_R RX6 80 "fame" a s ∧ js_one a v [102, 97, 109, 101] A s s.heap := by
  have q1 : (Cond.exactly (.string "FilmWeeks$Reader" 80) "java/lang/String").before args s = true := hs _ (by decide +kernel)
  have q2 : (Cond.eq (.field (.string "FilmWeeks$Reader" 80) "java/lang/String" "coder" "B") (.int 0)).before args s = true := hs _ (by decide +kernel)
  have q3 : (Cond.arrayOf (.field (.string "FilmWeeks$Reader" 80) "java/lang/String" "value" "[B") .byte).before args s = true := hs _ (by decide +kernel)
  have q4 : (Cond.eq (.length (.field (.string "FilmWeeks$Reader" 80) "java/lang/String" "value" "[B")) (.int 4)).before args s = true := hs _ (by decide +kernel)
  have r0 : (Cond.eq (.elem (.field (.string "FilmWeeks$Reader" 80) "java/lang/String" "value" "[B") (.int 0)) (.int 102)).before args s = true := hs _ (by decide +kernel)
  have r1 : (Cond.eq (.elem (.field (.string "FilmWeeks$Reader" 80) "java/lang/String" "value" "[B") (.int 1)) (.int 97)).before args s = true := hs _ (by decide +kernel)
  have r2 : (Cond.eq (.elem (.field (.string "FilmWeeks$Reader" 80) "java/lang/String" "value" "[B") (.int 2)) (.int 109)).before args s = true := hs _ (by decide +kernel)
  have r3 : (Cond.eq (.elem (.field (.string "FilmWeeks$Reader" 80) "java/lang/String" "value" "[B") (.int 3)) (.int 101)).before args s = true := hs _ (by decide +kernel)
  obtain ⟨adK, adV, hvS, hev⟩ := vk_Sof (args := args) (s := s) (N := 1) (tm := fun _ => .string "FilmWeeks$Reader" 80) (len := [4]) (byt := [[102, 97, 109, 101]]) (A := A)
    (fun i hi => by have : i = 0 := by omega
                    subst this; decide)
    (fun _ _ => q1) (fun _ _ => q2) (fun _ _ => q3)
    (fun i hi => by have : i = 0 := by omega
                    subst this; exact q4)
    (fun i hi j hj => by
      have : i = 0 := by omega
      subst this
      have hj : j < 4 := hj
      have : j = 0 ∨ j = 1 ∨ j = 2 ∨ j = 3 := by omega
      rcases this with rfl | rfl | rfl | rfl
      · exact r0
      · exact r1
      · exact r2
      · exact r3)
    (fun i j hi hj h => absurd (show i = j by omega) h) hAA
  exact ⟨adK 0, adV 0, vk_R.of (A := args) (hts _ (List.mem_append_right _ (show _ ∈ tables_1 from (List.mem_append_right _ (List.mem_append_right _ (List.mem_append_right _ (List.mem_append_left _ (List.mem_of_getElem? (show tables_1_4[168]? = some _ from rfl))))))))) (hev 0 (by decide)), (hvS.1 0 (by decide)).1, (hvS.1 0 (by decide)).2.1, (hvS.1 0 (by decide)).2.2.1, (hvS.1 0 (by decide)).2.2.2⟩
theorem ls_5 {args : Array Value} {s : State} (hs : ∀ w ∈ flatC (Jvm.Cond.and given_1 narrow_1), w.before args s = true) (hts : ∀ w ∈ lw_tbl, w.before args s = true) {A : Nat → Prop} (hAA : ∀ a : Nat, a < s.heap.size → ¬ A a) : ∃ a v : Nat, vk_R RX6 84 "first" a s ∧ js_one a v [102, 105, 114, 115, 116] A s s.heap := by
  have q1 : (Cond.exactly (.string "FilmWeeks$Reader" 84) "java/lang/String").before args s = true := hs _ (by decide +kernel)
  have q2 : (Cond.eq (.field (.string "FilmWeeks$Reader" 84) "java/lang/String" "coder" "B") (.int 0)).before args s = true := hs _ (by decide +kernel)
  have q3 : (Cond.arrayOf (.field (.string "FilmWeeks$Reader" 84) "java/lang/String" "value" "[B") .byte).before args s = true := hs _ (by decide +kernel)
  have q4 : (Cond.eq (.length (.field (.string "FilmWeeks$Reader" 84) "java/lang/String" "value" "[B")) (.int 5)).before args s = true := hs _ (by decide +kernel)
  have r0 : (Cond.eq (.elem (.field (.string "FilmWeeks$Reader" 84) "java/lang/String" "value" "[B") (.int 0)) (.int 102)).before args s = true := hs _ (by decide +kernel)
  have r1 : (Cond.eq (.elem (.field (.string "FilmWeeks$Reader" 84) "java/lang/String" "value" "[B") (.int 1)) (.int 105)).before args s = true := hs _ (by decide +kernel)
  have r2 : (Cond.eq (.elem (.field (.string "FilmWeeks$Reader" 84) "java/lang/String" "value" "[B") (.int 2)) (.int 114)).before args s = true := hs _ (by decide +kernel)
  have r3 : (Cond.eq (.elem (.field (.string "FilmWeeks$Reader" 84) "java/lang/String" "value" "[B") (.int 3)) (.int 115)).before args s = true := hs _ (by decide +kernel)
  have r4 : (Cond.eq (.elem (.field (.string "FilmWeeks$Reader" 84) "java/lang/String" "value" "[B") (.int 4)) (.int 116)).before args s = true := hs _ (by decide +kernel)
  obtain ⟨adK, adV, hvS, hev⟩ := vk_Sof (args := args) (s := s) (N := 1) (tm := fun _ => .string "FilmWeeks$Reader" 84) (len := [5]) (byt := [[102, 105, 114, 115, 116]]) (A := A)
    (fun i hi => by have : i = 0 := by omega
                    subst this; decide)
    (fun _ _ => q1) (fun _ _ => q2) (fun _ _ => q3)
    (fun i hi => by have : i = 0 := by omega
                    subst this; exact q4)
    (fun i hi j hj => by
      have : i = 0 := by omega
      subst this
      have hj : j < 5 := hj
      have : j = 0 ∨ j = 1 ∨ j = 2 ∨ j = 3 ∨ j = 4 := by omega
      rcases this with rfl | rfl | rfl | rfl | rfl
      · exact r0
      · exact r1
      · exact r2
      · exact r3
      · exact r4)
    (fun i j hi hj h => absurd (show i = j by omega) h) hAA
  exact ⟨adK 0, adV 0, vk_R.of (A := args) (hts _ (List.mem_append_right _ (show _ ∈ tables_1 from (List.mem_append_right _ (List.mem_append_right _ (List.mem_append_right _ (List.mem_append_left _ (List.mem_of_getElem? (show tables_1_4[169]? = some _ from rfl))))))))) (hev 0 (by decide)), (hvS.1 0 (by decide)).1, (hvS.1 0 (by decide)).2.1, (hvS.1 0 (by decide)).2.2.1, (hvS.1 0 (by decide)).2.2.2⟩
theorem ls_6 {args : Array Value} {s : State} (hs : ∀ w ∈ flatC (Jvm.Cond.and given_1 narrow_1), w.before args s = true) (hts : ∀ w ∈ lw_tbl, w.before args s = true) {A : Nat → Prop} (hAA : ∀ a : Nat, a < s.heap.size → ¬ A a) : ∃ a v : Nat, vk_R RX6 86 "film" a s ∧ js_one a v [102, 105, 108, 109] A s s.heap := by
  have q1 : (Cond.exactly (.string "FilmWeeks$Reader" 86) "java/lang/String").before args s = true := hs _ (by decide +kernel)
  have q2 : (Cond.eq (.field (.string "FilmWeeks$Reader" 86) "java/lang/String" "coder" "B") (.int 0)).before args s = true := hs _ (by decide +kernel)
  have q3 : (Cond.arrayOf (.field (.string "FilmWeeks$Reader" 86) "java/lang/String" "value" "[B") .byte).before args s = true := hs _ (by decide +kernel)
  have q4 : (Cond.eq (.length (.field (.string "FilmWeeks$Reader" 86) "java/lang/String" "value" "[B")) (.int 4)).before args s = true := hs _ (by decide +kernel)
  have r0 : (Cond.eq (.elem (.field (.string "FilmWeeks$Reader" 86) "java/lang/String" "value" "[B") (.int 0)) (.int 102)).before args s = true := hs _ (by decide +kernel)
  have r1 : (Cond.eq (.elem (.field (.string "FilmWeeks$Reader" 86) "java/lang/String" "value" "[B") (.int 1)) (.int 105)).before args s = true := hs _ (by decide +kernel)
  have r2 : (Cond.eq (.elem (.field (.string "FilmWeeks$Reader" 86) "java/lang/String" "value" "[B") (.int 2)) (.int 108)).before args s = true := hs _ (by decide +kernel)
  have r3 : (Cond.eq (.elem (.field (.string "FilmWeeks$Reader" 86) "java/lang/String" "value" "[B") (.int 3)) (.int 109)).before args s = true := hs _ (by decide +kernel)
  obtain ⟨adK, adV, hvS, hev⟩ := vk_Sof (args := args) (s := s) (N := 1) (tm := fun _ => .string "FilmWeeks$Reader" 86) (len := [4]) (byt := [[102, 105, 108, 109]]) (A := A)
    (fun i hi => by have : i = 0 := by omega
                    subst this; decide)
    (fun _ _ => q1) (fun _ _ => q2) (fun _ _ => q3)
    (fun i hi => by have : i = 0 := by omega
                    subst this; exact q4)
    (fun i hi j hj => by
      have : i = 0 := by omega
      subst this
      have hj : j < 4 := hj
      have : j = 0 ∨ j = 1 ∨ j = 2 ∨ j = 3 := by omega
      rcases this with rfl | rfl | rfl | rfl
      · exact r0
      · exact r1
      · exact r2
      · exact r3)
    (fun i j hi hj h => absurd (show i = j by omega) h) hAA
  exact ⟨adK 0, adV 0, vk_R.of (A := args) (hts _ (List.mem_append_right _ (show _ ∈ tables_1 from (List.mem_append_right _ (List.mem_append_right _ (List.mem_append_right _ (List.mem_append_left _ (List.mem_of_getElem? (show tables_1_4[170]? = some _ from rfl))))))))) (hev 0 (by decide)), (hvS.1 0 (by decide)).1, (hvS.1 0 (by decide)).2.1, (hvS.1 0 (by decide)).2.2.1, (hvS.1 0 (by decide)).2.2.2⟩
theorem ls_7 {args : Array Value} {s : State} (hs : ∀ w ∈ flatC (Jvm.Cond.and given_1 narrow_1), w.before args s = true) (hts : ∀ w ∈ lw_tbl, w.before args s = true) {A : Nat → Prop} (hAA : ∀ a : Nat, a < s.heap.size → ¬ A a) : ∃ a v : Nat, vk_R RX6 91 "or" a s ∧ js_one a v [111, 114] A s s.heap := by
  have q1 : (Cond.exactly (.string "FilmWeeks$Reader" 91) "java/lang/String").before args s = true := hs _ (by decide +kernel)
  have q2 : (Cond.eq (.field (.string "FilmWeeks$Reader" 91) "java/lang/String" "coder" "B") (.int 0)).before args s = true := hs _ (by decide +kernel)
  have q3 : (Cond.arrayOf (.field (.string "FilmWeeks$Reader" 91) "java/lang/String" "value" "[B") .byte).before args s = true := hs _ (by decide +kernel)
  have q4 : (Cond.eq (.length (.field (.string "FilmWeeks$Reader" 91) "java/lang/String" "value" "[B")) (.int 2)).before args s = true := hs _ (by decide +kernel)
  have r0 : (Cond.eq (.elem (.field (.string "FilmWeeks$Reader" 91) "java/lang/String" "value" "[B") (.int 0)) (.int 111)).before args s = true := hs _ (by decide +kernel)
  have r1 : (Cond.eq (.elem (.field (.string "FilmWeeks$Reader" 91) "java/lang/String" "value" "[B") (.int 1)) (.int 114)).before args s = true := hs _ (by decide +kernel)
  obtain ⟨adK, adV, hvS, hev⟩ := vk_Sof (args := args) (s := s) (N := 1) (tm := fun _ => .string "FilmWeeks$Reader" 91) (len := [2]) (byt := [[111, 114]]) (A := A)
    (fun i hi => by have : i = 0 := by omega
                    subst this; decide)
    (fun _ _ => q1) (fun _ _ => q2) (fun _ _ => q3)
    (fun i hi => by have : i = 0 := by omega
                    subst this; exact q4)
    (fun i hi j hj => by
      have : i = 0 := by omega
      subst this
      have hj : j < 2 := hj
      have : j = 0 ∨ j = 1 := by omega
      rcases this with rfl | rfl
      · exact r0
      · exact r1)
    (fun i j hi hj h => absurd (show i = j by omega) h) hAA
  exact ⟨adK 0, adV 0, vk_R.of (A := args) (hts _ (List.mem_append_right _ (show _ ∈ tables_1 from (List.mem_append_right _ (List.mem_append_right _ (List.mem_append_right _ (List.mem_append_left _ (List.mem_of_getElem? (show tables_1_4[148]? = some _ from rfl))))))))) (hev 0 (by decide)), (hvS.1 0 (by decide)).1, (hvS.1 0 (by decide)).2.1, (hvS.1 0 (by decide)).2.2.1, (hvS.1 0 (by decide)).2.2.2⟩
theorem ls_8 {args : Array Value} {s : State} (hs : ∀ w ∈ flatC (Jvm.Cond.and given_1 narrow_1), w.before args s = true) (hts : ∀ w ∈ lw_tbl, w.before args s = true) {A : Nat → Prop} (hAA : ∀ a : Nat, a < s.heap.size → ¬ A a) : ∃ a v : Nat, vk_R RX6 100 "and" a s ∧ js_one a v [97, 110, 100] A s s.heap := by
  have q1 : (Cond.exactly (.string "FilmWeeks$Reader" 100) "java/lang/String").before args s = true := hs _ (by decide +kernel)
  have q2 : (Cond.eq (.field (.string "FilmWeeks$Reader" 100) "java/lang/String" "coder" "B") (.int 0)).before args s = true := hs _ (by decide +kernel)
  have q3 : (Cond.arrayOf (.field (.string "FilmWeeks$Reader" 100) "java/lang/String" "value" "[B") .byte).before args s = true := hs _ (by decide +kernel)
  have q4 : (Cond.eq (.length (.field (.string "FilmWeeks$Reader" 100) "java/lang/String" "value" "[B")) (.int 3)).before args s = true := hs _ (by decide +kernel)
  have r0 : (Cond.eq (.elem (.field (.string "FilmWeeks$Reader" 100) "java/lang/String" "value" "[B") (.int 0)) (.int 97)).before args s = true := hs _ (by decide +kernel)
  have r1 : (Cond.eq (.elem (.field (.string "FilmWeeks$Reader" 100) "java/lang/String" "value" "[B") (.int 1)) (.int 110)).before args s = true := hs _ (by decide +kernel)
  have r2 : (Cond.eq (.elem (.field (.string "FilmWeeks$Reader" 100) "java/lang/String" "value" "[B") (.int 2)) (.int 100)).before args s = true := hs _ (by decide +kernel)
  obtain ⟨adK, adV, hvS, hev⟩ := vk_Sof (args := args) (s := s) (N := 1) (tm := fun _ => .string "FilmWeeks$Reader" 100) (len := [3]) (byt := [[97, 110, 100]]) (A := A)
    (fun i hi => by have : i = 0 := by omega
                    subst this; decide)
    (fun _ _ => q1) (fun _ _ => q2) (fun _ _ => q3)
    (fun i hi => by have : i = 0 := by omega
                    subst this; exact q4)
    (fun i hi j hj => by
      have : i = 0 := by omega
      subst this
      have hj : j < 3 := hj
      have : j = 0 ∨ j = 1 ∨ j = 2 := by omega
      rcases this with rfl | rfl | rfl
      · exact r0
      · exact r1
      · exact r2)
    (fun i j hi hj h => absurd (show i = j by omega) h) hAA
  exact ⟨adK 0, adV 0, vk_R.of (A := args) (hts _ (List.mem_append_right _ (show _ ∈ tables_1 from (List.mem_append_right _ (List.mem_append_right _ (List.mem_append_right _ (List.mem_append_left _ (List.mem_of_getElem? (show tables_1_4[147]? = some _ from rfl))))))))) (hev 0 (by decide)), (hvS.1 0 (by decide)).1, (hvS.1 0 (by decide)).2.1, (hvS.1 0 (by decide)).2.2.1, (hvS.1 0 (by decide)).2.2.2⟩
theorem ls_9 {args : Array Value} {s : State} (hs : ∀ w ∈ flatC (Jvm.Cond.and given_1 narrow_1), w.before args s = true) (hts : ∀ w ∈ lw_tbl, w.before args s = true) {A : Nat → Prop} (hAA : ∀ a : Nat, a < s.heap.size → ¬ A a) : ∃ a v : Nat, vk_R RX6 102 "not" a s ∧ js_one a v [110, 111, 116] A s s.heap := by
  have q1 : (Cond.exactly (.string "FilmWeeks$Reader" 102) "java/lang/String").before args s = true := hs _ (by decide +kernel)
  have q2 : (Cond.eq (.field (.string "FilmWeeks$Reader" 102) "java/lang/String" "coder" "B") (.int 0)).before args s = true := hs _ (by decide +kernel)
  have q3 : (Cond.arrayOf (.field (.string "FilmWeeks$Reader" 102) "java/lang/String" "value" "[B") .byte).before args s = true := hs _ (by decide +kernel)
  have q4 : (Cond.eq (.length (.field (.string "FilmWeeks$Reader" 102) "java/lang/String" "value" "[B")) (.int 3)).before args s = true := hs _ (by decide +kernel)
  have r0 : (Cond.eq (.elem (.field (.string "FilmWeeks$Reader" 102) "java/lang/String" "value" "[B") (.int 0)) (.int 110)).before args s = true := hs _ (by decide +kernel)
  have r1 : (Cond.eq (.elem (.field (.string "FilmWeeks$Reader" 102) "java/lang/String" "value" "[B") (.int 1)) (.int 111)).before args s = true := hs _ (by decide +kernel)
  have r2 : (Cond.eq (.elem (.field (.string "FilmWeeks$Reader" 102) "java/lang/String" "value" "[B") (.int 2)) (.int 116)).before args s = true := hs _ (by decide +kernel)
  obtain ⟨adK, adV, hvS, hev⟩ := vk_Sof (args := args) (s := s) (N := 1) (tm := fun _ => .string "FilmWeeks$Reader" 102) (len := [3]) (byt := [[110, 111, 116]]) (A := A)
    (fun i hi => by have : i = 0 := by omega
                    subst this; decide)
    (fun _ _ => q1) (fun _ _ => q2) (fun _ _ => q3)
    (fun i hi => by have : i = 0 := by omega
                    subst this; exact q4)
    (fun i hi j hj => by
      have : i = 0 := by omega
      subst this
      have hj : j < 3 := hj
      have : j = 0 ∨ j = 1 ∨ j = 2 := by omega
      rcases this with rfl | rfl | rfl
      · exact r0
      · exact r1
      · exact r2)
    (fun i j hi hj h => absurd (show i = j by omega) h) hAA
  exact ⟨adK 0, adV 0, vk_R.of (A := args) (hts _ (List.mem_append_right _ (show _ ∈ tables_1 from (List.mem_append_right _ (List.mem_append_right _ (List.mem_append_right _ (List.mem_append_left _ (List.mem_of_getElem? (show tables_1_4[127]? = some _ from rfl))))))))) (hev 0 (by decide)), (hvS.1 0 (by decide)).1, (hvS.1 0 (by decide)).2.1, (hvS.1 0 (by decide)).2.2.1, (hvS.1 0 (by decide)).2.2.2⟩
theorem ls_10 {args : Array Value} {s : State} (hs : ∀ w ∈ flatC (Jvm.Cond.and given_1 narrow_1), w.before args s = true) (hts : ∀ w ∈ lw_tbl, w.before args s = true) {A : Nat → Prop} (hAA : ∀ a : Nat, a < s.heap.size → ¬ A a) : ∃ a v : Nat, vk_R RX6 107 "saw" a s ∧ js_one a v [115, 97, 119] A s s.heap := by
  have q1 : (Cond.exactly (.string "FilmWeeks$Reader" 107) "java/lang/String").before args s = true := hs _ (by decide +kernel)
  have q2 : (Cond.eq (.field (.string "FilmWeeks$Reader" 107) "java/lang/String" "coder" "B") (.int 0)).before args s = true := hs _ (by decide +kernel)
  have q3 : (Cond.arrayOf (.field (.string "FilmWeeks$Reader" 107) "java/lang/String" "value" "[B") .byte).before args s = true := hs _ (by decide +kernel)
  have q4 : (Cond.eq (.length (.field (.string "FilmWeeks$Reader" 107) "java/lang/String" "value" "[B")) (.int 3)).before args s = true := hs _ (by decide +kernel)
  have r0 : (Cond.eq (.elem (.field (.string "FilmWeeks$Reader" 107) "java/lang/String" "value" "[B") (.int 0)) (.int 115)).before args s = true := hs _ (by decide +kernel)
  have r1 : (Cond.eq (.elem (.field (.string "FilmWeeks$Reader" 107) "java/lang/String" "value" "[B") (.int 1)) (.int 97)).before args s = true := hs _ (by decide +kernel)
  have r2 : (Cond.eq (.elem (.field (.string "FilmWeeks$Reader" 107) "java/lang/String" "value" "[B") (.int 2)) (.int 119)).before args s = true := hs _ (by decide +kernel)
  obtain ⟨adK, adV, hvS, hev⟩ := vk_Sof (args := args) (s := s) (N := 1) (tm := fun _ => .string "FilmWeeks$Reader" 107) (len := [3]) (byt := [[115, 97, 119]]) (A := A)
    (fun i hi => by have : i = 0 := by omega
                    subst this; decide)
    (fun _ _ => q1) (fun _ _ => q2) (fun _ _ => q3)
    (fun i hi => by have : i = 0 := by omega
                    subst this; exact q4)
    (fun i hi j hj => by
      have : i = 0 := by omega
      subst this
      have hj : j < 3 := hj
      have : j = 0 ∨ j = 1 ∨ j = 2 := by omega
      rcases this with rfl | rfl | rfl
      · exact r0
      · exact r1
      · exact r2)
    (fun i j hi hj h => absurd (show i = j by omega) h) hAA
  exact ⟨adK 0, adV 0, vk_R.of (A := args) (hts _ (List.mem_append_right _ (show _ ∈ tables_1 from (List.mem_append_right _ (List.mem_append_right _ (List.mem_append_right _ (List.mem_append_left _ (List.mem_of_getElem? (show tables_1_4[140]? = some _ from rfl))))))))) (hev 0 (by decide)), (hvS.1 0 (by decide)).1, (hvS.1 0 (by decide)).2.1, (hvS.1 0 (by decide)).2.2.1, (hvS.1 0 (by decide)).2.2.2⟩
theorem ls_11 {args : Array Value} {s : State} (hs : ∀ w ∈ flatC (Jvm.Cond.and given_1 narrow_1), w.before args s = true) (hts : ∀ w ∈ lw_tbl, w.before args s = true) {A : Nat → Prop} (hAA : ∀ a : Nat, a < s.heap.size → ¬ A a) : ∃ a v : Nat, vk_R RX6 109 "kin" a s ∧ js_one a v [107, 105, 110] A s s.heap := by
  have q1 : (Cond.exactly (.string "FilmWeeks$Reader" 109) "java/lang/String").before args s = true := hs _ (by decide +kernel)
  have q2 : (Cond.eq (.field (.string "FilmWeeks$Reader" 109) "java/lang/String" "coder" "B") (.int 0)).before args s = true := hs _ (by decide +kernel)
  have q3 : (Cond.arrayOf (.field (.string "FilmWeeks$Reader" 109) "java/lang/String" "value" "[B") .byte).before args s = true := hs _ (by decide +kernel)
  have q4 : (Cond.eq (.length (.field (.string "FilmWeeks$Reader" 109) "java/lang/String" "value" "[B")) (.int 3)).before args s = true := hs _ (by decide +kernel)
  have r0 : (Cond.eq (.elem (.field (.string "FilmWeeks$Reader" 109) "java/lang/String" "value" "[B") (.int 0)) (.int 107)).before args s = true := hs _ (by decide +kernel)
  have r1 : (Cond.eq (.elem (.field (.string "FilmWeeks$Reader" 109) "java/lang/String" "value" "[B") (.int 1)) (.int 105)).before args s = true := hs _ (by decide +kernel)
  have r2 : (Cond.eq (.elem (.field (.string "FilmWeeks$Reader" 109) "java/lang/String" "value" "[B") (.int 2)) (.int 110)).before args s = true := hs _ (by decide +kernel)
  obtain ⟨adK, adV, hvS, hev⟩ := vk_Sof (args := args) (s := s) (N := 1) (tm := fun _ => .string "FilmWeeks$Reader" 109) (len := [3]) (byt := [[107, 105, 110]]) (A := A)
    (fun i hi => by have : i = 0 := by omega
                    subst this; decide)
    (fun _ _ => q1) (fun _ _ => q2) (fun _ _ => q3)
    (fun i hi => by have : i = 0 := by omega
                    subst this; exact q4)
    (fun i hi j hj => by
      have : i = 0 := by omega
      subst this
      have hj : j < 3 := hj
      have : j = 0 ∨ j = 1 ∨ j = 2 := by omega
      rcases this with rfl | rfl | rfl
      · exact r0
      · exact r1
      · exact r2)
    (fun i j hi hj h => absurd (show i = j by omega) h) hAA
  exact ⟨adK 0, adV 0, vk_R.of (A := args) (hts _ (List.mem_append_right _ (show _ ∈ tables_1 from (List.mem_append_right _ (List.mem_append_right _ (List.mem_append_right _ (List.mem_append_left _ (List.mem_of_getElem? (show tables_1_4[141]? = some _ from rfl))))))))) (hev 0 (by decide)), (hvS.1 0 (by decide)).1, (hvS.1 0 (by decide)).2.1, (hvS.1 0 (by decide)).2.2.1, (hvS.1 0 (by decide)).2.2.2⟩
theorem ls_12 {args : Array Value} {s : State} (hs : ∀ w ∈ flatC (Jvm.Cond.and given_1 narrow_1), w.before args s = true) (hts : ∀ w ∈ lw_tbl, w.before args s = true) {A : Nat → Prop} (hAA : ∀ a : Nat, a < s.heap.size → ¬ A a) : ∃ a v : Nat, vk_R RX6 111 "old" a s ∧ js_one a v [111, 108, 100] A s s.heap := by
  have q1 : (Cond.exactly (.string "FilmWeeks$Reader" 111) "java/lang/String").before args s = true := hs _ (by decide +kernel)
  have q2 : (Cond.eq (.field (.string "FilmWeeks$Reader" 111) "java/lang/String" "coder" "B") (.int 0)).before args s = true := hs _ (by decide +kernel)
  have q3 : (Cond.arrayOf (.field (.string "FilmWeeks$Reader" 111) "java/lang/String" "value" "[B") .byte).before args s = true := hs _ (by decide +kernel)
  have q4 : (Cond.eq (.length (.field (.string "FilmWeeks$Reader" 111) "java/lang/String" "value" "[B")) (.int 3)).before args s = true := hs _ (by decide +kernel)
  have r0 : (Cond.eq (.elem (.field (.string "FilmWeeks$Reader" 111) "java/lang/String" "value" "[B") (.int 0)) (.int 111)).before args s = true := hs _ (by decide +kernel)
  have r1 : (Cond.eq (.elem (.field (.string "FilmWeeks$Reader" 111) "java/lang/String" "value" "[B") (.int 1)) (.int 108)).before args s = true := hs _ (by decide +kernel)
  have r2 : (Cond.eq (.elem (.field (.string "FilmWeeks$Reader" 111) "java/lang/String" "value" "[B") (.int 2)) (.int 100)).before args s = true := hs _ (by decide +kernel)
  obtain ⟨adK, adV, hvS, hev⟩ := vk_Sof (args := args) (s := s) (N := 1) (tm := fun _ => .string "FilmWeeks$Reader" 111) (len := [3]) (byt := [[111, 108, 100]]) (A := A)
    (fun i hi => by have : i = 0 := by omega
                    subst this; decide)
    (fun _ _ => q1) (fun _ _ => q2) (fun _ _ => q3)
    (fun i hi => by have : i = 0 := by omega
                    subst this; exact q4)
    (fun i hi j hj => by
      have : i = 0 := by omega
      subst this
      have hj : j < 3 := hj
      have : j = 0 ∨ j = 1 ∨ j = 2 := by omega
      rcases this with rfl | rfl | rfl
      · exact r0
      · exact r1
      · exact r2)
    (fun i j hi hj h => absurd (show i = j by omega) h) hAA
  exact ⟨adK 0, adV 0, vk_R.of (A := args) (hts _ (List.mem_append_right _ (show _ ∈ tables_1 from (List.mem_append_right _ (List.mem_append_right _ (List.mem_append_right _ (List.mem_append_left _ (List.mem_of_getElem? (show tables_1_4[142]? = some _ from rfl))))))))) (hev 0 (by decide)), (hvS.1 0 (by decide)).1, (hvS.1 0 (by decide)).2.1, (hvS.1 0 (by decide)).2.2.1, (hvS.1 0 (by decide)).2.2.2⟩
set_option maxHeartbeats 4000000 in
set_option maxRecDepth 100000 in
theorem whole_start {p : Program} {e : Env} {s : State} {m : MethodId} {below : List Frame} {meth : Method} {c : Code} (l : Launch) {b L : Nat} {xs : Nat → Int32} (hL : L ≤ 3072) (C0 : lw_At p s m meth c b L xs) : W p l e room_1 s m #[Value.ref b] below meth c s.heap [] 0 0 (lw_Z below #[Value.ref b] s) (entryFrame m ([Value.ref b] : List Value).toArray 4) := by
  obtain ⟨hx, hb, hr, hml, hown, hts, hX, hbl, hlocks, hgv⟩ := id C0
  have tb : ∀ w ∈ jf_tb, w.before #[Value.ref b] s = true := fun w h => hts w (List.mem_filter.mp h).1
  obtain ⟨dC, dI, hKc⟩ := lw_classes tb
  obtain ⟨cI, a1, a2⟩ := lw_arr (tb _ kw_int) (fun _ h => h)
  obtain ⟨cZ, a3, a4⟩ := lw_arr (tb _ kw_boolean) (fun _ h => h)
  have hZ : jg_Z s := jg_Zof hts
  have hs := flat_of_before _ hgv
  have q0 : (Cond.eq (.static "java/lang/String" "COMPACT_STRINGS" "Z") (.int 1)).before #[Value.ref b] s = true := hs _ (by decide +kernel)
  have q9 : (Cond.isRef (.static "jdk/internal/util/Preconditions" "SIOOBE_FORMATTER" "Ljava/util/function/BiFunction;")).before #[Value.ref b] s = true := hs _ (by decide +kernel)
  have hAA : ∀ a : Nat, a < s.heap.size → ¬ (fun q : Nat => s.heap.size ≤ q) a := fun a h => Nat.not_le.mpr h
  obtain ⟨ad, av, hTab⟩ : ∃ ad av : Nat → Nat, ∀ (i : Nat) (t : Nat × String × List Int32), js_tab[i]? = some t → vk_R RX6 t.1 t.2.1 (ad i) s ∧ js_one (ad i) (av i) t.2.2 (fun q : Nat => s.heap.size ≤ q) s s.heap := by
    obtain ⟨a0, v0, hR0, hO0⟩ := ls_0 (args := #[Value.ref b]) (s := s) hs hts (A := fun q : Nat => s.heap.size ≤ q) hAA
    obtain ⟨a1, v1, hR1, hO1⟩ := ls_1 (args := #[Value.ref b]) (s := s) hs hts (A := fun q : Nat => s.heap.size ≤ q) hAA
    obtain ⟨a2, v2, hR2, hO2⟩ := ls_2 (args := #[Value.ref b]) (s := s) hs hts (A := fun q : Nat => s.heap.size ≤ q) hAA
    obtain ⟨a3, v3, hR3, hO3⟩ := ls_3 (args := #[Value.ref b]) (s := s) hs hts (A := fun q : Nat => s.heap.size ≤ q) hAA
    obtain ⟨a4, v4, hR4, hO4⟩ := ls_4 (args := #[Value.ref b]) (s := s) hs hts (A := fun q : Nat => s.heap.size ≤ q) hAA
    obtain ⟨a5, v5, hR5, hO5⟩ := ls_5 (args := #[Value.ref b]) (s := s) hs hts (A := fun q : Nat => s.heap.size ≤ q) hAA
    obtain ⟨a6, v6, hR6, hO6⟩ := ls_6 (args := #[Value.ref b]) (s := s) hs hts (A := fun q : Nat => s.heap.size ≤ q) hAA
    obtain ⟨a7, v7, hR7, hO7⟩ := ls_7 (args := #[Value.ref b]) (s := s) hs hts (A := fun q : Nat => s.heap.size ≤ q) hAA
    obtain ⟨a8, v8, hR8, hO8⟩ := ls_8 (args := #[Value.ref b]) (s := s) hs hts (A := fun q : Nat => s.heap.size ≤ q) hAA
    obtain ⟨a9, v9, hR9, hO9⟩ := ls_9 (args := #[Value.ref b]) (s := s) hs hts (A := fun q : Nat => s.heap.size ≤ q) hAA
    obtain ⟨a10, v10, hR10, hO10⟩ := ls_10 (args := #[Value.ref b]) (s := s) hs hts (A := fun q : Nat => s.heap.size ≤ q) hAA
    obtain ⟨a11, v11, hR11, hO11⟩ := ls_11 (args := #[Value.ref b]) (s := s) hs hts (A := fun q : Nat => s.heap.size ≤ q) hAA
    obtain ⟨a12, v12, hR12, hO12⟩ := ls_12 (args := #[Value.ref b]) (s := s) hs hts (A := fun q : Nat => s.heap.size ≤ q) hAA
    obtain ⟨ad, hadd⟩ : ∃ ad : Nat → Nat, ad = fun i => [a0, a1, a2, a3, a4, a5, a6, a7, a8, a9, a10, a11, a12].getD i 0 := ⟨_, rfl⟩
    obtain ⟨av, havd⟩ : ∃ av : Nat → Nat, av = fun i => [v0, v1, v2, v3, v4, v5, v6, v7, v8, v9, v10, v11, v12].getD i 0 := ⟨_, rfl⟩
    have hTab : ∀ (i : Nat) (t : Nat × String × List Int32), js_tab[i]? = some t → vk_R RX6 t.1 t.2.1 (ad i) s ∧ js_one (ad i) (av i) t.2.2 (fun q : Nat => s.heap.size ≤ q) s s.heap := by
      subst hadd; subst havd
      intro i t ht
      match i, ht with
      | 0, ht => cases ht; exact ⟨hR0, hO0⟩
      | 1, ht => cases ht; exact ⟨hR1, hO1⟩
      | 2, ht => cases ht; exact ⟨hR2, hO2⟩
      | 3, ht => cases ht; exact ⟨hR3, hO3⟩
      | 4, ht => cases ht; exact ⟨hR4, hO4⟩
      | 5, ht => cases ht; exact ⟨hR5, hO5⟩
      | 6, ht => cases ht; exact ⟨hR6, hO6⟩
      | 7, ht => cases ht; exact ⟨hR7, hO7⟩
      | 8, ht => cases ht; exact ⟨hR8, hO8⟩
      | 9, ht => cases ht; exact ⟨hR9, hO9⟩
      | 10, ht => cases ht; exact ⟨hR10, hO10⟩
      | 11, ht => cases ht; exact ⟨hR11, hO11⟩
      | 12, ht => cases ht; exact ⟨hR12, hO12⟩
      | i + 13, ht => simp [js_tab] at ht
    exact ⟨ad, av, hTab⟩
  have hZs : va_Z "java/lang/String" "COMPACT_STRINGS" "Z" (.int 1) (fun q : Nat => s.heap.size ≤ q) s s.heap := va_Zof (args := #[Value.ref b]) (hts _ (List.mem_append_right _ (show _ ∈ tables_1 from (List.mem_append_right _ (List.mem_append_right _ (List.mem_append_right _ (List.mem_append_left _ (List.mem_of_getElem? (show tables_1_4[76]? = some _ from rfl))))))))) (tb _ ky_length.2.1) (va_eqi q0) hAA
  have hZq : va_Zq "jdk/internal/util/Preconditions" "SIOOBE_FORMATTER" "Ljava/util/function/BiFunction;" (fun q : Nat => s.heap.size ≤ q) s s.heap := va_Zqof (args := #[Value.ref b]) (hts _ (List.mem_append_right _ (show _ ∈ tables_1 from (List.mem_append_right _ (List.mem_append_right _ (List.mem_append_right _ (List.mem_append_left _ (List.mem_of_getElem? (show tables_1_4[92]? = some _ from rfl))))))))) (tb _ ky_checkIndex3.2.1) q9 hAA
  obtain ⟨vq, hvq, hvz⟩ : ∃ vq : Value, js_nq vq ∧ js_F vq (fun q : Nat => s.heap.size ≤ q) s s.heap := by
    rcases hZq with h | ⟨t, h⟩
    · exact ⟨.null, Or.inl rfl, h⟩
    · exact ⟨.ref t, Or.inr ⟨t, rfl⟩, h⟩
  obtain ⟨E, hE⟩ : ∃ E : jf_E, E = (l, dC, dI, (fun t => bif Nat.beq t 0 then cI else cZ), fun _ => 0) := ⟨_, rfl⟩
  obtain ⟨G, hG⟩ : ∃ G : jf_G, G = (p, e, room_1, s, m, #[Value.ref b], below, meth, c, lw_Z below #[Value.ref b] s) := ⟨_, rfl⟩
  have hK : va_K (jf_D E) vwCl (jf_T E) s := by
    subst hE
    refine ⟨hKc, fun k q hk => ?_⟩
    match k, hk with
    | 0, hk => cases hk; exact ⟨a1, a2⟩
    | 1, hk => cases hk; exact ⟨a3, a4⟩
    | k + 2, hk => simp [jf_T] at hk
  have C : jg_C E G (fun q : Nat => s.heap.size ≤ q) 4 cL_law RL 100 600000 7302250 := by
    subst hG
    exact ⟨hx, hb, hml, hown, tb, hK, fun q h => h, Nat.le_of_ble_eq_true rfl, Nat.le_of_ble_eq_true rfl, Nat.le_refl _, Nat.le_refl _⟩
  have hsG : G.2.2.2.1 = s := by rw [hG]
  have hX' : va_X b L xs G.2.2.2.1 G.2.2.2.1.heap := by rw [hsG]; exact hX
  have hbl' : b < G.2.2.2.1.heap.size := by rw [hsG]; exact hbl
  have hbA : ¬ (fun q : Nat => s.heap.size ≤ q) b := Nat.not_le.mpr hbl
  have fin : ∀ (LL : List (Nat × Value)) (ws : va_W) (cs ss : Nat), cs ≤ 600000 → ss ≤ 7302250 → jg_X E G (fun q : Nat => s.heap.size ≤ q) 4 1174 LL [] ws cs ss := by
    intro LL ws cs ss hcs hss
    refine jg_iconst C 1 dL_law_1174 (by decide) ?_
    subst hG; subst hE
    intro H locs ls hP hD hS hl
    refine va_forget (fun q h => hS.2.2 q h) ?_
    refine W.widen (k := 600000) (n := 7302250) hcs hss ?_
    exact lw_ret hx hb hr hlocks dL_law_1175
  have hLn : (Int32.ofNat L).toInt = (L : Int) := nI_toInt (by omega)
  have hL6 : (Int32.ofNat L - 6).toInt = (L : Int) - 6 := by
    rw [fb_subI (by rw [hLn]; show _ ≤ (L : Int) - 6; omega) (by rw [hLn]; show (L : Int) - 6 < _; omega), hLn]; rfl
  have key : jg_X E G (fun q : Nat => s.heap.size ≤ q) 4 0 [(0, .ref b)] [] [] 0 0 := by
    refine jg_new C kn_L_7 (by decide) (by decide) dL_law_0 (fun y1 => ?_)
    refine jg_dup C dL_law_3 rfl ?_
    refine jg_call jg_Z jg_ZZ (by rw [hsG]; exact hZ) C (ws := []) [] _ (fun sz => ci_X10 E y1 sz) ky_X10_init rfl kz_X10_init (Or.inl kl_9) (by decide) rfl (Nat.le_of_ble_eq_true rfl) (by decide) (by decide) dL_law_4 (fun w1 p1 => ?_)
    obtain ⟨f, hf, hw1⟩ := p1
    rw [hw1]
    clear hw1
    subst hf
    refine jg_astore_n C dL_law_7 (by decide) ?_
    refine jg_new C kn_L_10 (by decide) (by decide) dL_law_8 (fun y2 => ?_)
    refine jg_dup C dL_law_11 rfl ?_
    refine jg_call (fun _ => True) jg_ZT trivial C (ws := [] ++ jf_w jh_X (jg_E E f) x_s0) [] _ (fun sz => ci_X11 E y2 sz) ky_X11_init rfl kz_X11_init (Or.inl kl_12) (by decide) rfl (Nat.le_of_ble_eq_true rfl) (by decide) (by decide) dL_law_12 (fun w2 p2 => ?_)
    obtain ⟨g, hg, hw2⟩ := p2
    rw [hw2]
    clear hw2
    subst hg
    refine jg_astore_n C dL_law_15 (by decide) ?_
    refine jg_iconst C 0 dL_law_16 (by decide) ?_
    refine jg_istore_n C dL_law_17 (by decide) ?_
    refine jg_loc [(0, .ref b), (1, .ref (f 0)), (2, .ref (g 0)), (3, .int 0)] rfl ?_
    rw [List.nil_append]
    refine jg_wid 99 12027 (by decide) (by decide) ?_
    have hZr : ∀ (H : Heap) (locs : List Loc) (U : State), (∀ q, jf_A jh_X (jg_E E f) q → (fun q : Nat => s.heap.size ≤ q) q) → va_S (fun q : Nat => s.heap.size ≤ q) G.2.2.2.1.heap H locs → U.heap = H → G.2.2.2.1.WarmedH U.vm → js_Z vq ad av (jf_A jh_X (jg_E E f)) U := by
      rw [hsG]
      intro H locs U h1 h2 h3 h4
      refine ⟨hvq, fun i t ht => ⟨vk_R.warm h4 (hTab i t ht).1, ?_⟩⟩
      rw [h3]
      have hy : js_Y vq (ad i) (av i) t.2.2 (fun q : Nat => s.heap.size ≤ q) s s.heap := ⟨hvz, hZs, (hTab i t ht).2⟩
      exact js_Y.moved h4.alike ((hy.kept h2.2.1).narrow h1)
    have l18 : ∀ (m : Nat) (i : Int32) (σ τ : jf_S), 0 ≤ i.toInt → i.toInt ≤ 3072 + 6 → (L : Int) - i.toInt < m → JJ σ τ → jg_X E G (fun q : Nat => s.heap.size ≤ q) 4 18 [(0, .ref b), (1, .ref (f 0)), (2, .ref (g 0)), (3, .int i)] [] (jf_w jh_X (jg_E E f) σ ++ jf_w jh_M (jg_E E g) τ) 99 12027 := by
      intro m
      induction m with
      | zero =>
        intro i σ τ g1 g2 g3 J
        refine jg_iload_n C dL_law_18 rfl ?_
        refine jg_aload_n C dL_law_19 rfl ?_
        refine jg_slen C hX' hbl' hbA dL_law_20 ?_
        refine jg_bipush C 6 dL_law_21 (by decide) ?_
        refine jg_isub C dL_law_23 ?_
        refine jg_icmp_gt C 1174 dL_law_24 (by decide) (fun _ => fin _ _ _ _ (by decide) (by decide)) (fun h => absurd (Int32.lt_iff_toInt_lt.mpr ?_) h)
        rw [hL6]; omega
      | succ m ih =>
        intro i σ τ g1 g2 g3 J
        refine jg_iload_n C dL_law_18 rfl ?_
        refine jg_aload_n C dL_law_19 rfl ?_
        refine jg_slen C hX' hbl' hbA dL_law_20 ?_
        refine jg_bipush C 6 dL_law_21 (by decide) ?_
        refine jg_isub C dL_law_23 ?_
        refine jg_icmp_gt C 1174 dL_law_24 (by decide) (fun _ => fin _ _ _ _ (by decide) (by decide)) (fun h => ?_)
        have h6 : i.toInt + 6 ≤ (L : Int) := by
          have h' : ¬ (Int32.ofNat L - 6).toInt < i.toInt := fun q => h (Int32.lt_iff_toInt_lt.mpr q)
          rw [hL6] at h'; omega
        have ad6 : ∀ (k : Int32) (n : Int), k.toInt = n → 0 ≤ n → n ≤ 6 → (i + k).toInt = i.toInt + n := by
          intro k n hk h0 h1
          rw [fb_addI (by omega) (by omega), hk]
        have in0 : vp_in i L := ji_in g1 (by omega)
        have in1 : vp_in (i + 1) L := ji_in (by rw [ad6 1 1 rfl (by decide) (by decide)]; omega) (by rw [ad6 1 1 rfl (by decide) (by decide)]; omega)
        have in2 : vp_in (i + 2) L := ji_in (by rw [ad6 2 2 rfl (by decide) (by decide)]; omega) (by rw [ad6 2 2 rfl (by decide) (by decide)]; omega)
        have in3 : vp_in (i + 3) L := ji_in (by rw [ad6 3 3 rfl (by decide) (by decide)]; omega) (by rw [ad6 3 3 rfl (by decide) (by decide)]; omega)
        have in4 : vp_in (i + 4) L := ji_in (by rw [ad6 4 4 rfl (by decide) (by decide)]; omega) (by rw [ad6 4 4 rfl (by decide) (by decide)]; omega)
        have in5 : vp_in (i + 5) L := ji_in (by rw [ad6 5 5 rfl (by decide) (by decide)]; omega) (by rw [ad6 5 5 rfl (by decide) (by decide)]; omega)
        have n6 : (i + 6).toInt = i.toInt + 6 := ad6 6 6 rfl (by decide) (by decide)
        have K : ∀ σ1 τ1 : jf_S, JJ σ1 τ1 → jg_X E G (fun q : Nat => s.heap.size ≤ q) 4 1168 [(0, .ref b), (1, .ref (f 0)), (2, .ref (g 0)), (3, .int i)] [] (jf_w jh_X (jg_E E f) σ1 ++ jf_w jh_M (jg_E E g) τ1) 99 12027 := by
          intro σ1 τ1 J1
          refine jg_iinc C (i + 6) dL_law_1168 rfl (by rfl) (by decide) ?_
          refine jg_goto C 18 dL_law_1171 (by decide) ?_
          refine jg_loc [(0, .ref b), (1, .ref (f 0)), (2, .ref (g 0)), (3, .int (i + 6))] rfl ?_
          exact ih (i + 6) σ1 τ1 (by omega) (by omega) (by omega) J1
        refine jg_aload_n C dL_law_27 rfl ?_
        refine jg_iload_n C dL_law_28 rfl ?_
        refine jg_sld C hX' hbl' hbA dL_law_29 in0 ?_
        refine jg_bipush C 31 dL_law_30 (by decide) ?_
        refine jg_iand C dL_law_32 ?_
        refine jg_topi (fun x _ => ?_)
        have hx : x.toInt < 0 ∨ x.toInt = 0 ∨ x.toInt = 1 ∨ x.toInt = 2 ∨ x.toInt = 3 ∨ x.toInt = 4 ∨ x.toInt = 5 ∨ x.toInt = 6 ∨ x.toInt = 7 ∨ x.toInt = 8 ∨ x.toInt = 9 ∨ x.toInt = 10 ∨ x.toInt = 11 ∨ x.toInt = 12 ∨ x.toInt = 13 ∨ x.toInt = 14 ∨ x.toInt = 15 ∨ x.toInt = 16 ∨ x.toInt = 17 ∨ x.toInt = 18 ∨ x.toInt = 19 ∨ x.toInt = 20 ∨ x.toInt = 21 ∨ x.toInt = 22 ∨ x.toInt = 23 ∨ x.toInt = 24 ∨ x.toInt = 25 ∨ x.toInt = 26 ∨ x.toInt = 27 ∨ x.toInt = 28 ∨ x.toInt = 29 ∨ 29 < x.toInt := by omega
        rcases hx with hx | hx | hx | hx | hx | hx | hx | hx | hx | hx | hx | hx | hx | hx | hx | hx | hx | hx | hx | hx | hx | hx | hx | hx | hx | hx | hx | hx | hx | hx | hx | hx
        · exact jg_tabOut C 1168 dL_law_33 (Or.inl hx) (by decide) (K _ _ J)
        · exact jg_tabIn C 168 dL_law_33 (by omega) (by omega) (by rw [hx]; rfl) (by decide) (lp_0 C hX' hbl' hbA in1 in2 in3 in4 (by decide) (by decide) (by decide) J K)
        · exact jg_tabIn C 221 dL_law_33 (by omega) (by omega) (by rw [hx]; rfl) (by decide) (lp_1 C hX' hbl' hbA in1 in2 in3 (by decide) (by decide) (by decide) J K)
        · exact jg_tabIn C 264 dL_law_33 (by omega) (by omega) (by rw [hx]; rfl) (by decide) (lp_2 C hX' hbl' hbA in1 in2 in3 (by decide) (by decide) (by decide) J K)
        · exact jg_tabIn C 307 dL_law_33 (by omega) (by omega) (by rw [hx]; rfl) (by decide) (lp_3 C hX' hbl' hbA in1 in2 in3 (by decide) (by decide) (by decide) J K)
        · exact jg_tabIn C 350 dL_law_33 (by omega) (by omega) (by rw [hx]; rfl) (by decide) (lp_4 C hX' hbl' hbA in1 in2 in3 in4 (by decide) (by decide) (by decide) J K)
        · exact jg_tabIn C 403 dL_law_33 (by omega) (by omega) (by rw [hx]; rfl) (by decide) (lp_5 C hX' hbl' hbA in1 in2 in3 in4 (by decide) (by decide) (by decide) J K)
        · exact jg_tabIn C 456 dL_law_33 (by omega) (by omega) (by rw [hx]; rfl) (by decide) (lp_6 C hX' hbl' hbA in1 in2 in3 in4 (by decide) (by decide) (by decide) J K)
        · exact jg_tabIn C 509 dL_law_33 (by omega) (by omega) (by rw [hx]; rfl) (by decide) (lp_7 C hX' hbl' hbA in1 (by decide) (by decide) (by decide) J K)
        · exact jg_tabIn C 532 dL_law_33 (by omega) (by omega) (by rw [hx]; rfl) (by decide) (lp_8 C hX' hbl' hbA in1 in2 (by decide) (by decide) (by decide) J K)
        · exact jg_tabIn C 565 dL_law_33 (by omega) (by omega) (by rw [hx]; rfl) (by decide) (lp_9 C hX' hbl' hbA in1 in2 (by decide) (by decide) (by decide) J K)
        · exact jg_tabIn C 598 dL_law_33 (by omega) (by omega) (by rw [hx]; rfl) (by decide) (lp_10 C hX' hbl' hbA  (by decide) (by decide) (by decide) J K)
        · exact jg_tabIn C 611 dL_law_33 (by omega) (by omega) (by rw [hx]; rfl) (by decide) (lp_11 C hX' hbl' hbA in1 (by decide) (by decide) (by decide) J K)
        · exact jg_tabIn C 634 dL_law_33 (by omega) (by omega) (by rw [hx]; rfl) (by decide) (lp_12 C hX' hbl' hbA  (by decide) (by decide) (by decide) J K)
        · exact jg_tabIn C 647 dL_law_33 (by omega) (by omega) (by rw [hx]; rfl) (by decide) (lp_13 C hX' hbl' hbA in1 in2 in3 (by decide) (by decide) (by decide) J K)
        · exact jg_tabIn C 690 dL_law_33 (by omega) (by omega) (by rw [hx]; rfl) (by decide) (lp_14 C hX' hbl' hbA in1 (by decide) (by decide) (by decide) J K)
        · exact jg_tabIn C 713 dL_law_33 (by omega) (by omega) (by rw [hx]; rfl) (by decide) (lp_15 C hX' hbl' hbA in1 in2 (by decide) (by decide) (by decide) J K)
        · exact jg_tabIn C 746 dL_law_33 (by omega) (by omega) (by rw [hx]; rfl) (by decide) (lp_16 C hX' hbl' hbA in1 in2 in3 (by decide) (by decide) (by decide) J K)
        · exact jg_tabIn C 789 dL_law_33 (by omega) (by omega) (by rw [hx]; rfl) (by decide) (lp_17 C hX' hbl' hbA in1 (by decide) (by decide) (by decide) J K)
        · exact jg_tabIn C 812 dL_law_33 (by omega) (by omega) (by rw [hx]; rfl) (by decide) (lp_18 C hX' hbl' hbA in1 in2 (by decide) (by decide) (by decide) J K)
        · exact jg_tabIn C 845 dL_law_33 (by omega) (by omega) (by rw [hx]; rfl) (by decide) (lp_19 C hX' hbl' hbA in1 (by decide) (by decide) (by decide) J K)
        · exact jg_tabIn C 868 dL_law_33 (by omega) (by omega) (by rw [hx]; rfl) (by decide) (lp_20 C hX' hbl' hbA in1 in2 in3 in4 (by decide) (by decide) (by decide) J K)
        · exact jg_tabIn C 921 dL_law_33 (by omega) (by omega) (by rw [hx]; rfl) (by decide) (lp_21 C hX' hbl' hbA in1 in2 in3 in4 in5 (by decide) (by decide) (by decide) J K)
        · exact jg_tabIn C 984 dL_law_33 (by omega) (by omega) (by rw [hx]; rfl) (by decide) (lp_22 C hX' hbl' hbA in1 (by decide) (by decide) (by decide) J K)
        · exact jg_tabIn C 1007 dL_law_33 (by omega) (by omega) (by rw [hx]; rfl) (by decide) (lp_23 C hX' hbl' hbA  hZr (by decide) (by decide) (by decide) J K)
        · exact jg_tabIn C 1020 dL_law_33 (by omega) (by omega) (by rw [hx]; rfl) (by decide) (lp_24 C hX' hbl' hbA  (by decide) (by decide) (by decide) J K)
        · exact jg_tabIn C 1033 dL_law_33 (by omega) (by omega) (by rw [hx]; rfl) (by decide) (lp_25 C hX' hbl' hbA in1 in2 in3 (by decide) (by decide) (by decide) J K)
        · exact jg_tabIn C 1076 dL_law_33 (by omega) (by omega) (by rw [hx]; rfl) (by decide) (lp_26 C hX' hbl' hbA in1 (by decide) (by decide) (by decide) J K)
        · exact jg_tabIn C 1099 dL_law_33 (by omega) (by omega) (by rw [hx]; rfl) (by decide) (lp_27 C hX' hbl' hbA in1 in2 (by decide) (by decide) (by decide) J K)
        · exact jg_tabIn C 1132 dL_law_33 (by omega) (by omega) (by rw [hx]; rfl) (by decide) (lp_28 C hX' hbl' hbA in1 (by decide) (by decide) (by decide) J K)
        · exact jg_tabIn C 1155 dL_law_33 (by omega) (by omega) (by rw [hx]; rfl) (by decide) (lp_29 C hX' hbl' hbA  (by decide) (by decide) (by decide) J K)
        · exact jg_tabOut C 1168 dL_law_33 (Or.inr hx) (by decide) (K _ _ J)
    exact l18 (L + 1) 0 x_s0 m_s0 (by decide) (by decide) (by show (L : Int) - 0 < _; omega) ⟨jx_s0, jm_s0, jr_s0⟩
  have hl := lv_entry ([.ref b]) (n := 4) (Nat.le_of_ble_eq_true rfl)
  rw [lg_entry_eq]
  subst hG; subst hE
  exact key s.heap [] _ (fun k q h => by simp at h) ⟨fun i j p q h => by simp at h, fun k q h => by simp at h⟩ va_S.rf hl
