theorem kw_int : Cond.arrayClass (newarray.typeOf .int) ∈ jf_tb := (jt_1 60 rfl rfl)
theorem kw_boolean : Cond.arrayClass (newarray.typeOf .boolean) ∈ jf_tb := (jt_1 168 rfl rfl)
theorem kc_X10_292 : Cond.constant RX10 292 100000 ∈ jf_tb := (jt_4 25 rfl rfl)
theorem dJ7_fill_53178_0 : decode cJ7_fill_53178 0 = .ok (.iconst 0, 1) := by decide +kernel
theorem dJ7_fill_53178_1 : decode cJ7_fill_53178 1 = .ok (.istore_n 2, 1) := by decide +kernel
theorem dJ7_fill_53178_2 : decode cJ7_fill_53178 2 = .ok (.aload_n 0, 1) := by decide +kernel
theorem dJ7_fill_53178_3 : decode cJ7_fill_53178 3 = .ok (.arraylength, 1) := by decide +kernel
theorem dJ7_fill_53178_4 : decode cJ7_fill_53178 4 = .ok (.istore_n 3, 1) := by decide +kernel
theorem dJ7_fill_53178_5 : decode cJ7_fill_53178 5 = .ok (.iload_n 2, 1) := by decide +kernel
theorem dJ7_fill_53178_6 : decode cJ7_fill_53178 6 = .ok (.iload_n 3, 1) := by decide +kernel
theorem dJ7_fill_53178_7 : decode cJ7_fill_53178 7 = .ok (.if_icmp .ge 13, 3) := by decide +kernel
theorem dJ7_fill_53178_10 : decode cJ7_fill_53178 10 = .ok (.aload_n 0, 1) := by decide +kernel
theorem dJ7_fill_53178_11 : decode cJ7_fill_53178 11 = .ok (.iload_n 2, 1) := by decide +kernel
theorem dJ7_fill_53178_12 : decode cJ7_fill_53178 12 = .ok (.iload_n 1, 1) := by decide +kernel
theorem dJ7_fill_53178_13 : decode cJ7_fill_53178 13 = .ok (.iastore, 1) := by decide +kernel
theorem dJ7_fill_53178_14 : decode cJ7_fill_53178 14 = .ok (.iinc 2 1, 3) := by decide +kernel
theorem dJ7_fill_53178_17 : decode cJ7_fill_53178 17 = .ok (.goto (-12), 3) := by decide +kernel
theorem dJ7_fill_53178_20 : decode cJ7_fill_53178 20 = .ok (.return_, 1) := by decide +kernel
theorem dJ0_length_8abf5_0 : decode cJ0_length_8abf5 0 = .ok (.aload_n 0, 1) := by decide +kernel
theorem dJ0_length_8abf5_1 : decode cJ0_length_8abf5 1 = .ok (.getfield 9, 3) := by decide +kernel
theorem dJ0_length_8abf5_4 : decode cJ0_length_8abf5 4 = .ok (.arraylength, 1) := by decide +kernel
theorem dJ0_length_8abf5_5 : decode cJ0_length_8abf5 5 = .ok (.aload_n 0, 1) := by decide +kernel
theorem dJ0_length_8abf5_6 : decode cJ0_length_8abf5 6 = .ok (.invokevirtual 335, 3) := by decide +kernel
theorem dJ0_length_8abf5_9 : decode cJ0_length_8abf5 9 = .ok (.ishr, 1) := by decide +kernel
theorem dJ0_length_8abf5_10 : decode cJ0_length_8abf5 10 = .ok (.ireturn, 1) := by decide +kernel
theorem dJ0_coder_7d493_0 : decode cJ0_coder_7d493 0 = .ok (.getstatic 38, 3) := by decide +kernel
theorem dJ0_coder_7d493_3 : decode cJ0_coder_7d493 3 = .ok (.ifCond .eq 10, 3) := by decide +kernel
theorem dJ0_coder_7d493_6 : decode cJ0_coder_7d493 6 = .ok (.aload_n 0, 1) := by decide +kernel
theorem dJ0_coder_7d493_7 : decode cJ0_coder_7d493 7 = .ok (.getfield 15, 3) := by decide +kernel
theorem dJ0_coder_7d493_10 : decode cJ0_coder_7d493 10 = .ok (.goto 4, 3) := by decide +kernel
theorem dJ0_coder_7d493_13 : decode cJ0_coder_7d493 13 = .ok (.iconst 1, 1) := by decide +kernel
theorem dJ0_coder_7d493_14 : decode cJ0_coder_7d493 14 = .ok (.ireturn, 1) := by decide +kernel
def jg_Z (U : State) : Prop := va_Nw (.methodLinkNest RX10 9 yX3_init RX10) U ∧ va_Nw (.methodLinkNest RX10 18 yX2_init RX10) U ∧ va_Nw (.methodLinkNest RX10 25 yX8_init RX10) U ∧ va_Nw (.methodLinkNest RX10 57 yX4_init RX10) U ∧ va_Nw (.methodLinkNest RX10 64 yX7_init RX10) U ∧ va_Nw (.methodLinkNest RX10 71 yX6_init RX10) U ∧ va_Nw (.methodLinkNest RX6 17 yX7_init RX10) U
theorem jg_ZZ : jg_ZK jg_Z := by
  refine ⟨fun U g mk a hZ => ?_, fun s U hW hZ => ?_⟩
  · exact ⟨va_Nw.same rfl (u := U) rfl (hZ.1), va_Nw.same rfl (u := U) rfl (hZ.2.1), va_Nw.same rfl (u := U) rfl (hZ.2.2.1), va_Nw.same rfl (u := U) rfl (hZ.2.2.2.1), va_Nw.same rfl (u := U) rfl (hZ.2.2.2.2.1), va_Nw.same rfl (u := U) rfl (hZ.2.2.2.2.2.1), va_Nw.same rfl (u := U) rfl (hZ.2.2.2.2.2.2)⟩
  · exact ⟨va_Nw.warmM hW (hZ.1), va_Nw.warmM hW (hZ.2.1), va_Nw.warmM hW (hZ.2.2.1), va_Nw.warmM hW (hZ.2.2.2.1), va_Nw.warmM hW (hZ.2.2.2.2.1), va_Nw.warmM hW (hZ.2.2.2.2.2.1), va_Nw.warmM hW (hZ.2.2.2.2.2.2)⟩
theorem jg_Zof {A : Array Value} {U : State} (h : ∀ w ∈ lw_tbl, w.before A U = true) : jg_Z U := ⟨va_Nw.of rfl (h _ (List.mem_append_right _ (show _ ∈ tables_1 from (List.mem_append_left _ (List.mem_of_getElem? (show tables_1_1[30]? = some _ from rfl)))))), va_Nw.of rfl (h _ (List.mem_append_right _ (show _ ∈ tables_1 from (List.mem_append_left _ (List.mem_of_getElem? (show tables_1_1[63]? = some _ from rfl)))))), va_Nw.of rfl (h _ (List.mem_append_right _ (show _ ∈ tables_1 from (List.mem_append_left _ (List.mem_of_getElem? (show tables_1_1[107]? = some _ from rfl)))))), va_Nw.of rfl (h _ (List.mem_append_right _ (show _ ∈ tables_1 from (List.mem_append_right _ (List.mem_append_left _ (List.mem_of_getElem? (show tables_1_2[37]? = some _ from rfl))))))), va_Nw.of rfl (h _ (List.mem_append_right _ (show _ ∈ tables_1 from (List.mem_append_right _ (List.mem_append_left _ (List.mem_of_getElem? (show tables_1_2[77]? = some _ from rfl))))))), va_Nw.of rfl (h _ (List.mem_append_right _ (show _ ∈ tables_1 from (List.mem_append_right _ (List.mem_append_left _ (List.mem_of_getElem? (show tables_1_2[107]? = some _ from rfl))))))), va_Nw.of rfl (h _ (List.mem_append_right _ (show _ ∈ tables_1 from (List.mem_append_right _ (List.mem_append_left _ (List.mem_of_getElem? (show tables_1_2[112]? = some _ from rfl)))))))⟩
theorem kg_X1_9 : jg_f RX1 9 1 0 true (.object "FilmWeeks$Halls") := ⟨RX1, TX1, 3, tyX1, rfl, by decide, inX1, (jt_1 175 rfl rfl), tyX1_ok, nmX1, rfl, rfl, by decide +kernel⟩
theorem kg_X1_15 : jg_f RX1 15 1 1 true (.object "FilmWeeks$Films") := ⟨RX1, TX1, 3, tyX1, rfl, by decide, inX1, (jt_1 176 rfl rfl), tyX1_ok, nmX1, rfl, rfl, by decide +kernel⟩
theorem kg_X1_19 : jg_f RX1 19 1 2 true (.object "FilmWeeks$Showings") := ⟨RX1, TX1, 3, tyX1, rfl, by decide, inX1, (jt_1 177 rfl rfl), tyX1_ok, nmX1, rfl, rfl, by decide +kernel⟩
theorem ko_X1 : Cond.methodLink RX1 3 Lib.objectInit ∈ jf_tb ∧ Cond.instanceMethod Lib.objectInit ∈ jf_tb ∧ Cond.code Lib.objectInit ⟨#[0xb1]⟩ 1 none ∈ jf_tb := ⟨(jt_1 174 rfl rfl), (jt_1 26 rfl rfl), (jt_1 27 rfl rfl)⟩
theorem ky_X1_init : jf_y yX1_init cX1_init 4 none 3 := ⟨(jt_1 173 rfl rfl), (jt_1 5 rfl rfl), by decide +kernel, by decide⟩
theorem kz_X1_init : Cond.instanceMethod yX1_init ∈ jf_tb := (jt_1 172 rfl rfl)
theorem kg_X2_9 : jg_f RX2 9 2 0 true (.array .int) := ⟨RX2, TX2, 9, tyX2, rfl, by decide, inX2, (jt_1 67 rfl rfl), tyX2_ok, nmX2, rfl, rfl, by decide +kernel⟩
theorem kg_X2_15 : jg_f RX2 15 2 1 true (.array .int) := ⟨RX2, TX2, 9, tyX2, rfl, by decide, inX2, (jt_1 72 rfl rfl), tyX2_ok, nmX2, rfl, rfl, by decide +kernel⟩
theorem kg_X2_18 : jg_f RX2 18 2 2 true (.array .int) := ⟨RX2, TX2, 9, tyX2, rfl, by decide, inX2, (jt_1 74 rfl rfl), tyX2_ok, nmX2, rfl, rfl, by decide +kernel⟩
theorem kg_X2_21 : jg_f RX2 21 2 3 true (.array .int) := ⟨RX2, TX2, 9, tyX2, rfl, by decide, inX2, (jt_1 77 rfl rfl), tyX2_ok, nmX2, rfl, rfl, by decide +kernel⟩
theorem kg_X2_24 : jg_f RX2 24 2 4 true (.array .int) := ⟨RX2, TX2, 9, tyX2, rfl, by decide, inX2, (jt_1 78 rfl rfl), tyX2_ok, nmX2, rfl, rfl, by decide +kernel⟩
theorem kg_X2_27 : jg_f RX2 27 2 5 true (.array .int) := ⟨RX2, TX2, 9, tyX2, rfl, by decide, inX2, (jt_1 79 rfl rfl), tyX2_ok, nmX2, rfl, rfl, by decide +kernel⟩
theorem kg_X2_30 : jg_f RX2 30 2 6 true (.array .int) := ⟨RX2, TX2, 9, tyX2, rfl, by decide, inX2, (jt_1 81 rfl rfl), tyX2_ok, nmX2, rfl, rfl, by decide +kernel⟩
theorem kg_X2_33 : jg_f RX2 33 2 7 true (.array .int) := ⟨RX2, TX2, 9, tyX2, rfl, by decide, inX2, (jt_1 83 rfl rfl), tyX2_ok, nmX2, rfl, rfl, by decide +kernel⟩
theorem kg_X2_36 : jg_f RX2 36 2 8 false .int := ⟨RX2, TX2, 9, tyX2, rfl, by decide, inX2, (jt_1 84 rfl rfl), tyX2_ok, nmX2, rfl, rfl, by decide +kernel⟩
theorem ko_X2 : Cond.methodLink RX2 3 Lib.objectInit ∈ jf_tb ∧ Cond.instanceMethod Lib.objectInit ∈ jf_tb ∧ Cond.code Lib.objectInit ⟨#[0xb1]⟩ 1 none ∈ jf_tb := ⟨(jt_1 66 rfl rfl), (jt_1 26 rfl rfl), (jt_1 27 rfl rfl)⟩
theorem ky_X2_init : jf_y yX2_init cX2_init 1 none 0 := ⟨(jt_1 65 rfl rfl), (jt_1 3 rfl rfl), by decide +kernel, by decide⟩
theorem kz_X2_init : Cond.instanceMethod yX2_init ∈ jf_tb := (jt_1 64 rfl rfl)
theorem kg_X3_9 : jg_f RX3 9 3 0 true (.array .int) := ⟨RX3, TX3, 6, tyX3, rfl, by decide, inX3, (jt_1 34 rfl rfl), tyX3_ok, nmX3, rfl, rfl, by decide +kernel⟩
theorem kg_X3_15 : jg_f RX3 15 3 1 true (.array .int) := ⟨RX3, TX3, 6, tyX3, rfl, by decide, inX3, (jt_1 35 rfl rfl), tyX3_ok, nmX3, rfl, rfl, by decide +kernel⟩
theorem kg_X3_18 : jg_f RX3 18 3 2 true (.array .int) := ⟨RX3, TX3, 6, tyX3, rfl, by decide, inX3, (jt_1 38 rfl rfl), tyX3_ok, nmX3, rfl, rfl, by decide +kernel⟩
theorem kg_X3_21 : jg_f RX3 21 3 3 true (.array .int) := ⟨RX3, TX3, 6, tyX3, rfl, by decide, inX3, (jt_1 41 rfl rfl), tyX3_ok, nmX3, rfl, rfl, by decide +kernel⟩
theorem kg_X3_24 : jg_f RX3 24 3 4 true (.array .int) := ⟨RX3, TX3, 6, tyX3, rfl, by decide, inX3, (jt_1 43 rfl rfl), tyX3_ok, nmX3, rfl, rfl, by decide +kernel⟩
theorem kg_X3_27 : jg_f RX3 27 3 5 false .int := ⟨RX3, TX3, 6, tyX3, rfl, by decide, inX3, (jt_1 44 rfl rfl), tyX3_ok, nmX3, rfl, rfl, by decide +kernel⟩
theorem ko_X3 : Cond.methodLink RX3 3 Lib.objectInit ∈ jf_tb ∧ Cond.instanceMethod Lib.objectInit ∈ jf_tb ∧ Cond.code Lib.objectInit ⟨#[0xb1]⟩ 1 none ∈ jf_tb := ⟨(jt_1 33 rfl rfl), (jt_1 26 rfl rfl), (jt_1 27 rfl rfl)⟩
theorem ky_X3_init : jf_y yX3_init cX3_init 1 none 0 := ⟨(jt_1 32 rfl rfl), (jt_1 2 rfl rfl), by decide +kernel, by decide⟩
theorem kz_X3_init : Cond.instanceMethod yX3_init ∈ jf_tb := (jt_1 31 rfl rfl)
theorem kg_X4_9 : jg_f RX4 9 4 0 true (.array .int) := ⟨RX4, TX4, 9, tyX4, rfl, by decide, inX4, (jt_2 41 rfl rfl), tyX4_ok, nmX4, rfl, rfl, by decide +kernel⟩
theorem kg_X4_15 : jg_f RX4 15 4 1 true (.array .int) := ⟨RX4, TX4, 9, tyX4, rfl, by decide, inX4, (jt_2 42 rfl rfl), tyX4_ok, nmX4, rfl, rfl, by decide +kernel⟩
theorem kg_X4_18 : jg_f RX4 18 4 2 true (.array .int) := ⟨RX4, TX4, 9, tyX4, rfl, by decide, inX4, (jt_2 45 rfl rfl), tyX4_ok, nmX4, rfl, rfl, by decide +kernel⟩
theorem kg_X4_21 : jg_f RX4 21 4 3 true (.array .int) := ⟨RX4, TX4, 9, tyX4, rfl, by decide, inX4, (jt_2 47 rfl rfl), tyX4_ok, nmX4, rfl, rfl, by decide +kernel⟩
theorem kg_X4_24 : jg_f RX4 24 4 4 true (.array .int) := ⟨RX4, TX4, 9, tyX4, rfl, by decide, inX4, (jt_2 48 rfl rfl), tyX4_ok, nmX4, rfl, rfl, by decide +kernel⟩
theorem kg_X4_27 : jg_f RX4 27 4 5 true (.array .int) := ⟨RX4, TX4, 9, tyX4, rfl, by decide, inX4, (jt_2 49 rfl rfl), tyX4_ok, nmX4, rfl, rfl, by decide +kernel⟩
theorem kg_X4_30 : jg_f RX4 30 4 6 true (.array .int) := ⟨RX4, TX4, 9, tyX4, rfl, by decide, inX4, (jt_2 50 rfl rfl), tyX4_ok, nmX4, rfl, rfl, by decide +kernel⟩
theorem kg_X4_33 : jg_f RX4 33 4 7 false .int := ⟨RX4, TX4, 9, tyX4, rfl, by decide, inX4, (jt_2 51 rfl rfl), tyX4_ok, nmX4, rfl, rfl, by decide +kernel⟩
theorem kg_X4_37 : jg_f RX4 37 4 8 false .int := ⟨RX4, TX4, 9, tyX4, rfl, by decide, inX4, (jt_2 54 rfl rfl), tyX4_ok, nmX4, rfl, rfl, by decide +kernel⟩
theorem ko_X4 : Cond.methodLink RX4 3 Lib.objectInit ∈ jf_tb ∧ Cond.instanceMethod Lib.objectInit ∈ jf_tb ∧ Cond.code Lib.objectInit ⟨#[0xb1]⟩ 1 none ∈ jf_tb := ⟨(jt_2 40 rfl rfl), (jt_1 26 rfl rfl), (jt_1 27 rfl rfl)⟩
theorem ky_X4_init : jf_y yX4_init cX4_init 1 none 0 := ⟨(jt_2 39 rfl rfl), (jt_1 9 rfl rfl), by decide +kernel, by decide⟩
theorem kz_X4_init : Cond.instanceMethod yX4_init ∈ jf_tb := (jt_2 38 rfl rfl)
theorem kg_X5_9 : jg_f RX5 9 5 3 true (.array .int) := ⟨RX5, TX5, 9, tyX5, rfl, by decide, inX5, (jt_2 5 rfl rfl), tyX5_ok, nmX5, rfl, rfl, by decide +kernel⟩
theorem kg_X5_15 : jg_f RX5 15 5 4 true (.array .int) := ⟨RX5, TX5, 9, tyX5, rfl, by decide, inX5, (jt_2 6 rfl rfl), tyX5_ok, nmX5, rfl, rfl, by decide +kernel⟩
theorem kg_X5_18 : jg_f RX5 18 5 5 true (.array .int) := ⟨RX5, TX5, 9, tyX5, rfl, by decide, inX5, (jt_2 8 rfl rfl), tyX5_ok, nmX5, rfl, rfl, by decide +kernel⟩
theorem kg_X5_21 : jg_f RX5 21 5 6 false .int := ⟨RX5, TX5, 9, tyX5, rfl, by decide, inX5, (jt_2 10 rfl rfl), tyX5_ok, nmX5, rfl, rfl, by decide +kernel⟩
theorem kg_X5_25 : jg_f RX5 25 5 0 true (.object "FilmWeeks$Halls") := ⟨RX5, TX5, 9, tyX5, rfl, by decide, inX5, (jt_2 2 rfl rfl), tyX5_ok, nmX5, rfl, rfl, by decide +kernel⟩
theorem kg_X5_29 : jg_f RX5 29 5 1 true (.object "FilmWeeks$Films") := ⟨RX5, TX5, 9, tyX5, rfl, by decide, inX5, (jt_2 3 rfl rfl), tyX5_ok, nmX5, rfl, rfl, by decide +kernel⟩
theorem kg_X5_33 : jg_f RX5 33 5 2 true (.object "FilmWeeks$Showings") := ⟨RX5, TX5, 9, tyX5, rfl, by decide, inX5, (jt_2 4 rfl rfl), tyX5_ok, nmX5, rfl, rfl, by decide +kernel⟩
theorem ko_X5 : Cond.methodLink RX5 3 Lib.objectInit ∈ jf_tb ∧ Cond.instanceMethod Lib.objectInit ∈ jf_tb ∧ Cond.code Lib.objectInit ⟨#[0xb1]⟩ 1 none ∈ jf_tb := ⟨(jt_2 1 rfl rfl), (jt_1 26 rfl rfl), (jt_1 27 rfl rfl)⟩
theorem ky_X5_init : jf_y yX5_init cX5_init 4 none 3 := ⟨(jt_2 0 rfl rfl), (jt_1 8 rfl rfl), by decide +kernel, by decide⟩
theorem kz_X5_init : Cond.instanceMethod yX5_init ∈ jf_tb := (jt_1 239 rfl rfl)
theorem kg_X7_9 : jg_f RX7 9 7 0 true (.array .int) := ⟨RX7, TX7, 6, tyX7, rfl, by decide, inX7, (jt_2 81 rfl rfl), tyX7_ok, nmX7, rfl, rfl, by decide +kernel⟩
theorem kg_X7_13 : jg_f RX7 13 7 1 true (.array .int) := ⟨RX7, TX7, 6, tyX7, rfl, by decide, inX7, (jt_2 82 rfl rfl), tyX7_ok, nmX7, rfl, rfl, by decide +kernel⟩
theorem kg_X7_16 : jg_f RX7 16 7 2 false .boolean := ⟨RX7, TX7, 6, tyX7, rfl, by decide, inX7, (jt_2 83 rfl rfl), tyX7_ok, nmX7, rfl, rfl, by decide +kernel⟩
theorem kg_X7_20 : jg_f RX7 20 7 3 false .int := ⟨RX7, TX7, 6, tyX7, rfl, by decide, inX7, (jt_2 85 rfl rfl), tyX7_ok, nmX7, rfl, rfl, by decide +kernel⟩
theorem kg_X7_24 : jg_f RX7 24 7 4 false .int := ⟨RX7, TX7, 6, tyX7, rfl, by decide, inX7, (jt_2 86 rfl rfl), tyX7_ok, nmX7, rfl, rfl, by decide +kernel⟩
theorem kg_X7_27 : jg_f RX7 27 7 5 false .int := ⟨RX7, TX7, 6, tyX7, rfl, by decide, inX7, (jt_2 89 rfl rfl), tyX7_ok, nmX7, rfl, rfl, by decide +kernel⟩
theorem ko_X7 : Cond.methodLink RX7 1 Lib.objectInit ∈ jf_tb ∧ Cond.instanceMethod Lib.objectInit ∈ jf_tb ∧ Cond.code Lib.objectInit ⟨#[0xb1]⟩ 1 none ∈ jf_tb := ⟨(jt_2 80 rfl rfl), (jt_1 26 rfl rfl), (jt_1 27 rfl rfl)⟩
theorem ky_X7_init : jf_y yX7_init cX7_init 1 none 0 := ⟨(jt_2 79 rfl rfl), (jt_1 10 rfl rfl), by decide +kernel, by decide⟩
theorem kz_X7_init : Cond.instanceMethod yX7_init ∈ jf_tb := (jt_2 78 rfl rfl)
theorem kg_X8_9 : jg_f RX8 9 8 0 true (.array .int) := ⟨RX8, TX8, 9, tyX8, rfl, by decide, inX8, (jt_1 111 rfl rfl), tyX8_ok, nmX8, rfl, rfl, by decide +kernel⟩
theorem kg_X8_15 : jg_f RX8 15 8 1 true (.array .int) := ⟨RX8, TX8, 9, tyX8, rfl, by decide, inX8, (jt_1 116 rfl rfl), tyX8_ok, nmX8, rfl, rfl, by decide +kernel⟩
theorem kg_X8_18 : jg_f RX8 18 8 2 true (.array .int) := ⟨RX8, TX8, 9, tyX8, rfl, by decide, inX8, (jt_1 121 rfl rfl), tyX8_ok, nmX8, rfl, rfl, by decide +kernel⟩
theorem kg_X8_21 : jg_f RX8 21 8 3 true (.array .int) := ⟨RX8, TX8, 9, tyX8, rfl, by decide, inX8, (jt_1 126 rfl rfl), tyX8_ok, nmX8, rfl, rfl, by decide +kernel⟩
theorem kg_X8_24 : jg_f RX8 24 8 4 true (.array .int) := ⟨RX8, TX8, 9, tyX8, rfl, by decide, inX8, (jt_1 130 rfl rfl), tyX8_ok, nmX8, rfl, rfl, by decide +kernel⟩
theorem kg_X8_27 : jg_f RX8 27 8 5 true (.array .int) := ⟨RX8, TX8, 9, tyX8, rfl, by decide, inX8, (jt_1 133 rfl rfl), tyX8_ok, nmX8, rfl, rfl, by decide +kernel⟩
theorem kg_X8_30 : jg_f RX8 30 8 6 true (.array .boolean) := ⟨RX8, TX8, 9, tyX8, rfl, by decide, inX8, (jt_1 136 rfl rfl), tyX8_ok, nmX8, rfl, rfl, by decide +kernel⟩
theorem kg_X8_34 : jg_f RX8 34 8 7 true (.array .int) := ⟨RX8, TX8, 9, tyX8, rfl, by decide, inX8, (jt_1 141 rfl rfl), tyX8_ok, nmX8, rfl, rfl, by decide +kernel⟩
theorem kg_X8_37 : jg_f RX8 37 8 8 false .int := ⟨RX8, TX8, 9, tyX8, rfl, by decide, inX8, (jt_1 144 rfl rfl), tyX8_ok, nmX8, rfl, rfl, by decide +kernel⟩
theorem ko_X8 : Cond.methodLink RX8 3 Lib.objectInit ∈ jf_tb ∧ Cond.instanceMethod Lib.objectInit ∈ jf_tb ∧ Cond.code Lib.objectInit ⟨#[0xb1]⟩ 1 none ∈ jf_tb := ⟨(jt_1 110 rfl rfl), (jt_1 26 rfl rfl), (jt_1 27 rfl rfl)⟩
theorem ky_X8_init : jf_y yX8_init cX8_init 1 none 0 := ⟨(jt_1 109 rfl rfl), (jt_1 4 rfl rfl), by decide +kernel, by decide⟩
theorem kz_X8_init : Cond.instanceMethod yX8_init ∈ jf_tb := (jt_1 108 rfl rfl)
theorem kg_X9_9 : jg_f RX9 9 9 4 true (.array .int) := ⟨RX9, TX9, 13, tyX9, rfl, by decide, inX9, (jt_1 198 rfl rfl), tyX9_ok, nmX9, rfl, rfl, by decide +kernel⟩
theorem kg_X9_15 : jg_f RX9 15 9 5 true (.array .int) := ⟨RX9, TX9, 13, tyX9, rfl, by decide, inX9, (jt_1 200 rfl rfl), tyX9_ok, nmX9, rfl, rfl, by decide +kernel⟩
theorem kg_X9_18 : jg_f RX9 18 9 6 true (.array .int) := ⟨RX9, TX9, 13, tyX9, rfl, by decide, inX9, (jt_1 201 rfl rfl), tyX9_ok, nmX9, rfl, rfl, by decide +kernel⟩
theorem kg_X9_21 : jg_f RX9 21 9 7 true (.array .int) := ⟨RX9, TX9, 13, tyX9, rfl, by decide, inX9, (jt_1 202 rfl rfl), tyX9_ok, nmX9, rfl, rfl, by decide +kernel⟩
theorem kg_X9_24 : jg_f RX9 24 9 8 false .int := ⟨RX9, TX9, 13, tyX9, rfl, by decide, inX9, (jt_1 203 rfl rfl), tyX9_ok, nmX9, rfl, rfl, by decide +kernel⟩
theorem kg_X9_28 : jg_f RX9 28 9 0 true (.object "FilmWeeks$Halls") := ⟨RX9, TX9, 13, tyX9, rfl, by decide, inX9, (jt_1 194 rfl rfl), tyX9_ok, nmX9, rfl, rfl, by decide +kernel⟩
theorem kg_X9_32 : jg_f RX9 32 9 1 true (.object "FilmWeeks$Films") := ⟨RX9, TX9, 13, tyX9, rfl, by decide, inX9, (jt_1 195 rfl rfl), tyX9_ok, nmX9, rfl, rfl, by decide +kernel⟩
theorem kg_X9_36 : jg_f RX9 36 9 2 true (.object "FilmWeeks$Showings") := ⟨RX9, TX9, 13, tyX9, rfl, by decide, inX9, (jt_1 196 rfl rfl), tyX9_ok, nmX9, rfl, rfl, by decide +kernel⟩
theorem kg_X9_40 : jg_f RX9 40 9 3 true (.object "FilmWeeks$Bars") := ⟨RX9, TX9, 13, tyX9, rfl, by decide, inX9, (jt_1 197 rfl rfl), tyX9_ok, nmX9, rfl, rfl, by decide +kernel⟩
theorem ko_X9 : Cond.methodLink RX9 3 Lib.objectInit ∈ jf_tb ∧ Cond.instanceMethod Lib.objectInit ∈ jf_tb ∧ Cond.code Lib.objectInit ⟨#[0xb1]⟩ 1 none ∈ jf_tb := ⟨(jt_1 190 rfl rfl), (jt_1 26 rfl rfl), (jt_1 27 rfl rfl)⟩
theorem ky_X9_init : jf_y yX9_init cX9_init 5 none 4 := ⟨(jt_1 189 rfl rfl), (jt_1 6 rfl rfl), by decide +kernel, by decide⟩
theorem kz_X9_init : Cond.instanceMethod yX9_init ∈ jf_tb := (jt_1 188 rfl rfl)
theorem kg_X6_11 : jg_f RX6 11 6 0 true (.array .int) := ⟨RX6, TX6, 7, tyX6, rfl, by decide, inX6, (jt_2 113 rfl rfl), tyX6_ok, nmX6, rfl, rfl, by decide +kernel⟩
theorem kg_X6_18 : jg_f RX6 18 6 1 true (.object "FilmWeeks$Rules") := ⟨RX6, TX6, 7, tyX6, rfl, by decide, inX6, (jt_2 114 rfl rfl), tyX6_ok, nmX6, rfl, rfl, by decide +kernel⟩
theorem kg_X6_22 : jg_f RX6 22 6 2 false .int := ⟨RX6, TX6, 7, tyX6, rfl, by decide, inX6, (jt_2 116 rfl rfl), tyX6_ok, nmX6, rfl, rfl, by decide +kernel⟩
theorem kg_X6_26 : jg_f RX6 26 6 3 false .int := ⟨RX6, TX6, 7, tyX6, rfl, by decide, inX6, (jt_2 118 rfl rfl), tyX6_ok, nmX6, rfl, rfl, by decide +kernel⟩
theorem ko_X6 : Cond.methodLink RX6 3 Lib.objectInit ∈ jf_tb ∧ Cond.instanceMethod Lib.objectInit ∈ jf_tb ∧ Cond.code Lib.objectInit ⟨#[0xb1]⟩ 1 none ∈ jf_tb := ⟨(jt_2 110 rfl rfl), (jt_1 26 rfl rfl), (jt_1 27 rfl rfl)⟩
theorem ky_X6_init : jf_y yX6_init cX6_init 1 none 0 := ⟨(jt_2 109 rfl rfl), (jt_1 11 rfl rfl), by decide +kernel, by decide⟩
theorem kz_X6_init : Cond.instanceMethod yX6_init ∈ jf_tb := (jt_2 108 rfl rfl)
theorem kg_X0_9 : jg_f RX0 9 0 3 true (.array .int) := ⟨RX0, TX0, 9, tyX0, rfl, by decide, inX0, (jt_2 147 rfl rfl), tyX0_ok, nmX0, rfl, rfl, by decide +kernel⟩
theorem kg_X0_15 : jg_f RX0 15 0 4 true (.array .int) := ⟨RX0, TX0, 9, tyX0, rfl, by decide, inX0, (jt_2 148 rfl rfl), tyX0_ok, nmX0, rfl, rfl, by decide +kernel⟩
theorem kg_X0_18 : jg_f RX0 18 0 5 true (.array .int) := ⟨RX0, TX0, 9, tyX0, rfl, by decide, inX0, (jt_2 149 rfl rfl), tyX0_ok, nmX0, rfl, rfl, by decide +kernel⟩
theorem kg_X0_21 : jg_f RX0 21 0 6 true (.array .boolean) := ⟨RX0, TX0, 9, tyX0, rfl, by decide, inX0, (jt_2 150 rfl rfl), tyX0_ok, nmX0, rfl, rfl, by decide +kernel⟩
theorem kg_X0_25 : jg_f RX0 25 0 7 true (.array .int) := ⟨RX0, TX0, 9, tyX0, rfl, by decide, inX0, (jt_2 151 rfl rfl), tyX0_ok, nmX0, rfl, rfl, by decide +kernel⟩
theorem kg_X0_28 : jg_f RX0 28 0 8 false .int := ⟨RX0, TX0, 9, tyX0, rfl, by decide, inX0, (jt_2 152 rfl rfl), tyX0_ok, nmX0, rfl, rfl, by decide +kernel⟩
theorem kg_X0_32 : jg_f RX0 32 0 0 true (.object "FilmWeeks$Films") := ⟨RX0, TX0, 9, tyX0, rfl, by decide, inX0, (jt_2 144 rfl rfl), tyX0_ok, nmX0, rfl, rfl, by decide +kernel⟩
theorem kg_X0_36 : jg_f RX0 36 0 1 true (.object "FilmWeeks$Jury") := ⟨RX0, TX0, 9, tyX0, rfl, by decide, inX0, (jt_2 145 rfl rfl), tyX0_ok, nmX0, rfl, rfl, by decide +kernel⟩
theorem kg_X0_40 : jg_f RX0 40 0 2 true (.object "FilmWeeks$Rules") := ⟨RX0, TX0, 9, tyX0, rfl, by decide, inX0, (jt_2 146 rfl rfl), tyX0_ok, nmX0, rfl, rfl, by decide +kernel⟩
theorem ko_X0 : Cond.methodLink RX0 3 Lib.objectInit ∈ jf_tb ∧ Cond.instanceMethod Lib.objectInit ∈ jf_tb ∧ Cond.code Lib.objectInit ⟨#[0xb1]⟩ 1 none ∈ jf_tb := ⟨(jt_2 143 rfl rfl), (jt_1 26 rfl rfl), (jt_1 27 rfl rfl)⟩
theorem ky_X0_init : jf_y yX0_init cX0_init 4 none 3 := ⟨(jt_2 142 rfl rfl), (jt_1 12 rfl rfl), by decide +kernel, by decide⟩
theorem kz_X0_init : Cond.instanceMethod yX0_init ∈ jf_tb := (jt_2 141 rfl rfl)
theorem kg_X10_10 : jg_f RX10 10 10 0 true (.object "FilmWeeks$Halls") := ⟨RX10, TX10, 11, tyX10, rfl, by decide, inX10, (jt_2 173 rfl rfl), tyX10_ok, nmX10, rfl, rfl, by decide +kernel⟩
theorem kg_X10_19 : jg_f RX10 19 10 1 true (.object "FilmWeeks$Films") := ⟨RX10, TX10, 11, tyX10, rfl, by decide, inX10, (jt_2 174 rfl rfl), tyX10_ok, nmX10, rfl, rfl, by decide +kernel⟩
theorem kg_X10_26 : jg_f RX10 26 10 2 true (.object "FilmWeeks$Showings") := ⟨RX10, TX10, 11, tyX10, rfl, by decide, inX10, (jt_2 175 rfl rfl), tyX10_ok, nmX10, rfl, rfl, by decide +kernel⟩
theorem kg_X10_35 : jg_f RX10 35 10 3 true (.object "FilmWeeks$Bars") := ⟨RX10, TX10, 11, tyX10, rfl, by decide, inX10, (jt_2 176 rfl rfl), tyX10_ok, nmX10, rfl, rfl, by decide +kernel⟩
theorem kg_X10_44 : jg_f RX10 44 10 4 true (.object "FilmWeeks$Worths") := ⟨RX10, TX10, 11, tyX10, rfl, by decide, inX10, (jt_2 177 rfl rfl), tyX10_ok, nmX10, rfl, rfl, by decide +kernel⟩
theorem kg_X10_51 : jg_f RX10 51 10 5 true (.object "FilmWeeks$Lateness") := ⟨RX10, TX10, 11, tyX10, rfl, by decide, inX10, (jt_2 178 rfl rfl), tyX10_ok, nmX10, rfl, rfl, by decide +kernel⟩
theorem kg_X10_58 : jg_f RX10 58 10 6 true (.object "FilmWeeks$Jury") := ⟨RX10, TX10, 11, tyX10, rfl, by decide, inX10, (jt_2 179 rfl rfl), tyX10_ok, nmX10, rfl, rfl, by decide +kernel⟩
theorem kg_X10_65 : jg_f RX10 65 10 7 true (.object "FilmWeeks$Rules") := ⟨RX10, TX10, 11, tyX10, rfl, by decide, inX10, (jt_2 180 rfl rfl), tyX10_ok, nmX10, rfl, rfl, by decide +kernel⟩
theorem kg_X10_72 : jg_f RX10 72 10 8 true (.object "FilmWeeks$Reader") := ⟨RX10, TX10, 11, tyX10, rfl, by decide, inX10, (jt_2 181 rfl rfl), tyX10_ok, nmX10, rfl, rfl, by decide +kernel⟩
theorem kg_X10_81 : jg_f RX10 81 10 9 true (.object "FilmWeeks$Award") := ⟨RX10, TX10, 11, tyX10, rfl, by decide, inX10, (jt_2 182 rfl rfl), tyX10_ok, nmX10, rfl, rfl, by decide +kernel⟩
theorem kg_X10_85 : jg_f RX10 85 10 10 false .int := ⟨RX10, TX10, 11, tyX10, rfl, by decide, inX10, (jt_2 183 rfl rfl), tyX10_ok, nmX10, rfl, rfl, by decide +kernel⟩
theorem ko_X10 : Cond.methodLink RX10 1 Lib.objectInit ∈ jf_tb ∧ Cond.instanceMethod Lib.objectInit ∈ jf_tb ∧ Cond.code Lib.objectInit ⟨#[0xb1]⟩ 1 none ∈ jf_tb := ⟨(jt_1 25 rfl rfl), (jt_1 26 rfl rfl), (jt_1 27 rfl rfl)⟩
theorem ky_X10_init : jf_y yX10_init cX10_init 1 none 0 := ⟨(jt_1 24 rfl rfl), (jt_1 1 rfl rfl), by decide +kernel, by decide⟩
theorem kz_X10_init : Cond.instanceMethod yX10_init ∈ jf_tb := (jt_1 23 rfl rfl)
theorem kg_X11_7 : jg_f RX11 7 11 3 true (.array .int) := ⟨RX11, TX11, 70, tyX11, rfl, by decide, inX11, (jt_5 35 rfl rfl), tyX11_ok, nmX11, rfl, rfl, by decide +kernel⟩
theorem kg_X11_13 : jg_f RX11 13 11 4 true (.array .int) := ⟨RX11, TX11, 70, tyX11, rfl, by decide, inX11, (jt_5 36 rfl rfl), tyX11_ok, nmX11, rfl, rfl, by decide +kernel⟩
theorem kg_X11_16 : jg_f RX11 16 11 5 true (.array .int) := ⟨RX11, TX11, 70, tyX11, rfl, by decide, inX11, (jt_5 37 rfl rfl), tyX11_ok, nmX11, rfl, rfl, by decide +kernel⟩
theorem kg_X11_19 : jg_f RX11 19 11 6 true (.array .int) := ⟨RX11, TX11, 70, tyX11, rfl, by decide, inX11, (jt_5 38 rfl rfl), tyX11_ok, nmX11, rfl, rfl, by decide +kernel⟩
theorem kg_X11_22 : jg_f RX11 22 11 8 true (.array .int) := ⟨RX11, TX11, 70, tyX11, rfl, by decide, inX11, (jt_5 40 rfl rfl), tyX11_ok, nmX11, rfl, rfl, by decide +kernel⟩
theorem kg_X11_25 : jg_f RX11 25 11 9 true (.array .int) := ⟨RX11, TX11, 70, tyX11, rfl, by decide, inX11, (jt_5 41 rfl rfl), tyX11_ok, nmX11, rfl, rfl, by decide +kernel⟩
theorem kg_X11_28 : jg_f RX11 28 11 10 true (.array .int) := ⟨RX11, TX11, 70, tyX11, rfl, by decide, inX11, (jt_5 42 rfl rfl), tyX11_ok, nmX11, rfl, rfl, by decide +kernel⟩
theorem kg_X11_31 : jg_f RX11 31 11 11 true (.array .int) := ⟨RX11, TX11, 70, tyX11, rfl, by decide, inX11, (jt_5 43 rfl rfl), tyX11_ok, nmX11, rfl, rfl, by decide +kernel⟩
theorem kg_X11_34 : jg_f RX11 34 11 12 true (.array .int) := ⟨RX11, TX11, 70, tyX11, rfl, by decide, inX11, (jt_5 44 rfl rfl), tyX11_ok, nmX11, rfl, rfl, by decide +kernel⟩
theorem kg_X11_37 : jg_f RX11 37 11 13 true (.array .int) := ⟨RX11, TX11, 70, tyX11, rfl, by decide, inX11, (jt_5 45 rfl rfl), tyX11_ok, nmX11, rfl, rfl, by decide +kernel⟩
theorem kg_X11_40 : jg_f RX11 40 11 14 true (.array .int) := ⟨RX11, TX11, 70, tyX11, rfl, by decide, inX11, (jt_5 46 rfl rfl), tyX11_ok, nmX11, rfl, rfl, by decide +kernel⟩
theorem kg_X11_43 : jg_f RX11 43 11 15 true (.array .int) := ⟨RX11, TX11, 70, tyX11, rfl, by decide, inX11, (jt_5 47 rfl rfl), tyX11_ok, nmX11, rfl, rfl, by decide +kernel⟩
theorem kg_X11_46 : jg_f RX11 46 11 16 true (.array .int) := ⟨RX11, TX11, 70, tyX11, rfl, by decide, inX11, (jt_5 48 rfl rfl), tyX11_ok, nmX11, rfl, rfl, by decide +kernel⟩
theorem kg_X11_49 : jg_f RX11 49 11 18 true (.array .boolean) := ⟨RX11, TX11, 70, tyX11, rfl, by decide, inX11, (jt_5 50 rfl rfl), tyX11_ok, nmX11, rfl, rfl, by decide +kernel⟩
theorem kg_X11_53 : jg_f RX11 53 11 19 true (.array .int) := ⟨RX11, TX11, 70, tyX11, rfl, by decide, inX11, (jt_5 51 rfl rfl), tyX11_ok, nmX11, rfl, rfl, by decide +kernel⟩
theorem kg_X11_56 : jg_f RX11 56 11 20 true (.array .int) := ⟨RX11, TX11, 70, tyX11, rfl, by decide, inX11, (jt_5 52 rfl rfl), tyX11_ok, nmX11, rfl, rfl, by decide +kernel⟩
theorem kg_X11_59 : jg_f RX11 59 11 21 true (.array .int) := ⟨RX11, TX11, 70, tyX11, rfl, by decide, inX11, (jt_5 53 rfl rfl), tyX11_ok, nmX11, rfl, rfl, by decide +kernel⟩
theorem kg_X11_62 : jg_f RX11 62 11 22 true (.array .int) := ⟨RX11, TX11, 70, tyX11, rfl, by decide, inX11, (jt_5 54 rfl rfl), tyX11_ok, nmX11, rfl, rfl, by decide +kernel⟩
theorem kg_X11_65 : jg_f RX11 65 11 23 true (.array .int) := ⟨RX11, TX11, 70, tyX11, rfl, by decide, inX11, (jt_5 55 rfl rfl), tyX11_ok, nmX11, rfl, rfl, by decide +kernel⟩
theorem kg_X11_68 : jg_f RX11 68 11 24 true (.array .int) := ⟨RX11, TX11, 70, tyX11, rfl, by decide, inX11, (jt_5 56 rfl rfl), tyX11_ok, nmX11, rfl, rfl, by decide +kernel⟩
theorem kg_X11_71 : jg_f RX11 71 11 25 true (.array .int) := ⟨RX11, TX11, 70, tyX11, rfl, by decide, inX11, (jt_5 57 rfl rfl), tyX11_ok, nmX11, rfl, rfl, by decide +kernel⟩
theorem kg_X11_74 : jg_f RX11 74 11 26 true (.array .int) := ⟨RX11, TX11, 70, tyX11, rfl, by decide, inX11, (jt_5 58 rfl rfl), tyX11_ok, nmX11, rfl, rfl, by decide +kernel⟩
theorem kg_X11_77 : jg_f RX11 77 11 28 false .int := ⟨RX11, TX11, 70, tyX11, rfl, by decide, inX11, (jt_5 60 rfl rfl), tyX11_ok, nmX11, rfl, rfl, by decide +kernel⟩
theorem kg_X11_81 : jg_f RX11 81 11 29 true (.array .int) := ⟨RX11, TX11, 70, tyX11, rfl, by decide, inX11, (jt_5 61 rfl rfl), tyX11_ok, nmX11, rfl, rfl, by decide +kernel⟩
theorem kg_X11_84 : jg_f RX11 84 11 30 true (.array .boolean) := ⟨RX11, TX11, 70, tyX11, rfl, by decide, inX11, (jt_5 62 rfl rfl), tyX11_ok, nmX11, rfl, rfl, by decide +kernel⟩
theorem kg_X11_87 : jg_f RX11 87 11 36 true (.array .int) := ⟨RX11, TX11, 70, tyX11, rfl, by decide, inX11, (jt_5 68 rfl rfl), tyX11_ok, nmX11, rfl, rfl, by decide +kernel⟩
theorem kg_X11_90 : jg_f RX11 90 11 37 true (.array .int) := ⟨RX11, TX11, 70, tyX11, rfl, by decide, inX11, (jt_5 69 rfl rfl), tyX11_ok, nmX11, rfl, rfl, by decide +kernel⟩
theorem kg_X11_93 : jg_f RX11 93 11 38 true (.array .int) := ⟨RX11, TX11, 70, tyX11, rfl, by decide, inX11, (jt_5 70 rfl rfl), tyX11_ok, nmX11, rfl, rfl, by decide +kernel⟩
theorem kg_X11_96 : jg_f RX11 96 11 40 true (.array .int) := ⟨RX11, TX11, 70, tyX11, rfl, by decide, inX11, (jt_5 72 rfl rfl), tyX11_ok, nmX11, rfl, rfl, by decide +kernel⟩
theorem kg_X11_99 : jg_f RX11 99 11 41 true (.array .int) := ⟨RX11, TX11, 70, tyX11, rfl, by decide, inX11, (jt_5 73 rfl rfl), tyX11_ok, nmX11, rfl, rfl, by decide +kernel⟩
theorem kg_X11_102 : jg_f RX11 102 11 42 true (.array .int) := ⟨RX11, TX11, 70, tyX11, rfl, by decide, inX11, (jt_5 74 rfl rfl), tyX11_ok, nmX11, rfl, rfl, by decide +kernel⟩
theorem kg_X11_105 : jg_f RX11 105 11 43 true (.array .int) := ⟨RX11, TX11, 70, tyX11, rfl, by decide, inX11, (jt_5 75 rfl rfl), tyX11_ok, nmX11, rfl, rfl, by decide +kernel⟩
theorem kg_X11_108 : jg_f RX11 108 11 45 true (.array .int) := ⟨RX11, TX11, 70, tyX11, rfl, by decide, inX11, (jt_5 77 rfl rfl), tyX11_ok, nmX11, rfl, rfl, by decide +kernel⟩
theorem kg_X11_111 : jg_f RX11 111 11 47 true (.array .int) := ⟨RX11, TX11, 70, tyX11, rfl, by decide, inX11, (jt_5 79 rfl rfl), tyX11_ok, nmX11, rfl, rfl, by decide +kernel⟩
theorem kg_X11_114 : jg_f RX11 114 11 50 true (.array .int) := ⟨RX11, TX11, 70, tyX11, rfl, by decide, inX11, (jt_5 82 rfl rfl), tyX11_ok, nmX11, rfl, rfl, by decide +kernel⟩
theorem kg_X11_117 : jg_f RX11 117 11 52 true (.array .int) := ⟨RX11, TX11, 70, tyX11, rfl, by decide, inX11, (jt_5 84 rfl rfl), tyX11_ok, nmX11, rfl, rfl, by decide +kernel⟩
theorem kg_X11_120 : jg_f RX11 120 11 55 true (.array .int) := ⟨RX11, TX11, 70, tyX11, rfl, by decide, inX11, (jt_5 87 rfl rfl), tyX11_ok, nmX11, rfl, rfl, by decide +kernel⟩
theorem kg_X11_123 : jg_f RX11 123 11 57 true (.array .int) := ⟨RX11, TX11, 70, tyX11, rfl, by decide, inX11, (jt_5 89 rfl rfl), tyX11_ok, nmX11, rfl, rfl, by decide +kernel⟩
theorem kg_X11_126 : jg_f RX11 126 11 63 false .int := ⟨RX11, TX11, 70, tyX11, rfl, by decide, inX11, (jt_5 95 rfl rfl), tyX11_ok, nmX11, rfl, rfl, by decide +kernel⟩
theorem kg_X11_129 : jg_f RX11 129 11 65 true (.array .boolean) := ⟨RX11, TX11, 70, tyX11, rfl, by decide, inX11, (jt_5 97 rfl rfl), tyX11_ok, nmX11, rfl, rfl, by decide +kernel⟩
theorem kg_X11_132 : jg_f RX11 132 11 66 true (.array .boolean) := ⟨RX11, TX11, 70, tyX11, rfl, by decide, inX11, (jt_5 98 rfl rfl), tyX11_ok, nmX11, rfl, rfl, by decide +kernel⟩
theorem kg_X11_135 : jg_f RX11 135 11 67 true (.array .int) := ⟨RX11, TX11, 70, tyX11, rfl, by decide, inX11, (jt_5 99 rfl rfl), tyX11_ok, nmX11, rfl, rfl, by decide +kernel⟩
theorem kg_X11_138 : jg_f RX11 138 11 68 true (.array .int) := ⟨RX11, TX11, 70, tyX11, rfl, by decide, inX11, (jt_5 100 rfl rfl), tyX11_ok, nmX11, rfl, rfl, by decide +kernel⟩
theorem kg_X11_141 : jg_f RX11 141 11 69 false .int := ⟨RX11, TX11, 70, tyX11, rfl, by decide, inX11, (jt_5 101 rfl rfl), tyX11_ok, nmX11, rfl, rfl, by decide +kernel⟩
theorem ko_X11 : Cond.methodLink RX11 1 Lib.objectInit ∈ jf_tb ∧ Cond.instanceMethod Lib.objectInit ∈ jf_tb ∧ Cond.code Lib.objectInit ⟨#[0xb1]⟩ 1 none ∈ jf_tb := ⟨(jt_5 31 rfl rfl), (jt_1 26 rfl rfl), (jt_1 27 rfl rfl)⟩
theorem ky_X11_init : jf_y yX11_init cX11_init 1 none 0 := ⟨(jt_5 30 rfl rfl), (jt_1 13 rfl rfl), by decide +kernel, by decide⟩
theorem kz_X11_init : Cond.instanceMethod yX11_init ∈ jf_tb := (jt_5 29 rfl rfl)
theorem kn_X6_15 : jg_n RX6 15 7 6 [.null, .null, .int 0, .int 0, .int 0, .int 0] := ⟨RX7, TX7, tyX7, rfl, inX7, tyX7_ok, (jt_2 111 rfl rfl), (jt_2 76 rfl rfl), (jt_1 10 rfl rfl), fun j hj => by
  have h : j = 0 ∨ j = 1 ∨ j = 2 ∨ j = 3 ∨ j = 4 ∨ j = 5 := by omega
  rcases h with rfl | rfl | rfl | rfl | rfl | rfl <;> rfl⟩
theorem kn_X10_7 : jg_n RX10 7 3 6 [.null, .null, .null, .null, .null, .int 0] := ⟨RX3, TX3, tyX3, rfl, inX3, tyX3_ok, (jt_1 28 rfl rfl), (jt_1 29 rfl rfl), (jt_1 2 rfl rfl), fun j hj => by
  have h : j = 0 ∨ j = 1 ∨ j = 2 ∨ j = 3 ∨ j = 4 ∨ j = 5 := by omega
  rcases h with rfl | rfl | rfl | rfl | rfl | rfl <;> rfl⟩
theorem kn_X10_16 : jg_n RX10 16 2 9 [.null, .null, .null, .null, .null, .null, .null, .null, .int 0] := ⟨RX2, TX2, tyX2, rfl, inX2, tyX2_ok, (jt_1 61 rfl rfl), (jt_1 62 rfl rfl), (jt_1 3 rfl rfl), fun j hj => by
  have h : j = 0 ∨ j = 1 ∨ j = 2 ∨ j = 3 ∨ j = 4 ∨ j = 5 ∨ j = 6 ∨ j = 7 ∨ j = 8 := by omega
  rcases h with rfl | rfl | rfl | rfl | rfl | rfl | rfl | rfl | rfl <;> rfl⟩
theorem kn_X10_23 : jg_n RX10 23 8 9 [.null, .null, .null, .null, .null, .null, .null, .null, .int 0] := ⟨RX8, TX8, tyX8, rfl, inX8, tyX8_ok, (jt_1 105 rfl rfl), (jt_1 106 rfl rfl), (jt_1 4 rfl rfl), fun j hj => by
  have h : j = 0 ∨ j = 1 ∨ j = 2 ∨ j = 3 ∨ j = 4 ∨ j = 5 ∨ j = 6 ∨ j = 7 ∨ j = 8 := by omega
  rcases h with rfl | rfl | rfl | rfl | rfl | rfl | rfl | rfl | rfl <;> rfl⟩
theorem kn_X10_30 : jg_n RX10 30 1 3 [.null, .null, .null] := ⟨RX1, TX1, tyX1, rfl, inX1, tyX1_ok, (jt_1 169 rfl rfl), (jt_1 170 rfl rfl), (jt_1 5 rfl rfl), fun j hj => by
  have h : j = 0 ∨ j = 1 ∨ j = 2 := by omega
  rcases h with rfl | rfl | rfl <;> rfl⟩
theorem kn_X10_39 : jg_n RX10 39 9 13 [.null, .null, .null, .null, .null, .null, .null, .null, .int 0, .int 0, .int 0, .int 0, .int 0] := ⟨RX9, TX9, tyX9, rfl, inX9, tyX9_ok, (jt_1 185 rfl rfl), (jt_1 186 rfl rfl), (jt_1 6 rfl rfl), fun j hj => by
  have h : j = 0 ∨ j = 1 ∨ j = 2 ∨ j = 3 ∨ j = 4 ∨ j = 5 ∨ j = 6 ∨ j = 7 ∨ j = 8 ∨ j = 9 ∨ j = 10 ∨ j = 11 ∨ j = 12 := by omega
  rcases h with rfl | rfl | rfl | rfl | rfl | rfl | rfl | rfl | rfl | rfl | rfl | rfl | rfl <;> rfl⟩
theorem kn_X10_48 : jg_n RX10 48 5 9 [.null, .null, .null, .null, .null, .null, .int 0, .int 0, .int 0] := ⟨RX5, TX5, tyX5, rfl, inX5, tyX5_ok, (jt_1 236 rfl rfl), (jt_1 237 rfl rfl), (jt_1 8 rfl rfl), fun j hj => by
  have h : j = 0 ∨ j = 1 ∨ j = 2 ∨ j = 3 ∨ j = 4 ∨ j = 5 ∨ j = 6 ∨ j = 7 ∨ j = 8 := by omega
  rcases h with rfl | rfl | rfl | rfl | rfl | rfl | rfl | rfl | rfl <;> rfl⟩
theorem kn_X10_55 : jg_n RX10 55 4 9 [.null, .null, .null, .null, .null, .null, .null, .int 0, .int 0] := ⟨RX4, TX4, tyX4, rfl, inX4, tyX4_ok, (jt_2 35 rfl rfl), (jt_2 36 rfl rfl), (jt_1 9 rfl rfl), fun j hj => by
  have h : j = 0 ∨ j = 1 ∨ j = 2 ∨ j = 3 ∨ j = 4 ∨ j = 5 ∨ j = 6 ∨ j = 7 ∨ j = 8 := by omega
  rcases h with rfl | rfl | rfl | rfl | rfl | rfl | rfl | rfl | rfl <;> rfl⟩
theorem kn_X10_62 : jg_n RX10 62 7 6 [.null, .null, .int 0, .int 0, .int 0, .int 0] := ⟨RX7, TX7, tyX7, rfl, inX7, tyX7_ok, (jt_2 75 rfl rfl), (jt_2 76 rfl rfl), (jt_1 10 rfl rfl), fun j hj => by
  have h : j = 0 ∨ j = 1 ∨ j = 2 ∨ j = 3 ∨ j = 4 ∨ j = 5 := by omega
  rcases h with rfl | rfl | rfl | rfl | rfl | rfl <;> rfl⟩
theorem kn_X10_69 : jg_n RX10 69 6 7 [.null, .null, .int 0, .int 0, .int 0, .int 0, .int 0] := ⟨RX6, TX6, tyX6, rfl, inX6, tyX6_ok, (jt_2 105 rfl rfl), (jt_2 106 rfl rfl), (jt_1 11 rfl rfl), fun j hj => by
  have h : j = 0 ∨ j = 1 ∨ j = 2 ∨ j = 3 ∨ j = 4 ∨ j = 5 ∨ j = 6 := by omega
  rcases h with rfl | rfl | rfl | rfl | rfl | rfl | rfl <;> rfl⟩
theorem kn_X10_76 : jg_n RX10 76 0 9 [.null, .null, .null, .null, .null, .null, .null, .null, .int 0] := ⟨RX0, TX0, tyX0, rfl, inX0, tyX0_ok, (jt_2 138 rfl rfl), (jt_2 139 rfl rfl), (jt_1 12 rfl rfl), fun j hj => by
  have h : j = 0 ∨ j = 1 ∨ j = 2 ∨ j = 3 ∨ j = 4 ∨ j = 5 ∨ j = 6 ∨ j = 7 ∨ j = 8 := by omega
  rcases h with rfl | rfl | rfl | rfl | rfl | rfl | rfl | rfl | rfl <;> rfl⟩
theorem kn_L_7 : jg_n RL 7 10 11 [.null, .null, .null, .null, .null, .null, .null, .null, .null, .null, .int 0] := ⟨RX10, TX10, tyX10, rfl, inX10, tyX10_ok, (jt_1 20 rfl rfl), (jt_1 21 rfl rfl), (jt_1 1 rfl rfl), fun j hj => by
  have h : j = 0 ∨ j = 1 ∨ j = 2 ∨ j = 3 ∨ j = 4 ∨ j = 5 ∨ j = 6 ∨ j = 7 ∨ j = 8 ∨ j = 9 ∨ j = 10 := by omega
  rcases h with rfl | rfl | rfl | rfl | rfl | rfl | rfl | rfl | rfl | rfl | rfl <;> rfl⟩
theorem kn_L_10 : jg_n RL 10 11 70 [.int 0, .int 0, .int 0, .null, .null, .null, .null, .int 0, .null, .null, .null, .null, .null, .null, .null, .null, .null, .int 0, .null, .null, .null, .null, .null, .null, .null, .null, .null, .int 0, .int 0, .null, .null, .int 0, .int 0, .int 0, .int 0, .int 0, .null, .null, .null, .int 0, .null, .null, .null, .null, .int 0, .null, .int 0, .null, .int 0, .int 0, .null, .int 0, .null, .int 0, .int 0, .null, .int 0, .null, .int 0, .int 0, .int 0, .int 0, .long 0, .int 0, .int 0, .null, .null, .null, .null, .int 0] := ⟨RX11, TX11, tyX11, rfl, inX11, tyX11_ok, (jt_5 26 rfl rfl), (jt_5 27 rfl rfl), (jt_1 13 rfl rfl), fun j hj => by
  have h : j = 0 ∨ j = 1 ∨ j = 2 ∨ j = 3 ∨ j = 4 ∨ j = 5 ∨ j = 6 ∨ j = 7 ∨ j = 8 ∨ j = 9 ∨ j = 10 ∨ j = 11 ∨ j = 12 ∨ j = 13 ∨ j = 14 ∨ j = 15 ∨ j = 16 ∨ j = 17 ∨ j = 18 ∨ j = 19 ∨ j = 20 ∨ j = 21 ∨ j = 22 ∨ j = 23 ∨ j = 24 ∨ j = 25 ∨ j = 26 ∨ j = 27 ∨ j = 28 ∨ j = 29 ∨ j = 30 ∨ j = 31 ∨ j = 32 ∨ j = 33 ∨ j = 34 ∨ j = 35 ∨ j = 36 ∨ j = 37 ∨ j = 38 ∨ j = 39 ∨ j = 40 ∨ j = 41 ∨ j = 42 ∨ j = 43 ∨ j = 44 ∨ j = 45 ∨ j = 46 ∨ j = 47 ∨ j = 48 ∨ j = 49 ∨ j = 50 ∨ j = 51 ∨ j = 52 ∨ j = 53 ∨ j = 54 ∨ j = 55 ∨ j = 56 ∨ j = 57 ∨ j = 58 ∨ j = 59 ∨ j = 60 ∨ j = 61 ∨ j = 62 ∨ j = 63 ∨ j = 64 ∨ j = 65 ∨ j = 66 ∨ j = 67 ∨ j = 68 ∨ j = 69 := by omega
  rcases h with rfl | rfl | rfl | rfl | rfl | rfl | rfl | rfl | rfl | rfl | rfl | rfl | rfl | rfl | rfl | rfl | rfl | rfl | rfl | rfl | rfl | rfl | rfl | rfl | rfl | rfl | rfl | rfl | rfl | rfl | rfl | rfl | rfl | rfl | rfl | rfl | rfl | rfl | rfl | rfl | rfl | rfl | rfl | rfl | rfl | rfl | rfl | rfl | rfl | rfl | rfl | rfl | rfl | rfl | rfl | rfl | rfl | rfl | rfl | rfl | rfl | rfl | rfl | rfl | rfl | rfl | rfl | rfl | rfl | rfl <;> rfl⟩
theorem ky_fill : jf_y yJ7_fill_53178 cJ7_fill_53178 4 none 2 := ⟨(jt_1 193 rfl rfl), (jt_1 7 rfl rfl), by decide +kernel, by decide⟩
theorem ks_fill : Cond.static yJ7_fill_53178 ∈ jf_tb := (jt_1 192 rfl rfl)
theorem kw_fill : Cond.methodLink RX9 44 yJ7_fill_53178 ∈ jf_tb := (jt_1 191 rfl rfl)
def jg_h (n : Nat) (j : Nat) : Int32 := if j < n then 100 else 0
theorem jg_h0 : (fun _ => 0) = jg_h 0 := by funext j; simp [jg_h]
theorem jg_hs (n : Nat) : upd (jg_h n) n 100 = jg_h (n + 1) := by
  funext j
  simp only [upd, jg_h]
  by_cases h : j = n
  · subst h; simp
  · by_cases h2 : j < n
    · simp [h, h2]; omega
    · rw [if_neg h, if_neg h2, if_neg (by omega)]
theorem ct_fill (E : jf_E) (σ : jf_S) (h0 : σ.1 0 = fun _ => 0) : jf_V [.inr (0, 24)] E yJ7_fill_53178 cJ7_fill_53178 4 0 [jf_r E 0, .int 100] σ (fun τ => τ.1 0 = jg_h 24) := by
  refine jf_mkV (by decide) (Nat.le_of_ble_eq_true rfl) ?_
  intro G C ret
  have loop : ∀ (n i : Nat) (x : Int32) (τ : jf_S), n + i = 24 → x = nI i → τ.1 0 = jg_h i → jf_X [.inr (0, 24)] E G 4 5 [(0, jf_r E 0), (1, .int 100), (2, .int x), (3, .int 24)] [] τ := by
    intro n
    induction n with
    | zero =>
      intro i x τ hn hx hτ
      refine jr_iload_n C dJ7_fill_53178_5 rfl ?_
      refine jr_iload_n C dJ7_fill_53178_6 rfl ?_
      refine jr_icmp_ge C 20 dJ7_fill_53178_7 (by decide) (fun _ => ?_) (fun b => ?_)
      · exact ret _ _ _ dJ7_fill_53178_20 (by rw [hτ]; congr 1; omega)
      · exfalso
        apply b
        rw [hx, show i = 24 by omega]
        decide
    | succ n ih =>
      intro i x τ hn hx hτ
      refine jr_iload_n C dJ7_fill_53178_5 rfl ?_
      refine jr_iload_n C dJ7_fill_53178_6 rfl ?_
      refine jr_icmp_ge C 20 dJ7_fill_53178_7 (by decide) (fun b => ?_) (fun _ => ?_)
      · exfalso
        rw [hx, Int32.le_iff_toInt_le, nI_toInt (by omega)] at b
        have : (24 : Int32).toInt = 24 := rfl
        omega
      · refine jr_aload_n C dJ7_fill_53178_10 rfl ?_
        refine jr_iload_n C dJ7_fill_53178_11 rfl ?_
        refine jr_iload_n C dJ7_fill_53178_12 rfl ?_
        refine jr_iast C (k := 0) (n := 24) rfl dJ7_fill_53178_13 (by rw [hx]; exact vp_in_nI (by omega) (by omega)) ?_
        refine jr_iinc C _ dJ7_fill_53178_14 rfl rfl (by decide) ?_
        refine jr_goto C 5 dJ7_fill_53178_17 (by decide) ?_
        refine jr_sub [(0, jf_r E 0), (1, .int 100), (2, .int (x + Int32.ofInt 1)), (3, .int 24)] rfl ?_
        refine ih (i + 1) _ _ (by omega) (by rw [hx]; exact nI_1 i) ?_
        rw [jf_i_at, hτ, hx, nI_clamp (by omega)]
        exact jg_hs i
  refine jr_iconst C (v := 0) dJ7_fill_53178_0 (by decide) ?_
  refine jr_istore_n C dJ7_fill_53178_1 (by decide) ?_
  refine jr_aload_n C dJ7_fill_53178_2 rfl ?_
  refine jr_alen C (k := 0) (n := 24) rfl dJ7_fill_53178_3 ?_
  refine jr_istore_n C dJ7_fill_53178_4 (by decide) ?_
  refine jr_sub [(0, jf_r E 0), (1, .int 100), (2, .int 0), (3, .int 24)] rfl ?_
  exact loop 24 0 0 σ rfl rfl (by rw [h0]; exact jg_h0)
section JG3
variable {E : jf_E} {G : jf_G} {A : Nat → Prop} {nL d mc ms pc cs ss : Nat} {cc : ByteArray} {own : String} {L : List (Nat × Value)} {st : List Value} {ws : va_W}
theorem jg_tl {o : Nat × va_E} {tl : va_W} (k : ∀ tl' : va_W, tl' = tl → jg_X E G A nL pc L st (o :: tl') cs ss) : jg_X E G A nL pc L st (o :: tl) cs ss := k tl rfl
theorem jg_fs0 {N q : Nat} (kk : jg_X E G A nL pc L st (ws ++ [(q, .inl (E.2.2.2.1 0, N, .inl (jg_h 0)))]) cs ss) : jg_X E G A nL pc L st (ws ++ [(q, .inl (E.2.2.2.1 0, N, .inl (fun _ => 0)))]) cs ss := by
  rw [jg_h0]; exact kk
theorem jg_fst (C : jg_C E G A nL cc own d mc ms) (k : Nat) {N q : Nat} {i : Int32} (hi : i.toNatClampNeg = k) (hin : vp_in i N) (hd : decode cc pc = .ok (.iastore, 1)) (kk : jg_X E G A nL (pc + 1) L st (ws ++ [(q, .inl (E.2.2.2.1 0, N, .inl (jg_h (k + 1))))]) cs ss) : jg_X E G A nL pc L (.int 100 :: .int i :: .ref q :: st) (ws ++ [(q, .inl (E.2.2.2.1 0, N, .inl (jg_h k)))]) cs ss := by
  refine jg_iast C ws.length (f := jg_h k) _ (by simp) hin ?_ hd kk
  rw [hi, jg_hs, List.set_append_right _ _ (Nat.le_refl _)]
  simp
theorem jg_put1 {D : va_G} {cl : List vw_C} {H H1 : Heap} {k q : Nat} {e e' : va_E} (hP : va_P D cl ws H) (hD : va_D A ws) (hk : ws[k]? = some (q, e)) (ho : ∀ x : Nat, x < H.size → x ≠ q → H1[x]? = H[x]?) (he : va_at D cl (q, e') H1) : va_P D cl (ws.set k (q, e')) H1 ∧ va_D A (ws.set k (q, e')) := by
  have hl : k < ws.length := (List.getElem?_eq_some_iff.mp hk).1
  have key : ∀ (i : Nat) (x : Nat × va_E), (ws.set k (q, e'))[i]? = some x → (i = k ∧ x = (q, e')) ∨ (i ≠ k ∧ ws[i]? = some x) := by
    intro i x hx
    by_cases h : i = k
    · subst h
      rw [List.getElem?_set_self hl] at hx
      exact Or.inl ⟨rfl, (Option.some.inj hx).symm⟩
    · rw [List.getElem?_set_ne (Ne.symm h)] at hx
      exact Or.inr ⟨h, hx⟩
  refine ⟨fun i x hx => ?_, fun i j x y hx hy hxy => ?_, fun i x hx => ?_⟩
  · rcases key i x hx with ⟨-, rfl⟩ | ⟨h1, h2⟩
    · exact he
    · refine (hP i x h2).kept (ho x.1 (hP i x h2).lt (fun hq => h1 (hD.1 i k x (q, e) h2 hk hq)))
  · rcases key i x hx with ⟨h1, rfl⟩ | ⟨h1, h2⟩
    · rcases key j y hy with ⟨h3, rfl⟩ | ⟨h3, h4⟩
      · rw [h1, h3]
      · exact absurd (hD.1 k j (q, e) y hk h4 hxy).symm h3
    · rcases key j y hy with ⟨h3, rfl⟩ | ⟨h3, h4⟩
      · exact absurd (hD.1 i k x (q, e) h2 hk hxy) h1
      · exact hD.1 i j x y h2 h4 hxy
  · rcases key i x hx with ⟨-, rfl⟩ | ⟨h1, h2⟩
    · exact hD.2 k (q, e) hk
    · exact hD.2 i x h2
theorem jg_fill (C : jg_C E G A nL cc own d mc ms) {idx k q : Nat} (hy : jf_y yJ7_fill_53178 cJ7_fill_53178 4 none 2) (hys : Cond.static yJ7_fill_53178 ∈ jf_tb) (hw : Cond.methodLink own idx yJ7_fill_53178 ∈ jf_tb) (hlev : 1 ≤ d) (hk : ws[k]? = some (q, .inl (E.2.2.2.1 0, 24, .inl (fun _ => 0)))) (hr : (st.map fun v => v.category).sum ≤ 8) (hc : cs ≤ mc) (hs : ss ≤ ms) (hd : decode cc pc = .ok (.invokestatic idx, 3))
    (kk : jg_X E G A nL (pc + 3) L st (ws.set k (q, .inl (E.2.2.2.1 0, 24, .inl (jg_h 24)))) cs ss) : jg_X E G A nL pc L (.int 100 :: .ref q :: st) ws cs ss := by
  intro H locs ls hP hD hS hl
  have g1 := C.2.2.2.2.2.2.2.1
  have g2 := C.2.2.2.2.2.2.2.2.1
  have g3 := C.2.2.2.2.2.2.2.2.2.1
  have g4 := C.2.2.2.2.2.2.2.2.2.2
  have hM := ct_fill (jg_E E (fun _ => q)) (fun _ _ => 0, fun _ _ => 0) rfl
  have hB : CallB G.2.2.1 G.2.2.2.1 G.2.2.2.2.2.1 own idx yJ7_fill_53178 cJ7_fill_53178 4 none (.code yJ7_fill_53178 cJ7_fill_53178 4 none :: jf_tb) (jf_rm 0) 0 0 2 :=
    callB_of 2 C.2.2.2.2.1 (jf_gin hy.1) rfl rfl rfl (C.2.2.2.2.1 _ hy.2.1) (C.2.2.2.2.1 _ hw) hy.2.2.1 ⟨by show 0 + 1 ≤ _; omega, by show 8 + (4 + 11) + 64 * 0 ≤ _; omega⟩
  have hJ : jf_J [.inr (0, 24)] (jg_E E (fun _ => q)) := by
    intro i j hi hj _
    simp at hi hj
    omega
  have hPc : va_P (jf_D (jg_E E (fun _ => q))) vwCl (jf_w [.inr (0, 24)] (jg_E E (fun _ => q)) (fun _ _ => 0, fun _ _ => 0)) H := by
    intro i x hi
    have h1 := (List.getElem?_eq_some_iff.mp hi).1
    have h2 : i = 0 := by simp [jf_w] at h1; omega
    subst h2
    cases hi
    exact hP k _ hk
  have hAq : ∀ x, jf_A [.inr (0, 24)] (jg_E E (fun _ => q)) x → x = q := by
    rintro x ⟨i, -, hx⟩
    exact hx
  refine va_callv (va_runS (As := [.ref q, .int 100]) (rest := st) (Ts := jf_tb) ⟨C.1, C.2.1, C.2.2.1, C.2.2.2.1, C.2.2.2.2.1⟩ hM ⟨hB, C.2.2.2.2.1 _ hys⟩ ⟨jf_blind, fun U hU hW => ⟨rfl, by rw [hU]; exact hPc, va_K.moved hW.alike C.2.2.2.2.2.1, hJ⟩⟩ rfl rfl hl.1 rfl (lv_room hr) hd ⟨by omega, by omega⟩) hS (fun x _ h => by rw [hAq x h]; exact hD.2 k _ hk) (fun x h => by rw [hAq x h]; exact hD.2 k _ hk) (fun u t H1 locs1 e1 e2 e3 e4 e5 e6 e7 => ?_)
  obtain ⟨p1, -, -⟩ := e4
  rw [e1] at p1
  have h3 := p1 0 (q, .inl (E.2.2.2.1 0, 24, .inl (u.1 0))) rfl
  rw [e3] at h3
  obtain ⟨hP2, hD2⟩ := jg_put1 (A := A) hP hD hk (fun x hx hq => e6 x hx (fun h => hq (hAq x h))) h3
  exact kk H1 locs1 ls hP2 hD2 e7 hl
end JG3
/-- a list's places one by one -/
def jg_mi {α β : Type} (f : Nat → α → β) : Nat → List α → List β
  | _, [] => []
  | k, a :: l => f k a :: jg_mi f (k + 1) l
theorem jg_mi_at {α β : Type} (f : Nat → α → β) : ∀ (l : List α) (k i : Nat), (jg_mi f k l)[i]? = (l[i]?).map (f (k + i))
  | [], k, i => by simp [jg_mi]
  | a :: l, k, 0 => by simp [jg_mi]
  | a :: l, k, i + 1 => by
    rw [jg_mi, List.getElem?_cons_succ, List.getElem?_cons_succ, jg_mi_at f l (k + 1) i, show k + 1 + i = k + (i + 1) by omega]
theorem jg_mi_eq {α β : Type} (f : Nat → α → β) (l : List α) : l.mapIdx f = jg_mi f 0 l := by
  apply List.ext_getElem?
  intro i
  rw [List.getElem?_mapIdx, jg_mi_at, Nat.zero_add]
def jg_e (E : jf_E) (σ : jf_S) (k : Nat) (x : jf_K) : va_E := match x with
  | .inl o => .inr (o.1, jg_mi (fun j y => jf_v E σ k j y) 0 o.2)
  | .inr a => .inl (E.2.2.2.1 a.1, a.2, .inl (σ.1 k))
theorem jg_wq (sh : List jf_K) (E : jf_E) (σ : jf_S) : jf_w sh E σ = jg_mi (fun k x => (E.2.2.2.2 k, jg_e E σ k x)) 0 sh := by
  unfold jf_w
  rw [jg_mi_eq]
  congr 1
  funext k x
  cases x with
  | inl o => simp only [jf_e, jg_e, jg_mi_eq]
  | inr a => rfl
def x_s0 : jf_S := (fun k j => bif Nat.beq k 33 then jg_h 24 j else (bif Nat.beq k 10 then (bif Nat.beq j 8 then (-1) else 0) else (bif Nat.beq k 9 then (bif Nat.beq j 3 then (-1) else 0) else (bif Nat.beq k 6 then (bif Nat.beq j 6 then 50 else 0) else 0))), fun _ _ => 0)
def m_s0 : jf_S := (fun k j => bif Nat.beq k 21 then jg_h 24 j else (bif Nat.beq k 0 then (bif Nat.beq j 69 then (-1) else (bif Nat.beq j 63 then (-1) else (bif Nat.beq j 28 then 50 else 0))) else 0), fun _ _ => 0)
set_option maxHeartbeats 4000000 in
set_option maxRecDepth 100000 in
theorem ci_X1 (E : jf_E) (h0 sz : Nat) (a1 : Nat) (a2 : Nat) (a3 : Nat) : jg_M (fun _ => True) E yX1_init cX1_init 4 2 0 0 h0 1 [.null, .null, .null] [.ref a1, .ref a2, .ref a3] sz (fun ws => ws = [(h0, .inr (1, [.ref a1, .ref a2, .ref a3]))]) := by
  refine jg_mk (by decide) rfl (Nat.le_of_ble_eq_true rfl) ?_
  intro G A C hI hZ ret
  refine jg_aload_n C dX1_init_0 rfl ?_
  refine jg_obj C ko_X1 (by decide) (by decide) dX1_init_1 ?_
  refine jg_aload_n C dX1_init_4 rfl ?_
  refine jg_aload_n C dX1_init_5 rfl ?_
  refine jg_putF C hI kg_X1_9 ⟨rfl, rfl⟩ rfl (by decide) dX1_init_6 (fun f1 l1 e1 => ?_)
  refine jg_aload_n C dX1_init_9 rfl ?_
  refine jg_aload_n C dX1_init_10 rfl ?_
  refine jg_putF C hI kg_X1_15 ⟨rfl, rfl⟩ l1 (by decide) dX1_init_11 (fun f2 l2 e2 => ?_)
  refine jg_aload_n C dX1_init_14 rfl ?_
  refine jg_aload_n C dX1_init_15 rfl ?_
  refine jg_putF C hI kg_X1_19 ⟨rfl, rfl⟩ l2 (by decide) dX1_init_16 (fun f3 l3 e3 => ?_)
  subst e1; subst e2; subst e3
  exact ret _ _ _ dX1_init_19 rfl
set_option maxHeartbeats 4000000 in
set_option maxRecDepth 100000 in
theorem ci_X2 (E : jf_E) (h0 sz : Nat) : jg_M (fun _ => True) E yX2_init cX2_init 1 2 8 160 h0 2 [.null, .null, .null, .null, .null, .null, .null, .null, .int 0] [] sz (fun ws => ∃ q7 q15 q23 q31 q39 q47 q55 q63 : Nat, ws = [(h0, .inr (2, [.ref q7, .ref q15, .ref q23, .ref q31, .ref q39, .ref q47, .ref q55, .ref q63, .int 0])), (q7, .inl (E.2.2.2.1 0, 20, .inl (fun _ => 0))), (q15, .inl (E.2.2.2.1 0, 20, .inl (fun _ => 0))), (q23, .inl (E.2.2.2.1 0, 20, .inl (fun _ => 0))), (q31, .inl (E.2.2.2.1 0, 20, .inl (fun _ => 0))), (q39, .inl (E.2.2.2.1 0, 20, .inl (fun _ => 0))), (q47, .inl (E.2.2.2.1 0, 20, .inl (fun _ => 0))), (q55, .inl (E.2.2.2.1 0, 20, .inl (fun _ => 0))), (q63, .inl (E.2.2.2.1 0, 20, .inl (fun _ => 0)))]) := by
  refine jg_mk (by decide) rfl (Nat.le_of_ble_eq_true rfl) ?_
  intro G A C hI hZ ret
  refine jg_aload_n C dX2_init_0 rfl ?_
  refine jg_obj C ko_X2 (by decide) (by decide) dX2_init_1 ?_
  refine jg_aload_n C dX2_init_4 rfl ?_
  refine jg_bipush C 20 dX2_init_5 (by decide) ?_
  refine jg_newa C (t := 0) (N := 20) (Or.inl ⟨rfl, rfl⟩) kw_int (by decide) (by decide) (by decide) dX2_init_7 (by decide) (by decide) (fun q7 => ?_)
  refine jg_putF C hI kg_X2_9 ⟨rfl, rfl⟩ rfl (by decide) dX2_init_9 (fun f1 l1 e1 => ?_)
  refine jg_aload_n C dX2_init_12 rfl ?_
  refine jg_bipush C 20 dX2_init_13 (by decide) ?_
  refine jg_newa C (t := 0) (N := 20) (Or.inl ⟨rfl, rfl⟩) kw_int (by decide) (by decide) (by decide) dX2_init_15 (by decide) (by decide) (fun q15 => ?_)
  refine jg_putF C hI kg_X2_15 ⟨rfl, rfl⟩ l1 (by decide) dX2_init_17 (fun f2 l2 e2 => ?_)
  refine jg_aload_n C dX2_init_20 rfl ?_
  refine jg_bipush C 20 dX2_init_21 (by decide) ?_
  refine jg_newa C (t := 0) (N := 20) (Or.inl ⟨rfl, rfl⟩) kw_int (by decide) (by decide) (by decide) dX2_init_23 (by decide) (by decide) (fun q23 => ?_)
  refine jg_putF C hI kg_X2_18 ⟨rfl, rfl⟩ l2 (by decide) dX2_init_25 (fun f3 l3 e3 => ?_)
  refine jg_aload_n C dX2_init_28 rfl ?_
  refine jg_bipush C 20 dX2_init_29 (by decide) ?_
  refine jg_newa C (t := 0) (N := 20) (Or.inl ⟨rfl, rfl⟩) kw_int (by decide) (by decide) (by decide) dX2_init_31 (by decide) (by decide) (fun q31 => ?_)
  refine jg_putF C hI kg_X2_21 ⟨rfl, rfl⟩ l3 (by decide) dX2_init_33 (fun f4 l4 e4 => ?_)
  refine jg_aload_n C dX2_init_36 rfl ?_
  refine jg_bipush C 20 dX2_init_37 (by decide) ?_
  refine jg_newa C (t := 0) (N := 20) (Or.inl ⟨rfl, rfl⟩) kw_int (by decide) (by decide) (by decide) dX2_init_39 (by decide) (by decide) (fun q39 => ?_)
  refine jg_putF C hI kg_X2_24 ⟨rfl, rfl⟩ l4 (by decide) dX2_init_41 (fun f5 l5 e5 => ?_)
  refine jg_aload_n C dX2_init_44 rfl ?_
  refine jg_bipush C 20 dX2_init_45 (by decide) ?_
  refine jg_newa C (t := 0) (N := 20) (Or.inl ⟨rfl, rfl⟩) kw_int (by decide) (by decide) (by decide) dX2_init_47 (by decide) (by decide) (fun q47 => ?_)
  refine jg_putF C hI kg_X2_27 ⟨rfl, rfl⟩ l5 (by decide) dX2_init_49 (fun f6 l6 e6 => ?_)
  refine jg_aload_n C dX2_init_52 rfl ?_
  refine jg_bipush C 20 dX2_init_53 (by decide) ?_
  refine jg_newa C (t := 0) (N := 20) (Or.inl ⟨rfl, rfl⟩) kw_int (by decide) (by decide) (by decide) dX2_init_55 (by decide) (by decide) (fun q55 => ?_)
  refine jg_putF C hI kg_X2_30 ⟨rfl, rfl⟩ l6 (by decide) dX2_init_57 (fun f7 l7 e7 => ?_)
  refine jg_aload_n C dX2_init_60 rfl ?_
  refine jg_bipush C 20 dX2_init_61 (by decide) ?_
  refine jg_newa C (t := 0) (N := 20) (Or.inl ⟨rfl, rfl⟩) kw_int (by decide) (by decide) (by decide) dX2_init_63 (by decide) (by decide) (fun q63 => ?_)
  refine jg_putF C hI kg_X2_33 ⟨rfl, rfl⟩ l7 (by decide) dX2_init_65 (fun f8 l8 e8 => ?_)
  refine jg_aload_n C dX2_init_68 rfl ?_
  refine jg_iconst C 0 dX2_init_69 (by decide) ?_
  refine jg_puti C kg_X2_36 ⟨rfl, rfl⟩ l8 (by decide) dX2_init_70 (fun f9 l9 e9 => ?_)
  subst e1; subst e2; subst e3; subst e4; subst e5; subst e6; subst e7; subst e8; subst e9
  exact ret _ _ _ dX2_init_73 ⟨q7, q15, q23, q31, q39, q47, q55, q63, rfl⟩
set_option maxHeartbeats 4000000 in
set_option maxRecDepth 100000 in
theorem ci_X3 (E : jf_E) (h0 sz : Nat) : jg_M (fun _ => True) E yX3_init cX3_init 1 2 5 41 h0 3 [.null, .null, .null, .null, .null, .int 0] [] sz (fun ws => ∃ q6 q13 q20 q27 q35 : Nat, ws = [(h0, .inr (3, [.ref q6, .ref q13, .ref q20, .ref q27, .ref q35, .int 0])), (q6, .inl (E.2.2.2.1 0, 4, .inl (fun _ => 0))), (q13, .inl (E.2.2.2.1 0, 4, .inl (fun _ => 0))), (q20, .inl (E.2.2.2.1 0, 4, .inl (fun _ => 0))), (q27, .inl (E.2.2.2.1 0, 4, .inl (fun _ => 0))), (q35, .inl (E.2.2.2.1 0, 25, .inl (fun _ => 0)))]) := by
  refine jg_mk (by decide) rfl (Nat.le_of_ble_eq_true rfl) ?_
  intro G A C hI hZ ret
  refine jg_aload_n C dX3_init_0 rfl ?_
  refine jg_obj C ko_X3 (by decide) (by decide) dX3_init_1 ?_
  refine jg_aload_n C dX3_init_4 rfl ?_
  refine jg_iconst C 4 dX3_init_5 (by decide) ?_
  refine jg_newa C (t := 0) (N := 4) (Or.inl ⟨rfl, rfl⟩) kw_int (by decide) (by decide) (by decide) dX3_init_6 (by decide) (by decide) (fun q6 => ?_)
  refine jg_putF C hI kg_X3_9 ⟨rfl, rfl⟩ rfl (by decide) dX3_init_8 (fun f1 l1 e1 => ?_)
  refine jg_aload_n C dX3_init_11 rfl ?_
  refine jg_iconst C 4 dX3_init_12 (by decide) ?_
  refine jg_newa C (t := 0) (N := 4) (Or.inl ⟨rfl, rfl⟩) kw_int (by decide) (by decide) (by decide) dX3_init_13 (by decide) (by decide) (fun q13 => ?_)
  refine jg_putF C hI kg_X3_15 ⟨rfl, rfl⟩ l1 (by decide) dX3_init_15 (fun f2 l2 e2 => ?_)
  refine jg_aload_n C dX3_init_18 rfl ?_
  refine jg_iconst C 4 dX3_init_19 (by decide) ?_
  refine jg_newa C (t := 0) (N := 4) (Or.inl ⟨rfl, rfl⟩) kw_int (by decide) (by decide) (by decide) dX3_init_20 (by decide) (by decide) (fun q20 => ?_)
  refine jg_putF C hI kg_X3_18 ⟨rfl, rfl⟩ l2 (by decide) dX3_init_22 (fun f3 l3 e3 => ?_)
  refine jg_aload_n C dX3_init_25 rfl ?_
  refine jg_iconst C 4 dX3_init_26 (by decide) ?_
  refine jg_newa C (t := 0) (N := 4) (Or.inl ⟨rfl, rfl⟩) kw_int (by decide) (by decide) (by decide) dX3_init_27 (by decide) (by decide) (fun q27 => ?_)
  refine jg_putF C hI kg_X3_21 ⟨rfl, rfl⟩ l3 (by decide) dX3_init_29 (fun f4 l4 e4 => ?_)
  refine jg_aload_n C dX3_init_32 rfl ?_
  refine jg_bipush C 25 dX3_init_33 (by decide) ?_
  refine jg_newa C (t := 0) (N := 25) (Or.inl ⟨rfl, rfl⟩) kw_int (by decide) (by decide) (by decide) dX3_init_35 (by decide) (by decide) (fun q35 => ?_)
  refine jg_putF C hI kg_X3_24 ⟨rfl, rfl⟩ l4 (by decide) dX3_init_37 (fun f5 l5 e5 => ?_)
  refine jg_aload_n C dX3_init_40 rfl ?_
  refine jg_iconst C 0 dX3_init_41 (by decide) ?_
  refine jg_puti C kg_X3_27 ⟨rfl, rfl⟩ l5 (by decide) dX3_init_42 (fun f6 l6 e6 => ?_)
  subst e1; subst e2; subst e3; subst e4; subst e5; subst e6
  exact ret _ _ _ dX3_init_45 ⟨q6, q13, q20, q27, q35, rfl⟩
set_option maxHeartbeats 4000000 in
set_option maxRecDepth 100000 in
theorem ci_X4 (E : jf_E) (h0 sz : Nat) : jg_M (fun _ => True) E yX4_init cX4_init 1 2 7 470 h0 4 [.null, .null, .null, .null, .null, .null, .null, .int 0, .int 0] [] sz (fun ws => ∃ q7 q15 q23 q31 q39 q47 q55 : Nat, ws = [(h0, .inr (4, [.ref q7, .ref q15, .ref q23, .ref q31, .ref q39, .ref q47, .ref q55, .int 0, .int 0])), (q7, .inl (E.2.2.2.1 0, 10, .inl (fun _ => 0))), (q15, .inl (E.2.2.2.1 0, 10, .inl (fun _ => 0))), (q23, .inl (E.2.2.2.1 0, 50, .inl (fun _ => 0))), (q31, .inl (E.2.2.2.1 0, 100, .inl (fun _ => 0))), (q39, .inl (E.2.2.2.1 0, 100, .inl (fun _ => 0))), (q47, .inl (E.2.2.2.1 0, 100, .inl (fun _ => 0))), (q55, .inl (E.2.2.2.1 0, 100, .inl (fun _ => 0)))]) := by
  refine jg_mk (by decide) rfl (Nat.le_of_ble_eq_true rfl) ?_
  intro G A C hI hZ ret
  refine jg_aload_n C dX4_init_0 rfl ?_
  refine jg_obj C ko_X4 (by decide) (by decide) dX4_init_1 ?_
  refine jg_aload_n C dX4_init_4 rfl ?_
  refine jg_bipush C 10 dX4_init_5 (by decide) ?_
  refine jg_newa C (t := 0) (N := 10) (Or.inl ⟨rfl, rfl⟩) kw_int (by decide) (by decide) (by decide) dX4_init_7 (by decide) (by decide) (fun q7 => ?_)
  refine jg_putF C hI kg_X4_9 ⟨rfl, rfl⟩ rfl (by decide) dX4_init_9 (fun f1 l1 e1 => ?_)
  refine jg_aload_n C dX4_init_12 rfl ?_
  refine jg_bipush C 10 dX4_init_13 (by decide) ?_
  refine jg_newa C (t := 0) (N := 10) (Or.inl ⟨rfl, rfl⟩) kw_int (by decide) (by decide) (by decide) dX4_init_15 (by decide) (by decide) (fun q15 => ?_)
  refine jg_putF C hI kg_X4_15 ⟨rfl, rfl⟩ l1 (by decide) dX4_init_17 (fun f2 l2 e2 => ?_)
  refine jg_aload_n C dX4_init_20 rfl ?_
  refine jg_bipush C 50 dX4_init_21 (by decide) ?_
  refine jg_newa C (t := 0) (N := 50) (Or.inl ⟨rfl, rfl⟩) kw_int (by decide) (by decide) (by decide) dX4_init_23 (by decide) (by decide) (fun q23 => ?_)
  refine jg_putF C hI kg_X4_18 ⟨rfl, rfl⟩ l2 (by decide) dX4_init_25 (fun f3 l3 e3 => ?_)
  refine jg_aload_n C dX4_init_28 rfl ?_
  refine jg_bipush C 100 dX4_init_29 (by decide) ?_
  refine jg_newa C (t := 0) (N := 100) (Or.inl ⟨rfl, rfl⟩) kw_int (by decide) (by decide) (by decide) dX4_init_31 (by decide) (by decide) (fun q31 => ?_)
  refine jg_putF C hI kg_X4_21 ⟨rfl, rfl⟩ l3 (by decide) dX4_init_33 (fun f4 l4 e4 => ?_)
  refine jg_aload_n C dX4_init_36 rfl ?_
  refine jg_bipush C 100 dX4_init_37 (by decide) ?_
  refine jg_newa C (t := 0) (N := 100) (Or.inl ⟨rfl, rfl⟩) kw_int (by decide) (by decide) (by decide) dX4_init_39 (by decide) (by decide) (fun q39 => ?_)
  refine jg_putF C hI kg_X4_24 ⟨rfl, rfl⟩ l4 (by decide) dX4_init_41 (fun f5 l5 e5 => ?_)
  refine jg_aload_n C dX4_init_44 rfl ?_
  refine jg_bipush C 100 dX4_init_45 (by decide) ?_
  refine jg_newa C (t := 0) (N := 100) (Or.inl ⟨rfl, rfl⟩) kw_int (by decide) (by decide) (by decide) dX4_init_47 (by decide) (by decide) (fun q47 => ?_)
  refine jg_putF C hI kg_X4_27 ⟨rfl, rfl⟩ l5 (by decide) dX4_init_49 (fun f6 l6 e6 => ?_)
  refine jg_aload_n C dX4_init_52 rfl ?_
  refine jg_bipush C 100 dX4_init_53 (by decide) ?_
  refine jg_newa C (t := 0) (N := 100) (Or.inl ⟨rfl, rfl⟩) kw_int (by decide) (by decide) (by decide) dX4_init_55 (by decide) (by decide) (fun q55 => ?_)
  refine jg_putF C hI kg_X4_30 ⟨rfl, rfl⟩ l6 (by decide) dX4_init_57 (fun f7 l7 e7 => ?_)
  refine jg_aload_n C dX4_init_60 rfl ?_
  refine jg_iconst C 0 dX4_init_61 (by decide) ?_
  refine jg_puti C kg_X4_33 ⟨rfl, rfl⟩ l7 (by decide) dX4_init_62 (fun f8 l8 e8 => ?_)
  refine jg_aload_n C dX4_init_65 rfl ?_
  refine jg_iconst C 0 dX4_init_66 (by decide) ?_
  refine jg_puti C kg_X4_37 ⟨rfl, rfl⟩ l8 (by decide) dX4_init_67 (fun f9 l9 e9 => ?_)
  subst e1; subst e2; subst e3; subst e4; subst e5; subst e6; subst e7; subst e8; subst e9
  exact ret _ _ _ dX4_init_70 ⟨q7, q15, q23, q31, q39, q47, q55, rfl⟩
set_option maxHeartbeats 4000000 in
set_option maxRecDepth 100000 in
theorem ci_X5 (E : jf_E) (h0 sz : Nat) (a1 : Nat) (a2 : Nat) (a3 : Nat) : jg_M (fun _ => True) E yX5_init cX5_init 4 2 3 180 h0 5 [.null, .null, .null, .null, .null, .null, .int 0, .int 0, .int 0] [.ref a1, .ref a2, .ref a3] sz (fun ws => ∃ q7 q15 q23 : Nat, ws = [(h0, .inr (5, [.ref a1, .ref a2, .ref a3, .ref q7, .ref q15, .ref q23, .int 50, .int 0, .int 0])), (q7, .inl (E.2.2.2.1 0, 60, .inl (fun _ => 0))), (q15, .inl (E.2.2.2.1 0, 60, .inl (fun _ => 0))), (q23, .inl (E.2.2.2.1 0, 60, .inl (fun _ => 0)))]) := by
  refine jg_mk (by decide) rfl (Nat.le_of_ble_eq_true rfl) ?_
  intro G A C hI hZ ret
  refine jg_aload_n C dX5_init_0 rfl ?_
  refine jg_obj C ko_X5 (by decide) (by decide) dX5_init_1 ?_
  refine jg_aload_n C dX5_init_4 rfl ?_
  refine jg_bipush C 60 dX5_init_5 (by decide) ?_
  refine jg_newa C (t := 0) (N := 60) (Or.inl ⟨rfl, rfl⟩) kw_int (by decide) (by decide) (by decide) dX5_init_7 (by decide) (by decide) (fun q7 => ?_)
  refine jg_putF C hI kg_X5_9 ⟨rfl, rfl⟩ rfl (by decide) dX5_init_9 (fun f1 l1 e1 => ?_)
  refine jg_aload_n C dX5_init_12 rfl ?_
  refine jg_bipush C 60 dX5_init_13 (by decide) ?_
  refine jg_newa C (t := 0) (N := 60) (Or.inl ⟨rfl, rfl⟩) kw_int (by decide) (by decide) (by decide) dX5_init_15 (by decide) (by decide) (fun q15 => ?_)
  refine jg_putF C hI kg_X5_15 ⟨rfl, rfl⟩ l1 (by decide) dX5_init_17 (fun f2 l2 e2 => ?_)
  refine jg_aload_n C dX5_init_20 rfl ?_
  refine jg_bipush C 60 dX5_init_21 (by decide) ?_
  refine jg_newa C (t := 0) (N := 60) (Or.inl ⟨rfl, rfl⟩) kw_int (by decide) (by decide) (by decide) dX5_init_23 (by decide) (by decide) (fun q23 => ?_)
  refine jg_putF C hI kg_X5_18 ⟨rfl, rfl⟩ l2 (by decide) dX5_init_25 (fun f3 l3 e3 => ?_)
  refine jg_aload_n C dX5_init_28 rfl ?_
  refine jg_bipush C 50 dX5_init_29 (by decide) ?_
  refine jg_puti C kg_X5_21 ⟨rfl, rfl⟩ l3 (by decide) dX5_init_31 (fun f4 l4 e4 => ?_)
  refine jg_aload_n C dX5_init_34 rfl ?_
  refine jg_aload_n C dX5_init_35 rfl ?_
  refine jg_putF C hI kg_X5_25 ⟨rfl, rfl⟩ l4 (by decide) dX5_init_36 (fun f5 l5 e5 => ?_)
  refine jg_aload_n C dX5_init_39 rfl ?_
  refine jg_aload_n C dX5_init_40 rfl ?_
  refine jg_putF C hI kg_X5_29 ⟨rfl, rfl⟩ l5 (by decide) dX5_init_41 (fun f6 l6 e6 => ?_)
  refine jg_aload_n C dX5_init_44 rfl ?_
  refine jg_aload_n C dX5_init_45 rfl ?_
  refine jg_putF C hI kg_X5_33 ⟨rfl, rfl⟩ l6 (by decide) dX5_init_46 (fun f7 l7 e7 => ?_)
  subst e1; subst e2; subst e3; subst e4; subst e5; subst e6; subst e7
  exact ret _ _ _ dX5_init_49 ⟨q7, q15, q23, rfl⟩
set_option maxHeartbeats 4000000 in
set_option maxRecDepth 100000 in
theorem ci_X7 (E : jf_E) (h0 sz : Nat) : jg_M (fun _ => True) E yX7_init cX7_init 1 2 2 305 h0 7 [.null, .null, .int 0, .int 0, .int 0, .int 0] [] sz (fun ws => ∃ q8 q15 : Nat, ws = [(h0, .inr (7, [.ref q8, .ref q15, .int 0, .int 0, .int 0, .int 0])), (q8, .inl (E.2.2.2.1 0, 300, .inl (fun _ => 0))), (q15, .inl (E.2.2.2.1 0, 5, .inl (fun _ => 0)))]) := by
  refine jg_mk (by decide) rfl (Nat.le_of_ble_eq_true rfl) ?_
  intro G A C hI hZ ret
  refine jg_aload_n C dX7_init_0 rfl ?_
  refine jg_obj C ko_X7 (by decide) (by decide) dX7_init_1 ?_
  refine jg_aload_n C dX7_init_4 rfl ?_
  refine jg_sipush C 300 dX7_init_5 (by decide) ?_
  refine jg_newa C (t := 0) (N := 300) (Or.inl ⟨rfl, rfl⟩) kw_int (by decide) (by decide) (by decide) dX7_init_8 (by decide) (by decide) (fun q8 => ?_)
  refine jg_putF C hI kg_X7_9 ⟨rfl, rfl⟩ rfl (by decide) dX7_init_10 (fun f1 l1 e1 => ?_)
  refine jg_aload_n C dX7_init_13 rfl ?_
  refine jg_iconst C 5 dX7_init_14 (by decide) ?_
  refine jg_newa C (t := 0) (N := 5) (Or.inl ⟨rfl, rfl⟩) kw_int (by decide) (by decide) (by decide) dX7_init_15 (by decide) (by decide) (fun q15 => ?_)
  refine jg_putF C hI kg_X7_13 ⟨rfl, rfl⟩ l1 (by decide) dX7_init_17 (fun f2 l2 e2 => ?_)
  refine jg_aload_n C dX7_init_20 rfl ?_
  refine jg_iconst C 0 dX7_init_21 (by decide) ?_
  refine jg_puti C kg_X7_16 ⟨rfl, rfl⟩ l2 (by decide) dX7_init_22 (fun f3 l3 e3 => ?_)
  refine jg_aload_n C dX7_init_25 rfl ?_
  refine jg_iconst C 0 dX7_init_26 (by decide) ?_
  refine jg_puti C kg_X7_20 ⟨rfl, rfl⟩ l3 (by decide) dX7_init_27 (fun f4 l4 e4 => ?_)
  refine jg_aload_n C dX7_init_30 rfl ?_
  refine jg_iconst C 0 dX7_init_31 (by decide) ?_
  refine jg_puti C kg_X7_24 ⟨rfl, rfl⟩ l4 (by decide) dX7_init_32 (fun f5 l5 e5 => ?_)
  refine jg_aload_n C dX7_init_35 rfl ?_
  refine jg_iconst C 0 dX7_init_36 (by decide) ?_
  refine jg_puti C kg_X7_27 ⟨rfl, rfl⟩ l5 (by decide) dX7_init_37 (fun f6 l6 e6 => ?_)
  subst e1; subst e2; subst e3; subst e4; subst e5; subst e6
  exact ret _ _ _ dX7_init_40 ⟨q8, q15, rfl⟩
set_option maxHeartbeats 4000000 in
set_option maxRecDepth 100000 in
theorem ci_X8 (E : jf_E) (h0 sz : Nat) : jg_M (fun _ => True) E yX8_init cX8_init 1 2 8 3480 h0 8 [.null, .null, .null, .null, .null, .null, .null, .null, .int 0] [] sz (fun ws => ∃ q7 q15 q23 q31 q39 q47 q55 q64 : Nat, ws = [(h0, .inr (8, [.ref q7, .ref q15, .ref q23, .ref q31, .ref q39, .ref q47, .ref q55, .ref q64, .int 0])), (q7, .inl (E.2.2.2.1 0, 60, .inl (fun _ => 0))), (q15, .inl (E.2.2.2.1 0, 60, .inl (fun _ => 0))), (q23, .inl (E.2.2.2.1 0, 60, .inl (fun _ => 0))), (q31, .inl (E.2.2.2.1 0, 60, .inl (fun _ => 0))), (q39, .inl (E.2.2.2.1 0, 60, .inl (fun _ => 0))), (q47, .inl (E.2.2.2.1 0, 60, .inl (fun _ => 0))), (q55, .inl (E.2.2.2.1 1, 60, .inl (fun _ => 0))), (q64, .inl (E.2.2.2.1 0, 3060, .inl (fun _ => 0)))]) := by
  refine jg_mk (by decide) rfl (Nat.le_of_ble_eq_true rfl) ?_
  intro G A C hI hZ ret
  refine jg_aload_n C dX8_init_0 rfl ?_
  refine jg_obj C ko_X8 (by decide) (by decide) dX8_init_1 ?_
  refine jg_aload_n C dX8_init_4 rfl ?_
  refine jg_bipush C 60 dX8_init_5 (by decide) ?_
  refine jg_newa C (t := 0) (N := 60) (Or.inl ⟨rfl, rfl⟩) kw_int (by decide) (by decide) (by decide) dX8_init_7 (by decide) (by decide) (fun q7 => ?_)
  refine jg_putF C hI kg_X8_9 ⟨rfl, rfl⟩ rfl (by decide) dX8_init_9 (fun f1 l1 e1 => ?_)
  refine jg_aload_n C dX8_init_12 rfl ?_
  refine jg_bipush C 60 dX8_init_13 (by decide) ?_
  refine jg_newa C (t := 0) (N := 60) (Or.inl ⟨rfl, rfl⟩) kw_int (by decide) (by decide) (by decide) dX8_init_15 (by decide) (by decide) (fun q15 => ?_)
  refine jg_putF C hI kg_X8_15 ⟨rfl, rfl⟩ l1 (by decide) dX8_init_17 (fun f2 l2 e2 => ?_)
  refine jg_aload_n C dX8_init_20 rfl ?_
  refine jg_bipush C 60 dX8_init_21 (by decide) ?_
  refine jg_newa C (t := 0) (N := 60) (Or.inl ⟨rfl, rfl⟩) kw_int (by decide) (by decide) (by decide) dX8_init_23 (by decide) (by decide) (fun q23 => ?_)
  refine jg_putF C hI kg_X8_18 ⟨rfl, rfl⟩ l2 (by decide) dX8_init_25 (fun f3 l3 e3 => ?_)
  refine jg_aload_n C dX8_init_28 rfl ?_
  refine jg_bipush C 60 dX8_init_29 (by decide) ?_
  refine jg_newa C (t := 0) (N := 60) (Or.inl ⟨rfl, rfl⟩) kw_int (by decide) (by decide) (by decide) dX8_init_31 (by decide) (by decide) (fun q31 => ?_)
  refine jg_putF C hI kg_X8_21 ⟨rfl, rfl⟩ l3 (by decide) dX8_init_33 (fun f4 l4 e4 => ?_)
  refine jg_aload_n C dX8_init_36 rfl ?_
  refine jg_bipush C 60 dX8_init_37 (by decide) ?_
  refine jg_newa C (t := 0) (N := 60) (Or.inl ⟨rfl, rfl⟩) kw_int (by decide) (by decide) (by decide) dX8_init_39 (by decide) (by decide) (fun q39 => ?_)
  refine jg_putF C hI kg_X8_24 ⟨rfl, rfl⟩ l4 (by decide) dX8_init_41 (fun f5 l5 e5 => ?_)
  refine jg_aload_n C dX8_init_44 rfl ?_
  refine jg_bipush C 60 dX8_init_45 (by decide) ?_
  refine jg_newa C (t := 0) (N := 60) (Or.inl ⟨rfl, rfl⟩) kw_int (by decide) (by decide) (by decide) dX8_init_47 (by decide) (by decide) (fun q47 => ?_)
  refine jg_putF C hI kg_X8_27 ⟨rfl, rfl⟩ l5 (by decide) dX8_init_49 (fun f6 l6 e6 => ?_)
  refine jg_aload_n C dX8_init_52 rfl ?_
  refine jg_bipush C 60 dX8_init_53 (by decide) ?_
  refine jg_newa C (t := 1) (N := 60) (Or.inr ⟨rfl, rfl⟩) kw_boolean (by decide) (by decide) (by decide) dX8_init_55 (by decide) (by decide) (fun q55 => ?_)
  refine jg_putF C hI kg_X8_30 ⟨rfl, rfl⟩ l6 (by decide) dX8_init_57 (fun f7 l7 e7 => ?_)
  refine jg_aload_n C dX8_init_60 rfl ?_
  refine jg_sipush C 3060 dX8_init_61 (by decide) ?_
  refine jg_newa C (t := 0) (N := 3060) (Or.inl ⟨rfl, rfl⟩) kw_int (by decide) (by decide) (by decide) dX8_init_64 (by decide) (by decide) (fun q64 => ?_)
  refine jg_putF C hI kg_X8_34 ⟨rfl, rfl⟩ l7 (by decide) dX8_init_66 (fun f8 l8 e8 => ?_)
  refine jg_aload_n C dX8_init_69 rfl ?_
  refine jg_iconst C 0 dX8_init_70 (by decide) ?_
  refine jg_puti C kg_X8_37 ⟨rfl, rfl⟩ l8 (by decide) dX8_init_71 (fun f9 l9 e9 => ?_)
  subst e1; subst e2; subst e3; subst e4; subst e5; subst e6; subst e7; subst e8; subst e9
  exact ret _ _ _ dX8_init_74 ⟨q7, q15, q23, q31, q39, q47, q55, q64, rfl⟩
set_option maxHeartbeats 4000000 in
set_option maxRecDepth 100000 in
theorem ci_X9 (E : jf_E) (h0 sz : Nat) (a1 : Nat) (a2 : Nat) (a3 : Nat) (a4 : Nat) : jg_M (fun _ => True) E yX9_init cX9_init 5 2 4 154 h0 9 [.null, .null, .null, .null, .null, .null, .null, .null, .int 0, .int 0, .int 0, .int 0, .int 0] [.ref a1, .ref a2, .ref a3, .ref a4] sz (fun ws => ∃ q7 q15 q23 q31 : Nat, ws = [(h0, .inr (9, [.ref a1, .ref a2, .ref a3, .ref a4, .ref q7, .ref q15, .ref q23, .ref q31, .int 0, .int 0, .int 0, .int 0, .int 0])), (q7, .inl (E.2.2.2.1 0, 24, .inl (jg_h 24))), (q15, .inl (E.2.2.2.1 0, 10, .inl (fun _ => 0))), (q23, .inl (E.2.2.2.1 0, 60, .inl (fun _ => 0))), (q31, .inl (E.2.2.2.1 0, 60, .inl (fun _ => 0)))]) := by
  refine jg_mk (by decide) rfl (Nat.le_of_ble_eq_true rfl) ?_
  intro G A C hI hZ ret
  refine jg_aload_n C dX9_init_0 rfl ?_
  refine jg_obj C ko_X9 (by decide) (by decide) dX9_init_1 ?_
  refine jg_aload_n C dX9_init_4 rfl ?_
  refine jg_bipush C 24 dX9_init_5 (by decide) ?_
  refine jg_newa C (t := 0) (N := 24) (Or.inl ⟨rfl, rfl⟩) kw_int (by decide) (by decide) (by decide) dX9_init_7 (by decide) (by decide) (fun q7 => ?_)
  refine jg_putF C hI kg_X9_9 ⟨rfl, rfl⟩ rfl (by decide) dX9_init_9 (fun f1 l1 e1 => ?_)
  refine jg_aload_n C dX9_init_12 rfl ?_
  refine jg_bipush C 10 dX9_init_13 (by decide) ?_
  refine jg_newa C (t := 0) (N := 10) (Or.inl ⟨rfl, rfl⟩) kw_int (by decide) (by decide) (by decide) dX9_init_15 (by decide) (by decide) (fun q15 => ?_)
  refine jg_putF C hI kg_X9_15 ⟨rfl, rfl⟩ l1 (by decide) dX9_init_17 (fun f2 l2 e2 => ?_)
  refine jg_aload_n C dX9_init_20 rfl ?_
  refine jg_bipush C 60 dX9_init_21 (by decide) ?_
  refine jg_newa C (t := 0) (N := 60) (Or.inl ⟨rfl, rfl⟩) kw_int (by decide) (by decide) (by decide) dX9_init_23 (by decide) (by decide) (fun q23 => ?_)
  refine jg_putF C hI kg_X9_18 ⟨rfl, rfl⟩ l2 (by decide) dX9_init_25 (fun f3 l3 e3 => ?_)
  refine jg_aload_n C dX9_init_28 rfl ?_
  refine jg_bipush C 60 dX9_init_29 (by decide) ?_
  refine jg_newa C (t := 0) (N := 60) (Or.inl ⟨rfl, rfl⟩) kw_int (by decide) (by decide) (by decide) dX9_init_31 (by decide) (by decide) (fun q31 => ?_)
  refine jg_putF C hI kg_X9_21 ⟨rfl, rfl⟩ l3 (by decide) dX9_init_33 (fun f4 l4 e4 => ?_)
  refine jg_aload_n C dX9_init_36 rfl ?_
  refine jg_iconst C 0 dX9_init_37 (by decide) ?_
  refine jg_puti C kg_X9_24 ⟨rfl, rfl⟩ l4 (by decide) dX9_init_38 (fun f5 l5 e5 => ?_)
  refine jg_aload_n C dX9_init_41 rfl ?_
  refine jg_aload_n C dX9_init_42 rfl ?_
  refine jg_putF C hI kg_X9_28 ⟨rfl, rfl⟩ l5 (by decide) dX9_init_43 (fun f6 l6 e6 => ?_)
  refine jg_aload_n C dX9_init_46 rfl ?_
  refine jg_aload_n C dX9_init_47 rfl ?_
  refine jg_putF C hI kg_X9_32 ⟨rfl, rfl⟩ l6 (by decide) dX9_init_48 (fun f7 l7 e7 => ?_)
  refine jg_aload_n C dX9_init_51 rfl ?_
  refine jg_aload_n C dX9_init_52 rfl ?_
  refine jg_putF C hI kg_X9_36 ⟨rfl, rfl⟩ l7 (by decide) dX9_init_53 (fun f8 l8 e8 => ?_)
  refine jg_aload_n C dX9_init_56 rfl ?_
  refine jg_aload C dX9_init_57 rfl ?_
  refine jg_putF C hI kg_X9_40 ⟨rfl, rfl⟩ l8 (by decide) dX9_init_59 (fun f9 l9 e9 => ?_)
  refine jg_aload_n C dX9_init_62 rfl ?_
  refine jg_get C kg_X9_9 (v := .ref q7) (by rw [e9]; rw [e8]; rw [e7]; rw [e6]; rw [e5]; rw [e4]; rw [e3]; rw [e2]; rw [e1]; rfl) dX9_init_63 ?_
  refine jg_bipush C 100 dX9_init_66 (by decide) ?_
  refine jg_fill C (k := 1) (q := q7) ky_fill ks_fill kw_fill (by decide) (by rfl) (Nat.le_of_ble_eq_true rfl) (by decide) (by decide) dX9_init_68 ?_
  subst e1; subst e2; subst e3; subst e4; subst e5; subst e6; subst e7; subst e8; subst e9
  exact ret _ _ _ dX9_init_71 ⟨q7, q15, q23, q31, rfl⟩
set_option maxHeartbeats 4000000 in
set_option maxRecDepth 100000 in
theorem ci_X6 (E : jf_E) (h0 sz : Nat) : jg_M jg_Z E yX6_init cX6_init 1 3 4 611 h0 6 [.null, .null, .int 0, .int 0, .int 0, .int 0, .int 0] [] sz (fun ws => ∃ q8 q14 q14_q8 q14_q15 : Nat, ws = [(h0, .inr (6, [.ref q8, .ref q14, .int 0, .int (-1), .int 0, .int 0, .int 0])), (q8, .inl (E.2.2.2.1 0, 300, .inl (fun _ => 0))), (q14, .inr (7, [.ref q14_q8, .ref q14_q15, .int 0, .int 0, .int 0, .int 0])), (q14_q8, .inl (E.2.2.2.1 0, 300, .inl (fun _ => 0))), (q14_q15, .inl (E.2.2.2.1 0, 5, .inl (fun _ => 0)))]) := by
  refine jg_mk (by decide) rfl (Nat.le_of_ble_eq_true rfl) ?_
  intro G A C hI hZ ret
  refine jg_aload_n C dX6_init_0 rfl ?_
  refine jg_obj C ko_X6 (by decide) (by decide) dX6_init_1 ?_
  refine jg_aload_n C dX6_init_4 rfl ?_
  refine jg_sipush C 300 dX6_init_5 (by decide) ?_
  refine jg_newa C (t := 0) (N := 300) (Or.inl ⟨rfl, rfl⟩) kw_int (by decide) (by decide) (by decide) dX6_init_8 (by decide) (by decide) (fun q8 => ?_)
  refine jg_putF C hI kg_X6_11 ⟨rfl, rfl⟩ rfl (by decide) dX6_init_10 (fun f1 l1 e1 => ?_)
  refine jg_tl (fun t1 g1 => ?_)
  refine jg_aload_n C dX6_init_13 rfl ?_
  refine jg_new C kn_X6_15 (by decide) (by decide) dX6_init_14 (fun q14 => ?_)
  refine jg_dup C dX6_init_17 rfl ?_
  refine jg_call (fun _ => True) jg_ZT trivial C (ws := (h0, .inr (6, f1)) :: t1) [] _ (fun sz => ci_X7 E q14 sz) ky_X7_init rfl kz_X7_init (Or.inr ⟨_, hZ.2.2.2.2.2.2⟩) (by decide) rfl (Nat.le_of_ble_eq_true rfl) (by decide) (by decide) dX6_init_18 (fun w18 p18 => ?_)
  obtain ⟨q14_q8, q14_q15, rfl⟩ := p18
  refine jg_putF C hI kg_X6_18 ⟨rfl, rfl⟩ l1 (by decide) dX6_init_21 (fun f2 l2 e2 => ?_)
  refine jg_tl (fun t2 g2 => ?_)
  refine jg_aload_n C dX6_init_24 rfl ?_
  refine jg_iconst C 0 dX6_init_25 (by decide) ?_
  refine jg_puti C kg_X6_22 ⟨rfl, rfl⟩ l2 (by decide) dX6_init_26 (fun f3 l3 e3 => ?_)
  refine jg_tl (fun t3 g3 => ?_)
  refine jg_aload_n C dX6_init_29 rfl ?_
  refine jg_iconst C (-1) dX6_init_30 (by decide) ?_
  refine jg_puti C kg_X6_26 ⟨rfl, rfl⟩ l3 (by decide) dX6_init_31 (fun f4 l4 e4 => ?_)
  refine jg_tl (fun t4 g4 => ?_)
  subst g1; subst e1; subst g2; subst e2; subst g3; subst e3; subst g4; subst e4
  exact ret _ _ _ dX6_init_34 ⟨q8, q14, q14_q8, q14_q15, rfl⟩
set_option maxHeartbeats 4000000 in
set_option maxRecDepth 100000 in
theorem ci_X0 (E : jf_E) (h0 sz : Nat) (a1 : Nat) (a2 : Nat) (a3 : Nat) : jg_M (fun _ => True) E yX0_init cX0_init 4 2 5 500 h0 0 [.null, .null, .null, .null, .null, .null, .null, .null, .int 0] [.ref a1, .ref a2, .ref a3] sz (fun ws => ∃ q7 q15 q23 q31 q40 : Nat, ws = [(h0, .inr (0, [.ref a1, .ref a2, .ref a3, .ref q7, .ref q15, .ref q23, .ref q31, .ref q40, .int (-1)])), (q7, .inl (E.2.2.2.1 0, 50, .inl (fun _ => 0))), (q15, .inl (E.2.2.2.1 0, 10, .inl (fun _ => 0))), (q23, .inl (E.2.2.2.1 0, 20, .inl (fun _ => 0))), (q31, .inl (E.2.2.2.1 1, 20, .inl (fun _ => 0))), (q40, .inl (E.2.2.2.1 0, 400, .inl (fun _ => 0)))]) := by
  refine jg_mk (by decide) rfl (Nat.le_of_ble_eq_true rfl) ?_
  intro G A C hI hZ ret
  refine jg_aload_n C dX0_init_0 rfl ?_
  refine jg_obj C ko_X0 (by decide) (by decide) dX0_init_1 ?_
  refine jg_aload_n C dX0_init_4 rfl ?_
  refine jg_bipush C 50 dX0_init_5 (by decide) ?_
  refine jg_newa C (t := 0) (N := 50) (Or.inl ⟨rfl, rfl⟩) kw_int (by decide) (by decide) (by decide) dX0_init_7 (by decide) (by decide) (fun q7 => ?_)
  refine jg_putF C hI kg_X0_9 ⟨rfl, rfl⟩ rfl (by decide) dX0_init_9 (fun f1 l1 e1 => ?_)
  refine jg_aload_n C dX0_init_12 rfl ?_
  refine jg_bipush C 10 dX0_init_13 (by decide) ?_
  refine jg_newa C (t := 0) (N := 10) (Or.inl ⟨rfl, rfl⟩) kw_int (by decide) (by decide) (by decide) dX0_init_15 (by decide) (by decide) (fun q15 => ?_)
  refine jg_putF C hI kg_X0_15 ⟨rfl, rfl⟩ l1 (by decide) dX0_init_17 (fun f2 l2 e2 => ?_)
  refine jg_aload_n C dX0_init_20 rfl ?_
  refine jg_bipush C 20 dX0_init_21 (by decide) ?_
  refine jg_newa C (t := 0) (N := 20) (Or.inl ⟨rfl, rfl⟩) kw_int (by decide) (by decide) (by decide) dX0_init_23 (by decide) (by decide) (fun q23 => ?_)
  refine jg_putF C hI kg_X0_18 ⟨rfl, rfl⟩ l2 (by decide) dX0_init_25 (fun f3 l3 e3 => ?_)
  refine jg_aload_n C dX0_init_28 rfl ?_
  refine jg_bipush C 20 dX0_init_29 (by decide) ?_
  refine jg_newa C (t := 1) (N := 20) (Or.inr ⟨rfl, rfl⟩) kw_boolean (by decide) (by decide) (by decide) dX0_init_31 (by decide) (by decide) (fun q31 => ?_)
  refine jg_putF C hI kg_X0_21 ⟨rfl, rfl⟩ l3 (by decide) dX0_init_33 (fun f4 l4 e4 => ?_)
  refine jg_aload_n C dX0_init_36 rfl ?_
  refine jg_sipush C 400 dX0_init_37 (by decide) ?_
  refine jg_newa C (t := 0) (N := 400) (Or.inl ⟨rfl, rfl⟩) kw_int (by decide) (by decide) (by decide) dX0_init_40 (by decide) (by decide) (fun q40 => ?_)
  refine jg_putF C hI kg_X0_25 ⟨rfl, rfl⟩ l4 (by decide) dX0_init_42 (fun f5 l5 e5 => ?_)
  refine jg_aload_n C dX0_init_45 rfl ?_
  refine jg_iconst C (-1) dX0_init_46 (by decide) ?_
  refine jg_puti C kg_X0_28 ⟨rfl, rfl⟩ l5 (by decide) dX0_init_47 (fun f6 l6 e6 => ?_)
  refine jg_aload_n C dX0_init_50 rfl ?_
  refine jg_aload_n C dX0_init_51 rfl ?_
  refine jg_putF C hI kg_X0_32 ⟨rfl, rfl⟩ l6 (by decide) dX0_init_52 (fun f7 l7 e7 => ?_)
  refine jg_aload_n C dX0_init_55 rfl ?_
  refine jg_aload_n C dX0_init_56 rfl ?_
  refine jg_putF C hI kg_X0_36 ⟨rfl, rfl⟩ l7 (by decide) dX0_init_57 (fun f8 l8 e8 => ?_)
  refine jg_aload_n C dX0_init_60 rfl ?_
  refine jg_aload_n C dX0_init_61 rfl ?_
  refine jg_putF C hI kg_X0_40 ⟨rfl, rfl⟩ l8 (by decide) dX0_init_62 (fun f9 l9 e9 => ?_)
  subst e1; subst e2; subst e3; subst e4; subst e5; subst e6; subst e7; subst e8; subst e9
  exact ret _ _ _ dX0_init_65 ⟨q7, q15, q23, q31, q40, rfl⟩
