set_option maxHeartbeats 4000000 in
set_option maxRecDepth 100000 in
theorem ci_X10 (E : jf_E) (h0 sz : Nat) : jg_M jg_Z E yX10_init cX10_init 1 4 56 5981 h0 10 [.null, .null, .null, .null, .null, .null, .null, .null, .null, .null, .int 0] [] sz (fun ws => ∃ f : Nat → Nat, f 0 = h0 ∧ ws = jf_w jh_X (jg_E E f) x_s0) := by
  refine jg_mk (by decide) rfl (Nat.le_of_ble_eq_true rfl) ?_
  intro G A C hI hZ ret
  refine jg_aload_n C dX10_init_0 rfl ?_
  refine jg_obj C ko_X10 (by decide) (by decide) dX10_init_1 ?_
  refine jg_aload_n C dX10_init_4 rfl ?_
  refine jg_new C kn_X10_7 (by decide) (by decide) dX10_init_5 (fun q5 => ?_)
  refine jg_dup C dX10_init_8 rfl ?_
  refine jg_call (fun _ => True) jg_ZT trivial C (ws := (h0, .inr (10, [.null, .null, .null, .null, .null, .null, .null, .null, .null, .null, .int 0])) :: []) [] _ (fun sz => ci_X3 E q5 sz) ky_X3_init rfl kz_X3_init (Or.inr ⟨_, hZ.1⟩) (by decide) rfl (Nat.le_of_ble_eq_true rfl) (by decide) (by decide) dX10_init_9 (fun w9 p9 => ?_)
  obtain ⟨q5_q6, q5_q13, q5_q20, q5_q27, q5_q35, rfl⟩ := p9
  refine jg_putF C hI kg_X10_10 ⟨rfl, rfl⟩ rfl (by decide) dX10_init_12 (fun f1 l1 e1 => ?_)
  refine jg_tl (fun t1 g1 => ?_)
  refine jg_aload_n C dX10_init_15 rfl ?_
  refine jg_new C kn_X10_16 (by decide) (by decide) dX10_init_16 (fun q16 => ?_)
  refine jg_dup C dX10_init_19 rfl ?_
  refine jg_call (fun _ => True) jg_ZT trivial C (ws := (h0, .inr (10, f1)) :: t1) [] _ (fun sz => ci_X2 E q16 sz) ky_X2_init rfl kz_X2_init (Or.inr ⟨_, hZ.2.1⟩) (by decide) rfl (Nat.le_of_ble_eq_true rfl) (by decide) (by decide) dX10_init_20 (fun w20 p20 => ?_)
  obtain ⟨q16_q7, q16_q15, q16_q23, q16_q31, q16_q39, q16_q47, q16_q55, q16_q63, rfl⟩ := p20
  refine jg_putF C hI kg_X10_19 ⟨rfl, rfl⟩ l1 (by decide) dX10_init_23 (fun f2 l2 e2 => ?_)
  refine jg_tl (fun t2 g2 => ?_)
  refine jg_aload_n C dX10_init_26 rfl ?_
  refine jg_new C kn_X10_23 (by decide) (by decide) dX10_init_27 (fun q27 => ?_)
  refine jg_dup C dX10_init_30 rfl ?_
  refine jg_call (fun _ => True) jg_ZT trivial C (ws := (h0, .inr (10, f2)) :: t2) [] _ (fun sz => ci_X8 E q27 sz) ky_X8_init rfl kz_X8_init (Or.inr ⟨_, hZ.2.2.1⟩) (by decide) rfl (Nat.le_of_ble_eq_true rfl) (by decide) (by decide) dX10_init_31 (fun w31 p31 => ?_)
  obtain ⟨q27_q7, q27_q15, q27_q23, q27_q31, q27_q39, q27_q47, q27_q55, q27_q64, rfl⟩ := p31
  refine jg_putF C hI kg_X10_26 ⟨rfl, rfl⟩ l2 (by decide) dX10_init_34 (fun f3 l3 e3 => ?_)
  refine jg_tl (fun t3 g3 => ?_)
  refine jg_aload_n C dX10_init_37 rfl ?_
  refine jg_new C kn_X10_30 (by decide) (by decide) dX10_init_38 (fun q38 => ?_)
  refine jg_dup C dX10_init_41 rfl ?_
  refine jg_aload_n C dX10_init_42 rfl ?_
  refine jg_get C kg_X10_10 (v := .ref q5) (by rw [e3]; rw [e2]; rw [e1]; rfl) dX10_init_43 ?_
  refine jg_aload_n C dX10_init_46 rfl ?_
  refine jg_get C kg_X10_19 (v := .ref q16) (by rw [e3]; rw [e2]; rw [e1]; rfl) dX10_init_47 ?_
  refine jg_aload_n C dX10_init_50 rfl ?_
  refine jg_get C kg_X10_26 (v := .ref q27) (by rw [e3]; rw [e2]; rw [e1]; rfl) dX10_init_51 ?_
  refine jg_call (fun _ => True) jg_ZT trivial C (ws := (h0, .inr (10, f3)) :: t3) [.ref q5, .ref q16, .ref q27] _ (fun sz => ci_X1 E q38 sz q5 q16 q27) ky_X1_init rfl kz_X1_init (Or.inl (jt_1 171 rfl rfl)) (by decide) rfl (Nat.le_of_ble_eq_true rfl) (by decide) (by decide) dX10_init_54 (fun w54 p54 => ?_)
  obtain ⟨rfl⟩ := p54
  refine jg_putF C hI kg_X10_35 ⟨rfl, rfl⟩ l3 (by decide) dX10_init_57 (fun f4 l4 e4 => ?_)
  refine jg_tl (fun t4 g4 => ?_)
  refine jg_aload_n C dX10_init_60 rfl ?_
  refine jg_new C kn_X10_39 (by decide) (by decide) dX10_init_61 (fun q61 => ?_)
  refine jg_dup C dX10_init_64 rfl ?_
  refine jg_aload_n C dX10_init_65 rfl ?_
  refine jg_get C kg_X10_10 (v := .ref q5) (by rw [e4]; rw [e3]; rw [e2]; rw [e1]; rfl) dX10_init_66 ?_
  refine jg_aload_n C dX10_init_69 rfl ?_
  refine jg_get C kg_X10_19 (v := .ref q16) (by rw [e4]; rw [e3]; rw [e2]; rw [e1]; rfl) dX10_init_70 ?_
  refine jg_aload_n C dX10_init_73 rfl ?_
  refine jg_get C kg_X10_26 (v := .ref q27) (by rw [e4]; rw [e3]; rw [e2]; rw [e1]; rfl) dX10_init_74 ?_
  refine jg_aload_n C dX10_init_77 rfl ?_
  refine jg_get C kg_X10_35 (v := .ref q38) (by rw [e4]; rw [e3]; rw [e2]; rw [e1]; rfl) dX10_init_78 ?_
  refine jg_call (fun _ => True) jg_ZT trivial C (ws := (h0, .inr (10, f4)) :: t4) [.ref q5, .ref q16, .ref q27, .ref q38] _ (fun sz => ci_X9 E q61 sz q5 q16 q27 q38) ky_X9_init rfl kz_X9_init (Or.inl (jt_1 187 rfl rfl)) (by decide) rfl (Nat.le_of_ble_eq_true rfl) (by decide) (by decide) dX10_init_81 (fun w81 p81 => ?_)
  obtain ⟨q61_q7, q61_q15, q61_q23, q61_q31, rfl⟩ := p81
  refine jg_putF C hI kg_X10_44 ⟨rfl, rfl⟩ l4 (by decide) dX10_init_84 (fun f5 l5 e5 => ?_)
  refine jg_tl (fun t5 g5 => ?_)
  refine jg_aload_n C dX10_init_87 rfl ?_
  refine jg_new C kn_X10_48 (by decide) (by decide) dX10_init_88 (fun q88 => ?_)
  refine jg_dup C dX10_init_91 rfl ?_
  refine jg_aload_n C dX10_init_92 rfl ?_
  refine jg_get C kg_X10_10 (v := .ref q5) (by rw [e5]; rw [e4]; rw [e3]; rw [e2]; rw [e1]; rfl) dX10_init_93 ?_
  refine jg_aload_n C dX10_init_96 rfl ?_
  refine jg_get C kg_X10_19 (v := .ref q16) (by rw [e5]; rw [e4]; rw [e3]; rw [e2]; rw [e1]; rfl) dX10_init_97 ?_
  refine jg_aload_n C dX10_init_100 rfl ?_
  refine jg_get C kg_X10_26 (v := .ref q27) (by rw [e5]; rw [e4]; rw [e3]; rw [e2]; rw [e1]; rfl) dX10_init_101 ?_
  refine jg_call (fun _ => True) jg_ZT trivial C (ws := (h0, .inr (10, f5)) :: t5) [.ref q5, .ref q16, .ref q27] _ (fun sz => ci_X5 E q88 sz q5 q16 q27) ky_X5_init rfl kz_X5_init (Or.inl (jt_1 238 rfl rfl)) (by decide) rfl (Nat.le_of_ble_eq_true rfl) (by decide) (by decide) dX10_init_104 (fun w104 p104 => ?_)
  obtain ⟨q88_q7, q88_q15, q88_q23, rfl⟩ := p104
  refine jg_putF C hI kg_X10_51 ⟨rfl, rfl⟩ l5 (by decide) dX10_init_107 (fun f6 l6 e6 => ?_)
  refine jg_tl (fun t6 g6 => ?_)
  refine jg_aload_n C dX10_init_110 rfl ?_
  refine jg_new C kn_X10_55 (by decide) (by decide) dX10_init_111 (fun q111 => ?_)
  refine jg_dup C dX10_init_114 rfl ?_
  refine jg_call (fun _ => True) jg_ZT trivial C (ws := (h0, .inr (10, f6)) :: t6) [] _ (fun sz => ci_X4 E q111 sz) ky_X4_init rfl kz_X4_init (Or.inr ⟨_, hZ.2.2.2.1⟩) (by decide) rfl (Nat.le_of_ble_eq_true rfl) (by decide) (by decide) dX10_init_115 (fun w115 p115 => ?_)
  obtain ⟨q111_q7, q111_q15, q111_q23, q111_q31, q111_q39, q111_q47, q111_q55, rfl⟩ := p115
  refine jg_putF C hI kg_X10_58 ⟨rfl, rfl⟩ l6 (by decide) dX10_init_118 (fun f7 l7 e7 => ?_)
  refine jg_tl (fun t7 g7 => ?_)
  refine jg_aload_n C dX10_init_121 rfl ?_
  refine jg_new C kn_X10_62 (by decide) (by decide) dX10_init_122 (fun q122 => ?_)
  refine jg_dup C dX10_init_125 rfl ?_
  refine jg_call (fun _ => True) jg_ZT trivial C (ws := (h0, .inr (10, f7)) :: t7) [] _ (fun sz => ci_X7 E q122 sz) ky_X7_init rfl kz_X7_init (Or.inr ⟨_, hZ.2.2.2.2.1⟩) (by decide) rfl (Nat.le_of_ble_eq_true rfl) (by decide) (by decide) dX10_init_126 (fun w126 p126 => ?_)
  obtain ⟨q122_q8, q122_q15, rfl⟩ := p126
  refine jg_putF C hI kg_X10_65 ⟨rfl, rfl⟩ l7 (by decide) dX10_init_129 (fun f8 l8 e8 => ?_)
  refine jg_tl (fun t8 g8 => ?_)
  refine jg_aload_n C dX10_init_132 rfl ?_
  refine jg_new C kn_X10_69 (by decide) (by decide) dX10_init_133 (fun q133 => ?_)
  refine jg_dup C dX10_init_136 rfl ?_
  refine jg_call jg_Z jg_ZZ hZ C (ws := (h0, .inr (10, f8)) :: t8) [] _ (fun sz => ci_X6 E q133 sz) ky_X6_init rfl kz_X6_init (Or.inr ⟨_, hZ.2.2.2.2.2.1⟩) (by decide) rfl (Nat.le_of_ble_eq_true rfl) (by decide) (by decide) dX10_init_137 (fun w137 p137 => ?_)
  obtain ⟨q133_q8, q133_q14, q133_q14_q8, q133_q14_q15, rfl⟩ := p137
  refine jg_putF C hI kg_X10_72 ⟨rfl, rfl⟩ l8 (by decide) dX10_init_140 (fun f9 l9 e9 => ?_)
  refine jg_tl (fun t9 g9 => ?_)
  refine jg_aload_n C dX10_init_143 rfl ?_
  refine jg_new C kn_X10_76 (by decide) (by decide) dX10_init_144 (fun q144 => ?_)
  refine jg_dup C dX10_init_147 rfl ?_
  refine jg_aload_n C dX10_init_148 rfl ?_
  refine jg_get C kg_X10_19 (v := .ref q16) (by rw [e9]; rw [e8]; rw [e7]; rw [e6]; rw [e5]; rw [e4]; rw [e3]; rw [e2]; rw [e1]; rfl) dX10_init_149 ?_
  refine jg_aload_n C dX10_init_152 rfl ?_
  refine jg_get C kg_X10_58 (v := .ref q111) (by rw [e9]; rw [e8]; rw [e7]; rw [e6]; rw [e5]; rw [e4]; rw [e3]; rw [e2]; rw [e1]; rfl) dX10_init_153 ?_
  refine jg_aload_n C dX10_init_156 rfl ?_
  refine jg_get C kg_X10_65 (v := .ref q122) (by rw [e9]; rw [e8]; rw [e7]; rw [e6]; rw [e5]; rw [e4]; rw [e3]; rw [e2]; rw [e1]; rfl) dX10_init_157 ?_
  refine jg_call (fun _ => True) jg_ZT trivial C (ws := (h0, .inr (10, f9)) :: t9) [.ref q16, .ref q111, .ref q122] _ (fun sz => ci_X0 E q144 sz q16 q111 q122) ky_X0_init rfl kz_X0_init (Or.inl (jt_2 140 rfl rfl)) (by decide) rfl (Nat.le_of_ble_eq_true rfl) (by decide) (by decide) dX10_init_160 (fun w160 p160 => ?_)
  obtain ⟨q144_q7, q144_q15, q144_q23, q144_q31, q144_q40, rfl⟩ := p160
  refine jg_putF C hI kg_X10_81 ⟨rfl, rfl⟩ l9 (by decide) dX10_init_163 (fun f10 l10 e10 => ?_)
  refine jg_tl (fun t10 g10 => ?_)
  refine jg_aload_n C dX10_init_166 rfl ?_
  refine jg_iconst C 0 dX10_init_167 (by decide) ?_
  refine jg_puti C kg_X10_85 ⟨rfl, rfl⟩ l10 (by decide) dX10_init_168 (fun f11 l11 e11 => ?_)
  refine jg_tl (fun t11 g11 => ?_)
  have hf : f11 = [.ref q5, .ref q16, .ref q27, .ref q38, .ref q61, .ref q88, .ref q111, .ref q122, .ref q133, .ref q144, .int 0] := by
    rw [e11, e10, e9, e8, e7, e6, e5, e4, e3, e2, e1]; rfl
  have ht : t11 = [(q5, .inr (3, [.ref q5_q6, .ref q5_q13, .ref q5_q20, .ref q5_q27, .ref q5_q35, .int 0])), (q5_q6, .inl (E.2.2.2.1 0, 4, .inl (fun _ => 0))), (q5_q13, .inl (E.2.2.2.1 0, 4, .inl (fun _ => 0))), (q5_q20, .inl (E.2.2.2.1 0, 4, .inl (fun _ => 0))), (q5_q27, .inl (E.2.2.2.1 0, 4, .inl (fun _ => 0))), (q5_q35, .inl (E.2.2.2.1 0, 25, .inl (fun _ => 0))), (q16, .inr (2, [.ref q16_q7, .ref q16_q15, .ref q16_q23, .ref q16_q31, .ref q16_q39, .ref q16_q47, .ref q16_q55, .ref q16_q63, .int 0])), (q16_q7, .inl (E.2.2.2.1 0, 20, .inl (fun _ => 0))), (q16_q15, .inl (E.2.2.2.1 0, 20, .inl (fun _ => 0))), (q16_q23, .inl (E.2.2.2.1 0, 20, .inl (fun _ => 0))), (q16_q31, .inl (E.2.2.2.1 0, 20, .inl (fun _ => 0))), (q16_q39, .inl (E.2.2.2.1 0, 20, .inl (fun _ => 0))), (q16_q47, .inl (E.2.2.2.1 0, 20, .inl (fun _ => 0))), (q16_q55, .inl (E.2.2.2.1 0, 20, .inl (fun _ => 0))), (q16_q63, .inl (E.2.2.2.1 0, 20, .inl (fun _ => 0))), (q27, .inr (8, [.ref q27_q7, .ref q27_q15, .ref q27_q23, .ref q27_q31, .ref q27_q39, .ref q27_q47, .ref q27_q55, .ref q27_q64, .int 0])), (q27_q7, .inl (E.2.2.2.1 0, 60, .inl (fun _ => 0))), (q27_q15, .inl (E.2.2.2.1 0, 60, .inl (fun _ => 0))), (q27_q23, .inl (E.2.2.2.1 0, 60, .inl (fun _ => 0))), (q27_q31, .inl (E.2.2.2.1 0, 60, .inl (fun _ => 0))), (q27_q39, .inl (E.2.2.2.1 0, 60, .inl (fun _ => 0))), (q27_q47, .inl (E.2.2.2.1 0, 60, .inl (fun _ => 0))), (q27_q55, .inl (E.2.2.2.1 1, 60, .inl (fun _ => 0))), (q27_q64, .inl (E.2.2.2.1 0, 3060, .inl (fun _ => 0))), (q38, .inr (1, [.ref q5, .ref q16, .ref q27])), (q61, .inr (9, [.ref q5, .ref q16, .ref q27, .ref q38, .ref q61_q7, .ref q61_q15, .ref q61_q23, .ref q61_q31, .int 0, .int 0, .int 0, .int 0, .int 0])), (q61_q7, .inl (E.2.2.2.1 0, 24, .inl (jg_h 24))), (q61_q15, .inl (E.2.2.2.1 0, 10, .inl (fun _ => 0))), (q61_q23, .inl (E.2.2.2.1 0, 60, .inl (fun _ => 0))), (q61_q31, .inl (E.2.2.2.1 0, 60, .inl (fun _ => 0))), (q88, .inr (5, [.ref q5, .ref q16, .ref q27, .ref q88_q7, .ref q88_q15, .ref q88_q23, .int 50, .int 0, .int 0])), (q88_q7, .inl (E.2.2.2.1 0, 60, .inl (fun _ => 0))), (q88_q15, .inl (E.2.2.2.1 0, 60, .inl (fun _ => 0))), (q88_q23, .inl (E.2.2.2.1 0, 60, .inl (fun _ => 0))), (q111, .inr (4, [.ref q111_q7, .ref q111_q15, .ref q111_q23, .ref q111_q31, .ref q111_q39, .ref q111_q47, .ref q111_q55, .int 0, .int 0])), (q111_q7, .inl (E.2.2.2.1 0, 10, .inl (fun _ => 0))), (q111_q15, .inl (E.2.2.2.1 0, 10, .inl (fun _ => 0))), (q111_q23, .inl (E.2.2.2.1 0, 50, .inl (fun _ => 0))), (q111_q31, .inl (E.2.2.2.1 0, 100, .inl (fun _ => 0))), (q111_q39, .inl (E.2.2.2.1 0, 100, .inl (fun _ => 0))), (q111_q47, .inl (E.2.2.2.1 0, 100, .inl (fun _ => 0))), (q111_q55, .inl (E.2.2.2.1 0, 100, .inl (fun _ => 0))), (q122, .inr (7, [.ref q122_q8, .ref q122_q15, .int 0, .int 0, .int 0, .int 0])), (q122_q8, .inl (E.2.2.2.1 0, 300, .inl (fun _ => 0))), (q122_q15, .inl (E.2.2.2.1 0, 5, .inl (fun _ => 0))), (q133, .inr (6, [.ref q133_q8, .ref q133_q14, .int 0, .int (-1), .int 0, .int 0, .int 0])), (q133_q8, .inl (E.2.2.2.1 0, 300, .inl (fun _ => 0))), (q133_q14, .inr (7, [.ref q133_q14_q8, .ref q133_q14_q15, .int 0, .int 0, .int 0, .int 0])), (q133_q14_q8, .inl (E.2.2.2.1 0, 300, .inl (fun _ => 0))), (q133_q14_q15, .inl (E.2.2.2.1 0, 5, .inl (fun _ => 0))), (q144, .inr (0, [.ref q16, .ref q111, .ref q122, .ref q144_q7, .ref q144_q15, .ref q144_q23, .ref q144_q31, .ref q144_q40, .int (-1)])), (q144_q7, .inl (E.2.2.2.1 0, 50, .inl (fun _ => 0))), (q144_q15, .inl (E.2.2.2.1 0, 10, .inl (fun _ => 0))), (q144_q23, .inl (E.2.2.2.1 0, 20, .inl (fun _ => 0))), (q144_q31, .inl (E.2.2.2.1 1, 20, .inl (fun _ => 0))), (q144_q40, .inl (E.2.2.2.1 0, 400, .inl (fun _ => 0)))] := by
    rw [g11, g10, g9, g8, g7, g6, g5, g4, g3, g2, g1]; rfl
  rw [hf, ht]
  refine jg_sub [0, 1, 7, 16, 25, 26, 31, 35, 43, 46, 51, 48, 2, 3, 4, 5, 6, 8, 9, 10, 11, 12, 13, 14, 15, 17, 18, 19, 20, 21, 22, 23, 24, 27, 28, 29, 30, 32, 33, 34, 36, 37, 38, 39, 40, 41, 42, 44, 45, 47, 52, 53, 54, 55, 56, 49, 50] (jf_w jh_X (jg_E E (fun k => [h0, q5, q16, q27, q38, q61, q88, q111, q122, q133, q144, q133_q14, q5_q6, q5_q13, q5_q20, q5_q27, q5_q35, q16_q7, q16_q15, q16_q23, q16_q31, q16_q39, q16_q47, q16_q55, q16_q63, q27_q7, q27_q15, q27_q23, q27_q31, q27_q39, q27_q47, q27_q55, q27_q64, q61_q7, q61_q15, q61_q23, q61_q31, q88_q7, q88_q15, q88_q23, q111_q7, q111_q15, q111_q23, q111_q31, q111_q39, q111_q47, q111_q55, q122_q8, q122_q15, q133_q8, q144_q7, q144_q15, q144_q23, q144_q31, q144_q40, q133_q14_q8, q133_q14_q15].getD k 0)) x_s0) (by decide +kernel) (by rw [jg_wq]; rfl) ?_
  exact ret _ _ _ dX10_init_171 ⟨_, rfl, rfl⟩
