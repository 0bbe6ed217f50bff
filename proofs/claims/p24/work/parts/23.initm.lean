set_option maxHeartbeats 4000000 in
set_option maxRecDepth 100000 in
theorem ci_X11 (E : jf_E) (h0 sz : Nat) : jg_M (fun _ => True) E yX11_init cX11_init 1 2 41 5965 h0 11 [.int 0, .int 0, .int 0, .null, .null, .null, .null, .int 0, .null, .null, .null, .null, .null, .null, .null, .null, .null, .int 0, .null, .null, .null, .null, .null, .null, .null, .null, .null, .int 0, .int 0, .null, .null, .int 0, .int 0, .int 0, .int 0, .int 0, .null, .null, .null, .int 0, .null, .null, .null, .null, .int 0, .null, .int 0, .null, .int 0, .int 0, .null, .int 0, .null, .int 0, .int 0, .null, .int 0, .null, .int 0, .int 0, .int 0, .int 0, .long 0, .int 0, .int 0, .null, .null, .null, .null, .int 0] [] sz (fun ws => ∃ f : Nat → Nat, f 0 = h0 ∧ ws = jf_w jh_M (jg_E E f) m_s0) := by
  refine jg_mk (by decide) rfl (Nat.le_of_ble_eq_true rfl) ?_
  intro G A C hI hZ ret
  refine jg_aload_n C dX11_init_0 rfl ?_
  refine jg_obj C ko_X11 (by decide) (by decide) dX11_init_1 ?_
  refine jg_aload_n C dX11_init_4 rfl ?_
  refine jg_iconst C 4 dX11_init_5 (by decide) ?_
  refine jg_newa C (t := 0) (N := 4) (Or.inl ⟨rfl, rfl⟩) kw_int (by decide) (by decide) (by decide) dX11_init_6 (by decide) (by decide) (fun q6 => ?_)
  refine jg_putF C hI kg_X11_7 ⟨rfl, rfl⟩ rfl (by decide) dX11_init_8 (fun f1 l1 e1 => ?_)
  replace e1 : f1 = [.int 0, .int 0, .int 0, .ref q6, .null, .null, .null, .int 0, .null, .null, .null, .null, .null, .null, .null, .null, .null, .int 0, .null, .null, .null, .null, .null, .null, .null, .null, .null, .int 0, .int 0, .null, .null, .int 0, .int 0, .int 0, .int 0, .int 0, .null, .null, .null, .int 0, .null, .null, .null, .null, .int 0, .null, .int 0, .null, .int 0, .int 0, .null, .int 0, .null, .int 0, .int 0, .null, .int 0, .null, .int 0, .int 0, .int 0, .int 0, .long 0, .int 0, .int 0, .null, .null, .null, .null, .int 0] := by rw [e1]; rfl
  refine jg_tl (fun t1 g1 => ?_)
  replace g1 : t1 = [(q6, .inl (E.2.2.2.1 0, 4, .inl (fun _ => 0)))] := by rw [g1]; rfl
  refine jg_aload_n C dX11_init_11 rfl ?_
  refine jg_iconst C 4 dX11_init_12 (by decide) ?_
  refine jg_newa C (t := 0) (N := 4) (Or.inl ⟨rfl, rfl⟩) kw_int (by decide) (by decide) (by decide) dX11_init_13 (by decide) (by decide) (fun q13 => ?_)
  refine jg_putF C hI kg_X11_13 ⟨rfl, rfl⟩ l1 (by decide) dX11_init_15 (fun f2 l2 e2 => ?_)
  replace e2 : f2 = [.int 0, .int 0, .int 0, .ref q6, .ref q13, .null, .null, .int 0, .null, .null, .null, .null, .null, .null, .null, .null, .null, .int 0, .null, .null, .null, .null, .null, .null, .null, .null, .null, .int 0, .int 0, .null, .null, .int 0, .int 0, .int 0, .int 0, .int 0, .null, .null, .null, .int 0, .null, .null, .null, .null, .int 0, .null, .int 0, .null, .int 0, .int 0, .null, .int 0, .null, .int 0, .int 0, .null, .int 0, .null, .int 0, .int 0, .int 0, .int 0, .long 0, .int 0, .int 0, .null, .null, .null, .null, .int 0] := by rw [e2, e1]; rfl
  clear e1 l1
  refine jg_tl (fun t2 g2 => ?_)
  replace g2 : t2 = [(q6, .inl (E.2.2.2.1 0, 4, .inl (fun _ => 0))), (q13, .inl (E.2.2.2.1 0, 4, .inl (fun _ => 0)))] := by rw [g2, g1]; rfl
  clear g1
  refine jg_aload_n C dX11_init_18 rfl ?_
  refine jg_iconst C 4 dX11_init_19 (by decide) ?_
  refine jg_newa C (t := 0) (N := 4) (Or.inl ⟨rfl, rfl⟩) kw_int (by decide) (by decide) (by decide) dX11_init_20 (by decide) (by decide) (fun q20 => ?_)
  refine jg_putF C hI kg_X11_16 ⟨rfl, rfl⟩ l2 (by decide) dX11_init_22 (fun f3 l3 e3 => ?_)
  replace e3 : f3 = [.int 0, .int 0, .int 0, .ref q6, .ref q13, .ref q20, .null, .int 0, .null, .null, .null, .null, .null, .null, .null, .null, .null, .int 0, .null, .null, .null, .null, .null, .null, .null, .null, .null, .int 0, .int 0, .null, .null, .int 0, .int 0, .int 0, .int 0, .int 0, .null, .null, .null, .int 0, .null, .null, .null, .null, .int 0, .null, .int 0, .null, .int 0, .int 0, .null, .int 0, .null, .int 0, .int 0, .null, .int 0, .null, .int 0, .int 0, .int 0, .int 0, .long 0, .int 0, .int 0, .null, .null, .null, .null, .int 0] := by rw [e3, e2]; rfl
  clear e2 l2
  refine jg_tl (fun t3 g3 => ?_)
  replace g3 : t3 = [(q6, .inl (E.2.2.2.1 0, 4, .inl (fun _ => 0))), (q13, .inl (E.2.2.2.1 0, 4, .inl (fun _ => 0))), (q20, .inl (E.2.2.2.1 0, 4, .inl (fun _ => 0)))] := by rw [g3, g2]; rfl
  clear g2
  refine jg_aload_n C dX11_init_25 rfl ?_
  refine jg_iconst C 4 dX11_init_26 (by decide) ?_
  refine jg_newa C (t := 0) (N := 4) (Or.inl ⟨rfl, rfl⟩) kw_int (by decide) (by decide) (by decide) dX11_init_27 (by decide) (by decide) (fun q27 => ?_)
  refine jg_putF C hI kg_X11_19 ⟨rfl, rfl⟩ l3 (by decide) dX11_init_29 (fun f4 l4 e4 => ?_)
  replace e4 : f4 = [.int 0, .int 0, .int 0, .ref q6, .ref q13, .ref q20, .ref q27, .int 0, .null, .null, .null, .null, .null, .null, .null, .null, .null, .int 0, .null, .null, .null, .null, .null, .null, .null, .null, .null, .int 0, .int 0, .null, .null, .int 0, .int 0, .int 0, .int 0, .int 0, .null, .null, .null, .int 0, .null, .null, .null, .null, .int 0, .null, .int 0, .null, .int 0, .int 0, .null, .int 0, .null, .int 0, .int 0, .null, .int 0, .null, .int 0, .int 0, .int 0, .int 0, .long 0, .int 0, .int 0, .null, .null, .null, .null, .int 0] := by rw [e4, e3]; rfl
  clear e3 l3
  refine jg_tl (fun t4 g4 => ?_)
  replace g4 : t4 = [(q6, .inl (E.2.2.2.1 0, 4, .inl (fun _ => 0))), (q13, .inl (E.2.2.2.1 0, 4, .inl (fun _ => 0))), (q20, .inl (E.2.2.2.1 0, 4, .inl (fun _ => 0))), (q27, .inl (E.2.2.2.1 0, 4, .inl (fun _ => 0)))] := by rw [g4, g3]; rfl
  clear g3
  refine jg_aload_n C dX11_init_32 rfl ?_
  refine jg_bipush C 20 dX11_init_33 (by decide) ?_
  refine jg_newa C (t := 0) (N := 20) (Or.inl ⟨rfl, rfl⟩) kw_int (by decide) (by decide) (by decide) dX11_init_35 (by decide) (by decide) (fun q35 => ?_)
  refine jg_putF C hI kg_X11_22 ⟨rfl, rfl⟩ l4 (by decide) dX11_init_37 (fun f5 l5 e5 => ?_)
  replace e5 : f5 = [.int 0, .int 0, .int 0, .ref q6, .ref q13, .ref q20, .ref q27, .int 0, .ref q35, .null, .null, .null, .null, .null, .null, .null, .null, .int 0, .null, .null, .null, .null, .null, .null, .null, .null, .null, .int 0, .int 0, .null, .null, .int 0, .int 0, .int 0, .int 0, .int 0, .null, .null, .null, .int 0, .null, .null, .null, .null, .int 0, .null, .int 0, .null, .int 0, .int 0, .null, .int 0, .null, .int 0, .int 0, .null, .int 0, .null, .int 0, .int 0, .int 0, .int 0, .long 0, .int 0, .int 0, .null, .null, .null, .null, .int 0] := by rw [e5, e4]; rfl
  clear e4 l4
  refine jg_tl (fun t5 g5 => ?_)
  replace g5 : t5 = [(q6, .inl (E.2.2.2.1 0, 4, .inl (fun _ => 0))), (q13, .inl (E.2.2.2.1 0, 4, .inl (fun _ => 0))), (q20, .inl (E.2.2.2.1 0, 4, .inl (fun _ => 0))), (q27, .inl (E.2.2.2.1 0, 4, .inl (fun _ => 0))), (q35, .inl (E.2.2.2.1 0, 20, .inl (fun _ => 0)))] := by rw [g5, g4]; rfl
  clear g4
  refine jg_aload_n C dX11_init_40 rfl ?_
  refine jg_bipush C 20 dX11_init_41 (by decide) ?_
  refine jg_newa C (t := 0) (N := 20) (Or.inl ⟨rfl, rfl⟩) kw_int (by decide) (by decide) (by decide) dX11_init_43 (by decide) (by decide) (fun q43 => ?_)
  refine jg_putF C hI kg_X11_25 ⟨rfl, rfl⟩ l5 (by decide) dX11_init_45 (fun f6 l6 e6 => ?_)
  replace e6 : f6 = [.int 0, .int 0, .int 0, .ref q6, .ref q13, .ref q20, .ref q27, .int 0, .ref q35, .ref q43, .null, .null, .null, .null, .null, .null, .null, .int 0, .null, .null, .null, .null, .null, .null, .null, .null, .null, .int 0, .int 0, .null, .null, .int 0, .int 0, .int 0, .int 0, .int 0, .null, .null, .null, .int 0, .null, .null, .null, .null, .int 0, .null, .int 0, .null, .int 0, .int 0, .null, .int 0, .null, .int 0, .int 0, .null, .int 0, .null, .int 0, .int 0, .int 0, .int 0, .long 0, .int 0, .int 0, .null, .null, .null, .null, .int 0] := by rw [e6, e5]; rfl
  clear e5 l5
  refine jg_tl (fun t6 g6 => ?_)
  replace g6 : t6 = [(q6, .inl (E.2.2.2.1 0, 4, .inl (fun _ => 0))), (q13, .inl (E.2.2.2.1 0, 4, .inl (fun _ => 0))), (q20, .inl (E.2.2.2.1 0, 4, .inl (fun _ => 0))), (q27, .inl (E.2.2.2.1 0, 4, .inl (fun _ => 0))), (q35, .inl (E.2.2.2.1 0, 20, .inl (fun _ => 0))), (q43, .inl (E.2.2.2.1 0, 20, .inl (fun _ => 0)))] := by rw [g6, g5]; rfl
  clear g5
  refine jg_aload_n C dX11_init_48 rfl ?_
  refine jg_bipush C 20 dX11_init_49 (by decide) ?_
  refine jg_newa C (t := 0) (N := 20) (Or.inl ⟨rfl, rfl⟩) kw_int (by decide) (by decide) (by decide) dX11_init_51 (by decide) (by decide) (fun q51 => ?_)
  refine jg_putF C hI kg_X11_28 ⟨rfl, rfl⟩ l6 (by decide) dX11_init_53 (fun f7 l7 e7 => ?_)
  replace e7 : f7 = [.int 0, .int 0, .int 0, .ref q6, .ref q13, .ref q20, .ref q27, .int 0, .ref q35, .ref q43, .ref q51, .null, .null, .null, .null, .null, .null, .int 0, .null, .null, .null, .null, .null, .null, .null, .null, .null, .int 0, .int 0, .null, .null, .int 0, .int 0, .int 0, .int 0, .int 0, .null, .null, .null, .int 0, .null, .null, .null, .null, .int 0, .null, .int 0, .null, .int 0, .int 0, .null, .int 0, .null, .int 0, .int 0, .null, .int 0, .null, .int 0, .int 0, .int 0, .int 0, .long 0, .int 0, .int 0, .null, .null, .null, .null, .int 0] := by rw [e7, e6]; rfl
  clear e6 l6
  refine jg_tl (fun t7 g7 => ?_)
  replace g7 : t7 = [(q6, .inl (E.2.2.2.1 0, 4, .inl (fun _ => 0))), (q13, .inl (E.2.2.2.1 0, 4, .inl (fun _ => 0))), (q20, .inl (E.2.2.2.1 0, 4, .inl (fun _ => 0))), (q27, .inl (E.2.2.2.1 0, 4, .inl (fun _ => 0))), (q35, .inl (E.2.2.2.1 0, 20, .inl (fun _ => 0))), (q43, .inl (E.2.2.2.1 0, 20, .inl (fun _ => 0))), (q51, .inl (E.2.2.2.1 0, 20, .inl (fun _ => 0)))] := by rw [g7, g6]; rfl
  clear g6
  refine jg_aload_n C dX11_init_56 rfl ?_
  refine jg_bipush C 20 dX11_init_57 (by decide) ?_
  refine jg_newa C (t := 0) (N := 20) (Or.inl ⟨rfl, rfl⟩) kw_int (by decide) (by decide) (by decide) dX11_init_59 (by decide) (by decide) (fun q59 => ?_)
  refine jg_putF C hI kg_X11_31 ⟨rfl, rfl⟩ l7 (by decide) dX11_init_61 (fun f8 l8 e8 => ?_)
  replace e8 : f8 = [.int 0, .int 0, .int 0, .ref q6, .ref q13, .ref q20, .ref q27, .int 0, .ref q35, .ref q43, .ref q51, .ref q59, .null, .null, .null, .null, .null, .int 0, .null, .null, .null, .null, .null, .null, .null, .null, .null, .int 0, .int 0, .null, .null, .int 0, .int 0, .int 0, .int 0, .int 0, .null, .null, .null, .int 0, .null, .null, .null, .null, .int 0, .null, .int 0, .null, .int 0, .int 0, .null, .int 0, .null, .int 0, .int 0, .null, .int 0, .null, .int 0, .int 0, .int 0, .int 0, .long 0, .int 0, .int 0, .null, .null, .null, .null, .int 0] := by rw [e8, e7]; rfl
  clear e7 l7
  refine jg_tl (fun t8 g8 => ?_)
  replace g8 : t8 = [(q6, .inl (E.2.2.2.1 0, 4, .inl (fun _ => 0))), (q13, .inl (E.2.2.2.1 0, 4, .inl (fun _ => 0))), (q20, .inl (E.2.2.2.1 0, 4, .inl (fun _ => 0))), (q27, .inl (E.2.2.2.1 0, 4, .inl (fun _ => 0))), (q35, .inl (E.2.2.2.1 0, 20, .inl (fun _ => 0))), (q43, .inl (E.2.2.2.1 0, 20, .inl (fun _ => 0))), (q51, .inl (E.2.2.2.1 0, 20, .inl (fun _ => 0))), (q59, .inl (E.2.2.2.1 0, 20, .inl (fun _ => 0)))] := by rw [g8, g7]; rfl
  clear g7
  refine jg_aload_n C dX11_init_64 rfl ?_
  refine jg_bipush C 20 dX11_init_65 (by decide) ?_
  refine jg_newa C (t := 0) (N := 20) (Or.inl ⟨rfl, rfl⟩) kw_int (by decide) (by decide) (by decide) dX11_init_67 (by decide) (by decide) (fun q67 => ?_)
  refine jg_putF C hI kg_X11_34 ⟨rfl, rfl⟩ l8 (by decide) dX11_init_69 (fun f9 l9 e9 => ?_)
  replace e9 : f9 = [.int 0, .int 0, .int 0, .ref q6, .ref q13, .ref q20, .ref q27, .int 0, .ref q35, .ref q43, .ref q51, .ref q59, .ref q67, .null, .null, .null, .null, .int 0, .null, .null, .null, .null, .null, .null, .null, .null, .null, .int 0, .int 0, .null, .null, .int 0, .int 0, .int 0, .int 0, .int 0, .null, .null, .null, .int 0, .null, .null, .null, .null, .int 0, .null, .int 0, .null, .int 0, .int 0, .null, .int 0, .null, .int 0, .int 0, .null, .int 0, .null, .int 0, .int 0, .int 0, .int 0, .long 0, .int 0, .int 0, .null, .null, .null, .null, .int 0] := by rw [e9, e8]; rfl
  clear e8 l8
  refine jg_tl (fun t9 g9 => ?_)
  replace g9 : t9 = [(q6, .inl (E.2.2.2.1 0, 4, .inl (fun _ => 0))), (q13, .inl (E.2.2.2.1 0, 4, .inl (fun _ => 0))), (q20, .inl (E.2.2.2.1 0, 4, .inl (fun _ => 0))), (q27, .inl (E.2.2.2.1 0, 4, .inl (fun _ => 0))), (q35, .inl (E.2.2.2.1 0, 20, .inl (fun _ => 0))), (q43, .inl (E.2.2.2.1 0, 20, .inl (fun _ => 0))), (q51, .inl (E.2.2.2.1 0, 20, .inl (fun _ => 0))), (q59, .inl (E.2.2.2.1 0, 20, .inl (fun _ => 0))), (q67, .inl (E.2.2.2.1 0, 20, .inl (fun _ => 0)))] := by rw [g9, g8]; rfl
  clear g8
  refine jg_aload_n C dX11_init_72 rfl ?_
  refine jg_bipush C 20 dX11_init_73 (by decide) ?_
  refine jg_newa C (t := 0) (N := 20) (Or.inl ⟨rfl, rfl⟩) kw_int (by decide) (by decide) (by decide) dX11_init_75 (by decide) (by decide) (fun q75 => ?_)
  refine jg_putF C hI kg_X11_37 ⟨rfl, rfl⟩ l9 (by decide) dX11_init_77 (fun f10 l10 e10 => ?_)
  replace e10 : f10 = [.int 0, .int 0, .int 0, .ref q6, .ref q13, .ref q20, .ref q27, .int 0, .ref q35, .ref q43, .ref q51, .ref q59, .ref q67, .ref q75, .null, .null, .null, .int 0, .null, .null, .null, .null, .null, .null, .null, .null, .null, .int 0, .int 0, .null, .null, .int 0, .int 0, .int 0, .int 0, .int 0, .null, .null, .null, .int 0, .null, .null, .null, .null, .int 0, .null, .int 0, .null, .int 0, .int 0, .null, .int 0, .null, .int 0, .int 0, .null, .int 0, .null, .int 0, .int 0, .int 0, .int 0, .long 0, .int 0, .int 0, .null, .null, .null, .null, .int 0] := by rw [e10, e9]; rfl
  clear e9 l9
  refine jg_tl (fun t10 g10 => ?_)
  replace g10 : t10 = [(q6, .inl (E.2.2.2.1 0, 4, .inl (fun _ => 0))), (q13, .inl (E.2.2.2.1 0, 4, .inl (fun _ => 0))), (q20, .inl (E.2.2.2.1 0, 4, .inl (fun _ => 0))), (q27, .inl (E.2.2.2.1 0, 4, .inl (fun _ => 0))), (q35, .inl (E.2.2.2.1 0, 20, .inl (fun _ => 0))), (q43, .inl (E.2.2.2.1 0, 20, .inl (fun _ => 0))), (q51, .inl (E.2.2.2.1 0, 20, .inl (fun _ => 0))), (q59, .inl (E.2.2.2.1 0, 20, .inl (fun _ => 0))), (q67, .inl (E.2.2.2.1 0, 20, .inl (fun _ => 0))), (q75, .inl (E.2.2.2.1 0, 20, .inl (fun _ => 0)))] := by rw [g10, g9]; rfl
  clear g9
  refine jg_aload_n C dX11_init_80 rfl ?_
  refine jg_bipush C 20 dX11_init_81 (by decide) ?_
  refine jg_newa C (t := 0) (N := 20) (Or.inl ⟨rfl, rfl⟩) kw_int (by decide) (by decide) (by decide) dX11_init_83 (by decide) (by decide) (fun q83 => ?_)
  refine jg_putF C hI kg_X11_40 ⟨rfl, rfl⟩ l10 (by decide) dX11_init_85 (fun f11 l11 e11 => ?_)
  replace e11 : f11 = [.int 0, .int 0, .int 0, .ref q6, .ref q13, .ref q20, .ref q27, .int 0, .ref q35, .ref q43, .ref q51, .ref q59, .ref q67, .ref q75, .ref q83, .null, .null, .int 0, .null, .null, .null, .null, .null, .null, .null, .null, .null, .int 0, .int 0, .null, .null, .int 0, .int 0, .int 0, .int 0, .int 0, .null, .null, .null, .int 0, .null, .null, .null, .null, .int 0, .null, .int 0, .null, .int 0, .int 0, .null, .int 0, .null, .int 0, .int 0, .null, .int 0, .null, .int 0, .int 0, .int 0, .int 0, .long 0, .int 0, .int 0, .null, .null, .null, .null, .int 0] := by rw [e11, e10]; rfl
  clear e10 l10
  refine jg_tl (fun t11 g11 => ?_)
  replace g11 : t11 = [(q6, .inl (E.2.2.2.1 0, 4, .inl (fun _ => 0))), (q13, .inl (E.2.2.2.1 0, 4, .inl (fun _ => 0))), (q20, .inl (E.2.2.2.1 0, 4, .inl (fun _ => 0))), (q27, .inl (E.2.2.2.1 0, 4, .inl (fun _ => 0))), (q35, .inl (E.2.2.2.1 0, 20, .inl (fun _ => 0))), (q43, .inl (E.2.2.2.1 0, 20, .inl (fun _ => 0))), (q51, .inl (E.2.2.2.1 0, 20, .inl (fun _ => 0))), (q59, .inl (E.2.2.2.1 0, 20, .inl (fun _ => 0))), (q67, .inl (E.2.2.2.1 0, 20, .inl (fun _ => 0))), (q75, .inl (E.2.2.2.1 0, 20, .inl (fun _ => 0))), (q83, .inl (E.2.2.2.1 0, 20, .inl (fun _ => 0)))] := by rw [g11, g10]; rfl
  clear g10
  refine jg_aload_n C dX11_init_88 rfl ?_
  refine jg_bipush C 20 dX11_init_89 (by decide) ?_
  refine jg_newa C (t := 0) (N := 20) (Or.inl ⟨rfl, rfl⟩) kw_int (by decide) (by decide) (by decide) dX11_init_91 (by decide) (by decide) (fun q91 => ?_)
  refine jg_putF C hI kg_X11_43 ⟨rfl, rfl⟩ l11 (by decide) dX11_init_93 (fun f12 l12 e12 => ?_)
  replace e12 : f12 = [.int 0, .int 0, .int 0, .ref q6, .ref q13, .ref q20, .ref q27, .int 0, .ref q35, .ref q43, .ref q51, .ref q59, .ref q67, .ref q75, .ref q83, .ref q91, .null, .int 0, .null, .null, .null, .null, .null, .null, .null, .null, .null, .int 0, .int 0, .null, .null, .int 0, .int 0, .int 0, .int 0, .int 0, .null, .null, .null, .int 0, .null, .null, .null, .null, .int 0, .null, .int 0, .null, .int 0, .int 0, .null, .int 0, .null, .int 0, .int 0, .null, .int 0, .null, .int 0, .int 0, .int 0, .int 0, .long 0, .int 0, .int 0, .null, .null, .null, .null, .int 0] := by rw [e12, e11]; rfl
  clear e11 l11
  refine jg_tl (fun t12 g12 => ?_)
  replace g12 : t12 = [(q6, .inl (E.2.2.2.1 0, 4, .inl (fun _ => 0))), (q13, .inl (E.2.2.2.1 0, 4, .inl (fun _ => 0))), (q20, .inl (E.2.2.2.1 0, 4, .inl (fun _ => 0))), (q27, .inl (E.2.2.2.1 0, 4, .inl (fun _ => 0))), (q35, .inl (E.2.2.2.1 0, 20, .inl (fun _ => 0))), (q43, .inl (E.2.2.2.1 0, 20, .inl (fun _ => 0))), (q51, .inl (E.2.2.2.1 0, 20, .inl (fun _ => 0))), (q59, .inl (E.2.2.2.1 0, 20, .inl (fun _ => 0))), (q67, .inl (E.2.2.2.1 0, 20, .inl (fun _ => 0))), (q75, .inl (E.2.2.2.1 0, 20, .inl (fun _ => 0))), (q83, .inl (E.2.2.2.1 0, 20, .inl (fun _ => 0))), (q91, .inl (E.2.2.2.1 0, 20, .inl (fun _ => 0)))] := by rw [g12, g11]; rfl
  clear g11
  refine jg_aload_n C dX11_init_96 rfl ?_
  refine jg_bipush C 25 dX11_init_97 (by decide) ?_
  refine jg_newa C (t := 0) (N := 25) (Or.inl ⟨rfl, rfl⟩) kw_int (by decide) (by decide) (by decide) dX11_init_99 (by decide) (by decide) (fun q99 => ?_)
  refine jg_putF C hI kg_X11_46 ⟨rfl, rfl⟩ l12 (by decide) dX11_init_101 (fun f13 l13 e13 => ?_)
  replace e13 : f13 = [.int 0, .int 0, .int 0, .ref q6, .ref q13, .ref q20, .ref q27, .int 0, .ref q35, .ref q43, .ref q51, .ref q59, .ref q67, .ref q75, .ref q83, .ref q91, .ref q99, .int 0, .null, .null, .null, .null, .null, .null, .null, .null, .null, .int 0, .int 0, .null, .null, .int 0, .int 0, .int 0, .int 0, .int 0, .null, .null, .null, .int 0, .null, .null, .null, .null, .int 0, .null, .int 0, .null, .int 0, .int 0, .null, .int 0, .null, .int 0, .int 0, .null, .int 0, .null, .int 0, .int 0, .int 0, .int 0, .long 0, .int 0, .int 0, .null, .null, .null, .null, .int 0] := by rw [e13, e12]; rfl
  clear e12 l12
  refine jg_tl (fun t13 g13 => ?_)
  replace g13 : t13 = [(q6, .inl (E.2.2.2.1 0, 4, .inl (fun _ => 0))), (q13, .inl (E.2.2.2.1 0, 4, .inl (fun _ => 0))), (q20, .inl (E.2.2.2.1 0, 4, .inl (fun _ => 0))), (q27, .inl (E.2.2.2.1 0, 4, .inl (fun _ => 0))), (q35, .inl (E.2.2.2.1 0, 20, .inl (fun _ => 0))), (q43, .inl (E.2.2.2.1 0, 20, .inl (fun _ => 0))), (q51, .inl (E.2.2.2.1 0, 20, .inl (fun _ => 0))), (q59, .inl (E.2.2.2.1 0, 20, .inl (fun _ => 0))), (q67, .inl (E.2.2.2.1 0, 20, .inl (fun _ => 0))), (q75, .inl (E.2.2.2.1 0, 20, .inl (fun _ => 0))), (q83, .inl (E.2.2.2.1 0, 20, .inl (fun _ => 0))), (q91, .inl (E.2.2.2.1 0, 20, .inl (fun _ => 0))), (q99, .inl (E.2.2.2.1 0, 25, .inl (fun _ => 0)))] := by rw [g13, g12]; rfl
  clear g12
  refine jg_aload_n C dX11_init_104 rfl ?_
  refine jg_bipush C 60 dX11_init_105 (by decide) ?_
  refine jg_newa C (t := 1) (N := 60) (Or.inr ⟨rfl, rfl⟩) kw_boolean (by decide) (by decide) (by decide) dX11_init_107 (by decide) (by decide) (fun q107 => ?_)
  refine jg_putF C hI kg_X11_49 ⟨rfl, rfl⟩ l13 (by decide) dX11_init_109 (fun f14 l14 e14 => ?_)
  replace e14 : f14 = [.int 0, .int 0, .int 0, .ref q6, .ref q13, .ref q20, .ref q27, .int 0, .ref q35, .ref q43, .ref q51, .ref q59, .ref q67, .ref q75, .ref q83, .ref q91, .ref q99, .int 0, .ref q107, .null, .null, .null, .null, .null, .null, .null, .null, .int 0, .int 0, .null, .null, .int 0, .int 0, .int 0, .int 0, .int 0, .null, .null, .null, .int 0, .null, .null, .null, .null, .int 0, .null, .int 0, .null, .int 0, .int 0, .null, .int 0, .null, .int 0, .int 0, .null, .int 0, .null, .int 0, .int 0, .int 0, .int 0, .long 0, .int 0, .int 0, .null, .null, .null, .null, .int 0] := by rw [e14, e13]; rfl
  clear e13 l13
  refine jg_tl (fun t14 g14 => ?_)
  replace g14 : t14 = [(q6, .inl (E.2.2.2.1 0, 4, .inl (fun _ => 0))), (q13, .inl (E.2.2.2.1 0, 4, .inl (fun _ => 0))), (q20, .inl (E.2.2.2.1 0, 4, .inl (fun _ => 0))), (q27, .inl (E.2.2.2.1 0, 4, .inl (fun _ => 0))), (q35, .inl (E.2.2.2.1 0, 20, .inl (fun _ => 0))), (q43, .inl (E.2.2.2.1 0, 20, .inl (fun _ => 0))), (q51, .inl (E.2.2.2.1 0, 20, .inl (fun _ => 0))), (q59, .inl (E.2.2.2.1 0, 20, .inl (fun _ => 0))), (q67, .inl (E.2.2.2.1 0, 20, .inl (fun _ => 0))), (q75, .inl (E.2.2.2.1 0, 20, .inl (fun _ => 0))), (q83, .inl (E.2.2.2.1 0, 20, .inl (fun _ => 0))), (q91, .inl (E.2.2.2.1 0, 20, .inl (fun _ => 0))), (q99, .inl (E.2.2.2.1 0, 25, .inl (fun _ => 0))), (q107, .inl (E.2.2.2.1 1, 60, .inl (fun _ => 0)))] := by rw [g14, g13]; rfl
  clear g13
  refine jg_aload_n C dX11_init_112 rfl ?_
  refine jg_bipush C 60 dX11_init_113 (by decide) ?_
  refine jg_newa C (t := 0) (N := 60) (Or.inl ⟨rfl, rfl⟩) kw_int (by decide) (by decide) (by decide) dX11_init_115 (by decide) (by decide) (fun q115 => ?_)
  refine jg_putF C hI kg_X11_53 ⟨rfl, rfl⟩ l14 (by decide) dX11_init_117 (fun f15 l15 e15 => ?_)
  replace e15 : f15 = [.int 0, .int 0, .int 0, .ref q6, .ref q13, .ref q20, .ref q27, .int 0, .ref q35, .ref q43, .ref q51, .ref q59, .ref q67, .ref q75, .ref q83, .ref q91, .ref q99, .int 0, .ref q107, .ref q115, .null, .null, .null, .null, .null, .null, .null, .int 0, .int 0, .null, .null, .int 0, .int 0, .int 0, .int 0, .int 0, .null, .null, .null, .int 0, .null, .null, .null, .null, .int 0, .null, .int 0, .null, .int 0, .int 0, .null, .int 0, .null, .int 0, .int 0, .null, .int 0, .null, .int 0, .int 0, .int 0, .int 0, .long 0, .int 0, .int 0, .null, .null, .null, .null, .int 0] := by rw [e15, e14]; rfl
  clear e14 l14
  refine jg_tl (fun t15 g15 => ?_)
  replace g15 : t15 = [(q6, .inl (E.2.2.2.1 0, 4, .inl (fun _ => 0))), (q13, .inl (E.2.2.2.1 0, 4, .inl (fun _ => 0))), (q20, .inl (E.2.2.2.1 0, 4, .inl (fun _ => 0))), (q27, .inl (E.2.2.2.1 0, 4, .inl (fun _ => 0))), (q35, .inl (E.2.2.2.1 0, 20, .inl (fun _ => 0))), (q43, .inl (E.2.2.2.1 0, 20, .inl (fun _ => 0))), (q51, .inl (E.2.2.2.1 0, 20, .inl (fun _ => 0))), (q59, .inl (E.2.2.2.1 0, 20, .inl (fun _ => 0))), (q67, .inl (E.2.2.2.1 0, 20, .inl (fun _ => 0))), (q75, .inl (E.2.2.2.1 0, 20, .inl (fun _ => 0))), (q83, .inl (E.2.2.2.1 0, 20, .inl (fun _ => 0))), (q91, .inl (E.2.2.2.1 0, 20, .inl (fun _ => 0))), (q99, .inl (E.2.2.2.1 0, 25, .inl (fun _ => 0))), (q107, .inl (E.2.2.2.1 1, 60, .inl (fun _ => 0))), (q115, .inl (E.2.2.2.1 0, 60, .inl (fun _ => 0)))] := by rw [g15, g14]; rfl
  clear g14
  refine jg_aload_n C dX11_init_120 rfl ?_
  refine jg_bipush C 60 dX11_init_121 (by decide) ?_
  refine jg_newa C (t := 0) (N := 60) (Or.inl ⟨rfl, rfl⟩) kw_int (by decide) (by decide) (by decide) dX11_init_123 (by decide) (by decide) (fun q123 => ?_)
  refine jg_putF C hI kg_X11_56 ⟨rfl, rfl⟩ l15 (by decide) dX11_init_125 (fun f16 l16 e16 => ?_)
  replace e16 : f16 = [.int 0, .int 0, .int 0, .ref q6, .ref q13, .ref q20, .ref q27, .int 0, .ref q35, .ref q43, .ref q51, .ref q59, .ref q67, .ref q75, .ref q83, .ref q91, .ref q99, .int 0, .ref q107, .ref q115, .ref q123, .null, .null, .null, .null, .null, .null, .int 0, .int 0, .null, .null, .int 0, .int 0, .int 0, .int 0, .int 0, .null, .null, .null, .int 0, .null, .null, .null, .null, .int 0, .null, .int 0, .null, .int 0, .int 0, .null, .int 0, .null, .int 0, .int 0, .null, .int 0, .null, .int 0, .int 0, .int 0, .int 0, .long 0, .int 0, .int 0, .null, .null, .null, .null, .int 0] := by rw [e16, e15]; rfl
  clear e15 l15
  refine jg_tl (fun t16 g16 => ?_)
  replace g16 : t16 = [(q6, .inl (E.2.2.2.1 0, 4, .inl (fun _ => 0))), (q13, .inl (E.2.2.2.1 0, 4, .inl (fun _ => 0))), (q20, .inl (E.2.2.2.1 0, 4, .inl (fun _ => 0))), (q27, .inl (E.2.2.2.1 0, 4, .inl (fun _ => 0))), (q35, .inl (E.2.2.2.1 0, 20, .inl (fun _ => 0))), (q43, .inl (E.2.2.2.1 0, 20, .inl (fun _ => 0))), (q51, .inl (E.2.2.2.1 0, 20, .inl (fun _ => 0))), (q59, .inl (E.2.2.2.1 0, 20, .inl (fun _ => 0))), (q67, .inl (E.2.2.2.1 0, 20, .inl (fun _ => 0))), (q75, .inl (E.2.2.2.1 0, 20, .inl (fun _ => 0))), (q83, .inl (E.2.2.2.1 0, 20, .inl (fun _ => 0))), (q91, .inl (E.2.2.2.1 0, 20, .inl (fun _ => 0))), (q99, .inl (E.2.2.2.1 0, 25, .inl (fun _ => 0))), (q107, .inl (E.2.2.2.1 1, 60, .inl (fun _ => 0))), (q115, .inl (E.2.2.2.1 0, 60, .inl (fun _ => 0))), (q123, .inl (E.2.2.2.1 0, 60, .inl (fun _ => 0)))] := by rw [g16, g15]; rfl
  clear g15
  refine jg_aload_n C dX11_init_128 rfl ?_
  refine jg_bipush C 60 dX11_init_129 (by decide) ?_
  refine jg_newa C (t := 0) (N := 60) (Or.inl ⟨rfl, rfl⟩) kw_int (by decide) (by decide) (by decide) dX11_init_131 (by decide) (by decide) (fun q131 => ?_)
  refine jg_putF C hI kg_X11_59 ⟨rfl, rfl⟩ l16 (by decide) dX11_init_133 (fun f17 l17 e17 => ?_)
  replace e17 : f17 = [.int 0, .int 0, .int 0, .ref q6, .ref q13, .ref q20, .ref q27, .int 0, .ref q35, .ref q43, .ref q51, .ref q59, .ref q67, .ref q75, .ref q83, .ref q91, .ref q99, .int 0, .ref q107, .ref q115, .ref q123, .ref q131, .null, .null, .null, .null, .null, .int 0, .int 0, .null, .null, .int 0, .int 0, .int 0, .int 0, .int 0, .null, .null, .null, .int 0, .null, .null, .null, .null, .int 0, .null, .int 0, .null, .int 0, .int 0, .null, .int 0, .null, .int 0, .int 0, .null, .int 0, .null, .int 0, .int 0, .int 0, .int 0, .long 0, .int 0, .int 0, .null, .null, .null, .null, .int 0] := by rw [e17, e16]; rfl
  clear e16 l16
  refine jg_tl (fun t17 g17 => ?_)
  replace g17 : t17 = [(q6, .inl (E.2.2.2.1 0, 4, .inl (fun _ => 0))), (q13, .inl (E.2.2.2.1 0, 4, .inl (fun _ => 0))), (q20, .inl (E.2.2.2.1 0, 4, .inl (fun _ => 0))), (q27, .inl (E.2.2.2.1 0, 4, .inl (fun _ => 0))), (q35, .inl (E.2.2.2.1 0, 20, .inl (fun _ => 0))), (q43, .inl (E.2.2.2.1 0, 20, .inl (fun _ => 0))), (q51, .inl (E.2.2.2.1 0, 20, .inl (fun _ => 0))), (q59, .inl (E.2.2.2.1 0, 20, .inl (fun _ => 0))), (q67, .inl (E.2.2.2.1 0, 20, .inl (fun _ => 0))), (q75, .inl (E.2.2.2.1 0, 20, .inl (fun _ => 0))), (q83, .inl (E.2.2.2.1 0, 20, .inl (fun _ => 0))), (q91, .inl (E.2.2.2.1 0, 20, .inl (fun _ => 0))), (q99, .inl (E.2.2.2.1 0, 25, .inl (fun _ => 0))), (q107, .inl (E.2.2.2.1 1, 60, .inl (fun _ => 0))), (q115, .inl (E.2.2.2.1 0, 60, .inl (fun _ => 0))), (q123, .inl (E.2.2.2.1 0, 60, .inl (fun _ => 0))), (q131, .inl (E.2.2.2.1 0, 60, .inl (fun _ => 0)))] := by rw [g17, g16]; rfl
  clear g16
  refine jg_aload_n C dX11_init_136 rfl ?_
  refine jg_bipush C 60 dX11_init_137 (by decide) ?_
  refine jg_newa C (t := 0) (N := 60) (Or.inl ⟨rfl, rfl⟩) kw_int (by decide) (by decide) (by decide) dX11_init_139 (by decide) (by decide) (fun q139 => ?_)
  refine jg_putF C hI kg_X11_62 ⟨rfl, rfl⟩ l17 (by decide) dX11_init_141 (fun f18 l18 e18 => ?_)
  replace e18 : f18 = [.int 0, .int 0, .int 0, .ref q6, .ref q13, .ref q20, .ref q27, .int 0, .ref q35, .ref q43, .ref q51, .ref q59, .ref q67, .ref q75, .ref q83, .ref q91, .ref q99, .int 0, .ref q107, .ref q115, .ref q123, .ref q131, .ref q139, .null, .null, .null, .null, .int 0, .int 0, .null, .null, .int 0, .int 0, .int 0, .int 0, .int 0, .null, .null, .null, .int 0, .null, .null, .null, .null, .int 0, .null, .int 0, .null, .int 0, .int 0, .null, .int 0, .null, .int 0, .int 0, .null, .int 0, .null, .int 0, .int 0, .int 0, .int 0, .long 0, .int 0, .int 0, .null, .null, .null, .null, .int 0] := by rw [e18, e17]; rfl
  clear e17 l17
  refine jg_tl (fun t18 g18 => ?_)
  replace g18 : t18 = [(q6, .inl (E.2.2.2.1 0, 4, .inl (fun _ => 0))), (q13, .inl (E.2.2.2.1 0, 4, .inl (fun _ => 0))), (q20, .inl (E.2.2.2.1 0, 4, .inl (fun _ => 0))), (q27, .inl (E.2.2.2.1 0, 4, .inl (fun _ => 0))), (q35, .inl (E.2.2.2.1 0, 20, .inl (fun _ => 0))), (q43, .inl (E.2.2.2.1 0, 20, .inl (fun _ => 0))), (q51, .inl (E.2.2.2.1 0, 20, .inl (fun _ => 0))), (q59, .inl (E.2.2.2.1 0, 20, .inl (fun _ => 0))), (q67, .inl (E.2.2.2.1 0, 20, .inl (fun _ => 0))), (q75, .inl (E.2.2.2.1 0, 20, .inl (fun _ => 0))), (q83, .inl (E.2.2.2.1 0, 20, .inl (fun _ => 0))), (q91, .inl (E.2.2.2.1 0, 20, .inl (fun _ => 0))), (q99, .inl (E.2.2.2.1 0, 25, .inl (fun _ => 0))), (q107, .inl (E.2.2.2.1 1, 60, .inl (fun _ => 0))), (q115, .inl (E.2.2.2.1 0, 60, .inl (fun _ => 0))), (q123, .inl (E.2.2.2.1 0, 60, .inl (fun _ => 0))), (q131, .inl (E.2.2.2.1 0, 60, .inl (fun _ => 0))), (q139, .inl (E.2.2.2.1 0, 60, .inl (fun _ => 0)))] := by rw [g18, g17]; rfl
  clear g17
  refine jg_aload_n C dX11_init_144 rfl ?_
  refine jg_bipush C 60 dX11_init_145 (by decide) ?_
  refine jg_newa C (t := 0) (N := 60) (Or.inl ⟨rfl, rfl⟩) kw_int (by decide) (by decide) (by decide) dX11_init_147 (by decide) (by decide) (fun q147 => ?_)
  refine jg_putF C hI kg_X11_65 ⟨rfl, rfl⟩ l18 (by decide) dX11_init_149 (fun f19 l19 e19 => ?_)
  replace e19 : f19 = [.int 0, .int 0, .int 0, .ref q6, .ref q13, .ref q20, .ref q27, .int 0, .ref q35, .ref q43, .ref q51, .ref q59, .ref q67, .ref q75, .ref q83, .ref q91, .ref q99, .int 0, .ref q107, .ref q115, .ref q123, .ref q131, .ref q139, .ref q147, .null, .null, .null, .int 0, .int 0, .null, .null, .int 0, .int 0, .int 0, .int 0, .int 0, .null, .null, .null, .int 0, .null, .null, .null, .null, .int 0, .null, .int 0, .null, .int 0, .int 0, .null, .int 0, .null, .int 0, .int 0, .null, .int 0, .null, .int 0, .int 0, .int 0, .int 0, .long 0, .int 0, .int 0, .null, .null, .null, .null, .int 0] := by rw [e19, e18]; rfl
  clear e18 l18
  refine jg_tl (fun t19 g19 => ?_)
  replace g19 : t19 = [(q6, .inl (E.2.2.2.1 0, 4, .inl (fun _ => 0))), (q13, .inl (E.2.2.2.1 0, 4, .inl (fun _ => 0))), (q20, .inl (E.2.2.2.1 0, 4, .inl (fun _ => 0))), (q27, .inl (E.2.2.2.1 0, 4, .inl (fun _ => 0))), (q35, .inl (E.2.2.2.1 0, 20, .inl (fun _ => 0))), (q43, .inl (E.2.2.2.1 0, 20, .inl (fun _ => 0))), (q51, .inl (E.2.2.2.1 0, 20, .inl (fun _ => 0))), (q59, .inl (E.2.2.2.1 0, 20, .inl (fun _ => 0))), (q67, .inl (E.2.2.2.1 0, 20, .inl (fun _ => 0))), (q75, .inl (E.2.2.2.1 0, 20, .inl (fun _ => 0))), (q83, .inl (E.2.2.2.1 0, 20, .inl (fun _ => 0))), (q91, .inl (E.2.2.2.1 0, 20, .inl (fun _ => 0))), (q99, .inl (E.2.2.2.1 0, 25, .inl (fun _ => 0))), (q107, .inl (E.2.2.2.1 1, 60, .inl (fun _ => 0))), (q115, .inl (E.2.2.2.1 0, 60, .inl (fun _ => 0))), (q123, .inl (E.2.2.2.1 0, 60, .inl (fun _ => 0))), (q131, .inl (E.2.2.2.1 0, 60, .inl (fun _ => 0))), (q139, .inl (E.2.2.2.1 0, 60, .inl (fun _ => 0))), (q147, .inl (E.2.2.2.1 0, 60, .inl (fun _ => 0)))] := by rw [g19, g18]; rfl
  clear g18
  refine jg_aload_n C dX11_init_152 rfl ?_
  refine jg_sipush C 3060 dX11_init_153 (by decide) ?_
  refine jg_newa C (t := 0) (N := 3060) (Or.inl ⟨rfl, rfl⟩) kw_int (by decide) (by decide) (by decide) dX11_init_156 (by decide) (by decide) (fun q156 => ?_)
  refine jg_putF C hI kg_X11_68 ⟨rfl, rfl⟩ l19 (by decide) dX11_init_158 (fun f20 l20 e20 => ?_)
  replace e20 : f20 = [.int 0, .int 0, .int 0, .ref q6, .ref q13, .ref q20, .ref q27, .int 0, .ref q35, .ref q43, .ref q51, .ref q59, .ref q67, .ref q75, .ref q83, .ref q91, .ref q99, .int 0, .ref q107, .ref q115, .ref q123, .ref q131, .ref q139, .ref q147, .ref q156, .null, .null, .int 0, .int 0, .null, .null, .int 0, .int 0, .int 0, .int 0, .int 0, .null, .null, .null, .int 0, .null, .null, .null, .null, .int 0, .null, .int 0, .null, .int 0, .int 0, .null, .int 0, .null, .int 0, .int 0, .null, .int 0, .null, .int 0, .int 0, .int 0, .int 0, .long 0, .int 0, .int 0, .null, .null, .null, .null, .int 0] := by rw [e20, e19]; rfl
  clear e19 l19
  refine jg_tl (fun t20 g20 => ?_)
  replace g20 : t20 = [(q6, .inl (E.2.2.2.1 0, 4, .inl (fun _ => 0))), (q13, .inl (E.2.2.2.1 0, 4, .inl (fun _ => 0))), (q20, .inl (E.2.2.2.1 0, 4, .inl (fun _ => 0))), (q27, .inl (E.2.2.2.1 0, 4, .inl (fun _ => 0))), (q35, .inl (E.2.2.2.1 0, 20, .inl (fun _ => 0))), (q43, .inl (E.2.2.2.1 0, 20, .inl (fun _ => 0))), (q51, .inl (E.2.2.2.1 0, 20, .inl (fun _ => 0))), (q59, .inl (E.2.2.2.1 0, 20, .inl (fun _ => 0))), (q67, .inl (E.2.2.2.1 0, 20, .inl (fun _ => 0))), (q75, .inl (E.2.2.2.1 0, 20, .inl (fun _ => 0))), (q83, .inl (E.2.2.2.1 0, 20, .inl (fun _ => 0))), (q91, .inl (E.2.2.2.1 0, 20, .inl (fun _ => 0))), (q99, .inl (E.2.2.2.1 0, 25, .inl (fun _ => 0))), (q107, .inl (E.2.2.2.1 1, 60, .inl (fun _ => 0))), (q115, .inl (E.2.2.2.1 0, 60, .inl (fun _ => 0))), (q123, .inl (E.2.2.2.1 0, 60, .inl (fun _ => 0))), (q131, .inl (E.2.2.2.1 0, 60, .inl (fun _ => 0))), (q139, .inl (E.2.2.2.1 0, 60, .inl (fun _ => 0))), (q147, .inl (E.2.2.2.1 0, 60, .inl (fun _ => 0))), (q156, .inl (E.2.2.2.1 0, 3060, .inl (fun _ => 0)))] := by rw [g20, g19]; rfl
  clear g19
  refine jg_aload_n C dX11_init_161 rfl ?_
  refine jg_bipush C 24 dX11_init_162 (by decide) ?_
  refine jg_newa C (t := 0) (N := 24) (Or.inl ⟨rfl, rfl⟩) kw_int (by decide) (by decide) (by decide) dX11_init_164 (by decide) (by decide) (fun q164 => ?_)
  refine jg_fs0 ?_
  refine jg_dup C dX11_init_166 rfl ?_
  refine jg_iconst C 0 dX11_init_167 (by decide) ?_
  refine jg_bipush C 100 dX11_init_168 (by decide) ?_
  refine jg_fst C 0 rfl (ji_in (by decide) (by decide)) dX11_init_170 ?_
  refine jg_dup C dX11_init_171 rfl ?_
  refine jg_iconst C 1 dX11_init_172 (by decide) ?_
  refine jg_bipush C 100 dX11_init_173 (by decide) ?_
  refine jg_fst C 1 rfl (ji_in (by decide) (by decide)) dX11_init_175 ?_
  refine jg_dup C dX11_init_176 rfl ?_
  refine jg_iconst C 2 dX11_init_177 (by decide) ?_
  refine jg_bipush C 100 dX11_init_178 (by decide) ?_
  refine jg_fst C 2 rfl (ji_in (by decide) (by decide)) dX11_init_180 ?_
  refine jg_dup C dX11_init_181 rfl ?_
  refine jg_iconst C 3 dX11_init_182 (by decide) ?_
  refine jg_bipush C 100 dX11_init_183 (by decide) ?_
  refine jg_fst C 3 rfl (ji_in (by decide) (by decide)) dX11_init_185 ?_
  refine jg_dup C dX11_init_186 rfl ?_
  refine jg_iconst C 4 dX11_init_187 (by decide) ?_
  refine jg_bipush C 100 dX11_init_188 (by decide) ?_
  refine jg_fst C 4 rfl (ji_in (by decide) (by decide)) dX11_init_190 ?_
  refine jg_dup C dX11_init_191 rfl ?_
  refine jg_iconst C 5 dX11_init_192 (by decide) ?_
  refine jg_bipush C 100 dX11_init_193 (by decide) ?_
  refine jg_fst C 5 rfl (ji_in (by decide) (by decide)) dX11_init_195 ?_
  refine jg_dup C dX11_init_196 rfl ?_
  refine jg_bipush C 6 dX11_init_197 (by decide) ?_
  refine jg_bipush C 100 dX11_init_199 (by decide) ?_
  refine jg_fst C 6 rfl (ji_in (by decide) (by decide)) dX11_init_201 ?_
  refine jg_dup C dX11_init_202 rfl ?_
  refine jg_bipush C 7 dX11_init_203 (by decide) ?_
  refine jg_bipush C 100 dX11_init_205 (by decide) ?_
  refine jg_fst C 7 rfl (ji_in (by decide) (by decide)) dX11_init_207 ?_
  refine jg_dup C dX11_init_208 rfl ?_
  refine jg_bipush C 8 dX11_init_209 (by decide) ?_
  refine jg_bipush C 100 dX11_init_211 (by decide) ?_
  refine jg_fst C 8 rfl (ji_in (by decide) (by decide)) dX11_init_213 ?_
  refine jg_dup C dX11_init_214 rfl ?_
  refine jg_bipush C 9 dX11_init_215 (by decide) ?_
  refine jg_bipush C 100 dX11_init_217 (by decide) ?_
  refine jg_fst C 9 rfl (ji_in (by decide) (by decide)) dX11_init_219 ?_
  refine jg_dup C dX11_init_220 rfl ?_
  refine jg_bipush C 10 dX11_init_221 (by decide) ?_
  refine jg_bipush C 100 dX11_init_223 (by decide) ?_
  refine jg_fst C 10 rfl (ji_in (by decide) (by decide)) dX11_init_225 ?_
  refine jg_dup C dX11_init_226 rfl ?_
  refine jg_bipush C 11 dX11_init_227 (by decide) ?_
  refine jg_bipush C 100 dX11_init_229 (by decide) ?_
  refine jg_fst C 11 rfl (ji_in (by decide) (by decide)) dX11_init_231 ?_
  refine jg_dup C dX11_init_232 rfl ?_
  refine jg_bipush C 12 dX11_init_233 (by decide) ?_
  refine jg_bipush C 100 dX11_init_235 (by decide) ?_
  refine jg_fst C 12 rfl (ji_in (by decide) (by decide)) dX11_init_237 ?_
  refine jg_dup C dX11_init_238 rfl ?_
  refine jg_bipush C 13 dX11_init_239 (by decide) ?_
  refine jg_bipush C 100 dX11_init_241 (by decide) ?_
  refine jg_fst C 13 rfl (ji_in (by decide) (by decide)) dX11_init_243 ?_
  refine jg_dup C dX11_init_244 rfl ?_
  refine jg_bipush C 14 dX11_init_245 (by decide) ?_
  refine jg_bipush C 100 dX11_init_247 (by decide) ?_
  refine jg_fst C 14 rfl (ji_in (by decide) (by decide)) dX11_init_249 ?_
  refine jg_dup C dX11_init_250 rfl ?_
  refine jg_bipush C 15 dX11_init_251 (by decide) ?_
  refine jg_bipush C 100 dX11_init_253 (by decide) ?_
  refine jg_fst C 15 rfl (ji_in (by decide) (by decide)) dX11_init_255 ?_
  refine jg_dup C dX11_init_256 rfl ?_
  refine jg_bipush C 16 dX11_init_257 (by decide) ?_
  refine jg_bipush C 100 dX11_init_259 (by decide) ?_
  refine jg_fst C 16 rfl (ji_in (by decide) (by decide)) dX11_init_261 ?_
  refine jg_dup C dX11_init_262 rfl ?_
  refine jg_bipush C 17 dX11_init_263 (by decide) ?_
  refine jg_bipush C 100 dX11_init_265 (by decide) ?_
  refine jg_fst C 17 rfl (ji_in (by decide) (by decide)) dX11_init_267 ?_
  refine jg_dup C dX11_init_268 rfl ?_
  refine jg_bipush C 18 dX11_init_269 (by decide) ?_
  refine jg_bipush C 100 dX11_init_271 (by decide) ?_
  refine jg_fst C 18 rfl (ji_in (by decide) (by decide)) dX11_init_273 ?_
  refine jg_dup C dX11_init_274 rfl ?_
  refine jg_bipush C 19 dX11_init_275 (by decide) ?_
  refine jg_bipush C 100 dX11_init_277 (by decide) ?_
  refine jg_fst C 19 rfl (ji_in (by decide) (by decide)) dX11_init_279 ?_
  refine jg_dup C dX11_init_280 rfl ?_
  refine jg_bipush C 20 dX11_init_281 (by decide) ?_
  refine jg_bipush C 100 dX11_init_283 (by decide) ?_
  refine jg_fst C 20 rfl (ji_in (by decide) (by decide)) dX11_init_285 ?_
  refine jg_dup C dX11_init_286 rfl ?_
  refine jg_bipush C 21 dX11_init_287 (by decide) ?_
  refine jg_bipush C 100 dX11_init_289 (by decide) ?_
  refine jg_fst C 21 rfl (ji_in (by decide) (by decide)) dX11_init_291 ?_
  refine jg_dup C dX11_init_292 rfl ?_
  refine jg_bipush C 22 dX11_init_293 (by decide) ?_
  refine jg_bipush C 100 dX11_init_295 (by decide) ?_
  refine jg_fst C 22 rfl (ji_in (by decide) (by decide)) dX11_init_297 ?_
  refine jg_dup C dX11_init_298 rfl ?_
  refine jg_bipush C 23 dX11_init_299 (by decide) ?_
  refine jg_bipush C 100 dX11_init_301 (by decide) ?_
  refine jg_fst C 23 rfl (ji_in (by decide) (by decide)) dX11_init_303 ?_
  refine jg_putF C hI kg_X11_71 ⟨rfl, rfl⟩ l20 (by decide) dX11_init_304 (fun f21 l21 e21 => ?_)
  replace e21 : f21 = [.int 0, .int 0, .int 0, .ref q6, .ref q13, .ref q20, .ref q27, .int 0, .ref q35, .ref q43, .ref q51, .ref q59, .ref q67, .ref q75, .ref q83, .ref q91, .ref q99, .int 0, .ref q107, .ref q115, .ref q123, .ref q131, .ref q139, .ref q147, .ref q156, .ref q164, .null, .int 0, .int 0, .null, .null, .int 0, .int 0, .int 0, .int 0, .int 0, .null, .null, .null, .int 0, .null, .null, .null, .null, .int 0, .null, .int 0, .null, .int 0, .int 0, .null, .int 0, .null, .int 0, .int 0, .null, .int 0, .null, .int 0, .int 0, .int 0, .int 0, .long 0, .int 0, .int 0, .null, .null, .null, .null, .int 0] := by rw [e21, e20]; rfl
  clear e20 l20
  refine jg_tl (fun t21 g21 => ?_)
  replace g21 : t21 = [(q6, .inl (E.2.2.2.1 0, 4, .inl (fun _ => 0))), (q13, .inl (E.2.2.2.1 0, 4, .inl (fun _ => 0))), (q20, .inl (E.2.2.2.1 0, 4, .inl (fun _ => 0))), (q27, .inl (E.2.2.2.1 0, 4, .inl (fun _ => 0))), (q35, .inl (E.2.2.2.1 0, 20, .inl (fun _ => 0))), (q43, .inl (E.2.2.2.1 0, 20, .inl (fun _ => 0))), (q51, .inl (E.2.2.2.1 0, 20, .inl (fun _ => 0))), (q59, .inl (E.2.2.2.1 0, 20, .inl (fun _ => 0))), (q67, .inl (E.2.2.2.1 0, 20, .inl (fun _ => 0))), (q75, .inl (E.2.2.2.1 0, 20, .inl (fun _ => 0))), (q83, .inl (E.2.2.2.1 0, 20, .inl (fun _ => 0))), (q91, .inl (E.2.2.2.1 0, 20, .inl (fun _ => 0))), (q99, .inl (E.2.2.2.1 0, 25, .inl (fun _ => 0))), (q107, .inl (E.2.2.2.1 1, 60, .inl (fun _ => 0))), (q115, .inl (E.2.2.2.1 0, 60, .inl (fun _ => 0))), (q123, .inl (E.2.2.2.1 0, 60, .inl (fun _ => 0))), (q131, .inl (E.2.2.2.1 0, 60, .inl (fun _ => 0))), (q139, .inl (E.2.2.2.1 0, 60, .inl (fun _ => 0))), (q147, .inl (E.2.2.2.1 0, 60, .inl (fun _ => 0))), (q156, .inl (E.2.2.2.1 0, 3060, .inl (fun _ => 0))), (q164, .inl (E.2.2.2.1 0, 24, .inl (jg_h 24)))] := by rw [g21, g20]; rfl
  clear g20
  refine jg_aload_n C dX11_init_307 rfl ?_
  refine jg_bipush C 10 dX11_init_308 (by decide) ?_
  refine jg_newa C (t := 0) (N := 10) (Or.inl ⟨rfl, rfl⟩) kw_int (by decide) (by decide) (by decide) dX11_init_310 (by decide) (by decide) (fun q310 => ?_)
  refine jg_putF C hI kg_X11_74 ⟨rfl, rfl⟩ l21 (by decide) dX11_init_312 (fun f22 l22 e22 => ?_)
  replace e22 : f22 = [.int 0, .int 0, .int 0, .ref q6, .ref q13, .ref q20, .ref q27, .int 0, .ref q35, .ref q43, .ref q51, .ref q59, .ref q67, .ref q75, .ref q83, .ref q91, .ref q99, .int 0, .ref q107, .ref q115, .ref q123, .ref q131, .ref q139, .ref q147, .ref q156, .ref q164, .ref q310, .int 0, .int 0, .null, .null, .int 0, .int 0, .int 0, .int 0, .int 0, .null, .null, .null, .int 0, .null, .null, .null, .null, .int 0, .null, .int 0, .null, .int 0, .int 0, .null, .int 0, .null, .int 0, .int 0, .null, .int 0, .null, .int 0, .int 0, .int 0, .int 0, .long 0, .int 0, .int 0, .null, .null, .null, .null, .int 0] := by rw [e22, e21]; rfl
  clear e21 l21
  refine jg_tl (fun t22 g22 => ?_)
  replace g22 : t22 = [(q6, .inl (E.2.2.2.1 0, 4, .inl (fun _ => 0))), (q13, .inl (E.2.2.2.1 0, 4, .inl (fun _ => 0))), (q20, .inl (E.2.2.2.1 0, 4, .inl (fun _ => 0))), (q27, .inl (E.2.2.2.1 0, 4, .inl (fun _ => 0))), (q35, .inl (E.2.2.2.1 0, 20, .inl (fun _ => 0))), (q43, .inl (E.2.2.2.1 0, 20, .inl (fun _ => 0))), (q51, .inl (E.2.2.2.1 0, 20, .inl (fun _ => 0))), (q59, .inl (E.2.2.2.1 0, 20, .inl (fun _ => 0))), (q67, .inl (E.2.2.2.1 0, 20, .inl (fun _ => 0))), (q75, .inl (E.2.2.2.1 0, 20, .inl (fun _ => 0))), (q83, .inl (E.2.2.2.1 0, 20, .inl (fun _ => 0))), (q91, .inl (E.2.2.2.1 0, 20, .inl (fun _ => 0))), (q99, .inl (E.2.2.2.1 0, 25, .inl (fun _ => 0))), (q107, .inl (E.2.2.2.1 1, 60, .inl (fun _ => 0))), (q115, .inl (E.2.2.2.1 0, 60, .inl (fun _ => 0))), (q123, .inl (E.2.2.2.1 0, 60, .inl (fun _ => 0))), (q131, .inl (E.2.2.2.1 0, 60, .inl (fun _ => 0))), (q139, .inl (E.2.2.2.1 0, 60, .inl (fun _ => 0))), (q147, .inl (E.2.2.2.1 0, 60, .inl (fun _ => 0))), (q156, .inl (E.2.2.2.1 0, 3060, .inl (fun _ => 0))), (q164, .inl (E.2.2.2.1 0, 24, .inl (jg_h 24))), (q310, .inl (E.2.2.2.1 0, 10, .inl (fun _ => 0)))] := by rw [g22, g21]; rfl
  clear g21
  refine jg_aload_n C dX11_init_315 rfl ?_
  refine jg_bipush C 50 dX11_init_316 (by decide) ?_
  refine jg_puti C kg_X11_77 ⟨rfl, rfl⟩ l22 (by decide) dX11_init_318 (fun f23 l23 e23 => ?_)
  replace e23 : f23 = [.int 0, .int 0, .int 0, .ref q6, .ref q13, .ref q20, .ref q27, .int 0, .ref q35, .ref q43, .ref q51, .ref q59, .ref q67, .ref q75, .ref q83, .ref q91, .ref q99, .int 0, .ref q107, .ref q115, .ref q123, .ref q131, .ref q139, .ref q147, .ref q156, .ref q164, .ref q310, .int 0, .int 50, .null, .null, .int 0, .int 0, .int 0, .int 0, .int 0, .null, .null, .null, .int 0, .null, .null, .null, .null, .int 0, .null, .int 0, .null, .int 0, .int 0, .null, .int 0, .null, .int 0, .int 0, .null, .int 0, .null, .int 0, .int 0, .int 0, .int 0, .long 0, .int 0, .int 0, .null, .null, .null, .null, .int 0] := by rw [e23, e22]; rfl
  clear e22 l22
  refine jg_aload_n C dX11_init_321 rfl ?_
  refine jg_bipush C 60 dX11_init_322 (by decide) ?_
  refine jg_newa C (t := 0) (N := 60) (Or.inl ⟨rfl, rfl⟩) kw_int (by decide) (by decide) (by decide) dX11_init_324 (by decide) (by decide) (fun q324 => ?_)
  refine jg_putF C hI kg_X11_81 ⟨rfl, rfl⟩ l23 (by decide) dX11_init_326 (fun f24 l24 e24 => ?_)
  replace e24 : f24 = [.int 0, .int 0, .int 0, .ref q6, .ref q13, .ref q20, .ref q27, .int 0, .ref q35, .ref q43, .ref q51, .ref q59, .ref q67, .ref q75, .ref q83, .ref q91, .ref q99, .int 0, .ref q107, .ref q115, .ref q123, .ref q131, .ref q139, .ref q147, .ref q156, .ref q164, .ref q310, .int 0, .int 50, .ref q324, .null, .int 0, .int 0, .int 0, .int 0, .int 0, .null, .null, .null, .int 0, .null, .null, .null, .null, .int 0, .null, .int 0, .null, .int 0, .int 0, .null, .int 0, .null, .int 0, .int 0, .null, .int 0, .null, .int 0, .int 0, .int 0, .int 0, .long 0, .int 0, .int 0, .null, .null, .null, .null, .int 0] := by rw [e24, e23]; rfl
  clear e23 l23
  refine jg_tl (fun t23 g23 => ?_)
  replace g23 : t23 = [(q6, .inl (E.2.2.2.1 0, 4, .inl (fun _ => 0))), (q13, .inl (E.2.2.2.1 0, 4, .inl (fun _ => 0))), (q20, .inl (E.2.2.2.1 0, 4, .inl (fun _ => 0))), (q27, .inl (E.2.2.2.1 0, 4, .inl (fun _ => 0))), (q35, .inl (E.2.2.2.1 0, 20, .inl (fun _ => 0))), (q43, .inl (E.2.2.2.1 0, 20, .inl (fun _ => 0))), (q51, .inl (E.2.2.2.1 0, 20, .inl (fun _ => 0))), (q59, .inl (E.2.2.2.1 0, 20, .inl (fun _ => 0))), (q67, .inl (E.2.2.2.1 0, 20, .inl (fun _ => 0))), (q75, .inl (E.2.2.2.1 0, 20, .inl (fun _ => 0))), (q83, .inl (E.2.2.2.1 0, 20, .inl (fun _ => 0))), (q91, .inl (E.2.2.2.1 0, 20, .inl (fun _ => 0))), (q99, .inl (E.2.2.2.1 0, 25, .inl (fun _ => 0))), (q107, .inl (E.2.2.2.1 1, 60, .inl (fun _ => 0))), (q115, .inl (E.2.2.2.1 0, 60, .inl (fun _ => 0))), (q123, .inl (E.2.2.2.1 0, 60, .inl (fun _ => 0))), (q131, .inl (E.2.2.2.1 0, 60, .inl (fun _ => 0))), (q139, .inl (E.2.2.2.1 0, 60, .inl (fun _ => 0))), (q147, .inl (E.2.2.2.1 0, 60, .inl (fun _ => 0))), (q156, .inl (E.2.2.2.1 0, 3060, .inl (fun _ => 0))), (q164, .inl (E.2.2.2.1 0, 24, .inl (jg_h 24))), (q310, .inl (E.2.2.2.1 0, 10, .inl (fun _ => 0))), (q324, .inl (E.2.2.2.1 0, 60, .inl (fun _ => 0)))] := by rw [g23, g22]; rfl
  clear g22
  refine jg_aload_n C dX11_init_329 rfl ?_
  refine jg_bipush C 60 dX11_init_330 (by decide) ?_
  refine jg_newa C (t := 1) (N := 60) (Or.inr ⟨rfl, rfl⟩) kw_boolean (by decide) (by decide) (by decide) dX11_init_332 (by decide) (by decide) (fun q332 => ?_)
  refine jg_putF C hI kg_X11_84 ⟨rfl, rfl⟩ l24 (by decide) dX11_init_334 (fun f25 l25 e25 => ?_)
  replace e25 : f25 = [.int 0, .int 0, .int 0, .ref q6, .ref q13, .ref q20, .ref q27, .int 0, .ref q35, .ref q43, .ref q51, .ref q59, .ref q67, .ref q75, .ref q83, .ref q91, .ref q99, .int 0, .ref q107, .ref q115, .ref q123, .ref q131, .ref q139, .ref q147, .ref q156, .ref q164, .ref q310, .int 0, .int 50, .ref q324, .ref q332, .int 0, .int 0, .int 0, .int 0, .int 0, .null, .null, .null, .int 0, .null, .null, .null, .null, .int 0, .null, .int 0, .null, .int 0, .int 0, .null, .int 0, .null, .int 0, .int 0, .null, .int 0, .null, .int 0, .int 0, .int 0, .int 0, .long 0, .int 0, .int 0, .null, .null, .null, .null, .int 0] := by rw [e25, e24]; rfl
  clear e24 l24
  refine jg_tl (fun t24 g24 => ?_)
  replace g24 : t24 = [(q6, .inl (E.2.2.2.1 0, 4, .inl (fun _ => 0))), (q13, .inl (E.2.2.2.1 0, 4, .inl (fun _ => 0))), (q20, .inl (E.2.2.2.1 0, 4, .inl (fun _ => 0))), (q27, .inl (E.2.2.2.1 0, 4, .inl (fun _ => 0))), (q35, .inl (E.2.2.2.1 0, 20, .inl (fun _ => 0))), (q43, .inl (E.2.2.2.1 0, 20, .inl (fun _ => 0))), (q51, .inl (E.2.2.2.1 0, 20, .inl (fun _ => 0))), (q59, .inl (E.2.2.2.1 0, 20, .inl (fun _ => 0))), (q67, .inl (E.2.2.2.1 0, 20, .inl (fun _ => 0))), (q75, .inl (E.2.2.2.1 0, 20, .inl (fun _ => 0))), (q83, .inl (E.2.2.2.1 0, 20, .inl (fun _ => 0))), (q91, .inl (E.2.2.2.1 0, 20, .inl (fun _ => 0))), (q99, .inl (E.2.2.2.1 0, 25, .inl (fun _ => 0))), (q107, .inl (E.2.2.2.1 1, 60, .inl (fun _ => 0))), (q115, .inl (E.2.2.2.1 0, 60, .inl (fun _ => 0))), (q123, .inl (E.2.2.2.1 0, 60, .inl (fun _ => 0))), (q131, .inl (E.2.2.2.1 0, 60, .inl (fun _ => 0))), (q139, .inl (E.2.2.2.1 0, 60, .inl (fun _ => 0))), (q147, .inl (E.2.2.2.1 0, 60, .inl (fun _ => 0))), (q156, .inl (E.2.2.2.1 0, 3060, .inl (fun _ => 0))), (q164, .inl (E.2.2.2.1 0, 24, .inl (jg_h 24))), (q310, .inl (E.2.2.2.1 0, 10, .inl (fun _ => 0))), (q324, .inl (E.2.2.2.1 0, 60, .inl (fun _ => 0))), (q332, .inl (E.2.2.2.1 1, 60, .inl (fun _ => 0)))] := by rw [g24, g23]; rfl
  clear g23
  refine jg_aload_n C dX11_init_337 rfl ?_
  refine jg_bipush C 10 dX11_init_338 (by decide) ?_
  refine jg_newa C (t := 0) (N := 10) (Or.inl ⟨rfl, rfl⟩) kw_int (by decide) (by decide) (by decide) dX11_init_340 (by decide) (by decide) (fun q340 => ?_)
  refine jg_putF C hI kg_X11_87 ⟨rfl, rfl⟩ l25 (by decide) dX11_init_342 (fun f26 l26 e26 => ?_)
  replace e26 : f26 = [.int 0, .int 0, .int 0, .ref q6, .ref q13, .ref q20, .ref q27, .int 0, .ref q35, .ref q43, .ref q51, .ref q59, .ref q67, .ref q75, .ref q83, .ref q91, .ref q99, .int 0, .ref q107, .ref q115, .ref q123, .ref q131, .ref q139, .ref q147, .ref q156, .ref q164, .ref q310, .int 0, .int 50, .ref q324, .ref q332, .int 0, .int 0, .int 0, .int 0, .int 0, .ref q340, .null, .null, .int 0, .null, .null, .null, .null, .int 0, .null, .int 0, .null, .int 0, .int 0, .null, .int 0, .null, .int 0, .int 0, .null, .int 0, .null, .int 0, .int 0, .int 0, .int 0, .long 0, .int 0, .int 0, .null, .null, .null, .null, .int 0] := by rw [e26, e25]; rfl
  clear e25 l25
  refine jg_tl (fun t25 g25 => ?_)
  replace g25 : t25 = [(q6, .inl (E.2.2.2.1 0, 4, .inl (fun _ => 0))), (q13, .inl (E.2.2.2.1 0, 4, .inl (fun _ => 0))), (q20, .inl (E.2.2.2.1 0, 4, .inl (fun _ => 0))), (q27, .inl (E.2.2.2.1 0, 4, .inl (fun _ => 0))), (q35, .inl (E.2.2.2.1 0, 20, .inl (fun _ => 0))), (q43, .inl (E.2.2.2.1 0, 20, .inl (fun _ => 0))), (q51, .inl (E.2.2.2.1 0, 20, .inl (fun _ => 0))), (q59, .inl (E.2.2.2.1 0, 20, .inl (fun _ => 0))), (q67, .inl (E.2.2.2.1 0, 20, .inl (fun _ => 0))), (q75, .inl (E.2.2.2.1 0, 20, .inl (fun _ => 0))), (q83, .inl (E.2.2.2.1 0, 20, .inl (fun _ => 0))), (q91, .inl (E.2.2.2.1 0, 20, .inl (fun _ => 0))), (q99, .inl (E.2.2.2.1 0, 25, .inl (fun _ => 0))), (q107, .inl (E.2.2.2.1 1, 60, .inl (fun _ => 0))), (q115, .inl (E.2.2.2.1 0, 60, .inl (fun _ => 0))), (q123, .inl (E.2.2.2.1 0, 60, .inl (fun _ => 0))), (q131, .inl (E.2.2.2.1 0, 60, .inl (fun _ => 0))), (q139, .inl (E.2.2.2.1 0, 60, .inl (fun _ => 0))), (q147, .inl (E.2.2.2.1 0, 60, .inl (fun _ => 0))), (q156, .inl (E.2.2.2.1 0, 3060, .inl (fun _ => 0))), (q164, .inl (E.2.2.2.1 0, 24, .inl (jg_h 24))), (q310, .inl (E.2.2.2.1 0, 10, .inl (fun _ => 0))), (q324, .inl (E.2.2.2.1 0, 60, .inl (fun _ => 0))), (q332, .inl (E.2.2.2.1 1, 60, .inl (fun _ => 0))), (q340, .inl (E.2.2.2.1 0, 10, .inl (fun _ => 0)))] := by rw [g25, g24]; rfl
  clear g24
  refine jg_aload_n C dX11_init_345 rfl ?_
  refine jg_bipush C 50 dX11_init_346 (by decide) ?_
  refine jg_newa C (t := 0) (N := 50) (Or.inl ⟨rfl, rfl⟩) kw_int (by decide) (by decide) (by decide) dX11_init_348 (by decide) (by decide) (fun q348 => ?_)
  refine jg_putF C hI kg_X11_90 ⟨rfl, rfl⟩ l26 (by decide) dX11_init_350 (fun f27 l27 e27 => ?_)
  replace e27 : f27 = [.int 0, .int 0, .int 0, .ref q6, .ref q13, .ref q20, .ref q27, .int 0, .ref q35, .ref q43, .ref q51, .ref q59, .ref q67, .ref q75, .ref q83, .ref q91, .ref q99, .int 0, .ref q107, .ref q115, .ref q123, .ref q131, .ref q139, .ref q147, .ref q156, .ref q164, .ref q310, .int 0, .int 50, .ref q324, .ref q332, .int 0, .int 0, .int 0, .int 0, .int 0, .ref q340, .ref q348, .null, .int 0, .null, .null, .null, .null, .int 0, .null, .int 0, .null, .int 0, .int 0, .null, .int 0, .null, .int 0, .int 0, .null, .int 0, .null, .int 0, .int 0, .int 0, .int 0, .long 0, .int 0, .int 0, .null, .null, .null, .null, .int 0] := by rw [e27, e26]; rfl
  clear e26 l26
  refine jg_tl (fun t26 g26 => ?_)
  replace g26 : t26 = [(q6, .inl (E.2.2.2.1 0, 4, .inl (fun _ => 0))), (q13, .inl (E.2.2.2.1 0, 4, .inl (fun _ => 0))), (q20, .inl (E.2.2.2.1 0, 4, .inl (fun _ => 0))), (q27, .inl (E.2.2.2.1 0, 4, .inl (fun _ => 0))), (q35, .inl (E.2.2.2.1 0, 20, .inl (fun _ => 0))), (q43, .inl (E.2.2.2.1 0, 20, .inl (fun _ => 0))), (q51, .inl (E.2.2.2.1 0, 20, .inl (fun _ => 0))), (q59, .inl (E.2.2.2.1 0, 20, .inl (fun _ => 0))), (q67, .inl (E.2.2.2.1 0, 20, .inl (fun _ => 0))), (q75, .inl (E.2.2.2.1 0, 20, .inl (fun _ => 0))), (q83, .inl (E.2.2.2.1 0, 20, .inl (fun _ => 0))), (q91, .inl (E.2.2.2.1 0, 20, .inl (fun _ => 0))), (q99, .inl (E.2.2.2.1 0, 25, .inl (fun _ => 0))), (q107, .inl (E.2.2.2.1 1, 60, .inl (fun _ => 0))), (q115, .inl (E.2.2.2.1 0, 60, .inl (fun _ => 0))), (q123, .inl (E.2.2.2.1 0, 60, .inl (fun _ => 0))), (q131, .inl (E.2.2.2.1 0, 60, .inl (fun _ => 0))), (q139, .inl (E.2.2.2.1 0, 60, .inl (fun _ => 0))), (q147, .inl (E.2.2.2.1 0, 60, .inl (fun _ => 0))), (q156, .inl (E.2.2.2.1 0, 3060, .inl (fun _ => 0))), (q164, .inl (E.2.2.2.1 0, 24, .inl (jg_h 24))), (q310, .inl (E.2.2.2.1 0, 10, .inl (fun _ => 0))), (q324, .inl (E.2.2.2.1 0, 60, .inl (fun _ => 0))), (q332, .inl (E.2.2.2.1 1, 60, .inl (fun _ => 0))), (q340, .inl (E.2.2.2.1 0, 10, .inl (fun _ => 0))), (q348, .inl (E.2.2.2.1 0, 50, .inl (fun _ => 0)))] := by rw [g26, g25]; rfl
  clear g25
  refine jg_aload_n C dX11_init_353 rfl ?_
  refine jg_bipush C 10 dX11_init_354 (by decide) ?_
  refine jg_newa C (t := 0) (N := 10) (Or.inl ⟨rfl, rfl⟩) kw_int (by decide) (by decide) (by decide) dX11_init_356 (by decide) (by decide) (fun q356 => ?_)
  refine jg_putF C hI kg_X11_93 ⟨rfl, rfl⟩ l27 (by decide) dX11_init_358 (fun f28 l28 e28 => ?_)
  replace e28 : f28 = [.int 0, .int 0, .int 0, .ref q6, .ref q13, .ref q20, .ref q27, .int 0, .ref q35, .ref q43, .ref q51, .ref q59, .ref q67, .ref q75, .ref q83, .ref q91, .ref q99, .int 0, .ref q107, .ref q115, .ref q123, .ref q131, .ref q139, .ref q147, .ref q156, .ref q164, .ref q310, .int 0, .int 50, .ref q324, .ref q332, .int 0, .int 0, .int 0, .int 0, .int 0, .ref q340, .ref q348, .ref q356, .int 0, .null, .null, .null, .null, .int 0, .null, .int 0, .null, .int 0, .int 0, .null, .int 0, .null, .int 0, .int 0, .null, .int 0, .null, .int 0, .int 0, .int 0, .int 0, .long 0, .int 0, .int 0, .null, .null, .null, .null, .int 0] := by rw [e28, e27]; rfl
  clear e27 l27
  refine jg_tl (fun t27 g27 => ?_)
  replace g27 : t27 = [(q6, .inl (E.2.2.2.1 0, 4, .inl (fun _ => 0))), (q13, .inl (E.2.2.2.1 0, 4, .inl (fun _ => 0))), (q20, .inl (E.2.2.2.1 0, 4, .inl (fun _ => 0))), (q27, .inl (E.2.2.2.1 0, 4, .inl (fun _ => 0))), (q35, .inl (E.2.2.2.1 0, 20, .inl (fun _ => 0))), (q43, .inl (E.2.2.2.1 0, 20, .inl (fun _ => 0))), (q51, .inl (E.2.2.2.1 0, 20, .inl (fun _ => 0))), (q59, .inl (E.2.2.2.1 0, 20, .inl (fun _ => 0))), (q67, .inl (E.2.2.2.1 0, 20, .inl (fun _ => 0))), (q75, .inl (E.2.2.2.1 0, 20, .inl (fun _ => 0))), (q83, .inl (E.2.2.2.1 0, 20, .inl (fun _ => 0))), (q91, .inl (E.2.2.2.1 0, 20, .inl (fun _ => 0))), (q99, .inl (E.2.2.2.1 0, 25, .inl (fun _ => 0))), (q107, .inl (E.2.2.2.1 1, 60, .inl (fun _ => 0))), (q115, .inl (E.2.2.2.1 0, 60, .inl (fun _ => 0))), (q123, .inl (E.2.2.2.1 0, 60, .inl (fun _ => 0))), (q131, .inl (E.2.2.2.1 0, 60, .inl (fun _ => 0))), (q139, .inl (E.2.2.2.1 0, 60, .inl (fun _ => 0))), (q147, .inl (E.2.2.2.1 0, 60, .inl (fun _ => 0))), (q156, .inl (E.2.2.2.1 0, 3060, .inl (fun _ => 0))), (q164, .inl (E.2.2.2.1 0, 24, .inl (jg_h 24))), (q310, .inl (E.2.2.2.1 0, 10, .inl (fun _ => 0))), (q324, .inl (E.2.2.2.1 0, 60, .inl (fun _ => 0))), (q332, .inl (E.2.2.2.1 1, 60, .inl (fun _ => 0))), (q340, .inl (E.2.2.2.1 0, 10, .inl (fun _ => 0))), (q348, .inl (E.2.2.2.1 0, 50, .inl (fun _ => 0))), (q356, .inl (E.2.2.2.1 0, 10, .inl (fun _ => 0)))] := by rw [g27, g26]; rfl
  clear g26
  refine jg_aload_n C dX11_init_361 rfl ?_
  refine jg_bipush C 100 dX11_init_362 (by decide) ?_
  refine jg_newa C (t := 0) (N := 100) (Or.inl ⟨rfl, rfl⟩) kw_int (by decide) (by decide) (by decide) dX11_init_364 (by decide) (by decide) (fun q364 => ?_)
  refine jg_putF C hI kg_X11_96 ⟨rfl, rfl⟩ l28 (by decide) dX11_init_366 (fun f29 l29 e29 => ?_)
  replace e29 : f29 = [.int 0, .int 0, .int 0, .ref q6, .ref q13, .ref q20, .ref q27, .int 0, .ref q35, .ref q43, .ref q51, .ref q59, .ref q67, .ref q75, .ref q83, .ref q91, .ref q99, .int 0, .ref q107, .ref q115, .ref q123, .ref q131, .ref q139, .ref q147, .ref q156, .ref q164, .ref q310, .int 0, .int 50, .ref q324, .ref q332, .int 0, .int 0, .int 0, .int 0, .int 0, .ref q340, .ref q348, .ref q356, .int 0, .ref q364, .null, .null, .null, .int 0, .null, .int 0, .null, .int 0, .int 0, .null, .int 0, .null, .int 0, .int 0, .null, .int 0, .null, .int 0, .int 0, .int 0, .int 0, .long 0, .int 0, .int 0, .null, .null, .null, .null, .int 0] := by rw [e29, e28]; rfl
  clear e28 l28
  refine jg_tl (fun t28 g28 => ?_)
  replace g28 : t28 = [(q6, .inl (E.2.2.2.1 0, 4, .inl (fun _ => 0))), (q13, .inl (E.2.2.2.1 0, 4, .inl (fun _ => 0))), (q20, .inl (E.2.2.2.1 0, 4, .inl (fun _ => 0))), (q27, .inl (E.2.2.2.1 0, 4, .inl (fun _ => 0))), (q35, .inl (E.2.2.2.1 0, 20, .inl (fun _ => 0))), (q43, .inl (E.2.2.2.1 0, 20, .inl (fun _ => 0))), (q51, .inl (E.2.2.2.1 0, 20, .inl (fun _ => 0))), (q59, .inl (E.2.2.2.1 0, 20, .inl (fun _ => 0))), (q67, .inl (E.2.2.2.1 0, 20, .inl (fun _ => 0))), (q75, .inl (E.2.2.2.1 0, 20, .inl (fun _ => 0))), (q83, .inl (E.2.2.2.1 0, 20, .inl (fun _ => 0))), (q91, .inl (E.2.2.2.1 0, 20, .inl (fun _ => 0))), (q99, .inl (E.2.2.2.1 0, 25, .inl (fun _ => 0))), (q107, .inl (E.2.2.2.1 1, 60, .inl (fun _ => 0))), (q115, .inl (E.2.2.2.1 0, 60, .inl (fun _ => 0))), (q123, .inl (E.2.2.2.1 0, 60, .inl (fun _ => 0))), (q131, .inl (E.2.2.2.1 0, 60, .inl (fun _ => 0))), (q139, .inl (E.2.2.2.1 0, 60, .inl (fun _ => 0))), (q147, .inl (E.2.2.2.1 0, 60, .inl (fun _ => 0))), (q156, .inl (E.2.2.2.1 0, 3060, .inl (fun _ => 0))), (q164, .inl (E.2.2.2.1 0, 24, .inl (jg_h 24))), (q310, .inl (E.2.2.2.1 0, 10, .inl (fun _ => 0))), (q324, .inl (E.2.2.2.1 0, 60, .inl (fun _ => 0))), (q332, .inl (E.2.2.2.1 1, 60, .inl (fun _ => 0))), (q340, .inl (E.2.2.2.1 0, 10, .inl (fun _ => 0))), (q348, .inl (E.2.2.2.1 0, 50, .inl (fun _ => 0))), (q356, .inl (E.2.2.2.1 0, 10, .inl (fun _ => 0))), (q364, .inl (E.2.2.2.1 0, 100, .inl (fun _ => 0)))] := by rw [g28, g27]; rfl
  clear g27
  refine jg_aload_n C dX11_init_369 rfl ?_
  refine jg_bipush C 100 dX11_init_370 (by decide) ?_
  refine jg_newa C (t := 0) (N := 100) (Or.inl ⟨rfl, rfl⟩) kw_int (by decide) (by decide) (by decide) dX11_init_372 (by decide) (by decide) (fun q372 => ?_)
  refine jg_putF C hI kg_X11_99 ⟨rfl, rfl⟩ l29 (by decide) dX11_init_374 (fun f30 l30 e30 => ?_)
  replace e30 : f30 = [.int 0, .int 0, .int 0, .ref q6, .ref q13, .ref q20, .ref q27, .int 0, .ref q35, .ref q43, .ref q51, .ref q59, .ref q67, .ref q75, .ref q83, .ref q91, .ref q99, .int 0, .ref q107, .ref q115, .ref q123, .ref q131, .ref q139, .ref q147, .ref q156, .ref q164, .ref q310, .int 0, .int 50, .ref q324, .ref q332, .int 0, .int 0, .int 0, .int 0, .int 0, .ref q340, .ref q348, .ref q356, .int 0, .ref q364, .ref q372, .null, .null, .int 0, .null, .int 0, .null, .int 0, .int 0, .null, .int 0, .null, .int 0, .int 0, .null, .int 0, .null, .int 0, .int 0, .int 0, .int 0, .long 0, .int 0, .int 0, .null, .null, .null, .null, .int 0] := by rw [e30, e29]; rfl
  clear e29 l29
  refine jg_tl (fun t29 g29 => ?_)
  replace g29 : t29 = [(q6, .inl (E.2.2.2.1 0, 4, .inl (fun _ => 0))), (q13, .inl (E.2.2.2.1 0, 4, .inl (fun _ => 0))), (q20, .inl (E.2.2.2.1 0, 4, .inl (fun _ => 0))), (q27, .inl (E.2.2.2.1 0, 4, .inl (fun _ => 0))), (q35, .inl (E.2.2.2.1 0, 20, .inl (fun _ => 0))), (q43, .inl (E.2.2.2.1 0, 20, .inl (fun _ => 0))), (q51, .inl (E.2.2.2.1 0, 20, .inl (fun _ => 0))), (q59, .inl (E.2.2.2.1 0, 20, .inl (fun _ => 0))), (q67, .inl (E.2.2.2.1 0, 20, .inl (fun _ => 0))), (q75, .inl (E.2.2.2.1 0, 20, .inl (fun _ => 0))), (q83, .inl (E.2.2.2.1 0, 20, .inl (fun _ => 0))), (q91, .inl (E.2.2.2.1 0, 20, .inl (fun _ => 0))), (q99, .inl (E.2.2.2.1 0, 25, .inl (fun _ => 0))), (q107, .inl (E.2.2.2.1 1, 60, .inl (fun _ => 0))), (q115, .inl (E.2.2.2.1 0, 60, .inl (fun _ => 0))), (q123, .inl (E.2.2.2.1 0, 60, .inl (fun _ => 0))), (q131, .inl (E.2.2.2.1 0, 60, .inl (fun _ => 0))), (q139, .inl (E.2.2.2.1 0, 60, .inl (fun _ => 0))), (q147, .inl (E.2.2.2.1 0, 60, .inl (fun _ => 0))), (q156, .inl (E.2.2.2.1 0, 3060, .inl (fun _ => 0))), (q164, .inl (E.2.2.2.1 0, 24, .inl (jg_h 24))), (q310, .inl (E.2.2.2.1 0, 10, .inl (fun _ => 0))), (q324, .inl (E.2.2.2.1 0, 60, .inl (fun _ => 0))), (q332, .inl (E.2.2.2.1 1, 60, .inl (fun _ => 0))), (q340, .inl (E.2.2.2.1 0, 10, .inl (fun _ => 0))), (q348, .inl (E.2.2.2.1 0, 50, .inl (fun _ => 0))), (q356, .inl (E.2.2.2.1 0, 10, .inl (fun _ => 0))), (q364, .inl (E.2.2.2.1 0, 100, .inl (fun _ => 0))), (q372, .inl (E.2.2.2.1 0, 100, .inl (fun _ => 0)))] := by rw [g29, g28]; rfl
  clear g28
  refine jg_aload_n C dX11_init_377 rfl ?_
  refine jg_bipush C 100 dX11_init_378 (by decide) ?_
  refine jg_newa C (t := 0) (N := 100) (Or.inl ⟨rfl, rfl⟩) kw_int (by decide) (by decide) (by decide) dX11_init_380 (by decide) (by decide) (fun q380 => ?_)
  refine jg_putF C hI kg_X11_102 ⟨rfl, rfl⟩ l30 (by decide) dX11_init_382 (fun f31 l31 e31 => ?_)
  replace e31 : f31 = [.int 0, .int 0, .int 0, .ref q6, .ref q13, .ref q20, .ref q27, .int 0, .ref q35, .ref q43, .ref q51, .ref q59, .ref q67, .ref q75, .ref q83, .ref q91, .ref q99, .int 0, .ref q107, .ref q115, .ref q123, .ref q131, .ref q139, .ref q147, .ref q156, .ref q164, .ref q310, .int 0, .int 50, .ref q324, .ref q332, .int 0, .int 0, .int 0, .int 0, .int 0, .ref q340, .ref q348, .ref q356, .int 0, .ref q364, .ref q372, .ref q380, .null, .int 0, .null, .int 0, .null, .int 0, .int 0, .null, .int 0, .null, .int 0, .int 0, .null, .int 0, .null, .int 0, .int 0, .int 0, .int 0, .long 0, .int 0, .int 0, .null, .null, .null, .null, .int 0] := by rw [e31, e30]; rfl
  clear e30 l30
  refine jg_tl (fun t30 g30 => ?_)
  replace g30 : t30 = [(q6, .inl (E.2.2.2.1 0, 4, .inl (fun _ => 0))), (q13, .inl (E.2.2.2.1 0, 4, .inl (fun _ => 0))), (q20, .inl (E.2.2.2.1 0, 4, .inl (fun _ => 0))), (q27, .inl (E.2.2.2.1 0, 4, .inl (fun _ => 0))), (q35, .inl (E.2.2.2.1 0, 20, .inl (fun _ => 0))), (q43, .inl (E.2.2.2.1 0, 20, .inl (fun _ => 0))), (q51, .inl (E.2.2.2.1 0, 20, .inl (fun _ => 0))), (q59, .inl (E.2.2.2.1 0, 20, .inl (fun _ => 0))), (q67, .inl (E.2.2.2.1 0, 20, .inl (fun _ => 0))), (q75, .inl (E.2.2.2.1 0, 20, .inl (fun _ => 0))), (q83, .inl (E.2.2.2.1 0, 20, .inl (fun _ => 0))), (q91, .inl (E.2.2.2.1 0, 20, .inl (fun _ => 0))), (q99, .inl (E.2.2.2.1 0, 25, .inl (fun _ => 0))), (q107, .inl (E.2.2.2.1 1, 60, .inl (fun _ => 0))), (q115, .inl (E.2.2.2.1 0, 60, .inl (fun _ => 0))), (q123, .inl (E.2.2.2.1 0, 60, .inl (fun _ => 0))), (q131, .inl (E.2.2.2.1 0, 60, .inl (fun _ => 0))), (q139, .inl (E.2.2.2.1 0, 60, .inl (fun _ => 0))), (q147, .inl (E.2.2.2.1 0, 60, .inl (fun _ => 0))), (q156, .inl (E.2.2.2.1 0, 3060, .inl (fun _ => 0))), (q164, .inl (E.2.2.2.1 0, 24, .inl (jg_h 24))), (q310, .inl (E.2.2.2.1 0, 10, .inl (fun _ => 0))), (q324, .inl (E.2.2.2.1 0, 60, .inl (fun _ => 0))), (q332, .inl (E.2.2.2.1 1, 60, .inl (fun _ => 0))), (q340, .inl (E.2.2.2.1 0, 10, .inl (fun _ => 0))), (q348, .inl (E.2.2.2.1 0, 50, .inl (fun _ => 0))), (q356, .inl (E.2.2.2.1 0, 10, .inl (fun _ => 0))), (q364, .inl (E.2.2.2.1 0, 100, .inl (fun _ => 0))), (q372, .inl (E.2.2.2.1 0, 100, .inl (fun _ => 0))), (q380, .inl (E.2.2.2.1 0, 100, .inl (fun _ => 0)))] := by rw [g30, g29]; rfl
  clear g29
  refine jg_aload_n C dX11_init_385 rfl ?_
  refine jg_bipush C 100 dX11_init_386 (by decide) ?_
  refine jg_newa C (t := 0) (N := 100) (Or.inl ⟨rfl, rfl⟩) kw_int (by decide) (by decide) (by decide) dX11_init_388 (by decide) (by decide) (fun q388 => ?_)
  refine jg_putF C hI kg_X11_105 ⟨rfl, rfl⟩ l31 (by decide) dX11_init_390 (fun f32 l32 e32 => ?_)
  replace e32 : f32 = [.int 0, .int 0, .int 0, .ref q6, .ref q13, .ref q20, .ref q27, .int 0, .ref q35, .ref q43, .ref q51, .ref q59, .ref q67, .ref q75, .ref q83, .ref q91, .ref q99, .int 0, .ref q107, .ref q115, .ref q123, .ref q131, .ref q139, .ref q147, .ref q156, .ref q164, .ref q310, .int 0, .int 50, .ref q324, .ref q332, .int 0, .int 0, .int 0, .int 0, .int 0, .ref q340, .ref q348, .ref q356, .int 0, .ref q364, .ref q372, .ref q380, .ref q388, .int 0, .null, .int 0, .null, .int 0, .int 0, .null, .int 0, .null, .int 0, .int 0, .null, .int 0, .null, .int 0, .int 0, .int 0, .int 0, .long 0, .int 0, .int 0, .null, .null, .null, .null, .int 0] := by rw [e32, e31]; rfl
  clear e31 l31
  refine jg_tl (fun t31 g31 => ?_)
  replace g31 : t31 = [(q6, .inl (E.2.2.2.1 0, 4, .inl (fun _ => 0))), (q13, .inl (E.2.2.2.1 0, 4, .inl (fun _ => 0))), (q20, .inl (E.2.2.2.1 0, 4, .inl (fun _ => 0))), (q27, .inl (E.2.2.2.1 0, 4, .inl (fun _ => 0))), (q35, .inl (E.2.2.2.1 0, 20, .inl (fun _ => 0))), (q43, .inl (E.2.2.2.1 0, 20, .inl (fun _ => 0))), (q51, .inl (E.2.2.2.1 0, 20, .inl (fun _ => 0))), (q59, .inl (E.2.2.2.1 0, 20, .inl (fun _ => 0))), (q67, .inl (E.2.2.2.1 0, 20, .inl (fun _ => 0))), (q75, .inl (E.2.2.2.1 0, 20, .inl (fun _ => 0))), (q83, .inl (E.2.2.2.1 0, 20, .inl (fun _ => 0))), (q91, .inl (E.2.2.2.1 0, 20, .inl (fun _ => 0))), (q99, .inl (E.2.2.2.1 0, 25, .inl (fun _ => 0))), (q107, .inl (E.2.2.2.1 1, 60, .inl (fun _ => 0))), (q115, .inl (E.2.2.2.1 0, 60, .inl (fun _ => 0))), (q123, .inl (E.2.2.2.1 0, 60, .inl (fun _ => 0))), (q131, .inl (E.2.2.2.1 0, 60, .inl (fun _ => 0))), (q139, .inl (E.2.2.2.1 0, 60, .inl (fun _ => 0))), (q147, .inl (E.2.2.2.1 0, 60, .inl (fun _ => 0))), (q156, .inl (E.2.2.2.1 0, 3060, .inl (fun _ => 0))), (q164, .inl (E.2.2.2.1 0, 24, .inl (jg_h 24))), (q310, .inl (E.2.2.2.1 0, 10, .inl (fun _ => 0))), (q324, .inl (E.2.2.2.1 0, 60, .inl (fun _ => 0))), (q332, .inl (E.2.2.2.1 1, 60, .inl (fun _ => 0))), (q340, .inl (E.2.2.2.1 0, 10, .inl (fun _ => 0))), (q348, .inl (E.2.2.2.1 0, 50, .inl (fun _ => 0))), (q356, .inl (E.2.2.2.1 0, 10, .inl (fun _ => 0))), (q364, .inl (E.2.2.2.1 0, 100, .inl (fun _ => 0))), (q372, .inl (E.2.2.2.1 0, 100, .inl (fun _ => 0))), (q380, .inl (E.2.2.2.1 0, 100, .inl (fun _ => 0))), (q388, .inl (E.2.2.2.1 0, 100, .inl (fun _ => 0)))] := by rw [g31, g30]; rfl
  clear g30
  refine jg_aload_n C dX11_init_393 rfl ?_
  refine jg_sipush C 300 dX11_init_394 (by decide) ?_
  refine jg_newa C (t := 0) (N := 300) (Or.inl ⟨rfl, rfl⟩) kw_int (by decide) (by decide) (by decide) dX11_init_397 (by decide) (by decide) (fun q397 => ?_)
  refine jg_putF C hI kg_X11_108 ⟨rfl, rfl⟩ l32 (by decide) dX11_init_399 (fun f33 l33 e33 => ?_)
  replace e33 : f33 = [.int 0, .int 0, .int 0, .ref q6, .ref q13, .ref q20, .ref q27, .int 0, .ref q35, .ref q43, .ref q51, .ref q59, .ref q67, .ref q75, .ref q83, .ref q91, .ref q99, .int 0, .ref q107, .ref q115, .ref q123, .ref q131, .ref q139, .ref q147, .ref q156, .ref q164, .ref q310, .int 0, .int 50, .ref q324, .ref q332, .int 0, .int 0, .int 0, .int 0, .int 0, .ref q340, .ref q348, .ref q356, .int 0, .ref q364, .ref q372, .ref q380, .ref q388, .int 0, .ref q397, .int 0, .null, .int 0, .int 0, .null, .int 0, .null, .int 0, .int 0, .null, .int 0, .null, .int 0, .int 0, .int 0, .int 0, .long 0, .int 0, .int 0, .null, .null, .null, .null, .int 0] := by rw [e33, e32]; rfl
  clear e32 l32
  refine jg_tl (fun t32 g32 => ?_)
  replace g32 : t32 = [(q6, .inl (E.2.2.2.1 0, 4, .inl (fun _ => 0))), (q13, .inl (E.2.2.2.1 0, 4, .inl (fun _ => 0))), (q20, .inl (E.2.2.2.1 0, 4, .inl (fun _ => 0))), (q27, .inl (E.2.2.2.1 0, 4, .inl (fun _ => 0))), (q35, .inl (E.2.2.2.1 0, 20, .inl (fun _ => 0))), (q43, .inl (E.2.2.2.1 0, 20, .inl (fun _ => 0))), (q51, .inl (E.2.2.2.1 0, 20, .inl (fun _ => 0))), (q59, .inl (E.2.2.2.1 0, 20, .inl (fun _ => 0))), (q67, .inl (E.2.2.2.1 0, 20, .inl (fun _ => 0))), (q75, .inl (E.2.2.2.1 0, 20, .inl (fun _ => 0))), (q83, .inl (E.2.2.2.1 0, 20, .inl (fun _ => 0))), (q91, .inl (E.2.2.2.1 0, 20, .inl (fun _ => 0))), (q99, .inl (E.2.2.2.1 0, 25, .inl (fun _ => 0))), (q107, .inl (E.2.2.2.1 1, 60, .inl (fun _ => 0))), (q115, .inl (E.2.2.2.1 0, 60, .inl (fun _ => 0))), (q123, .inl (E.2.2.2.1 0, 60, .inl (fun _ => 0))), (q131, .inl (E.2.2.2.1 0, 60, .inl (fun _ => 0))), (q139, .inl (E.2.2.2.1 0, 60, .inl (fun _ => 0))), (q147, .inl (E.2.2.2.1 0, 60, .inl (fun _ => 0))), (q156, .inl (E.2.2.2.1 0, 3060, .inl (fun _ => 0))), (q164, .inl (E.2.2.2.1 0, 24, .inl (jg_h 24))), (q310, .inl (E.2.2.2.1 0, 10, .inl (fun _ => 0))), (q324, .inl (E.2.2.2.1 0, 60, .inl (fun _ => 0))), (q332, .inl (E.2.2.2.1 1, 60, .inl (fun _ => 0))), (q340, .inl (E.2.2.2.1 0, 10, .inl (fun _ => 0))), (q348, .inl (E.2.2.2.1 0, 50, .inl (fun _ => 0))), (q356, .inl (E.2.2.2.1 0, 10, .inl (fun _ => 0))), (q364, .inl (E.2.2.2.1 0, 100, .inl (fun _ => 0))), (q372, .inl (E.2.2.2.1 0, 100, .inl (fun _ => 0))), (q380, .inl (E.2.2.2.1 0, 100, .inl (fun _ => 0))), (q388, .inl (E.2.2.2.1 0, 100, .inl (fun _ => 0))), (q397, .inl (E.2.2.2.1 0, 300, .inl (fun _ => 0)))] := by rw [g32, g31]; rfl
  clear g31
  refine jg_aload_n C dX11_init_402 rfl ?_
  refine jg_iconst C 5 dX11_init_403 (by decide) ?_
  refine jg_newa C (t := 0) (N := 5) (Or.inl ⟨rfl, rfl⟩) kw_int (by decide) (by decide) (by decide) dX11_init_404 (by decide) (by decide) (fun q404 => ?_)
  refine jg_putF C hI kg_X11_111 ⟨rfl, rfl⟩ l33 (by decide) dX11_init_406 (fun f34 l34 e34 => ?_)
  replace e34 : f34 = [.int 0, .int 0, .int 0, .ref q6, .ref q13, .ref q20, .ref q27, .int 0, .ref q35, .ref q43, .ref q51, .ref q59, .ref q67, .ref q75, .ref q83, .ref q91, .ref q99, .int 0, .ref q107, .ref q115, .ref q123, .ref q131, .ref q139, .ref q147, .ref q156, .ref q164, .ref q310, .int 0, .int 50, .ref q324, .ref q332, .int 0, .int 0, .int 0, .int 0, .int 0, .ref q340, .ref q348, .ref q356, .int 0, .ref q364, .ref q372, .ref q380, .ref q388, .int 0, .ref q397, .int 0, .ref q404, .int 0, .int 0, .null, .int 0, .null, .int 0, .int 0, .null, .int 0, .null, .int 0, .int 0, .int 0, .int 0, .long 0, .int 0, .int 0, .null, .null, .null, .null, .int 0] := by rw [e34, e33]; rfl
  clear e33 l33
  refine jg_tl (fun t33 g33 => ?_)
  replace g33 : t33 = [(q6, .inl (E.2.2.2.1 0, 4, .inl (fun _ => 0))), (q13, .inl (E.2.2.2.1 0, 4, .inl (fun _ => 0))), (q20, .inl (E.2.2.2.1 0, 4, .inl (fun _ => 0))), (q27, .inl (E.2.2.2.1 0, 4, .inl (fun _ => 0))), (q35, .inl (E.2.2.2.1 0, 20, .inl (fun _ => 0))), (q43, .inl (E.2.2.2.1 0, 20, .inl (fun _ => 0))), (q51, .inl (E.2.2.2.1 0, 20, .inl (fun _ => 0))), (q59, .inl (E.2.2.2.1 0, 20, .inl (fun _ => 0))), (q67, .inl (E.2.2.2.1 0, 20, .inl (fun _ => 0))), (q75, .inl (E.2.2.2.1 0, 20, .inl (fun _ => 0))), (q83, .inl (E.2.2.2.1 0, 20, .inl (fun _ => 0))), (q91, .inl (E.2.2.2.1 0, 20, .inl (fun _ => 0))), (q99, .inl (E.2.2.2.1 0, 25, .inl (fun _ => 0))), (q107, .inl (E.2.2.2.1 1, 60, .inl (fun _ => 0))), (q115, .inl (E.2.2.2.1 0, 60, .inl (fun _ => 0))), (q123, .inl (E.2.2.2.1 0, 60, .inl (fun _ => 0))), (q131, .inl (E.2.2.2.1 0, 60, .inl (fun _ => 0))), (q139, .inl (E.2.2.2.1 0, 60, .inl (fun _ => 0))), (q147, .inl (E.2.2.2.1 0, 60, .inl (fun _ => 0))), (q156, .inl (E.2.2.2.1 0, 3060, .inl (fun _ => 0))), (q164, .inl (E.2.2.2.1 0, 24, .inl (jg_h 24))), (q310, .inl (E.2.2.2.1 0, 10, .inl (fun _ => 0))), (q324, .inl (E.2.2.2.1 0, 60, .inl (fun _ => 0))), (q332, .inl (E.2.2.2.1 1, 60, .inl (fun _ => 0))), (q340, .inl (E.2.2.2.1 0, 10, .inl (fun _ => 0))), (q348, .inl (E.2.2.2.1 0, 50, .inl (fun _ => 0))), (q356, .inl (E.2.2.2.1 0, 10, .inl (fun _ => 0))), (q364, .inl (E.2.2.2.1 0, 100, .inl (fun _ => 0))), (q372, .inl (E.2.2.2.1 0, 100, .inl (fun _ => 0))), (q380, .inl (E.2.2.2.1 0, 100, .inl (fun _ => 0))), (q388, .inl (E.2.2.2.1 0, 100, .inl (fun _ => 0))), (q397, .inl (E.2.2.2.1 0, 300, .inl (fun _ => 0))), (q404, .inl (E.2.2.2.1 0, 5, .inl (fun _ => 0)))] := by rw [g33, g32]; rfl
  clear g32
  refine jg_aload_n C dX11_init_409 rfl ?_
  refine jg_sipush C 300 dX11_init_410 (by decide) ?_
  refine jg_newa C (t := 0) (N := 300) (Or.inl ⟨rfl, rfl⟩) kw_int (by decide) (by decide) (by decide) dX11_init_413 (by decide) (by decide) (fun q413 => ?_)
  refine jg_putF C hI kg_X11_114 ⟨rfl, rfl⟩ l34 (by decide) dX11_init_415 (fun f35 l35 e35 => ?_)
  replace e35 : f35 = [.int 0, .int 0, .int 0, .ref q6, .ref q13, .ref q20, .ref q27, .int 0, .ref q35, .ref q43, .ref q51, .ref q59, .ref q67, .ref q75, .ref q83, .ref q91, .ref q99, .int 0, .ref q107, .ref q115, .ref q123, .ref q131, .ref q139, .ref q147, .ref q156, .ref q164, .ref q310, .int 0, .int 50, .ref q324, .ref q332, .int 0, .int 0, .int 0, .int 0, .int 0, .ref q340, .ref q348, .ref q356, .int 0, .ref q364, .ref q372, .ref q380, .ref q388, .int 0, .ref q397, .int 0, .ref q404, .int 0, .int 0, .ref q413, .int 0, .null, .int 0, .int 0, .null, .int 0, .null, .int 0, .int 0, .int 0, .int 0, .long 0, .int 0, .int 0, .null, .null, .null, .null, .int 0] := by rw [e35, e34]; rfl
  clear e34 l34
  refine jg_tl (fun t34 g34 => ?_)
  replace g34 : t34 = [(q6, .inl (E.2.2.2.1 0, 4, .inl (fun _ => 0))), (q13, .inl (E.2.2.2.1 0, 4, .inl (fun _ => 0))), (q20, .inl (E.2.2.2.1 0, 4, .inl (fun _ => 0))), (q27, .inl (E.2.2.2.1 0, 4, .inl (fun _ => 0))), (q35, .inl (E.2.2.2.1 0, 20, .inl (fun _ => 0))), (q43, .inl (E.2.2.2.1 0, 20, .inl (fun _ => 0))), (q51, .inl (E.2.2.2.1 0, 20, .inl (fun _ => 0))), (q59, .inl (E.2.2.2.1 0, 20, .inl (fun _ => 0))), (q67, .inl (E.2.2.2.1 0, 20, .inl (fun _ => 0))), (q75, .inl (E.2.2.2.1 0, 20, .inl (fun _ => 0))), (q83, .inl (E.2.2.2.1 0, 20, .inl (fun _ => 0))), (q91, .inl (E.2.2.2.1 0, 20, .inl (fun _ => 0))), (q99, .inl (E.2.2.2.1 0, 25, .inl (fun _ => 0))), (q107, .inl (E.2.2.2.1 1, 60, .inl (fun _ => 0))), (q115, .inl (E.2.2.2.1 0, 60, .inl (fun _ => 0))), (q123, .inl (E.2.2.2.1 0, 60, .inl (fun _ => 0))), (q131, .inl (E.2.2.2.1 0, 60, .inl (fun _ => 0))), (q139, .inl (E.2.2.2.1 0, 60, .inl (fun _ => 0))), (q147, .inl (E.2.2.2.1 0, 60, .inl (fun _ => 0))), (q156, .inl (E.2.2.2.1 0, 3060, .inl (fun _ => 0))), (q164, .inl (E.2.2.2.1 0, 24, .inl (jg_h 24))), (q310, .inl (E.2.2.2.1 0, 10, .inl (fun _ => 0))), (q324, .inl (E.2.2.2.1 0, 60, .inl (fun _ => 0))), (q332, .inl (E.2.2.2.1 1, 60, .inl (fun _ => 0))), (q340, .inl (E.2.2.2.1 0, 10, .inl (fun _ => 0))), (q348, .inl (E.2.2.2.1 0, 50, .inl (fun _ => 0))), (q356, .inl (E.2.2.2.1 0, 10, .inl (fun _ => 0))), (q364, .inl (E.2.2.2.1 0, 100, .inl (fun _ => 0))), (q372, .inl (E.2.2.2.1 0, 100, .inl (fun _ => 0))), (q380, .inl (E.2.2.2.1 0, 100, .inl (fun _ => 0))), (q388, .inl (E.2.2.2.1 0, 100, .inl (fun _ => 0))), (q397, .inl (E.2.2.2.1 0, 300, .inl (fun _ => 0))), (q404, .inl (E.2.2.2.1 0, 5, .inl (fun _ => 0))), (q413, .inl (E.2.2.2.1 0, 300, .inl (fun _ => 0)))] := by rw [g34, g33]; rfl
  clear g33
  refine jg_aload_n C dX11_init_418 rfl ?_
  refine jg_iconst C 5 dX11_init_419 (by decide) ?_
  refine jg_newa C (t := 0) (N := 5) (Or.inl ⟨rfl, rfl⟩) kw_int (by decide) (by decide) (by decide) dX11_init_420 (by decide) (by decide) (fun q420 => ?_)
  refine jg_putF C hI kg_X11_117 ⟨rfl, rfl⟩ l35 (by decide) dX11_init_422 (fun f36 l36 e36 => ?_)
  replace e36 : f36 = [.int 0, .int 0, .int 0, .ref q6, .ref q13, .ref q20, .ref q27, .int 0, .ref q35, .ref q43, .ref q51, .ref q59, .ref q67, .ref q75, .ref q83, .ref q91, .ref q99, .int 0, .ref q107, .ref q115, .ref q123, .ref q131, .ref q139, .ref q147, .ref q156, .ref q164, .ref q310, .int 0, .int 50, .ref q324, .ref q332, .int 0, .int 0, .int 0, .int 0, .int 0, .ref q340, .ref q348, .ref q356, .int 0, .ref q364, .ref q372, .ref q380, .ref q388, .int 0, .ref q397, .int 0, .ref q404, .int 0, .int 0, .ref q413, .int 0, .ref q420, .int 0, .int 0, .null, .int 0, .null, .int 0, .int 0, .int 0, .int 0, .long 0, .int 0, .int 0, .null, .null, .null, .null, .int 0] := by rw [e36, e35]; rfl
  clear e35 l35
  refine jg_tl (fun t35 g35 => ?_)
  replace g35 : t35 = [(q6, .inl (E.2.2.2.1 0, 4, .inl (fun _ => 0))), (q13, .inl (E.2.2.2.1 0, 4, .inl (fun _ => 0))), (q20, .inl (E.2.2.2.1 0, 4, .inl (fun _ => 0))), (q27, .inl (E.2.2.2.1 0, 4, .inl (fun _ => 0))), (q35, .inl (E.2.2.2.1 0, 20, .inl (fun _ => 0))), (q43, .inl (E.2.2.2.1 0, 20, .inl (fun _ => 0))), (q51, .inl (E.2.2.2.1 0, 20, .inl (fun _ => 0))), (q59, .inl (E.2.2.2.1 0, 20, .inl (fun _ => 0))), (q67, .inl (E.2.2.2.1 0, 20, .inl (fun _ => 0))), (q75, .inl (E.2.2.2.1 0, 20, .inl (fun _ => 0))), (q83, .inl (E.2.2.2.1 0, 20, .inl (fun _ => 0))), (q91, .inl (E.2.2.2.1 0, 20, .inl (fun _ => 0))), (q99, .inl (E.2.2.2.1 0, 25, .inl (fun _ => 0))), (q107, .inl (E.2.2.2.1 1, 60, .inl (fun _ => 0))), (q115, .inl (E.2.2.2.1 0, 60, .inl (fun _ => 0))), (q123, .inl (E.2.2.2.1 0, 60, .inl (fun _ => 0))), (q131, .inl (E.2.2.2.1 0, 60, .inl (fun _ => 0))), (q139, .inl (E.2.2.2.1 0, 60, .inl (fun _ => 0))), (q147, .inl (E.2.2.2.1 0, 60, .inl (fun _ => 0))), (q156, .inl (E.2.2.2.1 0, 3060, .inl (fun _ => 0))), (q164, .inl (E.2.2.2.1 0, 24, .inl (jg_h 24))), (q310, .inl (E.2.2.2.1 0, 10, .inl (fun _ => 0))), (q324, .inl (E.2.2.2.1 0, 60, .inl (fun _ => 0))), (q332, .inl (E.2.2.2.1 1, 60, .inl (fun _ => 0))), (q340, .inl (E.2.2.2.1 0, 10, .inl (fun _ => 0))), (q348, .inl (E.2.2.2.1 0, 50, .inl (fun _ => 0))), (q356, .inl (E.2.2.2.1 0, 10, .inl (fun _ => 0))), (q364, .inl (E.2.2.2.1 0, 100, .inl (fun _ => 0))), (q372, .inl (E.2.2.2.1 0, 100, .inl (fun _ => 0))), (q380, .inl (E.2.2.2.1 0, 100, .inl (fun _ => 0))), (q388, .inl (E.2.2.2.1 0, 100, .inl (fun _ => 0))), (q397, .inl (E.2.2.2.1 0, 300, .inl (fun _ => 0))), (q404, .inl (E.2.2.2.1 0, 5, .inl (fun _ => 0))), (q413, .inl (E.2.2.2.1 0, 300, .inl (fun _ => 0))), (q420, .inl (E.2.2.2.1 0, 5, .inl (fun _ => 0)))] := by rw [g35, g34]; rfl
  clear g34
  refine jg_aload_n C dX11_init_425 rfl ?_
  refine jg_sipush C 300 dX11_init_426 (by decide) ?_
  refine jg_newa C (t := 0) (N := 300) (Or.inl ⟨rfl, rfl⟩) kw_int (by decide) (by decide) (by decide) dX11_init_429 (by decide) (by decide) (fun q429 => ?_)
  refine jg_putF C hI kg_X11_120 ⟨rfl, rfl⟩ l36 (by decide) dX11_init_431 (fun f37 l37 e37 => ?_)
  replace e37 : f37 = [.int 0, .int 0, .int 0, .ref q6, .ref q13, .ref q20, .ref q27, .int 0, .ref q35, .ref q43, .ref q51, .ref q59, .ref q67, .ref q75, .ref q83, .ref q91, .ref q99, .int 0, .ref q107, .ref q115, .ref q123, .ref q131, .ref q139, .ref q147, .ref q156, .ref q164, .ref q310, .int 0, .int 50, .ref q324, .ref q332, .int 0, .int 0, .int 0, .int 0, .int 0, .ref q340, .ref q348, .ref q356, .int 0, .ref q364, .ref q372, .ref q380, .ref q388, .int 0, .ref q397, .int 0, .ref q404, .int 0, .int 0, .ref q413, .int 0, .ref q420, .int 0, .int 0, .ref q429, .int 0, .null, .int 0, .int 0, .int 0, .int 0, .long 0, .int 0, .int 0, .null, .null, .null, .null, .int 0] := by rw [e37, e36]; rfl
  clear e36 l36
  refine jg_tl (fun t36 g36 => ?_)
  replace g36 : t36 = [(q6, .inl (E.2.2.2.1 0, 4, .inl (fun _ => 0))), (q13, .inl (E.2.2.2.1 0, 4, .inl (fun _ => 0))), (q20, .inl (E.2.2.2.1 0, 4, .inl (fun _ => 0))), (q27, .inl (E.2.2.2.1 0, 4, .inl (fun _ => 0))), (q35, .inl (E.2.2.2.1 0, 20, .inl (fun _ => 0))), (q43, .inl (E.2.2.2.1 0, 20, .inl (fun _ => 0))), (q51, .inl (E.2.2.2.1 0, 20, .inl (fun _ => 0))), (q59, .inl (E.2.2.2.1 0, 20, .inl (fun _ => 0))), (q67, .inl (E.2.2.2.1 0, 20, .inl (fun _ => 0))), (q75, .inl (E.2.2.2.1 0, 20, .inl (fun _ => 0))), (q83, .inl (E.2.2.2.1 0, 20, .inl (fun _ => 0))), (q91, .inl (E.2.2.2.1 0, 20, .inl (fun _ => 0))), (q99, .inl (E.2.2.2.1 0, 25, .inl (fun _ => 0))), (q107, .inl (E.2.2.2.1 1, 60, .inl (fun _ => 0))), (q115, .inl (E.2.2.2.1 0, 60, .inl (fun _ => 0))), (q123, .inl (E.2.2.2.1 0, 60, .inl (fun _ => 0))), (q131, .inl (E.2.2.2.1 0, 60, .inl (fun _ => 0))), (q139, .inl (E.2.2.2.1 0, 60, .inl (fun _ => 0))), (q147, .inl (E.2.2.2.1 0, 60, .inl (fun _ => 0))), (q156, .inl (E.2.2.2.1 0, 3060, .inl (fun _ => 0))), (q164, .inl (E.2.2.2.1 0, 24, .inl (jg_h 24))), (q310, .inl (E.2.2.2.1 0, 10, .inl (fun _ => 0))), (q324, .inl (E.2.2.2.1 0, 60, .inl (fun _ => 0))), (q332, .inl (E.2.2.2.1 1, 60, .inl (fun _ => 0))), (q340, .inl (E.2.2.2.1 0, 10, .inl (fun _ => 0))), (q348, .inl (E.2.2.2.1 0, 50, .inl (fun _ => 0))), (q356, .inl (E.2.2.2.1 0, 10, .inl (fun _ => 0))), (q364, .inl (E.2.2.2.1 0, 100, .inl (fun _ => 0))), (q372, .inl (E.2.2.2.1 0, 100, .inl (fun _ => 0))), (q380, .inl (E.2.2.2.1 0, 100, .inl (fun _ => 0))), (q388, .inl (E.2.2.2.1 0, 100, .inl (fun _ => 0))), (q397, .inl (E.2.2.2.1 0, 300, .inl (fun _ => 0))), (q404, .inl (E.2.2.2.1 0, 5, .inl (fun _ => 0))), (q413, .inl (E.2.2.2.1 0, 300, .inl (fun _ => 0))), (q420, .inl (E.2.2.2.1 0, 5, .inl (fun _ => 0))), (q429, .inl (E.2.2.2.1 0, 300, .inl (fun _ => 0)))] := by rw [g36, g35]; rfl
  clear g35
  refine jg_aload_n C dX11_init_434 rfl ?_
  refine jg_sipush C 300 dX11_init_435 (by decide) ?_
  refine jg_newa C (t := 0) (N := 300) (Or.inl ⟨rfl, rfl⟩) kw_int (by decide) (by decide) (by decide) dX11_init_438 (by decide) (by decide) (fun q438 => ?_)
  refine jg_putF C hI kg_X11_123 ⟨rfl, rfl⟩ l37 (by decide) dX11_init_440 (fun f38 l38 e38 => ?_)
  replace e38 : f38 = [.int 0, .int 0, .int 0, .ref q6, .ref q13, .ref q20, .ref q27, .int 0, .ref q35, .ref q43, .ref q51, .ref q59, .ref q67, .ref q75, .ref q83, .ref q91, .ref q99, .int 0, .ref q107, .ref q115, .ref q123, .ref q131, .ref q139, .ref q147, .ref q156, .ref q164, .ref q310, .int 0, .int 50, .ref q324, .ref q332, .int 0, .int 0, .int 0, .int 0, .int 0, .ref q340, .ref q348, .ref q356, .int 0, .ref q364, .ref q372, .ref q380, .ref q388, .int 0, .ref q397, .int 0, .ref q404, .int 0, .int 0, .ref q413, .int 0, .ref q420, .int 0, .int 0, .ref q429, .int 0, .ref q438, .int 0, .int 0, .int 0, .int 0, .long 0, .int 0, .int 0, .null, .null, .null, .null, .int 0] := by rw [e38, e37]; rfl
  clear e37 l37
  refine jg_tl (fun t37 g37 => ?_)
  replace g37 : t37 = [(q6, .inl (E.2.2.2.1 0, 4, .inl (fun _ => 0))), (q13, .inl (E.2.2.2.1 0, 4, .inl (fun _ => 0))), (q20, .inl (E.2.2.2.1 0, 4, .inl (fun _ => 0))), (q27, .inl (E.2.2.2.1 0, 4, .inl (fun _ => 0))), (q35, .inl (E.2.2.2.1 0, 20, .inl (fun _ => 0))), (q43, .inl (E.2.2.2.1 0, 20, .inl (fun _ => 0))), (q51, .inl (E.2.2.2.1 0, 20, .inl (fun _ => 0))), (q59, .inl (E.2.2.2.1 0, 20, .inl (fun _ => 0))), (q67, .inl (E.2.2.2.1 0, 20, .inl (fun _ => 0))), (q75, .inl (E.2.2.2.1 0, 20, .inl (fun _ => 0))), (q83, .inl (E.2.2.2.1 0, 20, .inl (fun _ => 0))), (q91, .inl (E.2.2.2.1 0, 20, .inl (fun _ => 0))), (q99, .inl (E.2.2.2.1 0, 25, .inl (fun _ => 0))), (q107, .inl (E.2.2.2.1 1, 60, .inl (fun _ => 0))), (q115, .inl (E.2.2.2.1 0, 60, .inl (fun _ => 0))), (q123, .inl (E.2.2.2.1 0, 60, .inl (fun _ => 0))), (q131, .inl (E.2.2.2.1 0, 60, .inl (fun _ => 0))), (q139, .inl (E.2.2.2.1 0, 60, .inl (fun _ => 0))), (q147, .inl (E.2.2.2.1 0, 60, .inl (fun _ => 0))), (q156, .inl (E.2.2.2.1 0, 3060, .inl (fun _ => 0))), (q164, .inl (E.2.2.2.1 0, 24, .inl (jg_h 24))), (q310, .inl (E.2.2.2.1 0, 10, .inl (fun _ => 0))), (q324, .inl (E.2.2.2.1 0, 60, .inl (fun _ => 0))), (q332, .inl (E.2.2.2.1 1, 60, .inl (fun _ => 0))), (q340, .inl (E.2.2.2.1 0, 10, .inl (fun _ => 0))), (q348, .inl (E.2.2.2.1 0, 50, .inl (fun _ => 0))), (q356, .inl (E.2.2.2.1 0, 10, .inl (fun _ => 0))), (q364, .inl (E.2.2.2.1 0, 100, .inl (fun _ => 0))), (q372, .inl (E.2.2.2.1 0, 100, .inl (fun _ => 0))), (q380, .inl (E.2.2.2.1 0, 100, .inl (fun _ => 0))), (q388, .inl (E.2.2.2.1 0, 100, .inl (fun _ => 0))), (q397, .inl (E.2.2.2.1 0, 300, .inl (fun _ => 0))), (q404, .inl (E.2.2.2.1 0, 5, .inl (fun _ => 0))), (q413, .inl (E.2.2.2.1 0, 300, .inl (fun _ => 0))), (q420, .inl (E.2.2.2.1 0, 5, .inl (fun _ => 0))), (q429, .inl (E.2.2.2.1 0, 300, .inl (fun _ => 0))), (q438, .inl (E.2.2.2.1 0, 300, .inl (fun _ => 0)))] := by rw [g37, g36]; rfl
  clear g36
  refine jg_aload_n C dX11_init_443 rfl ?_
  refine jg_iconst C (-1) dX11_init_444 (by decide) ?_
  refine jg_puti C kg_X11_126 ⟨rfl, rfl⟩ l38 (by decide) dX11_init_445 (fun f39 l39 e39 => ?_)
  replace e39 : f39 = [.int 0, .int 0, .int 0, .ref q6, .ref q13, .ref q20, .ref q27, .int 0, .ref q35, .ref q43, .ref q51, .ref q59, .ref q67, .ref q75, .ref q83, .ref q91, .ref q99, .int 0, .ref q107, .ref q115, .ref q123, .ref q131, .ref q139, .ref q147, .ref q156, .ref q164, .ref q310, .int 0, .int 50, .ref q324, .ref q332, .int 0, .int 0, .int 0, .int 0, .int 0, .ref q340, .ref q348, .ref q356, .int 0, .ref q364, .ref q372, .ref q380, .ref q388, .int 0, .ref q397, .int 0, .ref q404, .int 0, .int 0, .ref q413, .int 0, .ref q420, .int 0, .int 0, .ref q429, .int 0, .ref q438, .int 0, .int 0, .int 0, .int 0, .long 0, .int (-1), .int 0, .null, .null, .null, .null, .int 0] := by rw [e39, e38]; rfl
  clear e38 l38
  refine jg_aload_n C dX11_init_448 rfl ?_
  refine jg_bipush C 50 dX11_init_449 (by decide) ?_
  refine jg_newa C (t := 1) (N := 50) (Or.inr ⟨rfl, rfl⟩) kw_boolean (by decide) (by decide) (by decide) dX11_init_451 (by decide) (by decide) (fun q451 => ?_)
  refine jg_putF C hI kg_X11_129 ⟨rfl, rfl⟩ l39 (by decide) dX11_init_453 (fun f40 l40 e40 => ?_)
  replace e40 : f40 = [.int 0, .int 0, .int 0, .ref q6, .ref q13, .ref q20, .ref q27, .int 0, .ref q35, .ref q43, .ref q51, .ref q59, .ref q67, .ref q75, .ref q83, .ref q91, .ref q99, .int 0, .ref q107, .ref q115, .ref q123, .ref q131, .ref q139, .ref q147, .ref q156, .ref q164, .ref q310, .int 0, .int 50, .ref q324, .ref q332, .int 0, .int 0, .int 0, .int 0, .int 0, .ref q340, .ref q348, .ref q356, .int 0, .ref q364, .ref q372, .ref q380, .ref q388, .int 0, .ref q397, .int 0, .ref q404, .int 0, .int 0, .ref q413, .int 0, .ref q420, .int 0, .int 0, .ref q429, .int 0, .ref q438, .int 0, .int 0, .int 0, .int 0, .long 0, .int (-1), .int 0, .ref q451, .null, .null, .null, .int 0] := by rw [e40, e39]; rfl
  clear e39 l39
  refine jg_tl (fun t38 g38 => ?_)
  replace g38 : t38 = [(q6, .inl (E.2.2.2.1 0, 4, .inl (fun _ => 0))), (q13, .inl (E.2.2.2.1 0, 4, .inl (fun _ => 0))), (q20, .inl (E.2.2.2.1 0, 4, .inl (fun _ => 0))), (q27, .inl (E.2.2.2.1 0, 4, .inl (fun _ => 0))), (q35, .inl (E.2.2.2.1 0, 20, .inl (fun _ => 0))), (q43, .inl (E.2.2.2.1 0, 20, .inl (fun _ => 0))), (q51, .inl (E.2.2.2.1 0, 20, .inl (fun _ => 0))), (q59, .inl (E.2.2.2.1 0, 20, .inl (fun _ => 0))), (q67, .inl (E.2.2.2.1 0, 20, .inl (fun _ => 0))), (q75, .inl (E.2.2.2.1 0, 20, .inl (fun _ => 0))), (q83, .inl (E.2.2.2.1 0, 20, .inl (fun _ => 0))), (q91, .inl (E.2.2.2.1 0, 20, .inl (fun _ => 0))), (q99, .inl (E.2.2.2.1 0, 25, .inl (fun _ => 0))), (q107, .inl (E.2.2.2.1 1, 60, .inl (fun _ => 0))), (q115, .inl (E.2.2.2.1 0, 60, .inl (fun _ => 0))), (q123, .inl (E.2.2.2.1 0, 60, .inl (fun _ => 0))), (q131, .inl (E.2.2.2.1 0, 60, .inl (fun _ => 0))), (q139, .inl (E.2.2.2.1 0, 60, .inl (fun _ => 0))), (q147, .inl (E.2.2.2.1 0, 60, .inl (fun _ => 0))), (q156, .inl (E.2.2.2.1 0, 3060, .inl (fun _ => 0))), (q164, .inl (E.2.2.2.1 0, 24, .inl (jg_h 24))), (q310, .inl (E.2.2.2.1 0, 10, .inl (fun _ => 0))), (q324, .inl (E.2.2.2.1 0, 60, .inl (fun _ => 0))), (q332, .inl (E.2.2.2.1 1, 60, .inl (fun _ => 0))), (q340, .inl (E.2.2.2.1 0, 10, .inl (fun _ => 0))), (q348, .inl (E.2.2.2.1 0, 50, .inl (fun _ => 0))), (q356, .inl (E.2.2.2.1 0, 10, .inl (fun _ => 0))), (q364, .inl (E.2.2.2.1 0, 100, .inl (fun _ => 0))), (q372, .inl (E.2.2.2.1 0, 100, .inl (fun _ => 0))), (q380, .inl (E.2.2.2.1 0, 100, .inl (fun _ => 0))), (q388, .inl (E.2.2.2.1 0, 100, .inl (fun _ => 0))), (q397, .inl (E.2.2.2.1 0, 300, .inl (fun _ => 0))), (q404, .inl (E.2.2.2.1 0, 5, .inl (fun _ => 0))), (q413, .inl (E.2.2.2.1 0, 300, .inl (fun _ => 0))), (q420, .inl (E.2.2.2.1 0, 5, .inl (fun _ => 0))), (q429, .inl (E.2.2.2.1 0, 300, .inl (fun _ => 0))), (q438, .inl (E.2.2.2.1 0, 300, .inl (fun _ => 0))), (q451, .inl (E.2.2.2.1 1, 50, .inl (fun _ => 0)))] := by rw [g38, g37]; rfl
  clear g37
  refine jg_aload_n C dX11_init_456 rfl ?_
  refine jg_bipush C 20 dX11_init_457 (by decide) ?_
  refine jg_newa C (t := 1) (N := 20) (Or.inr ⟨rfl, rfl⟩) kw_boolean (by decide) (by decide) (by decide) dX11_init_459 (by decide) (by decide) (fun q459 => ?_)
  refine jg_putF C hI kg_X11_132 ⟨rfl, rfl⟩ l40 (by decide) dX11_init_461 (fun f41 l41 e41 => ?_)
  replace e41 : f41 = [.int 0, .int 0, .int 0, .ref q6, .ref q13, .ref q20, .ref q27, .int 0, .ref q35, .ref q43, .ref q51, .ref q59, .ref q67, .ref q75, .ref q83, .ref q91, .ref q99, .int 0, .ref q107, .ref q115, .ref q123, .ref q131, .ref q139, .ref q147, .ref q156, .ref q164, .ref q310, .int 0, .int 50, .ref q324, .ref q332, .int 0, .int 0, .int 0, .int 0, .int 0, .ref q340, .ref q348, .ref q356, .int 0, .ref q364, .ref q372, .ref q380, .ref q388, .int 0, .ref q397, .int 0, .ref q404, .int 0, .int 0, .ref q413, .int 0, .ref q420, .int 0, .int 0, .ref q429, .int 0, .ref q438, .int 0, .int 0, .int 0, .int 0, .long 0, .int (-1), .int 0, .ref q451, .ref q459, .null, .null, .int 0] := by rw [e41, e40]; rfl
  clear e40 l40
  refine jg_tl (fun t39 g39 => ?_)
  replace g39 : t39 = [(q6, .inl (E.2.2.2.1 0, 4, .inl (fun _ => 0))), (q13, .inl (E.2.2.2.1 0, 4, .inl (fun _ => 0))), (q20, .inl (E.2.2.2.1 0, 4, .inl (fun _ => 0))), (q27, .inl (E.2.2.2.1 0, 4, .inl (fun _ => 0))), (q35, .inl (E.2.2.2.1 0, 20, .inl (fun _ => 0))), (q43, .inl (E.2.2.2.1 0, 20, .inl (fun _ => 0))), (q51, .inl (E.2.2.2.1 0, 20, .inl (fun _ => 0))), (q59, .inl (E.2.2.2.1 0, 20, .inl (fun _ => 0))), (q67, .inl (E.2.2.2.1 0, 20, .inl (fun _ => 0))), (q75, .inl (E.2.2.2.1 0, 20, .inl (fun _ => 0))), (q83, .inl (E.2.2.2.1 0, 20, .inl (fun _ => 0))), (q91, .inl (E.2.2.2.1 0, 20, .inl (fun _ => 0))), (q99, .inl (E.2.2.2.1 0, 25, .inl (fun _ => 0))), (q107, .inl (E.2.2.2.1 1, 60, .inl (fun _ => 0))), (q115, .inl (E.2.2.2.1 0, 60, .inl (fun _ => 0))), (q123, .inl (E.2.2.2.1 0, 60, .inl (fun _ => 0))), (q131, .inl (E.2.2.2.1 0, 60, .inl (fun _ => 0))), (q139, .inl (E.2.2.2.1 0, 60, .inl (fun _ => 0))), (q147, .inl (E.2.2.2.1 0, 60, .inl (fun _ => 0))), (q156, .inl (E.2.2.2.1 0, 3060, .inl (fun _ => 0))), (q164, .inl (E.2.2.2.1 0, 24, .inl (jg_h 24))), (q310, .inl (E.2.2.2.1 0, 10, .inl (fun _ => 0))), (q324, .inl (E.2.2.2.1 0, 60, .inl (fun _ => 0))), (q332, .inl (E.2.2.2.1 1, 60, .inl (fun _ => 0))), (q340, .inl (E.2.2.2.1 0, 10, .inl (fun _ => 0))), (q348, .inl (E.2.2.2.1 0, 50, .inl (fun _ => 0))), (q356, .inl (E.2.2.2.1 0, 10, .inl (fun _ => 0))), (q364, .inl (E.2.2.2.1 0, 100, .inl (fun _ => 0))), (q372, .inl (E.2.2.2.1 0, 100, .inl (fun _ => 0))), (q380, .inl (E.2.2.2.1 0, 100, .inl (fun _ => 0))), (q388, .inl (E.2.2.2.1 0, 100, .inl (fun _ => 0))), (q397, .inl (E.2.2.2.1 0, 300, .inl (fun _ => 0))), (q404, .inl (E.2.2.2.1 0, 5, .inl (fun _ => 0))), (q413, .inl (E.2.2.2.1 0, 300, .inl (fun _ => 0))), (q420, .inl (E.2.2.2.1 0, 5, .inl (fun _ => 0))), (q429, .inl (E.2.2.2.1 0, 300, .inl (fun _ => 0))), (q438, .inl (E.2.2.2.1 0, 300, .inl (fun _ => 0))), (q451, .inl (E.2.2.2.1 1, 50, .inl (fun _ => 0))), (q459, .inl (E.2.2.2.1 1, 20, .inl (fun _ => 0)))] := by rw [g39, g38]; rfl
  clear g38
  refine jg_aload_n C dX11_init_464 rfl ?_
  refine jg_bipush C 20 dX11_init_465 (by decide) ?_
  refine jg_newa C (t := 0) (N := 20) (Or.inl ⟨rfl, rfl⟩) kw_int (by decide) (by decide) (by decide) dX11_init_467 (by decide) (by decide) (fun q467 => ?_)
  refine jg_putF C hI kg_X11_135 ⟨rfl, rfl⟩ l41 (by decide) dX11_init_469 (fun f42 l42 e42 => ?_)
  replace e42 : f42 = [.int 0, .int 0, .int 0, .ref q6, .ref q13, .ref q20, .ref q27, .int 0, .ref q35, .ref q43, .ref q51, .ref q59, .ref q67, .ref q75, .ref q83, .ref q91, .ref q99, .int 0, .ref q107, .ref q115, .ref q123, .ref q131, .ref q139, .ref q147, .ref q156, .ref q164, .ref q310, .int 0, .int 50, .ref q324, .ref q332, .int 0, .int 0, .int 0, .int 0, .int 0, .ref q340, .ref q348, .ref q356, .int 0, .ref q364, .ref q372, .ref q380, .ref q388, .int 0, .ref q397, .int 0, .ref q404, .int 0, .int 0, .ref q413, .int 0, .ref q420, .int 0, .int 0, .ref q429, .int 0, .ref q438, .int 0, .int 0, .int 0, .int 0, .long 0, .int (-1), .int 0, .ref q451, .ref q459, .ref q467, .null, .int 0] := by rw [e42, e41]; rfl
  clear e41 l41
  refine jg_tl (fun t40 g40 => ?_)
  replace g40 : t40 = [(q6, .inl (E.2.2.2.1 0, 4, .inl (fun _ => 0))), (q13, .inl (E.2.2.2.1 0, 4, .inl (fun _ => 0))), (q20, .inl (E.2.2.2.1 0, 4, .inl (fun _ => 0))), (q27, .inl (E.2.2.2.1 0, 4, .inl (fun _ => 0))), (q35, .inl (E.2.2.2.1 0, 20, .inl (fun _ => 0))), (q43, .inl (E.2.2.2.1 0, 20, .inl (fun _ => 0))), (q51, .inl (E.2.2.2.1 0, 20, .inl (fun _ => 0))), (q59, .inl (E.2.2.2.1 0, 20, .inl (fun _ => 0))), (q67, .inl (E.2.2.2.1 0, 20, .inl (fun _ => 0))), (q75, .inl (E.2.2.2.1 0, 20, .inl (fun _ => 0))), (q83, .inl (E.2.2.2.1 0, 20, .inl (fun _ => 0))), (q91, .inl (E.2.2.2.1 0, 20, .inl (fun _ => 0))), (q99, .inl (E.2.2.2.1 0, 25, .inl (fun _ => 0))), (q107, .inl (E.2.2.2.1 1, 60, .inl (fun _ => 0))), (q115, .inl (E.2.2.2.1 0, 60, .inl (fun _ => 0))), (q123, .inl (E.2.2.2.1 0, 60, .inl (fun _ => 0))), (q131, .inl (E.2.2.2.1 0, 60, .inl (fun _ => 0))), (q139, .inl (E.2.2.2.1 0, 60, .inl (fun _ => 0))), (q147, .inl (E.2.2.2.1 0, 60, .inl (fun _ => 0))), (q156, .inl (E.2.2.2.1 0, 3060, .inl (fun _ => 0))), (q164, .inl (E.2.2.2.1 0, 24, .inl (jg_h 24))), (q310, .inl (E.2.2.2.1 0, 10, .inl (fun _ => 0))), (q324, .inl (E.2.2.2.1 0, 60, .inl (fun _ => 0))), (q332, .inl (E.2.2.2.1 1, 60, .inl (fun _ => 0))), (q340, .inl (E.2.2.2.1 0, 10, .inl (fun _ => 0))), (q348, .inl (E.2.2.2.1 0, 50, .inl (fun _ => 0))), (q356, .inl (E.2.2.2.1 0, 10, .inl (fun _ => 0))), (q364, .inl (E.2.2.2.1 0, 100, .inl (fun _ => 0))), (q372, .inl (E.2.2.2.1 0, 100, .inl (fun _ => 0))), (q380, .inl (E.2.2.2.1 0, 100, .inl (fun _ => 0))), (q388, .inl (E.2.2.2.1 0, 100, .inl (fun _ => 0))), (q397, .inl (E.2.2.2.1 0, 300, .inl (fun _ => 0))), (q404, .inl (E.2.2.2.1 0, 5, .inl (fun _ => 0))), (q413, .inl (E.2.2.2.1 0, 300, .inl (fun _ => 0))), (q420, .inl (E.2.2.2.1 0, 5, .inl (fun _ => 0))), (q429, .inl (E.2.2.2.1 0, 300, .inl (fun _ => 0))), (q438, .inl (E.2.2.2.1 0, 300, .inl (fun _ => 0))), (q451, .inl (E.2.2.2.1 1, 50, .inl (fun _ => 0))), (q459, .inl (E.2.2.2.1 1, 20, .inl (fun _ => 0))), (q467, .inl (E.2.2.2.1 0, 20, .inl (fun _ => 0)))] := by rw [g40, g39]; rfl
  clear g39
  refine jg_aload_n C dX11_init_472 rfl ?_
  refine jg_sipush C 420 dX11_init_473 (by decide) ?_
  refine jg_newa C (t := 0) (N := 420) (Or.inl ⟨rfl, rfl⟩) kw_int (by decide) (by decide) (by decide) dX11_init_476 (by decide) (by decide) (fun q476 => ?_)
  refine jg_putF C hI kg_X11_138 ⟨rfl, rfl⟩ l42 (by decide) dX11_init_478 (fun f43 l43 e43 => ?_)
  replace e43 : f43 = [.int 0, .int 0, .int 0, .ref q6, .ref q13, .ref q20, .ref q27, .int 0, .ref q35, .ref q43, .ref q51, .ref q59, .ref q67, .ref q75, .ref q83, .ref q91, .ref q99, .int 0, .ref q107, .ref q115, .ref q123, .ref q131, .ref q139, .ref q147, .ref q156, .ref q164, .ref q310, .int 0, .int 50, .ref q324, .ref q332, .int 0, .int 0, .int 0, .int 0, .int 0, .ref q340, .ref q348, .ref q356, .int 0, .ref q364, .ref q372, .ref q380, .ref q388, .int 0, .ref q397, .int 0, .ref q404, .int 0, .int 0, .ref q413, .int 0, .ref q420, .int 0, .int 0, .ref q429, .int 0, .ref q438, .int 0, .int 0, .int 0, .int 0, .long 0, .int (-1), .int 0, .ref q451, .ref q459, .ref q467, .ref q476, .int 0] := by rw [e43, e42]; rfl
  clear e42 l42
  refine jg_tl (fun t41 g41 => ?_)
  replace g41 : t41 = [(q6, .inl (E.2.2.2.1 0, 4, .inl (fun _ => 0))), (q13, .inl (E.2.2.2.1 0, 4, .inl (fun _ => 0))), (q20, .inl (E.2.2.2.1 0, 4, .inl (fun _ => 0))), (q27, .inl (E.2.2.2.1 0, 4, .inl (fun _ => 0))), (q35, .inl (E.2.2.2.1 0, 20, .inl (fun _ => 0))), (q43, .inl (E.2.2.2.1 0, 20, .inl (fun _ => 0))), (q51, .inl (E.2.2.2.1 0, 20, .inl (fun _ => 0))), (q59, .inl (E.2.2.2.1 0, 20, .inl (fun _ => 0))), (q67, .inl (E.2.2.2.1 0, 20, .inl (fun _ => 0))), (q75, .inl (E.2.2.2.1 0, 20, .inl (fun _ => 0))), (q83, .inl (E.2.2.2.1 0, 20, .inl (fun _ => 0))), (q91, .inl (E.2.2.2.1 0, 20, .inl (fun _ => 0))), (q99, .inl (E.2.2.2.1 0, 25, .inl (fun _ => 0))), (q107, .inl (E.2.2.2.1 1, 60, .inl (fun _ => 0))), (q115, .inl (E.2.2.2.1 0, 60, .inl (fun _ => 0))), (q123, .inl (E.2.2.2.1 0, 60, .inl (fun _ => 0))), (q131, .inl (E.2.2.2.1 0, 60, .inl (fun _ => 0))), (q139, .inl (E.2.2.2.1 0, 60, .inl (fun _ => 0))), (q147, .inl (E.2.2.2.1 0, 60, .inl (fun _ => 0))), (q156, .inl (E.2.2.2.1 0, 3060, .inl (fun _ => 0))), (q164, .inl (E.2.2.2.1 0, 24, .inl (jg_h 24))), (q310, .inl (E.2.2.2.1 0, 10, .inl (fun _ => 0))), (q324, .inl (E.2.2.2.1 0, 60, .inl (fun _ => 0))), (q332, .inl (E.2.2.2.1 1, 60, .inl (fun _ => 0))), (q340, .inl (E.2.2.2.1 0, 10, .inl (fun _ => 0))), (q348, .inl (E.2.2.2.1 0, 50, .inl (fun _ => 0))), (q356, .inl (E.2.2.2.1 0, 10, .inl (fun _ => 0))), (q364, .inl (E.2.2.2.1 0, 100, .inl (fun _ => 0))), (q372, .inl (E.2.2.2.1 0, 100, .inl (fun _ => 0))), (q380, .inl (E.2.2.2.1 0, 100, .inl (fun _ => 0))), (q388, .inl (E.2.2.2.1 0, 100, .inl (fun _ => 0))), (q397, .inl (E.2.2.2.1 0, 300, .inl (fun _ => 0))), (q404, .inl (E.2.2.2.1 0, 5, .inl (fun _ => 0))), (q413, .inl (E.2.2.2.1 0, 300, .inl (fun _ => 0))), (q420, .inl (E.2.2.2.1 0, 5, .inl (fun _ => 0))), (q429, .inl (E.2.2.2.1 0, 300, .inl (fun _ => 0))), (q438, .inl (E.2.2.2.1 0, 300, .inl (fun _ => 0))), (q451, .inl (E.2.2.2.1 1, 50, .inl (fun _ => 0))), (q459, .inl (E.2.2.2.1 1, 20, .inl (fun _ => 0))), (q467, .inl (E.2.2.2.1 0, 20, .inl (fun _ => 0))), (q476, .inl (E.2.2.2.1 0, 420, .inl (fun _ => 0)))] := by rw [g41, g40]; rfl
  clear g40
  refine jg_aload_n C dX11_init_481 rfl ?_
  refine jg_iconst C (-1) dX11_init_482 (by decide) ?_
  refine jg_puti C kg_X11_141 ⟨rfl, rfl⟩ l43 (by decide) dX11_init_483 (fun f44 l44 e44 => ?_)
  replace e44 : f44 = [.int 0, .int 0, .int 0, .ref q6, .ref q13, .ref q20, .ref q27, .int 0, .ref q35, .ref q43, .ref q51, .ref q59, .ref q67, .ref q75, .ref q83, .ref q91, .ref q99, .int 0, .ref q107, .ref q115, .ref q123, .ref q131, .ref q139, .ref q147, .ref q156, .ref q164, .ref q310, .int 0, .int 50, .ref q324, .ref q332, .int 0, .int 0, .int 0, .int 0, .int 0, .ref q340, .ref q348, .ref q356, .int 0, .ref q364, .ref q372, .ref q380, .ref q388, .int 0, .ref q397, .int 0, .ref q404, .int 0, .int 0, .ref q413, .int 0, .ref q420, .int 0, .int 0, .ref q429, .int 0, .ref q438, .int 0, .int 0, .int 0, .int 0, .long 0, .int (-1), .int 0, .ref q451, .ref q459, .ref q467, .ref q476, .int (-1)] := by rw [e44, e43]; rfl
  clear e43 l43
  have hf := e44
  have ht := g41
  rw [hf, ht]
  refine jg_sub [0, 1, 2, 3, 4, 5, 6, 7, 8, 9, 10, 11, 12, 13, 14, 15, 16, 17, 18, 19, 20, 21, 22, 23, 24, 25, 26, 27, 28, 29, 30, 31, 32, 33, 34, 35, 36, 37, 38, 39, 40, 41] (jf_w jh_M (jg_E E (fun k => [h0, q6, q13, q20, q27, q35, q43, q51, q59, q67, q75, q83, q91, q99, q107, q115, q123, q131, q139, q147, q156, q164, q310, q324, q332, q340, q348, q356, q364, q372, q380, q388, q397, q404, q413, q420, q429, q438, q451, q459, q467, q476].getD k 0)) m_s0) (by decide +kernel) (by rw [jg_wq]; rfl) ?_
  exact ret _ _ _ dX11_init_486 ⟨_, rfl, rfl⟩
