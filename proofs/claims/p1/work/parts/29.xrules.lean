/-! the class's rules at an empty tape -/
/-- "count", as the reader's class holds it -/
def js_Z (a v : Nat) (A : Nat → Prop) (U : State) : Prop := vk_R RX6 38 "count" a U ∧ js_S a v [99, 111, 117, 110, 116] A U U.heap
theorem js_ZK (a v : Nat) (A : Nat → Prop) : jf_ZK A (js_Z a v A) := by
  refine ⟨fun U g mk x h => ⟨vk_R.same (u := U) rfl h.1, js_S.moved (u := U) (U := U.calling g mk x) (Vm.Alike.refl U.vm) h.2⟩, fun s U H locs h hS hU hW => ⟨vk_R.warm hW h.1, ?_⟩⟩
  rw [hU]
  exact js_S.moved hW.alike (h.2.kept hS.2.1)
theorem ct_X7_emptyd (E : jf_E) (σ : jf_S) : jf_V jh_X E yX7_empty cX7_empty 1 0 [jf_r E 11] σ (fun τ => τ = jf_i (jf_i (jf_i σ 11 3 0) 11 4 0) 11 5 0) := by
  refine jf_mkV (by decide) (Nat.le_of_ble_eq_true rfl) ?_
  intro G C ret
  refine jr_aload_n C dX7_empty_0 rfl ?_
  refine jr_iconst C (v := 0) dX7_empty_1 (by decide) ?_
  refine jr_puti C kp_X7_20_11 dX7_empty_2 ?_
  refine jr_aload_n C dX7_empty_5 rfl ?_
  refine jr_iconst C (v := 0) dX7_empty_6 (by decide) ?_
  refine jr_puti C kp_X7_24_11 dX7_empty_7 ?_
  refine jr_aload_n C dX7_empty_10 rfl ?_
  refine jr_iconst C (v := 0) dX7_empty_11 (by decide) ?_
  refine jr_puti C kp_X7_27_11 dX7_empty_12 ?_
  exact ret _ _ _ dX7_empty_15 (rfl)
theorem cf_X6_advance (E : jf_E) (σ : jf_S) (h : ((σ.1 9 5)).toInt = ((σ.1 9 2)).toInt) : jf_V jh_X E yX6_advance cX6_advance 2 0 [jf_r E 9] σ (fun τ => τ = jf_i (jf_i (jf_i σ 9 4 ((σ.1 9 5))) 9 5 ((σ.1 9 5))) 9 6 (-1)) := by
  refine jf_mkV (by decide) (Nat.le_of_ble_eq_true rfl) ?_
  intro G C ret
  refine jr_aload_n C dX6_advance_0 rfl ?_
  refine jr_aload_n C dX6_advance_1 rfl ?_
  refine jr_geti C kf_X6_32_9 dX6_advance_2 ?_
  refine jr_puti C kp_X6_61_9 dX6_advance_5 ?_
  refine jr_aload_n C dX6_advance_8 rfl ?_
  refine jr_geti C kf_X6_61_9 dX6_advance_9 ?_
  refine jr_aload_n C dX6_advance_12 rfl ?_
  refine jr_geti C kf_X6_22_9 dX6_advance_13 ?_
  refine jr_ncmp_ge C (a := ((σ.1 9 5)).toInt) (b := ((σ.1 9 2)).toInt) 46 dX6_advance_16 (by decide) rfl rfl (fun _ => ?_) (fun b => absurd b (by omega))
  refine jr_aload_n C dX6_advance_46 rfl ?_
  refine jr_aload_n C dX6_advance_47 rfl ?_
  refine jr_geti C kf_X6_61_9 dX6_advance_48 ?_
  refine jr_puti C kp_X6_32_9 dX6_advance_51 ?_
  refine jr_aload_n C dX6_advance_54 rfl ?_
  refine jr_iconst C (v := -1) dX6_advance_55 (by decide) ?_
  refine jr_puti C kp_X6_71_9 dX6_advance_56 ?_
  refine jr_aload_n C dX6_advance_59 rfl ?_
  refine jr_geti C kf_X6_61_9 dX6_advance_60 ?_
  refine jr_aload_n C dX6_advance_63 rfl ?_
  refine jr_geti C kf_X6_22_9 dX6_advance_64 ?_
  refine jr_ncmp_lt C (a := ((σ.1 9 5)).toInt) (b := ((σ.1 9 2)).toInt) 71 dX6_advance_67 (by decide) rfl rfl (fun b => absurd b (by omega)) (fun _ => ?_)
  exact ret _ _ _ dX6_advance_70 (rfl)
theorem cf_X6_takeWord (E : jf_E) (σ : jf_S) (a v : Nat) (h : ¬ ((σ.1 9 5) - (σ.1 9 4)).toInt = 5) : jf_IZ (js_Z a v (jf_A jh_X E)) jh_X E yX6_takeWord cX6_takeWord 3 .boolean 2 [jf_r E 9, .ref a] σ (fun r τ => r = 0 ∧ τ = σ) := by
  refine jf_mkIZ (by decide) (Nat.le_of_ble_eq_true rfl) ?_
  intro G C hZ ret
  refine jr_aload_n C dX6_takeWord_0 rfl ?_
  refine jr_geti C kf_X6_32_9 dX6_takeWord_1 ?_
  refine jr_aload_n C dX6_takeWord_4 rfl ?_
  refine jr_geti C kf_X6_61_9 dX6_takeWord_5 ?_
  refine jr_isub C dX6_takeWord_8 ?_
  refine jr_aload_n C dX6_takeWord_9 rfl ?_
  refine jr_sti C [] _ hZ.2 (js_length E a v _ 5 rfl) rfl ky_length kv_length kw_X6_113 (by decide) rfl (Nat.le_of_ble_eq_true rfl) dX6_takeWord_10 ?_
  refine jr_ncmp_eq C (a := ((σ.1 9 5) - (σ.1 9 4)).toInt) (b := 5) 18 dX6_takeWord_13 (by decide) rfl rfl (fun b => absurd b h) (fun _ => ?_)
  refine jr_iconst C (v := 0) dX6_takeWord_16 (by decide) ?_
  exact ret _ _ _ _ dX6_takeWord_17 (rfl) (⟨rfl, rfl⟩)
theorem cf_X6_read (E : jf_E) (σ : jf_S) (a v : Nat) (h : ((σ.1 9 2)).toInt = 0) : jf_IZ (js_Z a v (jf_A jh_X E)) jh_X E yX6_read cX6_read 2 .boolean 3 [jf_r E 9] σ (fun r τ => r = 0) := by
  refine jf_mkIZ (by decide) (Nat.le_of_ble_eq_true rfl) ?_
  intro G C hZ ret
  refine jr_aload_n C dX6_read_0 rfl ?_
  refine jr_getr C kf_X6_18_9 dX6_read_1 ?_
  refine jr_vvp C [] _ (ct_X7_emptyd E _) ky_X7_empty kv_X7_empty kk_X_11 km_X6_29 (by decide) rfl (Nat.le_of_ble_eq_true rfl) dX6_read_4 ?_
  refine jr_aload_n C dX6_read_7 rfl ?_
  refine jr_iconst C (v := 0) dX6_read_8 (by decide) ?_
  refine jr_puti C kp_X6_32_9 dX6_read_9 ?_
  refine jr_aload_n C dX6_read_12 rfl ?_
  refine jr_vvp C [] _ (cf_X6_advance E _ (show (0 : Int32).toInt = ((σ.1 9 2)).toInt from h.symm)) ky_X6_advance kv_X6_advance kk_X_9 km_X6_35 (by decide) rfl (Nat.le_of_ble_eq_true rfl) dX6_read_13 ?_
  refine jr_aload_n C dX6_read_16 rfl ?_
  refine jr_ldcS C hZ.1 dX6_read_17 ?_
  refine jr_viZ C (js_ZK a v _) hZ [.ref a] _ (cf_X6_takeWord E _ a v (show ¬ ((0 : Int32) - 0).toInt = 5 by decide)) ky_X6_takeWord kv_X6_takeWord kk_X_9 km_X6_40 (by decide) rfl (Nat.le_of_ble_eq_true rfl) dX6_read_19 (fun r τ hq => ?_)
  obtain ⟨rfl, rfl⟩ := hq
  refine jr_if_eq C 89 dX6_read_22 (by decide) (fun _ => ?_) (fun b => absurd rfl b)
  refine jr_iconst C (v := 0) dX6_read_89 (by decide) ?_
  refine jr_istore_n C dX6_read_90 (by decide) ?_
  refine jr_aload_n C dX6_read_91 rfl ?_
  refine jr_iload_n C dX6_read_92 rfl ?_
  refine jr_if_eq C 100 dX6_read_93 (by decide) (fun _ => ?_) (fun b => absurd rfl b)
  refine jr_aload_n C dX6_read_100 rfl ?_
  refine jr_geti C kf_X6_61_9 dX6_read_101 ?_
  refine jr_puti C kp_X6_26_9 dX6_read_104 ?_
  refine jr_iload_n C dX6_read_107 rfl ?_
  exact ret _ _ _ _ dX6_read_108 (rfl) (rfl)
theorem cf_X10_rules (E : jf_E) (σ : jf_S) (a v : Nat) (h : ((σ.1 9 2)).toInt = 0) : jf_IZ (js_Z a v (jf_A jh_X E)) jh_X E yX10_rules cX10_rules 2 .int 4 [jf_r E 0] σ (fun r τ => r = -6) := by
  refine jf_mkIZ (by decide) (Nat.le_of_ble_eq_true rfl) ?_
  intro G C hZ ret
  refine jr_aload_n C dX10_rules_0 rfl ?_
  refine jr_getr C kf_X10_72_0 dX10_rules_1 ?_
  refine jr_viZ C (js_ZK a v _) hZ [] _ (cf_X6_read E _ a v h) ky_X6_read kv_X6_read kk_X_9 km_X10_228 (by decide) rfl (Nat.le_of_ble_eq_true rfl) dX10_rules_4 (fun r τ hq => ?_)
  have hq : r = 0 := hq
  subst hq
  refine jr_istore_n C dX10_rules_7 (by decide) ?_
  refine jr_aload_n C dX10_rules_8 rfl ?_
  refine jr_getr C kf_X10_72_0 dX10_rules_9 ?_
  refine jr_iconst C (v := 0) dX10_rules_12 (by decide) ?_
  refine jr_puti C kp_X10_225_9 dX10_rules_13 ?_
  refine jr_iload_n C dX10_rules_16 rfl ?_
  refine jr_if_ne C 27 dX10_rules_17 (by decide) (fun b => absurd rfl b) (fun _ => ?_)
  refine jr_aload_n C dX10_rules_20 rfl ?_
  refine jr_bipush C (v := -6) dX10_rules_21 (by decide) ?_
  refine jr_vip C [.int _] _ (ct_X10_told E _ _) ky_X10_told kv_X10_told kk_X_0 km_X10_97 (by decide) rfl (Nat.le_of_ble_eq_true rfl) dX10_rules_23 ?_
  exact ret _ _ _ _ dX10_rules_26 rfl (rfl)

