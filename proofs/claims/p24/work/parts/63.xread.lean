/-! the class: rules are read and stand, safe -/
/-- an array's contents are written whole -/
def jf_a (σ : jf_S) (k : Nat) (h : Nat → Int32) : jf_S := (fun a b => if a = k then h b else σ.1 a b, σ.2)
theorem jf_a_o {σ : jf_S} {k : Nat} {h : Nat → Int32} (a : Nat) (ha : a ≠ k) : (jf_a σ k h).1 a = σ.1 a := by funext b; simp [jf_a, ha]
theorem jf_a_at {σ : jf_S} {k : Nat} {h : Nat → Int32} : (jf_a σ k h).1 k = h := by funext b; simp [jf_a]
theorem kw_acopy : Cond.native arraycopyName ∈ jf_tb ∧ Cond.static arraycopyName ∈ jf_tb ∧ Cond.initialized "java/lang/System" ∈ jf_tb := ⟨(jt_4 177 rfl rfl), (jt_4 176 rfl rfl), (jt_1 19 rfl rfl)⟩
theorem kw_X7_30 : Cond.methodLink RX7 30 arraycopyName ∈ jf_tb := (jt_4 175 rfl rfl)
section JA
variable {sh : List jf_K} {E : jf_E} {G : jf_G} {nL d pc : Nat} {cc : ByteArray} {own : String} {L : List (Nat × Value)} {st : List Value} {σ : jf_S}
theorem jr_acopy (C : jf_C sh E G nL cc own d) {idx k0 k1 n0 n1 : Nat} {n : Int32} (hw : Cond.methodLink own idx arraycopyName ∈ jf_tb) (hk0 : sh[k0]? = some (.inr (0, n0))) (hk1 : sh[k1]? = some (.inr (0, n1))) (hd1 : 1 ≤ d) (hd : decode cc pc = .ok (.invokestatic idx, 3)) (h1 : ¬ n < 0) (h2 : n.toNatClampNeg ≤ n0) (h3 : n.toNatClampNeg ≤ n1) (kk : jf_X sh E G nL (pc + 3) L [] (jf_a σ k1 (va_cpy (σ.1 k0) (σ.1 k1) 0 0 n.toNatClampNeg))) : jf_X sh E G nL pc L [.int n, .int 0, jf_r E k1, .int 0, jf_r E k0] σ := by
  intro H locs ls hP hS hl
  have g1 := C.2.2.2.2.2.2.2.1
  have g2 := C.2.2.2.2.2.2.2.2
  refine va_copyi C.1 C.2.1 (by rw [C.2.2.1]; exact hl.1.symm) C.2.2.2.1 (C.2.2.2.2.1 _ hw) (C.2.2.2.2.1 _ kw_acopy.1) (C.2.2.2.2.1 _ kw_acopy.2.1) (C.2.2.2.2.1 _ kw_acopy.2.2) C.2.2.2.2.2.1 hP (jf_Dd σ C.2.2.2.2.2.2.1) hS k0 k1 0 0 (jf_w_at hk0) (jf_w_at hk1) rfl rfl rfl (by decide) (by decide) h1 (by show 0 + _ ≤ _; omega) (by show 0 + _ ≤ _; omega) (fun _ _ => rfl) (by omega) (by show 0 + (nativeFrameWords "java/lang/System" "arraycopy" 5 + 11) ≤ _; have : nativeFrameWords "java/lang/System" "arraycopy" 5 + 11 ≤ 64 := (by decide); omega) hd (fun H1 locs1 q1 _ q3 => kk H1 locs1 ls ?_ q3 hl)
  have q1 := q1
  rw [jf_w_set (τ := jf_a σ k1 (va_cpy (σ.1 k0) (σ.1 k1) 0 0 n.toNatClampNeg)) hk1 (by show Sum.inl (_, _, Sum.inl _) = Sum.inl (_, _, Sum.inl _); rw [jf_a_at]; rfl) (fun a ha => jf_a_o a ha) (fun a _ => rfl)] at q1
  exact q1
end JA
def x_become (σ : jf_S) : jf_S := jf_i (jf_i (jf_i (jf_i (jf_a (jf_a σ 47 (va_cpy ((σ.1 55)) ((σ.1 47)) 0 0 300)) 48 (va_cpy ((σ.1 56)) ((σ.1 48)) 0 0 5)) 8 3 ((σ.1 11 3))) 8 4 ((σ.1 11 4))) 8 5 ((σ.1 11 5))) 8 2 1
theorem ct_X7_become (E : jf_E) (σ : jf_S) : jf_V jh_X E yX7_become cX7_become 2 1 [jf_r E 8, jf_r E 11] σ (fun τ => τ = x_become σ) := by
  refine jf_mkV (by decide) (Nat.le_of_ble_eq_true rfl) ?_
  intro G C ret
  refine jr_aload_n C dX7_become_0 rfl ?_
  refine jr_getr C kf_X7_9_11 dX7_become_1 ?_
  refine jr_iconst C (v := 0) dX7_become_4 (by decide) ?_
  refine jr_aload_n C dX7_become_5 rfl ?_
  refine jr_getr C kf_X7_9_8 dX7_become_6 ?_
  refine jr_iconst C (v := 0) dX7_become_9 (by decide) ?_
  refine jr_sipush C (v := 300) dX7_become_10 (by decide) ?_
  refine jr_acopy C kw_X7_30 ka_X_55 ka_X_47 (by decide) dX7_become_13 (by decide) (by decide) (by decide) ?_
  refine jr_aload_n C dX7_become_16 rfl ?_
  refine jr_getr C kf_X7_13_11 dX7_become_17 ?_
  refine jr_iconst C (v := 0) dX7_become_20 (by decide) ?_
  refine jr_aload_n C dX7_become_21 rfl ?_
  refine jr_getr C kf_X7_13_8 dX7_become_22 ?_
  refine jr_iconst C (v := 0) dX7_become_25 (by decide) ?_
  refine jr_iconst C (v := 5) dX7_become_26 (by decide) ?_
  refine jr_acopy C kw_X7_30 ka_X_56 ka_X_48 (by decide) dX7_become_27 (by decide) (by decide) (by decide) ?_
  refine jr_aload_n C dX7_become_30 rfl ?_
  refine jr_aload_n C dX7_become_31 rfl ?_
  refine jr_getv C kf_X7_20_11 dX7_become_32 (v := σ.1 11 3) rfl ?_
  refine jr_puti C kp_X7_20_8 dX7_become_35 ?_
  refine jr_aload_n C dX7_become_38 rfl ?_
  refine jr_aload_n C dX7_become_39 rfl ?_
  refine jr_getv C kf_X7_24_11 dX7_become_40 (v := σ.1 11 4) rfl ?_
  refine jr_puti C kp_X7_24_8 dX7_become_43 ?_
  refine jr_aload_n C dX7_become_46 rfl ?_
  refine jr_aload_n C dX7_become_47 rfl ?_
  refine jr_getv C kf_X7_27_11 dX7_become_48 (v := σ.1 11 5) rfl ?_
  refine jr_puti C kp_X7_27_8 dX7_become_51 ?_
  refine jr_aload_n C dX7_become_54 rfl ?_
  refine jr_iconst C (v := 1) dX7_become_55 (by decide) ?_
  refine jr_putz C kp_X7_16_8 (by decide) dX7_become_56 ?_
  exact ret _ _ _ dX7_become_59 (rfl)
theorem ct_X7_emptyd (E : jf_E) (σ : jf_S) : jf_V jh_X E yX7_empty cX7_empty 1 0 [jf_r E 11] σ (fun τ => τ = jf_i (jf_i (jf_i σ 11 3 0) 11 4 0) 11 5 0) := by
  refine jf_mkV (by decide) (Nat.le_of_ble_eq_true rfl) ?_
  intro G C ret
  refine jr_aload_n C dX7_empty_0 rfl ?_
  refine jr_iconst C (v := 0) dX7_empty_1 (by decide) ?_
  refine jr_puti C kp_X7_20_11 dX7_empty_2 ?_
  refine jr_aload_n C dX7_empty_5 rfl ?_
  refine jr_iconst C (v := 0) dX7_empty_6 (by decide) ?_
  refine jr_puti C kp_X7_24_11 dX7_empty_7 ?_
  refine jr_aload_n C dX7_empty_10 rfl ?_
  refine jr_iconst C (v := 0) dX7_empty_11 (by decide) ?_
  refine jr_puti C kp_X7_27_11 dX7_empty_12 ?_
  exact ret _ _ _ dX7_empty_15 (rfl)
/-- behind a reading: the reader, its draft, the place of a fault -/
def xS_r (σ τ : jf_S) : Prop := τ.2 = σ.2 ∧ (∀ k, k ≠ 9 → k ≠ 11 → k ≠ 55 → k ≠ 56 → τ.1 k = σ.1 k) ∧ (∀ j, j < 3 → τ.1 9 j = σ.1 9 j)
theorem ct_X6_read (E : jf_E) (σ : jf_S) (vq : Value) (ad av : Nat → Nat) (hL : 0 ≤ ((σ.1 9 2)).toInt ∧ ((σ.1 9 2)).toInt ≤ 300) : jf_IZ (js_Z vq ad av (jf_A jh_X E)) jh_X E yX6_read cX6_read 2 .boolean 33 [jf_r E 9] σ (fun r τ => (r = 0 ∨ r = 1) ∧ xS_r σ τ ∧ xD τ) := by
  refine jf_mkIZ (by decide) (Nat.le_of_ble_eq_true rfl) ?_
  intro G C hZ ret
  have J90 : ∀ (τ : jf_S) (g : Int32), (g = 0 ∨ g = 1) → xS_d σ τ → xD τ → jf_X jh_X E G 2 90 [(0, jf_r E 9)] [.int g] τ := by
    intro τ g hg z d
    have zz : ∀ v : Int32, xS_r σ (jf_i τ 9 3 v) := fun v => ⟨z.1, fun k a b c e => by rw [jf_i_o k a]; exact z.2.1 k a b c e, fun j hj => by rw [jf_i_at]; unfold upd; rw [if_neg (by omega)]; exact z.2.2 j (by omega)⟩
    refine jr_istore_n C dX6_read_90 (by decide) ?_
    refine jr_aload_n C dX6_read_91 rfl ?_
    refine jr_iload_n C dX6_read_92 rfl ?_
    refine jr_nif_eq C 100 dX6_read_93 (by decide) (fun b93 => ?_) (fun b93 => ?_)
    · refine jr_aload_n C dX6_read_100 rfl ?_
      refine jr_getv C kf_X6_61_9 dX6_read_101 (v := τ.1 9 4) rfl ?_
      refine jr_puti C kp_X6_26_9 dX6_read_104 ?_
      refine jr_iload_n C dX6_read_107 rfl ?_
      exact ret _ _ _ _ dX6_read_108 (x_nb hg) (⟨hg, zz _, d⟩)
    · refine jr_iconst C (v := -1) dX6_read_96 (by decide) ?_
      refine jr_goto C 104 dX6_read_97 (by decide) ?_
      refine jr_puti C kp_X6_26_9 dX6_read_104 ?_
      refine jr_iload_n C dX6_read_107 rfl ?_
      exact ret _ _ _ _ dX6_read_108 (x_nb hg) (⟨hg, zz _, d⟩)
  refine jr_aload_n C dX6_read_0 rfl ?_
  refine jr_getr C kf_X6_18_9 dX6_read_1 ?_
  refine jr_vvp C [] _ (ct_X7_emptyd E _) ky_X7_empty kv_X7_empty kk_X_11 km_X6_29 (by decide) rfl (Nat.le_of_ble_eq_true rfl) dX6_read_4 ?_
  refine jr_aload_n C dX6_read_7 rfl ?_
  refine jr_iconst C (v := 0) dX6_read_8 (by decide) ?_
  refine jr_puti C kp_X6_32_9 dX6_read_9 ?_
  refine jr_aload_n C dX6_read_12 rfl ?_
  refine jr_vv C [] _ (ct_X6_advance0 E _ hL (show 0 ≤ (0 : Int32).toInt ∧ (0 : Int32).toInt ≤ ((σ.1 9 2)).toInt from ⟨by decide, hL.1⟩)) ky_X6_advance kv_X6_advance kk_X_9 km_X6_35 (by decide) rfl (Nat.le_of_ble_eq_true rfl) dX6_read_13 (fun τ13 h13 => ?_)
  have zs : xS_d σ (jf_i (jf_i (jf_i (jf_i σ 11 3 0) 11 4 0) 11 5 0) 9 5 0) := ⟨rfl, fun k a b _ _ => by rw [jf_i_o k a, jf_i_o k b, jf_i_o k b, jf_i_o k b], fun j hj => by rw [jf_i_at]; unfold upd; rw [if_neg (by omega), jf_i_o 9 (by decide), jf_i_o 9 (by decide), jf_i_o 9 (by decide)]⟩; have d13 : xD τ13 := (by unfold xD; rw [h13.1.2.1 11 (by decide), jf_i_o 11 (by decide)]; exact ⟨⟨show 0 ≤ (0 : Int32).toInt by decide, show (0 : Int32).toInt ≤ 300 by decide⟩, ⟨show 0 ≤ (0 : Int32).toInt by decide, show (0 : Int32).toInt ≤ 5 by decide⟩⟩); have w13 : xWd σ τ13 := ⟨xS_d_t zs (xS_d_s h13.1), h13.2, d13⟩
  refine jr_aload_n C dX6_read_16 rfl ?_
  refine jr_ldcS C (hZ.2 0 _ rfl).1 dX6_read_17 ?_
  refine jr_viZ C (js_ZK vq ad av _) hZ [_] _ (ct_X6_takeWord E _ vq ad av 0 _ rfl w13.2.1) ky_X6_takeWord kv_X6_takeWord kk_X_9 km_X6_40 (by omega) rfl (Nat.le_of_ble_eq_true rfl) dX6_read_19 (fun r19 τ19 h19 => ?_)
  have w19 := xWd_t w13 (xWd_s w13.2 h19.2)
  refine jr_nif_eq C 89 dX6_read_22 (by decide) (fun b22 => ?_) (fun b22 => ?_)
  · refine jr_iconst C (v := 0) dX6_read_89 (by decide) ?_
    first | exact J90 _ _ (by decide) w68.1 w68.2.2 | exact J90 _ _ (by decide) w61.1 w61.2.2 | exact J90 _ _ (by decide) w52.1 w52.2.2 | exact J90 _ _ (by decide) w43.1 w43.2.2 | exact J90 _ _ (by decide) w36.1 w36.2.2 | exact J90 _ _ (by decide) w27.1 w27.2.2 | exact J90 _ _ (by decide) w19.1 w19.2.2
  · refine jr_aload_n C dX6_read_25 rfl ?_
    refine jr_iconst C (v := 0) dX6_read_26 (by decide) ?_
    refine jr_viZ C (js_ZK vq ad av _) hZ [.int _] _ (ct_X6_takeCond E _ vq ad av _ rfl w19.2) ky_X6_takeCond kv_X6_takeCond kk_X_9 km_X6_44 (by omega) rfl (Nat.le_of_ble_eq_true rfl) dX6_read_27 (fun r27 τ27 h27 => ?_)
    have w27 := xWd_t w19 h27.2
    refine jr_nif_eq C 89 dX6_read_30 (by decide) (fun b30 => ?_) (fun b30 => ?_)
    · refine jr_iconst C (v := 0) dX6_read_89 (by decide) ?_
      first | exact J90 _ _ (by decide) w68.1 w68.2.2 | exact J90 _ _ (by decide) w61.1 w61.2.2 | exact J90 _ _ (by decide) w52.1 w52.2.2 | exact J90 _ _ (by decide) w43.1 w43.2.2 | exact J90 _ _ (by decide) w36.1 w36.2.2 | exact J90 _ _ (by decide) w27.1 w27.2.2 | exact J90 _ _ (by decide) w19.1 w19.2.2
    · refine jr_aload_n C dX6_read_33 rfl ?_
      refine jr_bipush C (v := 59) dX6_read_34 (by decide) ?_
      refine jr_vi C [.int _] _ (ct_X6_takeByte E _ _ w27.2.1) ky_X6_takeByte kv_X6_takeByte kk_X_9 km_X6_48 (by decide) rfl (Nat.le_of_ble_eq_true rfl) dX6_read_36 (fun r36 τ36 h36 => ?_)
      have w36 := xWd_t w27 (xWd_s w27.2 h36.2)
      refine jr_nif_eq C 89 dX6_read_39 (by decide) (fun b39 => ?_) (fun b39 => ?_)
      · refine jr_iconst C (v := 0) dX6_read_89 (by decide) ?_
        first | exact J90 _ _ (by decide) w68.1 w68.2.2 | exact J90 _ _ (by decide) w61.1 w61.2.2 | exact J90 _ _ (by decide) w52.1 w52.2.2 | exact J90 _ _ (by decide) w43.1 w43.2.2 | exact J90 _ _ (by decide) w36.1 w36.2.2 | exact J90 _ _ (by decide) w27.1 w27.2.2 | exact J90 _ _ (by decide) w19.1 w19.2.2
      · refine jr_aload_n C dX6_read_42 rfl ?_
        refine jr_viZ C (js_ZK vq ad av _) hZ [] _ (ct_X6_takeManner E _ vq ad av w36.2) ky_X6_takeManner kv_X6_takeManner kk_X_9 km_X6_52 (by omega) rfl (Nat.le_of_ble_eq_true rfl) dX6_read_43 (fun r43 τ43 h43 => ?_)
        have w43 := xWd_t w36 h43.2
        refine jr_nif_eq C 89 dX6_read_46 (by decide) (fun b46 => ?_) (fun b46 => ?_)
        · refine jr_iconst C (v := 0) dX6_read_89 (by decide) ?_
          first | exact J90 _ _ (by decide) w68.1 w68.2.2 | exact J90 _ _ (by decide) w61.1 w61.2.2 | exact J90 _ _ (by decide) w52.1 w52.2.2 | exact J90 _ _ (by decide) w43.1 w43.2.2 | exact J90 _ _ (by decide) w36.1 w36.2.2 | exact J90 _ _ (by decide) w27.1 w27.2.2 | exact J90 _ _ (by decide) w19.1 w19.2.2
        · refine jr_aload_n C dX6_read_49 rfl ?_
          refine jr_bipush C (v := 59) dX6_read_50 (by decide) ?_
          refine jr_vi C [.int _] _ (ct_X6_takeByte E _ _ w43.2.1) ky_X6_takeByte kv_X6_takeByte kk_X_9 km_X6_48 (by decide) rfl (Nat.le_of_ble_eq_true rfl) dX6_read_52 (fun r52 τ52 h52 => ?_)
          have w52 := xWd_t w43 (xWd_s w43.2 h52.2)
          refine jr_nif_eq C 89 dX6_read_55 (by decide) (fun b55 => ?_) (fun b55 => ?_)
          · refine jr_iconst C (v := 0) dX6_read_89 (by decide) ?_
            first | exact J90 _ _ (by decide) w68.1 w68.2.2 | exact J90 _ _ (by decide) w61.1 w61.2.2 | exact J90 _ _ (by decide) w52.1 w52.2.2 | exact J90 _ _ (by decide) w43.1 w43.2.2 | exact J90 _ _ (by decide) w36.1 w36.2.2 | exact J90 _ _ (by decide) w27.1 w27.2.2 | exact J90 _ _ (by decide) w19.1 w19.2.2
          · refine jr_aload_n C dX6_read_58 rfl ?_
            refine jr_ldcS C (hZ.2 1 _ rfl).1 dX6_read_59 ?_
            refine jr_viZ C (js_ZK vq ad av _) hZ [_] _ (ct_X6_takeWord E _ vq ad av 1 _ rfl w52.2.1) ky_X6_takeWord kv_X6_takeWord kk_X_9 km_X6_40 (by omega) rfl (Nat.le_of_ble_eq_true rfl) dX6_read_61 (fun r61 τ61 h61 => ?_)
            have w61 := xWd_t w52 (xWd_s w52.2 h61.2)
            refine jr_nif_eq C 89 dX6_read_64 (by decide) (fun b64 => ?_) (fun b64 => ?_)
            · refine jr_iconst C (v := 0) dX6_read_89 (by decide) ?_
              first | exact J90 _ _ (by decide) w68.1 w68.2.2 | exact J90 _ _ (by decide) w61.1 w61.2.2 | exact J90 _ _ (by decide) w52.1 w52.2.2 | exact J90 _ _ (by decide) w43.1 w43.2.2 | exact J90 _ _ (by decide) w36.1 w36.2.2 | exact J90 _ _ (by decide) w27.1 w27.2.2 | exact J90 _ _ (by decide) w19.1 w19.2.2
            · refine jr_aload_n C dX6_read_67 rfl ?_
              refine jr_viZ C (js_ZK vq ad av _) hZ [] _ (ct_X6_takeTie E _ vq ad av w61.2) ky_X6_takeTie kv_X6_takeTie kk_X_9 km_X6_58 (by omega) rfl (Nat.le_of_ble_eq_true rfl) dX6_read_68 (fun r68 τ68 h68 => ?_)
              have w68 := xWd_t w61 h68.2
              refine jr_nif_eq C 89 dX6_read_71 (by decide) (fun b71 => ?_) (fun b71 => ?_)
              · refine jr_iconst C (v := 0) dX6_read_89 (by decide) ?_
                first | exact J90 _ _ (by decide) w68.1 w68.2.2 | exact J90 _ _ (by decide) w61.1 w61.2.2 | exact J90 _ _ (by decide) w52.1 w52.2.2 | exact J90 _ _ (by decide) w43.1 w43.2.2 | exact J90 _ _ (by decide) w36.1 w36.2.2 | exact J90 _ _ (by decide) w27.1 w27.2.2 | exact J90 _ _ (by decide) w19.1 w19.2.2
              · refine jr_aload_n C dX6_read_74 rfl ?_
                refine jr_geti C kf_X6_61_9 dX6_read_75 ?_
                refine jr_aload_n C dX6_read_78 rfl ?_
                refine jr_geti C kf_X6_22_9 dX6_read_79 ?_
                refine jr_ncmp_lt C 89 dX6_read_82 (by decide) rfl rfl (fun b82 => ?_) (fun b82 => ?_)
                · refine jr_iconst C (v := 0) dX6_read_89 (by decide) ?_
                  first | exact J90 _ _ (by decide) w68.1 w68.2.2 | exact J90 _ _ (by decide) w61.1 w61.2.2 | exact J90 _ _ (by decide) w52.1 w52.2.2 | exact J90 _ _ (by decide) w43.1 w43.2.2 | exact J90 _ _ (by decide) w36.1 w36.2.2 | exact J90 _ _ (by decide) w27.1 w27.2.2 | exact J90 _ _ (by decide) w19.1 w19.2.2
                · refine jr_iconst C (v := 1) dX6_read_85 (by decide) ?_
                  refine jr_goto C 90 dX6_read_86 (by decide) ?_
                  first | exact J90 _ _ (by decide) w68.1 w68.2.2 | exact J90 _ _ (by decide) w61.1 w61.2.2 | exact J90 _ _ (by decide) w52.1 w52.2.2 | exact J90 _ _ (by decide) w43.1 w43.2.2 | exact J90 _ _ (by decide) w36.1 w36.2.2 | exact J90 _ _ (by decide) w27.1 w27.2.2 | exact J90 _ _ (by decide) w19.1 w19.2.2
/-- what rules changes -/
def xS_R (σ τ : jf_S) : Prop := τ.2 = σ.2 ∧ (∀ k, k ≠ 0 → k ≠ 8 → k ≠ 9 → k ≠ 11 → k ≠ 47 → k ≠ 48 → k ≠ 55 → k ≠ 56 → τ.1 k = σ.1 k)
theorem ct_X10_rules (E : jf_E) (σ : jf_S) (vq : Value) (ad av : Nat → Nat) (hL : 0 ≤ ((σ.1 9 2)).toInt ∧ ((σ.1 9 2)).toInt ≤ 300) (hR : xR σ) : jf_IZ (js_Z vq ad av (jf_A jh_X E)) jh_X E yX10_rules cX10_rules 2 .int 34 [jf_r E 0] σ (fun r τ => (r = 0 ∨ r = -6) ∧ xS_R σ τ ∧ (τ.1 9 2) = 0 ∧ xR τ) := by
  refine jf_mkIZ (by decide) (Nat.le_of_ble_eq_true rfl) ?_
  intro G C hZ ret
  refine jr_aload_n C dX10_rules_0 rfl ?_
  refine jr_getr C kf_X10_72_0 dX10_rules_1 ?_
  refine jr_viZ C (js_ZK vq ad av _) hZ [] _ (ct_X6_read E _ vq ad av hL) ky_X6_read kv_X6_read kk_X_9 km_X10_228 (by omega) rfl (Nat.le_of_ble_eq_true rfl) dX10_rules_4 (fun r4 τ4 h4 => ?_)
  refine jr_istore_n C dX10_rules_7 (by decide) ?_
  refine jr_aload_n C dX10_rules_8 rfl ?_
  refine jr_getr C kf_X10_72_0 dX10_rules_9 ?_
  refine jr_iconst C (v := 0) dX10_rules_12 (by decide) ?_
  refine jr_puti C kp_X10_225_9 dX10_rules_13 ?_
  refine jr_iload_n C dX10_rules_16 rfl ?_
  refine jr_nif_ne C 27 dX10_rules_17 (by decide) (fun b17 => ?_) (fun b17 => ?_)
  · refine jr_aload_n C dX10_rules_27 rfl ?_
    refine jr_getr C kf_X10_65_0 dX10_rules_28 ?_
    refine jr_aload_n C dX10_rules_31 rfl ?_
    refine jr_getr C kf_X10_72_0 dX10_rules_32 ?_
    refine jr_getr C kf_X10_232_9 dX10_rules_35 ?_
    refine jr_vvp C [_] _ (ct_X7_become E _) ky_X7_become kv_X7_become kk_X_8 km_X10_235 (by decide) rfl (Nat.le_of_ble_eq_true rfl) dX10_rules_38 ?_
    refine jr_aload_n C dX10_rules_41 rfl ?_
    refine jr_iconst C (v := 0) dX10_rules_42 (by decide) ?_
    refine jr_vip C [.int _] _ (ct_X10_told E _ _) ky_X10_told kv_X10_told kk_X_0 km_X10_97 (by decide) rfl (Nat.le_of_ble_eq_true rfl) dX10_rules_43 ?_
    exact ret _ _ _ _ dX10_rules_46 rfl (⟨Or.inl rfl, ⟨h4.2.1.1, fun k a0 a8 a9 a11 a47 a48 a55 a56 => by show (jf_i (x_become (jf_i τ4 9 2 0)) 0 10 _).1 k = _; unfold x_become; rw [jf_i_o k a0, jf_i_o k a8, jf_i_o k a8, jf_i_o k a8, jf_i_o k a8, jf_a_o k a48, jf_a_o k a47, jf_i_o k a9]; exact h4.2.1.2.1 k a9 a11 a55 a56⟩, rfl, ⟨h4.2.2.1, h4.2.2.2⟩⟩)
  · refine jr_aload_n C dX10_rules_20 rfl ?_
    refine jr_bipush C (v := -6) dX10_rules_21 (by decide) ?_
    refine jr_vip C [.int _] _ (ct_X10_told E _ _) ky_X10_told kv_X10_told kk_X_0 km_X10_97 (by decide) rfl (Nat.le_of_ble_eq_true rfl) dX10_rules_23 ?_
    exact ret _ _ _ _ dX10_rules_26 rfl (⟨Or.inr rfl, ⟨h4.2.1.1, fun k a0 a8 a9 a11 a47 a48 a55 a56 => by show (jf_i (jf_i τ4 9 2 0) 0 10 _).1 k = _; rw [jf_i_o k a0, jf_i_o k a9]; exact h4.2.1.2.1 k a9 a11 a55 a56⟩, rfl, by show xR (jf_i (jf_i τ4 9 2 0) 0 10 _); unfold xR; rw [jf_i_o 8 (by decide), jf_i_o 8 (by decide), h4.2.1.2.1 8 (by decide) (by decide) (by decide) (by decide)]; exact hR⟩)

