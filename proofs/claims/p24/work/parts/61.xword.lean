/-! the class: words are taken, safe -/
theorem js_sh0 (x : Int32) : x >>> (0 : Int32) = x := by apply Int32.toBitVec_inj.mp; simp
theorem ct_X6_takeWord (E : jf_E) (σ : jf_S) (vq : Value) (ad av : Nat → Nat) (i : Nat) (t : Nat × String × List Int32) (ht : js_tab[i]? = some t) (hT : xT σ) : jf_IZ (js_Z vq ad av (jf_A jh_X E)) jh_X E yX6_takeWord cX6_takeWord 3 .boolean 4 [jf_r E 9, .ref (ad i)] σ (fun r τ => (r = 0 ∨ r = 1) ∧ xS_t σ τ ∧ xT τ) := by
  refine jf_mkIZ (by decide) (Nat.le_of_ble_eq_true rfl) ?_
  intro G C hZ ret
  have hY := (hZ.2 i t ht).2
  have ok := js_oks t (List.mem_of_getElem? ht)
  have ol := ok.1
  have hn : Int32.ofNat t.2.2.length >>> (0 &&& 31) = Int32.ofNat t.2.2.length := by rw [show (0 &&& 31 : Int32) = 0 from rfl]; exact js_sh0 _
  have hl2 : (Int32.ofNat t.2.2.length).toInt = (t.2.2.length : Int) := nI_toInt (by omega)
  have h1 := hT.1
  have h2 := hT.2.1
  have l20 : ∀ (m : Nat) (k : Int32), 0 ≤ k.toInt → k.toInt ≤ (t.2.2.length : Int) → (t.2.2.length : Int) - k.toInt < m → jf_X jh_X E G 3 20 [(0, jf_r E 9), (1, .ref (ad i)), (2, .int k)] [] σ := by
    intro m
    induction m with
    | zero => intro k g1 g2 g3; exfalso; omega
    | succ m ih =>
      intro k g1 g2 g3
      have e1 := ji_inc (k := k) (by omega)
      have ea : ((σ.1 9 4) + k).toInt = ((σ.1 9 4)).toInt + k.toInt := fb_addI (by omega) (by omega)
      refine jr_iload_n C dX6_takeWord_20 rfl ?_
      refine jr_aload_n C dX6_takeWord_21 rfl ?_
      refine jr_sti C [] _ hY.2 (js_length E (ad i) (av i) _ _ hn) rfl ky_length kv_length kw_X6_113 (by decide) rfl (Nat.le_of_ble_eq_true rfl) dX6_takeWord_22 ?_
      refine jr_ncmp_ge C (b := (t.2.2.length : Int)) 68 dX6_takeWord_25 (by decide) rfl hl2 (fun b25 => ?_) (fun b25 => ?_)
      · refine jr_aload_n C dX6_takeWord_68 rfl ?_
        refine jr_vv C [] _ (ct_X6_advance E _ hT) ky_X6_advance kv_X6_advance kk_X_9 km_X6_35 (by decide) rfl (Nat.le_of_ble_eq_true rfl) dX6_takeWord_69 (fun τ69 h69 => ?_)
        refine jr_iconst C (v := 1) dX6_takeWord_72 (by decide) ?_
        exact ret _ _ _ _ dX6_takeWord_73 (rfl) (⟨by decide, h69⟩)
      · refine jr_aload_n C dX6_takeWord_28 rfl ?_
        refine jr_geti C kf_X6_61_9 dX6_takeWord_29 ?_
        refine jr_iload_n C dX6_takeWord_32 rfl ?_
        refine jr_iadd C dX6_takeWord_33 ?_
        refine jr_aload_n C dX6_takeWord_34 rfl ?_
        refine jr_geti C kf_X6_22_9 dX6_takeWord_35 ?_
        refine jr_ncmp_ge C 60 dX6_takeWord_38 (by decide) ea rfl (fun b38 => ?_) (fun b38 => ?_)
        · refine jr_iconst C (v := 0) dX6_takeWord_60 (by decide) ?_
          exact ret _ _ _ _ dX6_takeWord_61 (rfl) (⟨by decide, xS_t_r σ, hT⟩)
        · refine jr_aload_n C dX6_takeWord_41 rfl ?_
          refine jr_getr C kf_X6_11_9 dX6_takeWord_42 ?_
          refine jr_aload_n C dX6_takeWord_45 rfl ?_
          refine jr_geti C kf_X6_61_9 dX6_takeWord_46 ?_
          refine jr_iload_n C dX6_takeWord_49 rfl ?_
          refine jr_iadd C dX6_takeWord_50 ?_
          refine jr_iald C ka_X_49 dX6_takeWord_51 (ji_in (i := (σ.1 9 4) + k) (by omega) (by omega)) ?_
          refine jr_aload_n C dX6_takeWord_52 rfl ?_
          refine jr_iload_n C dX6_takeWord_53 rfl ?_
          refine jr_chr C _ hZ.1 ok hY g1 (by omega) kw_X6_118 (by decide) (Nat.le_of_ble_eq_true rfl) rfl dX6_takeWord_54 ?_
          refine jr_ncmp_eq C 62 dX6_takeWord_57 (by decide) rfl rfl (fun b57 => ?_) (fun b57 => ?_)
          · refine jr_iinc C _ dX6_takeWord_62 rfl rfl (by decide) ?_
            refine jr_goto C 20 dX6_takeWord_65 (by decide) ?_
            exact jr_sub [(0, jf_r E 9), (1, .ref (ad i)), (2, .int _)] rfl (ih _ (by omega) (by omega) (by omega))
          · refine jr_iconst C (v := 0) dX6_takeWord_60 (by decide) ?_
            exact ret _ _ _ _ dX6_takeWord_61 (rfl) (⟨by decide, xS_t_r σ, hT⟩)
  refine jr_aload_n C dX6_takeWord_0 rfl ?_
  refine jr_geti C kf_X6_32_9 dX6_takeWord_1 ?_
  refine jr_aload_n C dX6_takeWord_4 rfl ?_
  refine jr_geti C kf_X6_61_9 dX6_takeWord_5 ?_
  refine jr_isub C dX6_takeWord_8 ?_
  refine jr_aload_n C dX6_takeWord_9 rfl ?_
  refine jr_sti C [] _ hY.2 (js_length E (ad i) (av i) _ _ hn) rfl ky_length kv_length kw_X6_113 (by decide) rfl (Nat.le_of_ble_eq_true rfl) dX6_takeWord_10 ?_
  refine jr_ncmp_eq C 18 dX6_takeWord_13 (by decide) rfl rfl (fun b13 => ?_) (fun b13 => ?_)
  · refine jr_iconst C (v := 0) dX6_takeWord_18 (by decide) ?_
    refine jr_istore_n C dX6_takeWord_19 (by decide) ?_
    exact jr_sub [(0, jf_r E 9), (1, .ref (ad i)), (2, .int 0)] rfl (l20 102 _ (by decide) (by show (0 : Int) ≤ _; omega) (by show _ - (0 : Int) < _; omega))
  · refine jr_iconst C (v := 0) dX6_takeWord_16 (by decide) ?_
    exact ret _ _ _ _ dX6_takeWord_17 (rfl) (⟨by decide, xS_t_r σ, hT⟩)

