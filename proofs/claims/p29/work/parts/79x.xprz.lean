/-! the class: the prize, exactly -/
theorem x_Ck_e {σ τ : jf_S} (z : xS_a σ τ) (L : List Int32) (k : Int32) : x_Ck τ L k = x_Ck σ L k := by
  have hf : ∀ j f : Int32, x_h τ L j f k = x_h σ L j f k := fun j f => x_h_e z L j f k
  funext j
  unfold x_Ck x_Ci
  rw [z.2.1 41 (by decide) (by decide), z.2.1 42 (by decide) (by decide)]
  congr 1
  funext i
  exact hf _ _
theorem x_P_e {σ τ : jf_S} (z : xS_a σ τ) : x_P τ = x_P σ := by
  funext i
  unfold x_P
  rw [z.2.1 8 (by decide) (by decide), z.2.1 48 (by decide) (by decide)]
/-- votes gathered -/
def x_pr (σ τ : jf_S) (L : List Int32) (k : Int32) : Prop := xS_a σ τ ∧ xC τ ∧ x_cd τ (x_Ck σ L k) ((σ.1 7 7)).toNatClampNeg ∧ w_cut ((τ.1 53)) = w_run (x_Ck σ L k) ((σ.1 7 7)).toNatClampNeg ∧ w_cut ((τ.1 52)) = w_fir (x_Ck σ L k) ((σ.1 7 7)).toNatClampNeg ∧ (τ.1 10 8) = 0
theorem x_pr_of {σ τ : jf_S} {L : List Int32} {k : Int32} (z : xS_a (jf_i σ 10 8 0) τ) (hC : xC τ) (h : x_ga (jf_i σ 10 8 0) τ L k ((σ.1 7 7)).toNatClampNeg 0) : x_pr σ τ L k := by
  have z0 : xS_a σ (jf_i σ 10 8 0) := xS_a_10 (xS_a_r σ)
  obtain ⟨h1, h2, h3, h4, h5⟩ := h
  rw [x_Ck_e z0] at h1 h3 h4
  refine ⟨xS_a_t z0 z, hC, h1, h3, h4, ?_⟩
  rw [h5]; exact jf_i_same
theorem x_pr_A {σ τ : jf_S} {L : List Int32} {k : Int32} (h : x_pr σ τ L k) : x_A τ = w_ah (q_it ((σ.1 8 5))) ((σ.1 19)) (w_fir (x_Ck σ L k) ((σ.1 7 7)).toNatClampNeg) := by
  unfold x_A
  rw [h.1.2.1 8 (by decide) (by decide), h.1.2.1 19 (by decide) (by decide), h.2.2.2.2.1]
theorem x_pr_g {σ τ : jf_S} {L : List Int32} {k : Int32} (hV : xV σ) (h : x_pr σ τ L k) : x_gd τ (x_Ck σ L k) := by
  refine ⟨?_, fun j => x_Ck_5 hV j, ?_⟩
  · rw [h.1.2.1 7 (by decide) (by decide)]; exact h.2.2.1
  · rw [h.1.2.1 7 (by decide) (by decide)]; exact h.2.2.2.1
theorem x_pr_p {σ τ υ : jf_S} {L : List Int32} {k r : Int32} (h : x_pr σ τ L k) (hn : 0 < ((σ.1 8 4)).toInt) (w : w_out r.toInt ((υ.1 10 8)) ((υ.1 54)) (w_po (x_A τ) (x_P τ) (x_Ck σ L k) ((τ.1 7 7)).toNatClampNeg (w_cut ((τ.1 53))) (fun q => w_row ((τ.1 54)) q))) : w_out r.toInt ((υ.1 10 8)) ((υ.1 54)) (w_pz (q_it ((σ.1 8 5))) ((σ.1 19)) (x_P σ) ((σ.1 8 4)).toInt (x_Ck σ L k) ((σ.1 7 7)).toNatClampNeg (fun q => w_row ((τ.1 54)) q)) := by
  unfold w_pz
  rw [if_pos hn, ← x_pr_A h, ← h.2.2.2.1, ← x_P_e h.1]
  rw [h.1.2.1 7 (by decide) (by decide)] at w
  exact w
theorem x_pr_r {σ τ υ : jf_S} {L : List Int32} {k r : Int32} (h : x_pr σ τ L k) (hn : ¬ 0 < ((σ.1 8 4)).toInt) (w : w_out r.toInt ((υ.1 10 8)) ((υ.1 54)) (x_W τ (x_Ck σ L k))) : w_out r.toInt ((υ.1 10 8)) ((υ.1 54)) (w_pz (q_it ((σ.1 8 5))) ((σ.1 19)) (x_P σ) ((σ.1 8 4)).toInt (x_Ck σ L k) ((σ.1 7 7)).toNatClampNeg (fun q => w_row ((τ.1 54)) q)) := by
  unfold w_pz
  rw [if_neg hn, ← x_pr_A h, ← h.2.2.2.1]
  unfold x_W at w
  rw [h.1.2.1 7 (by decide) (by decide)] at w
  exact w
theorem ct_X0_decide3 (E : jf_E) (σ : jf_S) (k : Int32) (L : List Int32) (hC : xC σ) (hV : xV σ) (hR : xR σ) (hs : x_rs σ L) (hP : ∀ i, 0 ≤ (x_P σ i).toInt ∧ (x_P σ i).toInt ≤ 1000) : jf_I jh_X E yX0_decide cX0_decide 2 .int 3 [jf_r E 10, .int k] σ (fun r τ => xS_a σ τ ∧ xC τ ∧ ∃ H, w_out r.toInt ((τ.1 10 8)) ((τ.1 54)) (w_pz (q_it ((σ.1 8 5))) ((σ.1 19)) (x_P σ) ((σ.1 8 4)).toInt (x_Ck σ L k) ((σ.1 7 7)).toNatClampNeg H)) := by
  refine jf_mkI (by decide) (Nat.le_of_ble_eq_true rfl) ?_
  intro G C ret
  have z0 : xS_a σ (jf_i σ 10 8 0) := xS_a_10 (xS_a_r σ)
  refine jr_aload_n C dX0_decide_0 rfl ?_
  refine jr_iconst C (v := 0) dX0_decide_1 (by decide) ?_
  refine jr_puti C kp_X0_28_10 dX0_decide_2 ?_
  refine jr_aload_n C dX0_decide_5 rfl ?_
  refine jr_iload_n C dX0_decide_6 rfl ?_
  refine jr_vv C [.int _] _ (ct_X0_gather3 E _ _ L (xC_o hC (by decide)) (xS_a_V z0 hV) (x_rs_a z0 hs)) ky_X0_gather kv_X0_gather kk_X_10 km_X0_44 (by decide) rfl (Nat.le_of_ble_eq_true rfl) dX0_decide_7 (fun τ7 h7 => ?_)
  have P := x_pr_of h7.1 h7.2.1 h7.2.2; have gd := x_pr_g hV P; have V7 := xS_a_V P.1 hV; have R7 := xS_a_R P.1 hR; have n7 : ((τ7.1 8 4)).toInt = ((σ.1 8 4)).toInt := (by rw [P.1.2.1 8 (by decide) (by decide)])
  refine jr_aload_n C dX0_decide_10 rfl ?_
  refine jr_getr C kf_X0_40_10 dX0_decide_11 ?_
  refine jr_geti C kf_X0_48_8 dX0_decide_14 ?_
  refine jr_nif_le C 27 dX0_decide_17 (by decide) (fun b17 => ?_) (fun b17 => ?_)
  · refine jr_aload_n C dX0_decide_27 rfl ?_
    refine jr_vi C [] _ (ct_X0_decideByRounds3 E _ (x_Ck σ L k) P.2.1 V7 gd P.2.2.2.2.2) ky_X0_decideByRounds kv_X0_decideByRounds kk_X_10 km_X0_57 (by decide) rfl (Nat.le_of_ble_eq_true rfl) dX0_decide_28 (fun r28 τ28 h28 => ?_)
    exact ret _ _ _ _ dX0_decide_31 rfl ((by first | exact ⟨xS_a_t P.1 h21.1, h21.2.1, _, x_pr_p P (by omega) h21.2.2⟩ | exact ⟨xS_a_t P.1 h28.1, h28.2.1, _, x_pr_r P (by omega) h28.2.2⟩))
  · refine jr_aload_n C dX0_decide_20 rfl ?_
    refine jr_vi C [] _ (ct_X0_decideByPoints3 E _ (x_Ck σ L k) P.2.1 V7 R7 (by rw [x_P_e P.1]; exact hP) gd) ky_X0_decideByPoints kv_X0_decideByPoints kk_X_10 km_X0_53 (by decide) rfl (Nat.le_of_ble_eq_true rfl) dX0_decide_21 (fun r21 τ21 h21 => ?_)
    refine jr_goto C 31 dX0_decide_24 (by decide) ?_
    exact ret _ _ _ _ dX0_decide_31 rfl ((by first | exact ⟨xS_a_t P.1 h21.1, h21.2.1, _, x_pr_p P (by omega) h21.2.2⟩ | exact ⟨xS_a_t P.1 h28.1, h28.2.1, _, x_pr_r P (by omega) h28.2.2⟩))
def x_prq (σ τ : jf_S) (L : List Int32) (k r : Int32) : Prop := (¬ (0 ≤ k.toInt ∧ k.toInt ≤ 100000) → r = -1 ∧ (τ.1 10 8) = (σ.1 10 8) ∧ (τ.1 54) = (σ.1 54)) ∧ ((0 ≤ k.toInt ∧ k.toInt ≤ 100000) → ((σ.1 8 2)).toInt = 0 → r = -6 ∧ (τ.1 10 8) = (σ.1 10 8) ∧ (τ.1 54) = (σ.1 54)) ∧ ((0 ≤ k.toInt ∧ k.toInt ≤ 100000) → ¬ ((σ.1 8 2)).toInt = 0 → ∃ (b : Int) (H : Nat → Nat → Int32), w_out b ((τ.1 10 8)) ((τ.1 54)) (w_pz (q_it ((σ.1 8 5))) ((σ.1 19)) (x_P σ) ((σ.1 8 4)).toInt (x_Ck σ L k) ((σ.1 7 7)).toNatClampNeg H) ∧ r.toInt = if b < 0 then -6 else b)
theorem w_pz_b {t : Int32} {fame P : Nat → Int32} {np : Int} {C : Nat → List Int32} {n : Nat} {H : Nat → Nat → Int32} : -1 ≤ (w_pz t fame P np C n H).1 := by
  have go : ∀ (A : Nat → Nat → Bool) (m k : Nat) (R : Nat → Int32) (H : Nat → Nat → Int32), -1 ≤ (w_go A C n m k R H).1 := by
    intro A m
    induction m with
    | zero => intro k R H; exact Int.le_refl _
    | succ m ih =>
      intro k R H
      rw [w_go]
      split
      · exact Int.le_refl _
      · split
        · exact (w_fore_b 20).1
        · exact ih _ _ _
  unfold w_pz
  split
  · unfold w_po
    split
    · exact Int.le_refl _
    · exact (w_fore_b 20).1
  · exact go _ _ _ _ _
theorem ct_X10_prize3 (E : jf_E) (σ : jf_S) (k : Int32) (L : List Int32) (hC : xC σ) (hV : xV σ) (hR : xR σ) (hs : ¬ ((σ.1 8 2)).toInt = 0 → x_rs σ L) (hP : ¬ ((σ.1 8 2)).toInt = 0 → ∀ i, 0 ≤ (x_P σ i).toInt ∧ (x_P σ i).toInt ≤ 1000) : jf_I jh_X E yX10_prize cX10_prize 3 .int 4 [jf_r E 0, .int k] σ (fun r τ => (∃ υ : jf_S, xS_a σ υ ∧ xC υ ∧ τ = x_told υ r) ∧ x_prq σ τ L k r) := by
  refine jf_mkI (by decide) (Nat.le_of_ble_eq_true rfl) ?_
  intro G C ret
  have Q : ∀ (υ : jf_S) (b r : Int32), (0 ≤ k.toInt ∧ k.toInt ≤ 100000) → ¬ ((σ.1 8 2)).toInt = 0 → (∃ H, w_out b.toInt ((υ.1 10 8)) ((υ.1 54)) (w_pz (q_it ((σ.1 8 5))) ((σ.1 19)) (x_P σ) ((σ.1 8 4)).toInt (x_Ck σ L k) ((σ.1 7 7)).toNatClampNeg H)) → ((b.toInt = -1 ∧ r = -6) ∨ (¬ b.toInt = -1 ∧ r = b)) → x_prq σ (x_told υ r) L k r := by
    intro υ b r h1 h2 ⟨H, w⟩ h4
    refine ⟨fun h => absurd h1 h, fun _ h => absurd h h2, fun _ _ => ⟨b.toInt, H, w, ?_⟩⟩
    have hb : -1 ≤ b.toInt := by rw [w.1]; exact w_pz_b
    rcases h4 with ⟨a, rfl⟩ | ⟨a, rfl⟩
    · rw [if_pos (by omega)]; rfl
    · rw [if_neg (by omega)]
  refine jr_iload_n C dX10_prize_0 rfl ?_
  refine jr_sip C [.int _] _ (ct_X10_isKnown E _ _) ky_X10_isKnown ks_X10_isKnown km_X10_212 (by decide) rfl (Nat.le_of_ble_eq_true rfl) dX10_prize_1 ?_
  refine jr_if_ne C 13 dX10_prize_4 (by decide) (fun b4 => ?_) (fun b4 => ?_)
  · replace b4 := jb_t b4
    refine jr_aload_n C dX10_prize_13 rfl ?_
    refine jr_getr C kf_X10_65_0 dX10_prize_14 ?_
    refine jr_getv C kf_X10_242_8 dX10_prize_17 (v := σ.1 8 2) rfl ?_
    refine jr_nif_ne C 30 dX10_prize_20 (by decide) (fun b20 => ?_) (fun b20 => ?_)
    · refine jr_aload_n C dX10_prize_30 rfl ?_
      refine jr_getr C kf_X10_81_0 dX10_prize_31 ?_
      refine jr_iload_n C dX10_prize_34 rfl ?_
      refine jr_vi C [.int _] _ (ct_X0_decide3 E _ _ L hC hV hR (hs (by omega)) (hP (by omega))) ky_X0_decide kv_X0_decide kk_X_10 km_X10_254 (by decide) rfl (Nat.le_of_ble_eq_true rfl) dX10_prize_35 (fun r35 τ35 h35 => ?_)
      refine jr_istore_n C dX10_prize_38 (by decide) ?_
      refine jr_aload_n C dX10_prize_39 rfl ?_
      refine jr_iload_n C dX10_prize_40 rfl ?_
      refine jr_iconst C (v := -1) dX10_prize_41 (by decide) ?_
      refine jr_ncmp_ne C (b := -1) 50 dX10_prize_42 (by decide) rfl rfl (fun b42 => ?_) (fun b42 => ?_)
      · refine jr_iload_n C dX10_prize_50 rfl ?_
        refine jr_vip C [.int _] _ (ct_X10_told E _ _) ky_X10_told kv_X10_told kk_X_0 km_X10_97 (by decide) rfl (Nat.le_of_ble_eq_true rfl) dX10_prize_51 ?_
        exact ret _ _ _ _ dX10_prize_54 rfl ((by first | exact ⟨⟨τ35, h35.1, h35.2.1, rfl⟩, Q τ35 r35 _ (by omega) (by omega) h35.2.2 (Or.inl ⟨b42, rfl⟩)⟩ | exact ⟨⟨τ35, h35.1, h35.2.1, rfl⟩, Q τ35 r35 _ (by omega) (by omega) h35.2.2 (Or.inr ⟨b42, rfl⟩)⟩))
      · refine jr_bipush C (v := -6) dX10_prize_45 (by decide) ?_
        refine jr_goto C 51 dX10_prize_47 (by decide) ?_
        refine jr_vip C [.int _] _ (ct_X10_told E _ _) ky_X10_told kv_X10_told kk_X_0 km_X10_97 (by decide) rfl (Nat.le_of_ble_eq_true rfl) dX10_prize_51 ?_
        exact ret _ _ _ _ dX10_prize_54 rfl ((by first | exact ⟨⟨τ35, h35.1, h35.2.1, rfl⟩, Q τ35 r35 _ (by omega) (by omega) h35.2.2 (Or.inl ⟨b42, rfl⟩)⟩ | exact ⟨⟨τ35, h35.1, h35.2.1, rfl⟩, Q τ35 r35 _ (by omega) (by omega) h35.2.2 (Or.inr ⟨b42, rfl⟩)⟩))
    · refine jr_aload_n C dX10_prize_23 rfl ?_
      refine jr_bipush C (v := -6) dX10_prize_24 (by decide) ?_
      refine jr_vip C [.int _] _ (ct_X10_told E _ _) ky_X10_told kv_X10_told kk_X_0 km_X10_97 (by decide) rfl (Nat.le_of_ble_eq_true rfl) dX10_prize_26 ?_
      exact ret _ _ _ _ dX10_prize_29 rfl (⟨⟨σ, xS_a_r σ, hC, rfl⟩, fun h => (by exfalso; omega), fun _ _ => ⟨rfl, rfl, rfl⟩, fun _ h => absurd b20 h⟩)
  · replace b4 := jb_f b4
    refine jr_aload_n C dX10_prize_7 rfl ?_
    refine jr_iconst C (v := -1) dX10_prize_8 (by decide) ?_
    refine jr_vip C [.int _] _ (ct_X10_told E _ _) ky_X10_told kv_X10_told kk_X_0 km_X10_97 (by decide) rfl (Nat.le_of_ble_eq_true rfl) dX10_prize_9 ?_
    exact ret _ _ _ _ dX10_prize_12 rfl (⟨⟨σ, xS_a_r σ, hC, rfl⟩, fun _ => ⟨rfl, rfl, rfl⟩, fun h => (by exfalso; omega), fun h => (by exfalso; omega)⟩)

