/-! the law: calls over both worlds, its end -/
theorem jg_Dsame {A : Nat → Prop} {ws ws' : va_W} (h : va_D A ws) (e : ws'.map Prod.fst = ws.map Prod.fst) : va_D A ws' := by
  have key : ∀ (i : Nat) (p : Nat × va_E), ws'[i]? = some p → ∃ q, ws[i]? = some q ∧ q.1 = p.1 := by
    intro i p hp
    have h1 : (ws.map Prod.fst)[i]? = some p.1 := by rw [← e, List.getElem?_map, hp]; rfl
    rw [List.getElem?_map] at h1
    cases hq : ws[i]? with
    | none => rw [hq] at h1; cases h1
    | some q => rw [hq] at h1; exact ⟨q, rfl, Option.some.inj h1⟩
  refine ⟨fun i j p q hi hj hpq => ?_, fun i p hi => ?_⟩
  · obtain ⟨p', h1, h2⟩ := key i p hi
    obtain ⟨q', h3, h4⟩ := key j q hj
    exact h.1 i j p' q' h1 h3 (by rw [h2, h4, hpq])
  · obtain ⟨p', h1, h2⟩ := key i p hi
    rw [← h2]; exact h.2 i p' h1
theorem jg_wfst (sh : List jf_K) (E : jf_E) (σ τ : jf_S) : (jf_w sh E σ).map Prod.fst = (jf_w sh E τ).map Prod.fst := by
  apply List.ext_getElem?
  intro i
  unfold jf_w
  rw [List.getElem?_map, List.getElem?_map, List.getElem?_mapIdx, List.getElem?_mapIdx]
  cases sh[i]? <;> rfl
section JL
variable {E : jf_E} {G : jf_G} {A : Nat → Prop} {nL d mc ms pc cs ss : Nat} {cc : ByteArray} {own : String} {L : List (Nat × Value)} {st : List Value}
set_option maxHeartbeats 1000000 in
/-- a method of one of the two objects is called -/
theorem jg_vi (C : jg_C E G A nL cc own d mc ms) {sh : List jf_K} {f : Nat → Nat} {σ : jf_S} (w1 w2 : va_W) {idx k maxL' d' : Nat} {y : MethodName} {b' : ByteArray} {ret' : FieldType} {post : Int32 → jf_S → Prop} {Pre : State → Prop} (As rest : List Value) (hM : Met E.1 y (.code y b' maxL' (some ret') :: jf_tb) (jf_rm d') (va_Pc (jf_r (jg_E E f) k :: As) Pre) (va_Qi post (jf_B sh (jg_E E f)) (jf_A sh (jg_E E f))) 0 0 (jf_A sh (jg_E E f))) (hbl : FrameBlind (va_Pc (jf_r (jg_E E f) k :: As) Pre))
    (hpre : ∀ (H : Heap) (locs : List Loc) (U : State), (∀ q, jf_A sh (jg_E E f) q → A q) → va_S A G.2.2.2.1.heap H locs → U.heap = H → G.2.2.2.1.WarmedH U.vm → jf_B sh (jg_E E f) σ U → Pre U) (hy : jf_y y b' maxL' (some ret') As.length) (hyv : jf_yv y) (hk : jf_cl sh k y.cls) (hw : Cond.methodLink own idx y ∈ jf_tb) (hlev : d' + 1 ≤ d) (hst : st = As.reverse ++ jf_r (jg_E E f) k :: rest) (hr : (rest.map fun v => v.category).sum ≤ 8) (hc : cs ≤ mc) (hs : ss ≤ ms) (hd : decode cc pc = .ok (.invokevirtual idx, 3))
    (kk : ∀ (r : Int32) (τ : jf_S), post r τ → jg_X E G A nL (pc + 3) L (.int r :: rest) (w1 ++ (jf_w sh (jg_E E f) τ ++ w2)) cs ss) : jg_X E G A nL pc L st (w1 ++ (jf_w sh (jg_E E f) σ ++ w2)) cs ss := by
  intro H locs ls hP hD hS hl
  obtain ⟨ci, fs, T, N, h1, h2⟩ := hk
  have g1 := C.2.2.2.2.2.2.2.1
  have g2 := C.2.2.2.2.2.2.2.2.1
  have g3 := hy.2.2.2
  have g4 := C.2.2.2.2.2.2.2.2.2.1
  have g5 := C.2.2.2.2.2.2.2.2.2.2
  have at1 : ∀ (τ : jf_S) (i : Nat) (q : Nat × va_E), (jf_w sh (jg_E E f) τ)[i]? = some q → (w1 ++ (jf_w sh (jg_E E f) τ ++ w2))[w1.length + i]? = some q := by
    intro τ i q hi
    rw [List.getElem?_append_right (Nat.le_add_right _ _), Nat.add_sub_cancel_left, List.getElem?_append_left (List.getElem?_eq_some_iff.mp hi).1]
    exact hi
  have hJ : jf_J sh (jg_E E f) := by
    intro i j hi hj e
    have a1 := at1 σ i _ (jf_w_at (E := jg_E E f) (σ := σ) (List.getElem?_eq_getElem hi))
    have a2 := at1 σ j _ (jf_w_at (E := jg_E E f) (σ := σ) (List.getElem?_eq_getElem hj))
    have := hD.1 _ _ _ _ a1 a2 e
    omega
  have hPx : va_P (jf_D (jg_E E f)) vwCl (jf_w sh (jg_E E f) σ) H := fun i q hi => hP _ q (at1 σ i q hi)
  have hAx : ∀ q, jf_A sh (jg_E E f) q → A q := by
    rintro q ⟨i, hi, rfl⟩
    exact hD.2 _ _ (at1 σ i _ (jf_w_at (E := jg_E E f) (σ := σ) (List.getElem?_eq_getElem hi)))
  have hB : CallB G.2.2.1 G.2.2.2.1 G.2.2.2.2.2.1 own idx y b' maxL' (some ret') (.code y b' maxL' (some ret') :: jf_tb) (jf_rm d') 0 0 As.length :=
    callB_of As.length C.2.2.2.2.1 (jf_gin hy.1) rfl rfl rfl (C.2.2.2.2.1 _ hy.2.1) (C.2.2.2.2.1 _ hw) hy.2.2.1 ⟨by show d' + 1 ≤ _; omega, by show 8 + (maxL' + 11) + 64 * d' ≤ _; omega⟩
  refine va_calli (va_runV (As := As) (rest := rest) (C := y.cls) (Ts := jf_tb) ⟨C.1, C.2.1, C.2.2.1, C.2.2.2.1, C.2.2.2.2.1⟩ hM ⟨hB, C.2.2.2.2.1 _ hyv.1, C.2.2.2.2.1 _ hyv.2⟩ ⟨hbl, va_recv C.2.2.2.2.2.1 hPx h2 (jf_w_at h1), fun U hU hW => ⟨rfl, hpre H locs U hAx hS hU hW ⟨by rw [hU]; exact hPx, va_K.moved hW.alike C.2.2.2.2.2.1, hJ⟩⟩⟩ rfl rfl hl.1 hst (lv_room hr) hd ⟨by omega, by omega⟩) hS (fun q _ h => hAx q h) hAx (fun r u t H1 locs1 e1 e2 e3 e4 e5 e6 e7 => ?_)
  have hP1 : va_P (jf_D (jg_E E f)) vwCl (jf_w sh (jg_E E f) u) H1 := by rw [← e1]; exact e4.1
  have hout : ∀ (i : Nat) (q : Nat × va_E), (w1 ++ (jf_w sh (jg_E E f) σ ++ w2))[i]? = some q → (i < w1.length ∨ w1.length + sh.length ≤ i) → H1[q.1]? = H[q.1]? := by
    intro i q hi hio
    refine e6 q.1 (hP i q hi).lt ?_
    rintro ⟨j, hj, hq⟩
    have a2 := at1 σ j _ (jf_w_at (E := jg_E E f) (σ := σ) (List.getElem?_eq_getElem hj))
    have := hD.1 _ _ _ _ hi a2 hq
    omega
  have hlen : ∀ τ : jf_S, (jf_w sh (jg_E E f) τ).length = sh.length := fun τ => by unfold jf_w; rw [List.length_mapIdx]
  have hP2 : va_P (jf_D E) vwCl (w1 ++ (jf_w sh (jg_E E f) u ++ w2)) H1 := by
    refine va_P.app ?_ (va_P.app hP1 ?_)
    · intro i q hi
      have hil := (List.getElem?_eq_some_iff.mp hi).1
      have hi2 : (w1 ++ (jf_w sh (jg_E E f) σ ++ w2))[i]? = some q := by rw [List.getElem?_append_left hil]; exact hi
      exact (hP i q hi2).kept (hout i q hi2 (Or.inl hil))
    · intro i q hi
      have hi2 : (w1 ++ (jf_w sh (jg_E E f) σ ++ w2))[w1.length + (sh.length + i)]? = some q := by
        rw [List.getElem?_append_right (Nat.le_add_right _ _), Nat.add_sub_cancel_left, List.getElem?_append_right (by rw [hlen]; exact Nat.le_add_right _ _), hlen, Nat.add_sub_cancel_left]
        exact hi
      exact (hP _ q hi2).kept (hout _ q hi2 (Or.inr (by omega)))
  have hD2 : va_D A (w1 ++ (jf_w sh (jg_E E f) u ++ w2)) := jg_Dsame hD (by rw [List.map_append, List.map_append, List.map_append, List.map_append, jg_wfst sh (jg_E E f) u σ])
  exact kk r u e3 H1 locs1 ls hP2 hD2 e7 hl
/-- the developers' object, ahead of the reference -/
theorem jg_vx (C : jg_C E G A nL cc own d mc ms) {sh : List jf_K} {f : Nat → Nat} {σ : jf_S} {w2 : va_W} {idx k maxL' d' : Nat} {y : MethodName} {b' : ByteArray} {ret' : FieldType} {post : Int32 → jf_S → Prop} (As rest : List Value) (hM : jf_I sh (jg_E E f) y b' maxL' ret' d' (jf_r (jg_E E f) k :: As) σ post) (hy : jf_y y b' maxL' (some ret') As.length) (hyv : jf_yv y) (hk : jf_cl sh k y.cls) (hw : Cond.methodLink own idx y ∈ jf_tb) (hlev : d' + 1 ≤ d) (hst : st = As.reverse ++ jf_r (jg_E E f) k :: rest) (hr : (rest.map fun v => v.category).sum ≤ 8) (hc : cs ≤ mc) (hs : ss ≤ ms) (hd : decode cc pc = .ok (.invokevirtual idx, 3))
    (kk : ∀ (r : Int32) (τ : jf_S), post r τ → jg_X E G A nL (pc + 3) L (.int r :: rest) (jf_w sh (jg_E E f) τ ++ w2) cs ss) : jg_X E G A nL pc L st (jf_w sh (jg_E E f) σ ++ w2) cs ss :=
  jg_vi C [] w2 As rest hM jf_blind (fun _ _ _ _ _ _ _ h => h) hy hyv hk hw hlev hst hr hc hs hd kk
theorem jg_vxZ (C : jg_C E G A nL cc own d mc ms) {sh : List jf_K} {f : Nat → Nat} {σ : jf_S} {w2 : va_W} {idx k maxL' d' : Nat} {y : MethodName} {b' : ByteArray} {ret' : FieldType} {post : Int32 → jf_S → Prop} {Z : State → Prop} (hZk : jf_ZK (jf_A sh (jg_E E f)) Z) (hZ : ∀ (H : Heap) (locs : List Loc) (U : State), (∀ q, jf_A sh (jg_E E f) q → A q) → va_S A G.2.2.2.1.heap H locs → U.heap = H → G.2.2.2.1.WarmedH U.vm → Z U) (As rest : List Value) (hM : jf_IZ Z sh (jg_E E f) y b' maxL' ret' d' (jf_r (jg_E E f) k :: As) σ post) (hy : jf_y y b' maxL' (some ret') As.length) (hyv : jf_yv y) (hk : jf_cl sh k y.cls) (hw : Cond.methodLink own idx y ∈ jf_tb) (hlev : d' + 1 ≤ d) (hst : st = As.reverse ++ jf_r (jg_E E f) k :: rest) (hr : (rest.map fun v => v.category).sum ≤ 8) (hc : cs ≤ mc) (hs : ss ≤ ms) (hd : decode cc pc = .ok (.invokevirtual idx, 3))
    (kk : ∀ (r : Int32) (τ : jf_S), post r τ → jg_X E G A nL (pc + 3) L (.int r :: rest) (jf_w sh (jg_E E f) τ ++ w2) cs ss) : jg_X E G A nL pc L st (jf_w sh (jg_E E f) σ ++ w2) cs ss :=
  jg_vi C [] w2 As rest hM (jf_blindZ hZk.1) (fun H locs U h1 h2 h3 h4 h => ⟨h, hZ H locs U h1 h2 h3 h4⟩) hy hyv hk hw hlev hst hr hc hs hd kk
/-- the reference, behind it -/
theorem jg_vm (C : jg_C E G A nL cc own d mc ms) {sh : List jf_K} {f : Nat → Nat} {σ : jf_S} {w1 : va_W} {idx k maxL' d' : Nat} {y : MethodName} {b' : ByteArray} {ret' : FieldType} {post : Int32 → jf_S → Prop} (As rest : List Value) (hM : jf_I sh (jg_E E f) y b' maxL' ret' d' (jf_r (jg_E E f) k :: As) σ post) (hy : jf_y y b' maxL' (some ret') As.length) (hyv : jf_yv y) (hk : jf_cl sh k y.cls) (hw : Cond.methodLink own idx y ∈ jf_tb) (hlev : d' + 1 ≤ d) (hst : st = As.reverse ++ jf_r (jg_E E f) k :: rest) (hr : (rest.map fun v => v.category).sum ≤ 8) (hc : cs ≤ mc) (hs : ss ≤ ms) (hd : decode cc pc = .ok (.invokevirtual idx, 3))
    (kk : ∀ (r : Int32) (τ : jf_S), post r τ → jg_X E G A nL (pc + 3) L (.int r :: rest) (w1 ++ jf_w sh (jg_E E f) τ) cs ss) : jg_X E G A nL pc L st (w1 ++ jf_w sh (jg_E E f) σ) cs ss := by
  have h := jg_vi C w1 [] As rest hM jf_blind (fun _ _ _ _ _ _ _ h => h) hy hyv hk hw hlev hst hr hc hs hd (fun r τ hp => by rw [List.append_nil]; exact kk r τ hp)
  rw [List.append_nil] at h
  exact h
end JL
