/-! the reference: TRUE beginnings exactly: the search -/
def m_t0 (σ τ : jf_S) (k : Nat) : Prop := mS_true σ τ ∧ ∀ s, s < k → ((τ.1 24) s = 0 ↔ ¬ ((σ.1 14) s).toInt = 0)
theorem m_t0_s {σ τ : jf_S} {o v : Int32} (h : m_t0 σ τ o.toNatClampNeg) (c : v = 0 ↔ ¬ ((σ.1 14) o.toNatClampNeg).toInt = 0) : m_t0 σ (jf_i τ 24 o.toNatClampNeg v) (o.toNatClampNeg + 1) := by
  refine ⟨mS_true_w h.1 (Or.inr rfl), fun s hs => ?_⟩
  show (jf_i τ 24 o.toNatClampNeg v).1 24 s = 0 ↔ _
  by_cases e : s = o.toNatClampNeg
  · rw [e, jf_i_same]; exact c
  · rw [jf_i_ne e]; exact h.2 s (by omega)
theorem m_t0_e {σ τ : jf_S} (h : m_t0 σ τ ((σ.1 0 17)).toNatClampNeg) : m_ti σ τ := ⟨h.1, g_ti_0 (V := m_G σ) (fun s hs => h.2 s hs)⟩
theorem m_ti_e {σ τ : jf_S} {x : Int32} (h : m_ti σ τ) (n : m_nx τ x ((τ.1 0 17)).toNatClampNeg) (c : x.toInt < 0) : mS_true σ τ ∧ g_tr (m_G σ) ((σ.1 0 17)).toNatClampNeg ((τ.1 23)) := by
  have eE : (τ.1 0 17) = (σ.1 0 17) := by rw [h.1.2 0 (by decide) (by decide)]
  rcases n with ⟨-, n2⟩ | ⟨n1, -⟩
  · rw [eE] at n2; exact ⟨h.1, g_ti_e h.2 n2⟩
  · exfalso; omega
theorem m_cl_0 {τ : jf_S} {n s : Nat} {a : Int32} {T : Nat → Int32} (ha : a = g_ah (m_G τ) 16 s n) (c : a.toInt < 0) : 0 = g_cl (m_G τ) n T s := by
  unfold g_cl; rw [← ha, if_pos c]
theorem m_cl_1 {τ : jf_S} {n s : Nat} {a : Int32} (ha : a = g_ah (m_G τ) 16 s n) (c : ¬ a.toInt < 0) : (τ.1 23) a.toNatClampNeg + (τ.1 5) ((τ.1 15) a.toNatClampNeg).toNatClampNeg + (τ.1 19) a.toNatClampNeg + (τ.1 3) ((τ.1 16) s).toNatClampNeg = g_cl (m_G τ) n ((τ.1 23)) s := by
  unfold g_cl; rw [← ha, if_neg c]; rfl
theorem m_th_0 {τ : jf_S} {n s : Nat} {a : Int32} {T : Nat → Int32} (ha : a = g_ah (m_G τ) 15 s n) (c : a.toInt < 0) : 0 = g_th (m_G τ) n T s := by
  unfold g_th; rw [← ha, if_pos c]
theorem m_th_1 {τ : jf_S} {n s : Nat} {a : Int32} (ha : a = g_ah (m_G τ) 15 s n) (c : ¬ a.toInt < 0) : (τ.1 23) a.toNatClampNeg + (τ.1 5) ((τ.1 15) a.toNatClampNeg).toNatClampNeg + (τ.1 19) a.toNatClampNeg + (τ.1 13) (5 * (τ.1 1) ((τ.1 16) a.toNatClampNeg).toNatClampNeg + (τ.1 1) ((τ.1 16) s).toNatClampNeg).toNatClampNeg = g_th (m_G τ) n ((τ.1 23)) s := by
  unfold g_th; rw [← ha, if_neg c]; rfl
set_option maxHeartbeats 2000000 in
theorem ct_X11_findTrue2 (E : jf_E) (σ : jf_S) (hI : mI_s σ) : jf_V jh_M E yX11_findTrue cX11_findTrue 7 1 [jf_r E 0] σ (fun τ => mS_true σ τ ∧ g_tr (m_G σ) ((σ.1 0 17)).toNatClampNeg ((τ.1 23))) := by
  refine jf_mkV (by decide) (Nat.le_of_ble_eq_true rfl) ?_
  intro G C ret
  have loop2 : ∀ (m : Nat) (τ : jf_S) (nx : Int32), m_ti σ τ → m_nx τ nx ((τ.1 0 17)).toNatClampNeg → jx_ct (fun j => (τ.1 24) j == 0) 60 < m → jf_X jh_M E G 7 41 [(0, jf_r E 0), (1, .int nx)] [] τ := by
    intro m
    induction m with
    | zero => intro τ nx g1 g2 g3; exfalso; omega
    | succ m ih =>
      intro τ nx g1 g2 g3
      have hT := mS_true_I g1.1 hI
      have hE := hT.1
      have tE := ji_tn hE.1
      refine jr_iload_n C dX11_findTrue_41 rfl ?_
      refine jr_nif_lt C 314 dX11_findTrue_42 (by decide) (fun b42 => ?_) (fun b42 => ?_)
      · exact ret _ _ _ dX11_findTrue_314 ((m_ti_e g1 g2 b42))
      have g4 : 0 ≤ nx.toInt ∧ nx.toInt < ((τ.1 0 17)).toInt ∧ (τ.1 24) nx.toNatClampNeg = 0 := by
        rcases g2 with q | q
        · exfalso; omega
        · exact q.1
      have J298 : ∀ (L : List (Nat × Value)) (v : Int32), jf_lk 0 L = some (jf_r E 0) → jf_lk 1 L = some (.int nx) → v = g_tb (m_G τ) ((τ.1 0 17)).toNatClampNeg ((τ.1 23)) nx.toNatClampNeg → jf_X jh_M E G 7 298 L [.int v, .int nx, jf_r E 23] τ := by
        intro L v hL0 hL1 hv
        have w1 := m_ti_s hI g1 g2 g4.1 hv
        refine jr_iast C ka_M_23 dX11_findTrue_298 (ji_in (by omega) (by omega)) ?_
        refine jr_aload_n C dX11_findTrue_299 hL0 ?_
        refine jr_getr C kf_X11_84_0 dX11_findTrue_300 ?_
        refine jr_iload_n C dX11_findTrue_303 hL1 ?_
        refine jr_iconst C (v := 1) dX11_findTrue_304 (by decide) ?_
        refine jr_zast C ka_M_24 dX11_findTrue_305 (ji_in (by omega) (by omega)) (Or.inr rfl) ?_
        refine jr_aload_n C dX11_findTrue_306 hL0 ?_
        refine jr_vi C [] _ (ct_X11_nextTrue2 E _ (mS_true_I w1.1 hI)) ky_X11_nextTrue kv_X11_nextTrue kk_M_0 km_X11_213 (by decide) rfl (Nat.le_of_ble_eq_true rfl) dX11_findTrue_307 (fun r307 τ307 h307 => ?_)
        obtain ⟨q1, rfl⟩ := h307
        refine jr_istore_n C dX11_findTrue_310 (by decide) ?_
        refine jr_goto C 41 dX11_findTrue_311 (by decide) ?_
        refine jr_sub [(0, jf_r E 0), (1, .int r307)] ?_ (ih _ _ w1 q1 ?_)
        · show [jf_lk 0 (jf_s1 1 _ L), some (Value.int r307)] = _
          rw [jf_lk_s1 (by decide) (by rw [hL0])]; rfl
        · have := jx_ct_off (p := fun j => (τ.1 24) j == 0) (q := fun j => (jf_i (jf_i τ 23 nx.toNatClampNeg v) 24 nx.toNatClampNeg 1).1 24 j == 0) (i := nx.toNatClampNeg) (by simp [g4.2.2]) (by simp [jf_i]) (fun j hj => by simp [jf_i, hj]) (n := 60) (by have := ji_tn g4.1; omega)
          omega
      have J263 : ∀ (c4 c5 c6 : Int32), c4 = (τ.1 17) nx.toNatClampNeg → c5 = g_cl (m_G τ) ((τ.1 0 17)).toNatClampNeg ((τ.1 23)) nx.toNatClampNeg → c6 = g_th (m_G τ) ((τ.1 0 17)).toNatClampNeg ((τ.1 23)) nx.toNatClampNeg → jf_X jh_M E G 7 263 [(0, jf_r E 0), (1, .int nx), (4, .int c4), (5, .int c5), (6, .int c6)] [] τ := by
        intro c4 c5 c6 h4 h5 h6
        have K : g_tb (m_G τ) ((τ.1 0 17)).toNatClampNeg ((τ.1 23)) nx.toNatClampNeg = g_mx (g_mx c4 c5) c6 := by unfold g_tb; rw [h4, h5, h6]; rfl
        have k1 : c4.toInt < c5.toInt → g_mx c4 c5 = c5 := fun q => if_pos q
        have k2 : ¬ c4.toInt < c5.toInt → g_mx c4 c5 = c4 := fun q => if_neg q
        refine jr_iload C dX11_findTrue_263 rfl ?_
        refine jr_iload C dX11_findTrue_265 rfl ?_
        refine jr_ncmp_le C 275 dX11_findTrue_267 (by decide) rfl rfl (fun b267 => ?_) (fun b267 => ?_)
        · refine jr_iload C dX11_findTrue_275 rfl ?_
          refine jr_istore C dX11_findTrue_277 (by decide) ?_
          refine jr_aload_n C dX11_findTrue_279 rfl ?_
          refine jr_getr C kf_X11_81_0 dX11_findTrue_280 ?_
          refine jr_iload_n C dX11_findTrue_283 rfl ?_
          refine jr_iload C dX11_findTrue_284 rfl ?_
          refine jr_iload C dX11_findTrue_286 rfl ?_
          refine jr_ncmp_le C 296 dX11_findTrue_288 (by decide) rfl rfl (fun b288 => ?_) (fun b288 => ?_)
          · refine jr_iload C dX11_findTrue_296 rfl ?_
            exact J298 _ _ rfl rfl (by first | rw [K, k1 (by omega)]; exact (if_pos (by omega)).symm | rw [K, k1 (by omega)]; exact (if_neg (by omega)).symm | rw [K, k2 (by omega)]; exact (if_pos (by omega)).symm | rw [K, k2 (by omega)]; exact (if_neg (by omega)).symm)
          · refine jr_iload C dX11_findTrue_291 rfl ?_
            refine jr_goto C 298 dX11_findTrue_293 (by decide) ?_
            exact J298 _ _ rfl rfl (by first | rw [K, k1 (by omega)]; exact (if_pos (by omega)).symm | rw [K, k1 (by omega)]; exact (if_neg (by omega)).symm | rw [K, k2 (by omega)]; exact (if_pos (by omega)).symm | rw [K, k2 (by omega)]; exact (if_neg (by omega)).symm)
        · refine jr_iload C dX11_findTrue_270 rfl ?_
          refine jr_goto C 277 dX11_findTrue_272 (by decide) ?_
          refine jr_istore C dX11_findTrue_277 (by decide) ?_
          refine jr_aload_n C dX11_findTrue_279 rfl ?_
          refine jr_getr C kf_X11_81_0 dX11_findTrue_280 ?_
          refine jr_iload_n C dX11_findTrue_283 rfl ?_
          refine jr_iload C dX11_findTrue_284 rfl ?_
          refine jr_iload C dX11_findTrue_286 rfl ?_
          refine jr_ncmp_le C 296 dX11_findTrue_288 (by decide) rfl rfl (fun b288 => ?_) (fun b288 => ?_)
          · refine jr_iload C dX11_findTrue_296 rfl ?_
            exact J298 _ _ rfl rfl (by first | rw [K, k1 (by omega)]; exact (if_pos (by omega)).symm | rw [K, k1 (by omega)]; exact (if_neg (by omega)).symm | rw [K, k2 (by omega)]; exact (if_pos (by omega)).symm | rw [K, k2 (by omega)]; exact (if_neg (by omega)).symm)
          · refine jr_iload C dX11_findTrue_291 rfl ?_
            refine jr_goto C 298 dX11_findTrue_293 (by decide) ?_
            exact J298 _ _ rfl rfl (by first | rw [K, k1 (by omega)]; exact (if_pos (by omega)).symm | rw [K, k1 (by omega)]; exact (if_neg (by omega)).symm | rw [K, k2 (by omega)]; exact (if_pos (by omega)).symm | rw [K, k2 (by omega)]; exact (if_neg (by omega)).symm)
      have J217 : ∀ (b c4 c5 : Int32), b.toInt < 60 → b = g_ah (m_G τ) 15 nx.toNatClampNeg ((τ.1 0 17)).toNatClampNeg → c4 = (τ.1 17) nx.toNatClampNeg → c5 = g_cl (m_G τ) ((τ.1 0 17)).toNatClampNeg ((τ.1 23)) nx.toNatClampNeg → jf_X jh_M E G 7 217 [(0, jf_r E 0), (1, .int nx), (3, .int b), (4, .int c4), (5, .int c5)] [] τ := by
        intro b c4 c5 k2 kb k4 k5
        refine jr_iload_n C dX11_findTrue_217 rfl ?_
        refine jr_nif_ge C 225 dX11_findTrue_218 (by decide) (fun b218 => ?_) (fun b218 => ?_)
        · refine jr_aload_n C dX11_findTrue_225 rfl ?_
          refine jr_iload_n C dX11_findTrue_226 rfl ?_
          refine jr_vip C [.int _] _ (ct_X11_trueEnd E _ _ hT (by omega) (by omega)) ky_X11_trueEnd kv_X11_trueEnd kk_M_0 km_X11_217 (by decide) rfl (Nat.le_of_ble_eq_true rfl) dX11_findTrue_227 ?_
          refine jr_aload_n C dX11_findTrue_230 rfl ?_
          refine jr_getr C kf_X11_46_0 dX11_findTrue_231 ?_
          refine jr_iconst C (v := 5) dX11_findTrue_234 (by decide) ?_
          refine jr_aload_n C dX11_findTrue_235 rfl ?_
          refine jr_getr C kf_X11_7_0 dX11_findTrue_236 ?_
          refine jr_aload_n C dX11_findTrue_239 rfl ?_
          refine jr_getr C kf_X11_56_0 dX11_findTrue_240 ?_
          refine jr_iload_n C dX11_findTrue_243 rfl ?_
          refine jr_ialv C ka_M_16 dX11_findTrue_244 (ji_in (i := b) (by omega) (by omega)) (v := τ.1 16 _) rfl ?_
          refine jr_ialv C ka_M_1 dX11_findTrue_245 (mI_hall hT _ (by decide)) (v := τ.1 1 _) rfl ?_
          refine jr_imul C dX11_findTrue_246 ?_
          refine jr_aload_n C dX11_findTrue_247 rfl ?_
          refine jr_getr C kf_X11_7_0 dX11_findTrue_248 ?_
          refine jr_aload_n C dX11_findTrue_251 rfl ?_
          refine jr_getr C kf_X11_56_0 dX11_findTrue_252 ?_
          refine jr_iload_n C dX11_findTrue_255 rfl ?_
          refine jr_ialv C ka_M_16 dX11_findTrue_256 (ji_in (i := nx) (by omega) (by omega)) (v := τ.1 16 _) rfl ?_
          refine jr_ialv C ka_M_1 dX11_findTrue_257 (mI_hall hT _ (by decide)) (v := τ.1 1 _) rfl ?_
          refine jr_iadd C dX11_findTrue_258 ?_
          refine jr_ialv C ka_M_13 dX11_findTrue_259 (mI_way hT _ _) (v := τ.1 13 _) rfl ?_
          refine jr_iadd C dX11_findTrue_260 ?_
          refine jr_istore C dX11_findTrue_261 (by decide) ?_
          first | (have q := m_th_0 (T := (τ.1 23)) kb (by omega)); exact jr_sub [(0, jf_r E 0), (1, .int nx), (4, .int _), (5, .int _), (6, .int 0)] rfl (J263 _ _ _ k4 k5 q) | (have q := m_th_1 kb (by omega)); exact jr_sub [(0, jf_r E 0), (1, .int nx), (4, .int _), (5, .int _), (6, .int _)] rfl (J263 _ _ _ k4 k5 q)
        · refine jr_iconst C (v := 0) dX11_findTrue_221 (by decide) ?_
          refine jr_goto C 261 dX11_findTrue_222 (by decide) ?_
          refine jr_istore C dX11_findTrue_261 (by decide) ?_
          first | (have q := m_th_0 (T := (τ.1 23)) kb (by omega)); exact jr_sub [(0, jf_r E 0), (1, .int nx), (4, .int _), (5, .int _), (6, .int 0)] rfl (J263 _ _ _ k4 k5 q) | (have q := m_th_1 kb (by omega)); exact jr_sub [(0, jf_r E 0), (1, .int nx), (4, .int _), (5, .int _), (6, .int _)] rfl (J263 _ _ _ k4 k5 q)
      have inner : ∀ (n : Nat) (a b o : Int32), a.toInt < 60 → b.toInt < 60 → 0 ≤ o.toInt → o.toInt ≤ ((τ.1 0 17)).toInt → ((τ.1 0 17)).toInt - o.toInt < n → a = g_ah (m_G τ) 16 nx.toNatClampNeg o.toNatClampNeg → b = g_ah (m_G τ) 15 nx.toNatClampNeg o.toNatClampNeg → jf_X jh_M E G 7 52 [(0, jf_r E 0), (1, .int nx), (2, .int a), (3, .int b), (4, .int o)] [] τ := by
        intro n
        induction n with
        | zero => intro a b o k1 k2 k3 k4 k5 ka kb; exfalso; omega
        | succ n jh =>
          intro a b o k1 k2 k3 k4 k5 ka kb
          have e1 := ji_inc (k := o) (by omega)
          have es := g_sc k3 e1
          refine jr_iload C dX11_findTrue_52 rfl ?_
          refine jr_aload_n C dX11_findTrue_54 rfl ?_
          refine jr_geti C kf_X11_160_0 dX11_findTrue_55 ?_
          refine jr_ncmp_ge C 182 dX11_findTrue_58 (by decide) rfl rfl (fun b58 => ?_) (fun b58 => ?_)
          · have eo : o = (τ.1 0 17) := Int32.toInt_inj.mp (by omega)
            rw [eo] at ka kb
            refine jr_aload_n C dX11_findTrue_182 rfl ?_
            refine jr_getr C kf_X11_59_0 dX11_findTrue_183 ?_
            refine jr_iload_n C dX11_findTrue_186 rfl ?_
            refine jr_ialv C ka_M_17 dX11_findTrue_187 (ji_in (i := nx) (by omega) (by omega)) (v := τ.1 17 _) rfl ?_
            refine jr_istore C dX11_findTrue_188 (by decide) ?_
            refine jr_iload_n C dX11_findTrue_190 rfl ?_
            refine jr_nif_ge C 198 dX11_findTrue_191 (by decide) (fun b191 => ?_) (fun b191 => ?_)
            · refine jr_aload_n C dX11_findTrue_198 rfl ?_
              refine jr_iload_n C dX11_findTrue_199 rfl ?_
              refine jr_vip C [.int _] _ (ct_X11_trueEnd E _ _ hT (by omega) (by omega)) ky_X11_trueEnd kv_X11_trueEnd kk_M_0 km_X11_217 (by decide) rfl (Nat.le_of_ble_eq_true rfl) dX11_findTrue_200 ?_
              refine jr_aload_n C dX11_findTrue_203 rfl ?_
              refine jr_getr C kf_X11_16_0 dX11_findTrue_204 ?_
              refine jr_aload_n C dX11_findTrue_207 rfl ?_
              refine jr_getr C kf_X11_56_0 dX11_findTrue_208 ?_
              refine jr_iload_n C dX11_findTrue_211 rfl ?_
              refine jr_ialv C ka_M_16 dX11_findTrue_212 (ji_in (i := nx) (by omega) (by omega)) (v := τ.1 16 _) rfl ?_
              refine jr_ialv C ka_M_3 dX11_findTrue_213 (mI_hall hT _ (by decide)) (v := τ.1 3 _) rfl ?_
              refine jr_iadd C dX11_findTrue_214 ?_
              refine jr_istore C dX11_findTrue_215 (by decide) ?_
              first | (have q := m_cl_0 (T := (τ.1 23)) ka (by omega)); exact jr_sub [(0, jf_r E 0), (1, .int nx), (3, .int _), (4, .int _), (5, .int 0)] rfl (J217 _ _ _ k2 kb rfl q) | (have q := m_cl_1 ka (by omega)); exact jr_sub [(0, jf_r E 0), (1, .int nx), (3, .int _), (4, .int _), (5, .int _)] rfl (J217 _ _ _ k2 kb rfl q)
            · refine jr_iconst C (v := 0) dX11_findTrue_194 (by decide) ?_
              refine jr_goto C 215 dX11_findTrue_195 (by decide) ?_
              refine jr_istore C dX11_findTrue_215 (by decide) ?_
              first | (have q := m_cl_0 (T := (τ.1 23)) ka (by omega)); exact jr_sub [(0, jf_r E 0), (1, .int nx), (3, .int _), (4, .int _), (5, .int 0)] rfl (J217 _ _ _ k2 kb rfl q) | (have q := m_cl_1 ka (by omega)); exact jr_sub [(0, jf_r E 0), (1, .int nx), (3, .int _), (4, .int _), (5, .int _)] rfl (J217 _ _ _ k2 kb rfl q)
          · have J133 : ∀ (a : Int32), a.toInt < 60 → a = g_ah (m_G τ) 16 nx.toNatClampNeg (o.toNatClampNeg + 1) → ¬ ((τ.1 14) o.toNatClampNeg).toInt = 0 → ((τ.1 17) o.toNatClampNeg).toInt < ((τ.1 17) nx.toNatClampNeg).toInt → jf_X jh_M E G 7 133 [(0, jf_r E 0), (1, .int nx), (2, .int a), (3, .int b), (4, .int o)] [] τ := by
              intro a k1 ka i1 i2
              have Y : (¬ ((τ.1 14) o.toNatClampNeg).toInt = 0 ∧ ((τ.1 17) o.toNatClampNeg).toInt < ((τ.1 17) nx.toNatClampNeg).toInt ∧ ((τ.1 15) o.toNatClampNeg).toInt = ((τ.1 15) nx.toNatClampNeg).toInt ∧ (b.toInt < 0 ∨ ((τ.1 17) b.toNatClampNeg).toInt < ((τ.1 17) o.toNatClampNeg).toInt)) → o = g_ah (m_G τ) 15 nx.toNatClampNeg (o.toNatClampNeg + 1) := fun h => g_ah_y (V := m_G τ) (k := 15) k3 kb h
              have Z : ¬ (¬ ((τ.1 14) o.toNatClampNeg).toInt = 0 ∧ ((τ.1 17) o.toNatClampNeg).toInt < ((τ.1 17) nx.toNatClampNeg).toInt ∧ ((τ.1 15) o.toNatClampNeg).toInt = ((τ.1 15) nx.toNatClampNeg).toInt ∧ (b.toInt < 0 ∨ ((τ.1 17) b.toNatClampNeg).toInt < ((τ.1 17) o.toNatClampNeg).toInt)) → b = g_ah (m_G τ) 15 nx.toNatClampNeg (o.toNatClampNeg + 1) := fun h => g_ah_n (V := m_G τ) (k := 15) kb h
              rw [← es] at ka Y Z
              refine jr_aload_n C dX11_findTrue_133 rfl ?_
              refine jr_getr C kf_X11_53_0 dX11_findTrue_134 ?_
              refine jr_iload C dX11_findTrue_137 rfl ?_
              refine jr_ialv C ka_M_15 dX11_findTrue_139 (ji_in (i := o) (by omega) (by omega)) (v := τ.1 15 _) rfl ?_
              refine jr_aload_n C dX11_findTrue_140 rfl ?_
              refine jr_getr C kf_X11_53_0 dX11_findTrue_141 ?_
              refine jr_iload_n C dX11_findTrue_144 rfl ?_
              refine jr_ialv C ka_M_15 dX11_findTrue_145 (ji_in (i := nx) (by omega) (by omega)) (v := τ.1 15 _) rfl ?_
              refine jr_ncmp_ne C 174 dX11_findTrue_146 (by decide) rfl rfl (fun b146 => ?_) (fun b146 => ?_)
              · refine jr_iload_n C dX11_findTrue_174 rfl ?_
                refine jr_istore_n C dX11_findTrue_175 (by decide) ?_
                refine jr_iinc C _ dX11_findTrue_176 rfl rfl (by decide) ?_
                refine jr_goto C 52 dX11_findTrue_179 (by decide) ?_
                first | (have q := Y (by omega)); exact jr_sub [(0, jf_r E 0), (1, .int nx), (2, .int _), (3, .int o), (4, .int _)] rfl (jh _ _ _ (by omega) (by omega) (by omega) (by omega) (by omega) ka q) | (have q := Z (by omega)); exact jr_sub [(0, jf_r E 0), (1, .int nx), (2, .int _), (3, .int b), (4, .int _)] rfl (jh _ _ _ (by omega) (by omega) (by omega) (by omega) (by omega) ka q)
              · refine jr_iload_n C dX11_findTrue_149 rfl ?_
                refine jr_nif_lt C 169 dX11_findTrue_150 (by decide) (fun b150 => ?_) (fun b150 => ?_)
                · refine jr_iload C dX11_findTrue_169 rfl ?_
                  refine jr_goto C 175 dX11_findTrue_171 (by decide) ?_
                  refine jr_istore_n C dX11_findTrue_175 (by decide) ?_
                  refine jr_iinc C _ dX11_findTrue_176 rfl rfl (by decide) ?_
                  refine jr_goto C 52 dX11_findTrue_179 (by decide) ?_
                  first | (have q := Y (by omega)); exact jr_sub [(0, jf_r E 0), (1, .int nx), (2, .int _), (3, .int o), (4, .int _)] rfl (jh _ _ _ (by omega) (by omega) (by omega) (by omega) (by omega) ka q) | (have q := Z (by omega)); exact jr_sub [(0, jf_r E 0), (1, .int nx), (2, .int _), (3, .int b), (4, .int _)] rfl (jh _ _ _ (by omega) (by omega) (by omega) (by omega) (by omega) ka q)
                · refine jr_aload_n C dX11_findTrue_153 rfl ?_
                  refine jr_getr C kf_X11_59_0 dX11_findTrue_154 ?_
                  refine jr_iload C dX11_findTrue_157 rfl ?_
                  refine jr_ialv C ka_M_17 dX11_findTrue_159 (ji_in (i := o) (by omega) (by omega)) (v := τ.1 17 _) rfl ?_
                  refine jr_aload_n C dX11_findTrue_160 rfl ?_
                  refine jr_getr C kf_X11_59_0 dX11_findTrue_161 ?_
                  refine jr_iload_n C dX11_findTrue_164 rfl ?_
                  refine jr_ialv C ka_M_17 dX11_findTrue_165 (ji_in (i := b) (by omega) (by omega)) (v := τ.1 17 _) rfl ?_
                  refine jr_ncmp_le C 174 dX11_findTrue_166 (by decide) rfl rfl (fun b166 => ?_) (fun b166 => ?_)
                  · refine jr_iload_n C dX11_findTrue_174 rfl ?_
                    refine jr_istore_n C dX11_findTrue_175 (by decide) ?_
                    refine jr_iinc C _ dX11_findTrue_176 rfl rfl (by decide) ?_
                    refine jr_goto C 52 dX11_findTrue_179 (by decide) ?_
                    first | (have q := Y (by omega)); exact jr_sub [(0, jf_r E 0), (1, .int nx), (2, .int _), (3, .int o), (4, .int _)] rfl (jh _ _ _ (by omega) (by omega) (by omega) (by omega) (by omega) ka q) | (have q := Z (by omega)); exact jr_sub [(0, jf_r E 0), (1, .int nx), (2, .int _), (3, .int b), (4, .int _)] rfl (jh _ _ _ (by omega) (by omega) (by omega) (by omega) (by omega) ka q)
                  · refine jr_iload C dX11_findTrue_169 rfl ?_
                    refine jr_goto C 175 dX11_findTrue_171 (by decide) ?_
                    refine jr_istore_n C dX11_findTrue_175 (by decide) ?_
                    refine jr_iinc C _ dX11_findTrue_176 rfl rfl (by decide) ?_
                    refine jr_goto C 52 dX11_findTrue_179 (by decide) ?_
                    first | (have q := Y (by omega)); exact jr_sub [(0, jf_r E 0), (1, .int nx), (2, .int _), (3, .int o), (4, .int _)] rfl (jh _ _ _ (by omega) (by omega) (by omega) (by omega) (by omega) ka q) | (have q := Z (by omega)); exact jr_sub [(0, jf_r E 0), (1, .int nx), (2, .int _), (3, .int b), (4, .int _)] rfl (jh _ _ _ (by omega) (by omega) (by omega) (by omega) (by omega) ka q)
            have Y : (¬ ((τ.1 14) o.toNatClampNeg).toInt = 0 ∧ ((τ.1 17) o.toNatClampNeg).toInt < ((τ.1 17) nx.toNatClampNeg).toInt ∧ ((τ.1 16) o.toNatClampNeg).toInt = ((τ.1 16) nx.toNatClampNeg).toInt ∧ (a.toInt < 0 ∨ ((τ.1 17) a.toNatClampNeg).toInt < ((τ.1 17) o.toNatClampNeg).toInt)) → o = g_ah (m_G τ) 16 nx.toNatClampNeg (o.toNatClampNeg + 1) := fun h => g_ah_y (V := m_G τ) (k := 16) k3 ka h
            have Z : ¬ (¬ ((τ.1 14) o.toNatClampNeg).toInt = 0 ∧ ((τ.1 17) o.toNatClampNeg).toInt < ((τ.1 17) nx.toNatClampNeg).toInt ∧ ((τ.1 16) o.toNatClampNeg).toInt = ((τ.1 16) nx.toNatClampNeg).toInt ∧ (a.toInt < 0 ∨ ((τ.1 17) a.toNatClampNeg).toInt < ((τ.1 17) o.toNatClampNeg).toInt)) → a = g_ah (m_G τ) 16 nx.toNatClampNeg (o.toNatClampNeg + 1) := fun h => g_ah_n (V := m_G τ) (k := 16) ka h
            have Z2 : ¬ (¬ ((τ.1 14) o.toNatClampNeg).toInt = 0 ∧ ((τ.1 17) o.toNatClampNeg).toInt < ((τ.1 17) nx.toNatClampNeg).toInt ∧ ((τ.1 15) o.toNatClampNeg).toInt = ((τ.1 15) nx.toNatClampNeg).toInt ∧ (b.toInt < 0 ∨ ((τ.1 17) b.toNatClampNeg).toInt < ((τ.1 17) o.toNatClampNeg).toInt)) → b = g_ah (m_G τ) 15 nx.toNatClampNeg (o.toNatClampNeg + 1) := fun h => g_ah_n (V := m_G τ) (k := 15) kb h
            refine jr_aload_n C dX11_findTrue_61 rfl ?_
            refine jr_getr C kf_X11_49_0 dX11_findTrue_62 ?_
            refine jr_iload C dX11_findTrue_65 rfl ?_
            refine jr_zalv C ka_M_14 dX11_findTrue_67 (ji_in (i := o) (by omega) (by omega)) (v := τ.1 14 _) rfl ?_
            refine jr_nif_eq C 176 dX11_findTrue_68 (by decide) (fun b68 => ?_) (fun b68 => ?_)
            · refine jr_iinc C _ dX11_findTrue_176 rfl rfl (by decide) ?_
              refine jr_goto C 52 dX11_findTrue_179 (by decide) ?_
              (have q := Z (by omega)); (have q2 := Z2 (by omega)); rw [← es] at q q2; exact jr_sub [(0, jf_r E 0), (1, .int nx), (2, .int a), (3, .int b), (4, .int _)] rfl (jh _ _ _ (by omega) (by omega) (by omega) (by omega) (by omega) q q2)
            · refine jr_aload_n C dX11_findTrue_71 rfl ?_
              refine jr_getr C kf_X11_59_0 dX11_findTrue_72 ?_
              refine jr_iload C dX11_findTrue_75 rfl ?_
              refine jr_ialv C ka_M_17 dX11_findTrue_77 (ji_in (i := o) (by omega) (by omega)) (v := τ.1 17 _) rfl ?_
              refine jr_aload_n C dX11_findTrue_78 rfl ?_
              refine jr_getr C kf_X11_59_0 dX11_findTrue_79 ?_
              refine jr_iload_n C dX11_findTrue_82 rfl ?_
              refine jr_ialv C ka_M_17 dX11_findTrue_83 (ji_in (i := nx) (by omega) (by omega)) (v := τ.1 17 _) rfl ?_
              refine jr_ncmp_lt C 90 dX11_findTrue_84 (by decide) rfl rfl (fun b84 => ?_) (fun b84 => ?_)
              · refine jr_aload_n C dX11_findTrue_90 rfl ?_
                refine jr_getr C kf_X11_56_0 dX11_findTrue_91 ?_
                refine jr_iload C dX11_findTrue_94 rfl ?_
                refine jr_ialv C ka_M_16 dX11_findTrue_96 (ji_in (i := o) (by omega) (by omega)) (v := τ.1 16 _) rfl ?_
                refine jr_aload_n C dX11_findTrue_97 rfl ?_
                refine jr_getr C kf_X11_56_0 dX11_findTrue_98 ?_
                refine jr_iload_n C dX11_findTrue_101 rfl ?_
                refine jr_ialv C ka_M_16 dX11_findTrue_102 (ji_in (i := nx) (by omega) (by omega)) (v := τ.1 16 _) rfl ?_
                refine jr_ncmp_ne C 131 dX11_findTrue_103 (by decide) rfl rfl (fun b103 => ?_) (fun b103 => ?_)
                · refine jr_iload_n C dX11_findTrue_131 rfl ?_
                  refine jr_istore_n C dX11_findTrue_132 (by decide) ?_
                  first | (have q := Y (by omega)); exact jr_sub [(0, jf_r E 0), (1, .int nx), (2, .int o), (3, .int _), (4, .int _)] rfl (J133 _ (by omega) q (by omega) (by omega)) | (have q := Z (by omega)); exact jr_sub [(0, jf_r E 0), (1, .int nx), (2, .int a), (3, .int _), (4, .int _)] rfl (J133 _ (by omega) q (by omega) (by omega))
                · refine jr_iload_n C dX11_findTrue_106 rfl ?_
                  refine jr_nif_lt C 126 dX11_findTrue_107 (by decide) (fun b107 => ?_) (fun b107 => ?_)
                  · refine jr_iload C dX11_findTrue_126 rfl ?_
                    refine jr_goto C 132 dX11_findTrue_128 (by decide) ?_
                    refine jr_istore_n C dX11_findTrue_132 (by decide) ?_
                    first | (have q := Y (by omega)); exact jr_sub [(0, jf_r E 0), (1, .int nx), (2, .int o), (3, .int _), (4, .int _)] rfl (J133 _ (by omega) q (by omega) (by omega)) | (have q := Z (by omega)); exact jr_sub [(0, jf_r E 0), (1, .int nx), (2, .int a), (3, .int _), (4, .int _)] rfl (J133 _ (by omega) q (by omega) (by omega))
                  · refine jr_aload_n C dX11_findTrue_110 rfl ?_
                    refine jr_getr C kf_X11_59_0 dX11_findTrue_111 ?_
                    refine jr_iload C dX11_findTrue_114 rfl ?_
                    refine jr_ialv C ka_M_17 dX11_findTrue_116 (ji_in (i := o) (by omega) (by omega)) (v := τ.1 17 _) rfl ?_
                    refine jr_aload_n C dX11_findTrue_117 rfl ?_
                    refine jr_getr C kf_X11_59_0 dX11_findTrue_118 ?_
                    refine jr_iload_n C dX11_findTrue_121 rfl ?_
                    refine jr_ialv C ka_M_17 dX11_findTrue_122 (ji_in (i := a) (by omega) (by omega)) (v := τ.1 17 _) rfl ?_
                    refine jr_ncmp_le C 131 dX11_findTrue_123 (by decide) rfl rfl (fun b123 => ?_) (fun b123 => ?_)
                    · refine jr_iload_n C dX11_findTrue_131 rfl ?_
                      refine jr_istore_n C dX11_findTrue_132 (by decide) ?_
                      first | (have q := Y (by omega)); exact jr_sub [(0, jf_r E 0), (1, .int nx), (2, .int o), (3, .int _), (4, .int _)] rfl (J133 _ (by omega) q (by omega) (by omega)) | (have q := Z (by omega)); exact jr_sub [(0, jf_r E 0), (1, .int nx), (2, .int a), (3, .int _), (4, .int _)] rfl (J133 _ (by omega) q (by omega) (by omega))
                    · refine jr_iload C dX11_findTrue_126 rfl ?_
                      refine jr_goto C 132 dX11_findTrue_128 (by decide) ?_
                      refine jr_istore_n C dX11_findTrue_132 (by decide) ?_
                      first | (have q := Y (by omega)); exact jr_sub [(0, jf_r E 0), (1, .int nx), (2, .int o), (3, .int _), (4, .int _)] rfl (J133 _ (by omega) q (by omega) (by omega)) | (have q := Z (by omega)); exact jr_sub [(0, jf_r E 0), (1, .int nx), (2, .int a), (3, .int _), (4, .int _)] rfl (J133 _ (by omega) q (by omega) (by omega))
              · refine jr_goto C 176 dX11_findTrue_87 (by decide) ?_
                refine jr_iinc C _ dX11_findTrue_176 rfl rfl (by decide) ?_
                refine jr_goto C 52 dX11_findTrue_179 (by decide) ?_
                (have q := Z (by omega)); (have q2 := Z2 (by omega)); rw [← es] at q q2; exact jr_sub [(0, jf_r E 0), (1, .int nx), (2, .int a), (3, .int b), (4, .int _)] rfl (jh _ _ _ (by omega) (by omega) (by omega) (by omega) (by omega) q q2)
      refine jr_iconst C (v := -1) dX11_findTrue_45 (by decide) ?_
      refine jr_istore_n C dX11_findTrue_46 (by decide) ?_
      refine jr_iconst C (v := -1) dX11_findTrue_47 (by decide) ?_
      refine jr_istore_n C dX11_findTrue_48 (by decide) ?_
      refine jr_iconst C (v := 0) dX11_findTrue_49 (by decide) ?_
      refine jr_istore C dX11_findTrue_50 (by decide) ?_
      exact jr_sub [(0, jf_r E 0), (1, .int nx), (2, .int (-1)), (3, .int (-1)), (4, .int 0)] rfl (inner 61 (-1) (-1) 0 (by decide) (by decide) (by decide) hE.1 (by show _ - 0 < _; omega) rfl rfl)
  have loop1 : ∀ (m : Nat) (τ : jf_S) (o : Int32), m_t0 σ τ o.toNatClampNeg → 0 ≤ o.toInt → o.toInt ≤ ((τ.1 0 17)).toInt → ((τ.1 0 17)).toInt - o.toInt < m → jf_X jh_M E G 7 2 [(0, jf_r E 0), (1, .int o)] [] τ := by
    intro m
    induction m with
    | zero => intro τ o g1 g2 g3 g4; exfalso; omega
    | succ m ih =>
      intro τ o g1 g2 g3 g4
      have hT := mS_true_I g1.1 hI
      have hE := hT.1
      have e1 := ji_inc (k := o) (by omega)
      have es := g_sc g2 e1
      have eI : (τ.1 14) = (σ.1 14) := g1.1.2 14 (by decide) (by decide)
      have eE : (τ.1 0 17) = (σ.1 0 17) := by rw [g1.1.2 0 (by decide) (by decide)]
      refine jr_iload_n C dX11_findTrue_2 rfl ?_
      refine jr_aload_n C dX11_findTrue_3 rfl ?_
      refine jr_geti C kf_X11_160_0 dX11_findTrue_4 ?_
      refine jr_ncmp_ge C 36 dX11_findTrue_7 (by decide) rfl rfl (fun b7 => ?_) (fun b7 => ?_)
      · have eo : o = (σ.1 0 17) := Int32.toInt_inj.mp (by rw [← eE]; omega)
        rw [eo] at g1
        refine jr_aload_n C dX11_findTrue_36 rfl ?_
        refine jr_vi C [] _ (ct_X11_nextTrue2 E _ hT) ky_X11_nextTrue kv_X11_nextTrue kk_M_0 km_X11_213 (by decide) rfl (Nat.le_of_ble_eq_true rfl) dX11_findTrue_37 (fun r37 τ37 h37 => ?_)
        refine jr_istore_n C dX11_findTrue_40 (by decide) ?_
        obtain ⟨q1, rfl⟩ := h37
        refine jr_sub [(0, jf_r E 0), (1, .int _)] rfl (loop2 61 _ _ (m_t0_e g1) q1 ?_)
        have := jx_ct_le (fun j => (τ.1 24) j == 0) 60
        omega
      · refine jr_aload_n C dX11_findTrue_10 rfl ?_
        refine jr_getr C kf_X11_84_0 dX11_findTrue_11 ?_
        refine jr_iload_n C dX11_findTrue_14 rfl ?_
        refine jr_aload_n C dX11_findTrue_15 rfl ?_
        refine jr_getr C kf_X11_49_0 dX11_findTrue_16 ?_
        refine jr_iload_n C dX11_findTrue_19 rfl ?_
        refine jr_zalv C ka_M_14 dX11_findTrue_20 (ji_in (i := o) (by omega) (by omega)) (v := τ.1 14 _) rfl ?_
        refine jr_nif_ne C 28 dX11_findTrue_21 (by decide) (fun b21 => ?_) (fun b21 => ?_)
        · refine jr_iconst C (v := 0) dX11_findTrue_28 (by decide) ?_
          refine jr_zast C ka_M_24 dX11_findTrue_29 (ji_in (i := o) (by omega) (by omega)) (by decide) ?_
          refine jr_iinc C _ dX11_findTrue_30 rfl rfl (by decide) ?_
          refine jr_goto C 2 dX11_findTrue_33 (by decide) ?_
          exact jr_sub [(0, jf_r E 0), (1, .int _)] rfl (ih _ _ (by rw [es]; first | exact m_t0_s g1 ⟨fun q => absurd q (by decide), fun q => absurd (by rw [← eI]; exact b21) q⟩ | exact m_t0_s g1 ⟨fun _ => by rw [← eI]; exact b21, fun _ => rfl⟩) (by omega) (show _ ≤ ((τ.1 0 17)).toInt by omega) (show ((τ.1 0 17)).toInt - _ < _ by omega))
        · refine jr_iconst C (v := 1) dX11_findTrue_24 (by decide) ?_
          refine jr_goto C 29 dX11_findTrue_25 (by decide) ?_
          refine jr_zast C ka_M_24 dX11_findTrue_29 (ji_in (i := o) (by omega) (by omega)) (by decide) ?_
          refine jr_iinc C _ dX11_findTrue_30 rfl rfl (by decide) ?_
          refine jr_goto C 2 dX11_findTrue_33 (by decide) ?_
          exact jr_sub [(0, jf_r E 0), (1, .int _)] rfl (ih _ _ (by rw [es]; first | exact m_t0_s g1 ⟨fun q => absurd q (by decide), fun q => absurd (by rw [← eI]; exact b21) q⟩ | exact m_t0_s g1 ⟨fun _ => by rw [← eI]; exact b21, fun _ => rfl⟩) (by omega) (show _ ≤ ((τ.1 0 17)).toInt by omega) (show ((τ.1 0 17)).toInt - _ < _ by omega))
  refine jr_iconst C (v := 0) dX11_findTrue_0 (by decide) ?_
  refine jr_istore_n C dX11_findTrue_1 (by decide) ?_
  exact jr_sub [(0, jf_r E 0), (1, .int 0)] rfl (loop1 61 σ 0 ⟨⟨rfl, fun _ _ _ => rfl⟩, fun s hs => absurd hs (Nat.not_lt_zero s)⟩ (by decide) hI.1.1 (by show _ - 0 < _; have := hI.1; omega))

