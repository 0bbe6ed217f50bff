theorem jg_pop {E : jf_E} {G : jf_G} {A : Nat → Prop} {nL d mc ms pc cs ss : Nat} {cc : ByteArray} {own : String} {L : List (Nat × Value)} {st : List Value} {ws : va_W} (C : jg_C E G A nL cc own d mc ms) {a : Value} (hd : decode cc pc = .ok (.pop, 1)) (ha : a.category = 1) (k : jg_X E G A nL (pc + 1) L st ws cs ss) : jg_X E G A nL pc L (a :: st) ws cs ss := by
  intro H locs ls hP hD hS hl
  exact lv_pop C.1 C.2.1 hd ha (k H locs ls hP hD hS hl)
theorem kl_9 : Cond.methodLink RL 9 yX10_init ∈ jf_tb := (jt_1 22 rfl rfl)
theorem kl_12 : Cond.methodLink RL 12 yX11_init ∈ jf_tb := (jt_5 28 rfl rfl)
theorem kl_13 : Cond.methodLink RL 13 yX10_hall ∈ jf_tb := (jt_2 207 rfl rfl)
theorem kl_17 : Cond.methodLink RL 17 yX11_hall ∈ jf_tb := (jt_6 3 rfl rfl)
theorem kl_18 : Cond.methodLink RL 18 yX10_film ∈ jf_tb := (jt_2 228 rfl rfl)
theorem kl_22 : Cond.methodLink RL 22 yX11_film ∈ jf_tb := (jt_6 18 rfl rfl)
theorem kl_23 : Cond.methodLink RL 23 yX10_way ∈ jf_tb := (jt_3 4 rfl rfl)
theorem kl_26 : Cond.methodLink RL 26 yX11_way ∈ jf_tb := (jt_6 25 rfl rfl)
theorem kl_27 : Cond.methodLink RL 27 yX10_guest ∈ jf_tb := (jt_3 12 rfl rfl)
theorem kl_30 : Cond.methodLink RL 30 yX11_guest ∈ jf_tb := (jt_6 29 rfl rfl)
theorem kl_31 : Cond.methodLink RL 31 yX10_bar ∈ jf_tb := (jt_3 24 rfl rfl)
theorem kl_34 : Cond.methodLink RL 34 yX11_bar ∈ jf_tb := (jt_6 41 rfl rfl)
theorem kl_35 : Cond.methodLink RL 35 yX10_why ∈ jf_tb := (jt_3 29 rfl rfl)
theorem kl_38 : Cond.methodLink RL 38 yX11_why ∈ jf_tb := (jt_6 46 rfl rfl)
theorem kl_39 : Cond.methodLink RL 39 yX10_put ∈ jf_tb := (jt_3 88 rfl rfl)
theorem kl_42 : Cond.methodLink RL 42 yX11_put ∈ jf_tb := (jt_6 63 rfl rfl)
theorem kl_43 : Cond.methodLink RL 43 yX10_take ∈ jf_tb := (jt_3 96 rfl rfl)
theorem kl_47 : Cond.methodLink RL 47 yX11_take ∈ jf_tb := (jt_6 67 rfl rfl)
theorem kl_48 : Cond.methodLink RL 48 yX10_of ∈ jf_tb := (jt_3 104 rfl rfl)
theorem kl_52 : Cond.methodLink RL 52 yX11_of ∈ jf_tb := (jt_6 75 rfl rfl)
theorem kl_53 : Cond.methodLink RL 53 yX10_part ∈ jf_tb := (jt_3 159 rfl rfl)
theorem kl_56 : Cond.methodLink RL 56 yX11_part ∈ jf_tb := (jt_6 99 rfl rfl)
theorem kl_57 : Cond.methodLink RL 57 yX10_grid ∈ jf_tb := (jt_3 163 rfl rfl)
theorem kl_61 : Cond.methodLink RL 61 yX11_grid ∈ jf_tb := (jt_6 104 rfl rfl)
theorem kl_62 : Cond.methodLink RL 62 yX10_hour ∈ jf_tb := (jt_3 172 rfl rfl)
theorem kl_65 : Cond.methodLink RL 65 yX11_hour ∈ jf_tb := (jt_6 112 rfl rfl)
theorem kl_66 : Cond.methodLink RL 66 yX10_better ∈ jf_tb := (jt_3 180 rfl rfl)
theorem kl_69 : Cond.methodLink RL 69 yX11_better ∈ jf_tb := (jt_6 116 rfl rfl)
theorem kl_70 : Cond.methodLink RL 70 yX10_come ∈ jf_tb := (jt_3 209 rfl rfl)
theorem kl_73 : Cond.methodLink RL 73 yX11_come ∈ jf_tb := (jt_6 124 rfl rfl)
theorem kl_74 : Cond.methodLink RL 74 yX10_doors ∈ jf_tb := (jt_3 213 rfl rfl)
theorem kl_77 : Cond.methodLink RL 77 yX11_doors ∈ jf_tb := (jt_6 130 rfl rfl)
theorem kl_78 : Cond.methodLink RL 78 yX10_delay ∈ jf_tb := (jt_3 217 rfl rfl)
theorem kl_81 : Cond.methodLink RL 81 yX11_delay ∈ jf_tb := (jt_6 135 rfl rfl)
theorem kl_82 : Cond.methodLink RL 82 yX10_queue ∈ jf_tb := (jt_3 221 rfl rfl)
theorem kl_85 : Cond.methodLink RL 85 yX11_queue ∈ jf_tb := (jt_6 139 rfl rfl)
theorem kl_86 : Cond.methodLink RL 86 yX10_juror ∈ jf_tb := (jt_3 230 rfl rfl)
theorem kl_89 : Cond.methodLink RL 89 yX11_juror ∈ jf_tb := (jt_6 145 rfl rfl)
theorem kl_90 : Cond.methodLink RL 90 yX10_vote ∈ jf_tb := (jt_3 238 rfl rfl)
theorem kl_93 : Cond.methodLink RL 93 yX11_vote ∈ jf_tb := (jt_6 149 rfl rfl)
theorem kl_94 : Cond.methodLink RL 94 yX10_clear ∈ jf_tb := (jt_4 14 rfl rfl)
theorem kl_97 : Cond.methodLink RL 97 yX11_clear ∈ jf_tb := (jt_6 161 rfl rfl)
theorem kl_98 : Cond.methodLink RL 98 yX10_row ∈ jf_tb := (jt_4 18 rfl rfl)
theorem kl_101 : Cond.methodLink RL 101 yX11_row ∈ jf_tb := (jt_6 165 rfl rfl)
theorem kl_102 : Cond.methodLink RL 102 yX10_feed ∈ jf_tb := (jt_4 30 rfl rfl)
theorem kl_106 : Cond.methodLink RL 106 yX11_feed ∈ jf_tb := (jt_6 170 rfl rfl)
theorem kl_107 : Cond.methodLink RL 107 yX10_end ∈ jf_tb := (jt_4 42 rfl rfl)
theorem kl_110 : Cond.methodLink RL 110 yX11_end ∈ jf_tb := (jt_6 178 rfl rfl)
theorem kl_111 : Cond.methodLink RL 111 yX10_rules ∈ jf_tb := (jt_4 46 rfl rfl)
theorem kl_114 : Cond.methodLink RL 114 yX11_rules ∈ jf_tb := (jt_6 182 rfl rfl)
theorem kl_115 : Cond.methodLink RL 115 yX10_fault ∈ jf_tb := (jt_4 179 rfl rfl)
theorem kl_118 : Cond.methodLink RL 118 yX11_fault ∈ jf_tb := (jt_6 239 rfl rfl)
theorem kl_119 : Cond.methodLink RL 119 yX10_counts ∈ jf_tb := (jt_4 183 rfl rfl)
theorem kl_122 : Cond.methodLink RL 122 yX11_counts ∈ jf_tb := (jt_7 3 rfl rfl)
theorem kl_123 : Cond.methodLink RL 123 yX10_prize ∈ jf_tb := (jt_4 201 rfl rfl)
theorem kl_126 : Cond.methodLink RL 126 yX11_prize ∈ jf_tb := (jt_7 19 rfl rfl)
theorem kl_127 : Cond.methodLink RL 127 yX10_round ∈ jf_tb := (jt_5 6 rfl rfl)
theorem kl_130 : Cond.methodLink RL 130 yX11_round ∈ jf_tb := (jt_7 47 rfl rfl)
theorem kl_131 : Cond.methodLink RL 131 yX10_count ∈ jf_tb := (jt_5 14 rfl rfl)
theorem kl_134 : Cond.methodLink RL 134 yX11_count ∈ jf_tb := (jt_7 51 rfl rfl)
theorem kl_135 : Cond.methodLink RL 135 yX10_status ∈ jf_tb := (jt_5 22 rfl rfl)
theorem kl_138 : Cond.methodLink RL 138 yX11_status ∈ jf_tb := (jt_7 55 rfl rfl)
section JC
variable {E : jf_E} {G : jf_G} {A : Nat → Prop} {d mc ms cs ss : Nat}
theorem lc_0 (C : jg_C E G A 4 cL_law RL d mc ms) {b n : Nat} {xs : Nat → Int32} {i : Int32} {f g : Nat → Nat} {σ τ : jf_S} {PX PM : Int32 → jf_S → Prop} {lx lm : Nat} (hX : va_X b n xs G.2.2.2.1 G.2.2.2.1.heap) (hbl : b < G.2.2.2.1.heap.size) (hbA : ¬ A b) (h1 : vp_in (i + 1) n) (h2 : vp_in (i + 2) n) (h3 : vp_in (i + 3) n) (h4 : vp_in (i + 4) n) (hx : jf_I jh_X (jg_E E f) yX10_hall cX10_hall 5 .int lx [jf_r (jg_E E f) 0, .int (xs (i + 1).toNatClampNeg), .int (xs (i + 2).toNatClampNeg), .int (xs (i + 3).toNatClampNeg), .int (xs (i + 4).toNatClampNeg)] σ PX) (hm : jf_I jh_M (jg_E E g) yX11_hall cX11_hall 5 .int lm [jf_r (jg_E E g) 0, .int (xs (i + 1).toNatClampNeg), .int (xs (i + 2).toNatClampNeg), .int (xs (i + 3).toNatClampNeg), .int (xs (i + 4).toNatClampNeg)] τ PM) (hlx : lx + 1 ≤ d) (hlm : lm + 1 ≤ d) (hcs : cs ≤ mc) (hss : ss ≤ ms) (hk : ∀ (r1 r2 : Int32) (σ1 τ1 : jf_S), PX r1 σ1 → PM r2 τ1 → jg_X E G A 4 1168 [(0, .ref b), (1, .ref (f 0)), (2, .ref (g 0)), (3, .int i)] [] (jf_w jh_X (jg_E E f) σ1 ++ jf_w jh_M (jg_E E g) τ1) cs ss) : jg_X E G A 4 168 [(0, .ref b), (1, .ref (f 0)), (2, .ref (g 0)), (3, .int i)] [] (jf_w jh_X (jg_E E f) σ ++ jf_w jh_M (jg_E E g) τ) cs ss := by
  refine jg_aload_n C dL_law_168 rfl ?_
  refine jg_aload_n C dL_law_169 rfl ?_
  refine jg_iload_n C dL_law_170 rfl ?_
  refine jg_iconst C 1 dL_law_171 (by decide) ?_
  refine jg_iadd C dL_law_172 ?_
  refine jg_sld C hX hbl hbA dL_law_173 h1 ?_
  refine jg_aload_n C dL_law_174 rfl ?_
  refine jg_iload_n C dL_law_175 rfl ?_
  refine jg_iconst C 2 dL_law_176 (by decide) ?_
  refine jg_iadd C dL_law_177 ?_
  refine jg_sld C hX hbl hbA dL_law_178 h2 ?_
  refine jg_aload_n C dL_law_179 rfl ?_
  refine jg_iload_n C dL_law_180 rfl ?_
  refine jg_iconst C 3 dL_law_181 (by decide) ?_
  refine jg_iadd C dL_law_182 ?_
  refine jg_sld C hX hbl hbA dL_law_183 h3 ?_
  refine jg_aload_n C dL_law_184 rfl ?_
  refine jg_iload_n C dL_law_185 rfl ?_
  refine jg_iconst C 4 dL_law_186 (by decide) ?_
  refine jg_iadd C dL_law_187 ?_
  refine jg_sld C hX hbl hbA dL_law_188 h4 ?_
  refine jg_vx C [.int _, .int _, .int _, .int _] _ hx ky_X10_hall kv_X10_hall kk_X_0 kl_13 (by omega) rfl (Nat.le_of_ble_eq_true rfl) hcs hss dL_law_189 (fun r1 σ1 p1 => ?_)
  refine jg_pop C dL_law_192 rfl ?_
  refine jg_aload_n C dL_law_193 rfl ?_
  refine jg_aload_n C dL_law_194 rfl ?_
  refine jg_iload_n C dL_law_195 rfl ?_
  refine jg_iconst C 1 dL_law_196 (by decide) ?_
  refine jg_iadd C dL_law_197 ?_
  refine jg_sld C hX hbl hbA dL_law_198 h1 ?_
  refine jg_aload_n C dL_law_199 rfl ?_
  refine jg_iload_n C dL_law_200 rfl ?_
  refine jg_iconst C 2 dL_law_201 (by decide) ?_
  refine jg_iadd C dL_law_202 ?_
  refine jg_sld C hX hbl hbA dL_law_203 h2 ?_
  refine jg_aload_n C dL_law_204 rfl ?_
  refine jg_iload_n C dL_law_205 rfl ?_
  refine jg_iconst C 3 dL_law_206 (by decide) ?_
  refine jg_iadd C dL_law_207 ?_
  refine jg_sld C hX hbl hbA dL_law_208 h3 ?_
  refine jg_aload_n C dL_law_209 rfl ?_
  refine jg_iload_n C dL_law_210 rfl ?_
  refine jg_iconst C 4 dL_law_211 (by decide) ?_
  refine jg_iadd C dL_law_212 ?_
  refine jg_sld C hX hbl hbA dL_law_213 h4 ?_
  refine jg_vm C [.int _, .int _, .int _, .int _] _ hm ky_X11_hall kv_X11_hall kk_M_0 kl_17 (by omega) rfl (Nat.le_of_ble_eq_true rfl) hcs hss dL_law_214 (fun r2 τ1 p2 => ?_)
  refine jg_pop C dL_law_217 rfl ?_
  refine jg_goto C 1168 dL_law_218 (by decide) ?_
  exact hk r1 r2 σ1 τ1 p1 p2
theorem lc_1 (C : jg_C E G A 4 cL_law RL d mc ms) {b n : Nat} {xs : Nat → Int32} {i : Int32} {f g : Nat → Nat} {σ τ : jf_S} {PX PM : Int32 → jf_S → Prop} {lx lm : Nat} (hX : va_X b n xs G.2.2.2.1 G.2.2.2.1.heap) (hbl : b < G.2.2.2.1.heap.size) (hbA : ¬ A b) (h1 : vp_in (i + 1) n) (h2 : vp_in (i + 2) n) (h3 : vp_in (i + 3) n) (hx : jf_I jh_X (jg_E E f) yX10_film cX10_film 4 .int lx [jf_r (jg_E E f) 0, .int (xs (i + 1).toNatClampNeg), .int (xs (i + 2).toNatClampNeg), .int (xs (i + 3).toNatClampNeg)] σ PX) (hm : jf_I jh_M (jg_E E g) yX11_film cX11_film 4 .int lm [jf_r (jg_E E g) 0, .int (xs (i + 1).toNatClampNeg), .int (xs (i + 2).toNatClampNeg), .int (xs (i + 3).toNatClampNeg)] τ PM) (hlx : lx + 1 ≤ d) (hlm : lm + 1 ≤ d) (hcs : cs ≤ mc) (hss : ss ≤ ms) (hk : ∀ (r1 r2 : Int32) (σ1 τ1 : jf_S), PX r1 σ1 → PM r2 τ1 → jg_X E G A 4 1168 [(0, .ref b), (1, .ref (f 0)), (2, .ref (g 0)), (3, .int i)] [] (jf_w jh_X (jg_E E f) σ1 ++ jf_w jh_M (jg_E E g) τ1) cs ss) : jg_X E G A 4 221 [(0, .ref b), (1, .ref (f 0)), (2, .ref (g 0)), (3, .int i)] [] (jf_w jh_X (jg_E E f) σ ++ jf_w jh_M (jg_E E g) τ) cs ss := by
  refine jg_aload_n C dL_law_221 rfl ?_
  refine jg_aload_n C dL_law_222 rfl ?_
  refine jg_iload_n C dL_law_223 rfl ?_
  refine jg_iconst C 1 dL_law_224 (by decide) ?_
  refine jg_iadd C dL_law_225 ?_
  refine jg_sld C hX hbl hbA dL_law_226 h1 ?_
  refine jg_aload_n C dL_law_227 rfl ?_
  refine jg_iload_n C dL_law_228 rfl ?_
  refine jg_iconst C 2 dL_law_229 (by decide) ?_
  refine jg_iadd C dL_law_230 ?_
  refine jg_sld C hX hbl hbA dL_law_231 h2 ?_
  refine jg_aload_n C dL_law_232 rfl ?_
  refine jg_iload_n C dL_law_233 rfl ?_
  refine jg_iconst C 3 dL_law_234 (by decide) ?_
  refine jg_iadd C dL_law_235 ?_
  refine jg_sld C hX hbl hbA dL_law_236 h3 ?_
  refine jg_vx C [.int _, .int _, .int _] _ hx ky_X10_film kv_X10_film kk_X_0 kl_18 (by omega) rfl (Nat.le_of_ble_eq_true rfl) hcs hss dL_law_237 (fun r1 σ1 p1 => ?_)
  refine jg_pop C dL_law_240 rfl ?_
  refine jg_aload_n C dL_law_241 rfl ?_
  refine jg_aload_n C dL_law_242 rfl ?_
  refine jg_iload_n C dL_law_243 rfl ?_
  refine jg_iconst C 1 dL_law_244 (by decide) ?_
  refine jg_iadd C dL_law_245 ?_
  refine jg_sld C hX hbl hbA dL_law_246 h1 ?_
  refine jg_aload_n C dL_law_247 rfl ?_
  refine jg_iload_n C dL_law_248 rfl ?_
  refine jg_iconst C 2 dL_law_249 (by decide) ?_
  refine jg_iadd C dL_law_250 ?_
  refine jg_sld C hX hbl hbA dL_law_251 h2 ?_
  refine jg_aload_n C dL_law_252 rfl ?_
  refine jg_iload_n C dL_law_253 rfl ?_
  refine jg_iconst C 3 dL_law_254 (by decide) ?_
  refine jg_iadd C dL_law_255 ?_
  refine jg_sld C hX hbl hbA dL_law_256 h3 ?_
  refine jg_vm C [.int _, .int _, .int _] _ hm ky_X11_film kv_X11_film kk_M_0 kl_22 (by omega) rfl (Nat.le_of_ble_eq_true rfl) hcs hss dL_law_257 (fun r2 τ1 p2 => ?_)
  refine jg_pop C dL_law_260 rfl ?_
  refine jg_goto C 1168 dL_law_261 (by decide) ?_
  exact hk r1 r2 σ1 τ1 p1 p2
theorem lc_2 (C : jg_C E G A 4 cL_law RL d mc ms) {b n : Nat} {xs : Nat → Int32} {i : Int32} {f g : Nat → Nat} {σ τ : jf_S} {PX PM : Int32 → jf_S → Prop} {lx lm : Nat} (hX : va_X b n xs G.2.2.2.1 G.2.2.2.1.heap) (hbl : b < G.2.2.2.1.heap.size) (hbA : ¬ A b) (h1 : vp_in (i + 1) n) (h2 : vp_in (i + 2) n) (h3 : vp_in (i + 3) n) (hx : jf_I jh_X (jg_E E f) yX10_way cX10_way 4 .int lx [jf_r (jg_E E f) 0, .int (xs (i + 1).toNatClampNeg), .int (xs (i + 2).toNatClampNeg), .int (xs (i + 3).toNatClampNeg)] σ PX) (hm : jf_I jh_M (jg_E E g) yX11_way cX11_way 4 .int lm [jf_r (jg_E E g) 0, .int (xs (i + 1).toNatClampNeg), .int (xs (i + 2).toNatClampNeg), .int (xs (i + 3).toNatClampNeg)] τ PM) (hlx : lx + 1 ≤ d) (hlm : lm + 1 ≤ d) (hcs : cs ≤ mc) (hss : ss ≤ ms) (hk : ∀ (r1 r2 : Int32) (σ1 τ1 : jf_S), PX r1 σ1 → PM r2 τ1 → jg_X E G A 4 1168 [(0, .ref b), (1, .ref (f 0)), (2, .ref (g 0)), (3, .int i)] [] (jf_w jh_X (jg_E E f) σ1 ++ jf_w jh_M (jg_E E g) τ1) cs ss) : jg_X E G A 4 264 [(0, .ref b), (1, .ref (f 0)), (2, .ref (g 0)), (3, .int i)] [] (jf_w jh_X (jg_E E f) σ ++ jf_w jh_M (jg_E E g) τ) cs ss := by
  refine jg_aload_n C dL_law_264 rfl ?_
  refine jg_aload_n C dL_law_265 rfl ?_
  refine jg_iload_n C dL_law_266 rfl ?_
  refine jg_iconst C 1 dL_law_267 (by decide) ?_
  refine jg_iadd C dL_law_268 ?_
  refine jg_sld C hX hbl hbA dL_law_269 h1 ?_
  refine jg_aload_n C dL_law_270 rfl ?_
  refine jg_iload_n C dL_law_271 rfl ?_
  refine jg_iconst C 2 dL_law_272 (by decide) ?_
  refine jg_iadd C dL_law_273 ?_
  refine jg_sld C hX hbl hbA dL_law_274 h2 ?_
  refine jg_aload_n C dL_law_275 rfl ?_
  refine jg_iload_n C dL_law_276 rfl ?_
  refine jg_iconst C 3 dL_law_277 (by decide) ?_
  refine jg_iadd C dL_law_278 ?_
  refine jg_sld C hX hbl hbA dL_law_279 h3 ?_
  refine jg_vx C [.int _, .int _, .int _] _ hx ky_X10_way kv_X10_way kk_X_0 kl_23 (by omega) rfl (Nat.le_of_ble_eq_true rfl) hcs hss dL_law_280 (fun r1 σ1 p1 => ?_)
  refine jg_pop C dL_law_283 rfl ?_
  refine jg_aload_n C dL_law_284 rfl ?_
  refine jg_aload_n C dL_law_285 rfl ?_
  refine jg_iload_n C dL_law_286 rfl ?_
  refine jg_iconst C 1 dL_law_287 (by decide) ?_
  refine jg_iadd C dL_law_288 ?_
  refine jg_sld C hX hbl hbA dL_law_289 h1 ?_
  refine jg_aload_n C dL_law_290 rfl ?_
  refine jg_iload_n C dL_law_291 rfl ?_
  refine jg_iconst C 2 dL_law_292 (by decide) ?_
  refine jg_iadd C dL_law_293 ?_
  refine jg_sld C hX hbl hbA dL_law_294 h2 ?_
  refine jg_aload_n C dL_law_295 rfl ?_
  refine jg_iload_n C dL_law_296 rfl ?_
  refine jg_iconst C 3 dL_law_297 (by decide) ?_
  refine jg_iadd C dL_law_298 ?_
  refine jg_sld C hX hbl hbA dL_law_299 h3 ?_
  refine jg_vm C [.int _, .int _, .int _] _ hm ky_X11_way kv_X11_way kk_M_0 kl_26 (by omega) rfl (Nat.le_of_ble_eq_true rfl) hcs hss dL_law_300 (fun r2 τ1 p2 => ?_)
  refine jg_pop C dL_law_303 rfl ?_
  refine jg_goto C 1168 dL_law_304 (by decide) ?_
  exact hk r1 r2 σ1 τ1 p1 p2
theorem lc_3 (C : jg_C E G A 4 cL_law RL d mc ms) {b n : Nat} {xs : Nat → Int32} {i : Int32} {f g : Nat → Nat} {σ τ : jf_S} {PX PM : Int32 → jf_S → Prop} {lx lm : Nat} (hX : va_X b n xs G.2.2.2.1 G.2.2.2.1.heap) (hbl : b < G.2.2.2.1.heap.size) (hbA : ¬ A b) (h1 : vp_in (i + 1) n) (h2 : vp_in (i + 2) n) (h3 : vp_in (i + 3) n) (hx : jf_I jh_X (jg_E E f) yX10_guest cX10_guest 5 .int lx [jf_r (jg_E E f) 0, .int (xs (i + 1).toNatClampNeg), .int (xs (i + 2).toNatClampNeg), .int (xs (i + 3).toNatClampNeg)] σ PX) (hm : jf_I jh_M (jg_E E g) yX11_guest cX11_guest 5 .int lm [jf_r (jg_E E g) 0, .int (xs (i + 1).toNatClampNeg), .int (xs (i + 2).toNatClampNeg), .int (xs (i + 3).toNatClampNeg)] τ PM) (hlx : lx + 1 ≤ d) (hlm : lm + 1 ≤ d) (hcs : cs ≤ mc) (hss : ss ≤ ms) (hk : ∀ (r1 r2 : Int32) (σ1 τ1 : jf_S), PX r1 σ1 → PM r2 τ1 → jg_X E G A 4 1168 [(0, .ref b), (1, .ref (f 0)), (2, .ref (g 0)), (3, .int i)] [] (jf_w jh_X (jg_E E f) σ1 ++ jf_w jh_M (jg_E E g) τ1) cs ss) : jg_X E G A 4 307 [(0, .ref b), (1, .ref (f 0)), (2, .ref (g 0)), (3, .int i)] [] (jf_w jh_X (jg_E E f) σ ++ jf_w jh_M (jg_E E g) τ) cs ss := by
  refine jg_aload_n C dL_law_307 rfl ?_
  refine jg_aload_n C dL_law_308 rfl ?_
  refine jg_iload_n C dL_law_309 rfl ?_
  refine jg_iconst C 1 dL_law_310 (by decide) ?_
  refine jg_iadd C dL_law_311 ?_
  refine jg_sld C hX hbl hbA dL_law_312 h1 ?_
  refine jg_aload_n C dL_law_313 rfl ?_
  refine jg_iload_n C dL_law_314 rfl ?_
  refine jg_iconst C 2 dL_law_315 (by decide) ?_
  refine jg_iadd C dL_law_316 ?_
  refine jg_sld C hX hbl hbA dL_law_317 h2 ?_
  refine jg_aload_n C dL_law_318 rfl ?_
  refine jg_iload_n C dL_law_319 rfl ?_
  refine jg_iconst C 3 dL_law_320 (by decide) ?_
  refine jg_iadd C dL_law_321 ?_
  refine jg_sld C hX hbl hbA dL_law_322 h3 ?_
  refine jg_vx C [.int _, .int _, .int _] _ hx ky_X10_guest kv_X10_guest kk_X_0 kl_27 (by omega) rfl (Nat.le_of_ble_eq_true rfl) hcs hss dL_law_323 (fun r1 σ1 p1 => ?_)
  refine jg_pop C dL_law_326 rfl ?_
  refine jg_aload_n C dL_law_327 rfl ?_
  refine jg_aload_n C dL_law_328 rfl ?_
  refine jg_iload_n C dL_law_329 rfl ?_
  refine jg_iconst C 1 dL_law_330 (by decide) ?_
  refine jg_iadd C dL_law_331 ?_
  refine jg_sld C hX hbl hbA dL_law_332 h1 ?_
  refine jg_aload_n C dL_law_333 rfl ?_
  refine jg_iload_n C dL_law_334 rfl ?_
  refine jg_iconst C 2 dL_law_335 (by decide) ?_
  refine jg_iadd C dL_law_336 ?_
  refine jg_sld C hX hbl hbA dL_law_337 h2 ?_
  refine jg_aload_n C dL_law_338 rfl ?_
  refine jg_iload_n C dL_law_339 rfl ?_
  refine jg_iconst C 3 dL_law_340 (by decide) ?_
  refine jg_iadd C dL_law_341 ?_
  refine jg_sld C hX hbl hbA dL_law_342 h3 ?_
  refine jg_vm C [.int _, .int _, .int _] _ hm ky_X11_guest kv_X11_guest kk_M_0 kl_30 (by omega) rfl (Nat.le_of_ble_eq_true rfl) hcs hss dL_law_343 (fun r2 τ1 p2 => ?_)
  refine jg_pop C dL_law_346 rfl ?_
  refine jg_goto C 1168 dL_law_347 (by decide) ?_
  exact hk r1 r2 σ1 τ1 p1 p2
theorem lc_4 (C : jg_C E G A 4 cL_law RL d mc ms) {b n : Nat} {xs : Nat → Int32} {i : Int32} {f g : Nat → Nat} {σ τ : jf_S} {PX PM : Int32 → jf_S → Prop} {lx lm : Nat} (hX : va_X b n xs G.2.2.2.1 G.2.2.2.1.heap) (hbl : b < G.2.2.2.1.heap.size) (hbA : ¬ A b) (h1 : vp_in (i + 1) n) (h2 : vp_in (i + 2) n) (h3 : vp_in (i + 3) n) (h4 : vp_in (i + 4) n) (hx : jf_I jh_X (jg_E E f) yX10_bar cX10_bar 6 .int lx [jf_r (jg_E E f) 0, .int (xs (i + 1).toNatClampNeg), .int (xs (i + 2).toNatClampNeg), .int (xs (i + 3).toNatClampNeg), .int (xs (i + 4).toNatClampNeg)] σ PX) (hm : jf_I jh_M (jg_E E g) yX11_bar cX11_bar 5 .int lm [jf_r (jg_E E g) 0, .int (xs (i + 1).toNatClampNeg), .int (xs (i + 2).toNatClampNeg), .int (xs (i + 3).toNatClampNeg), .int (xs (i + 4).toNatClampNeg)] τ PM) (hlx : lx + 1 ≤ d) (hlm : lm + 1 ≤ d) (hcs : cs ≤ mc) (hss : ss ≤ ms) (hk : ∀ (r1 r2 : Int32) (σ1 τ1 : jf_S), PX r1 σ1 → PM r2 τ1 → jg_X E G A 4 1168 [(0, .ref b), (1, .ref (f 0)), (2, .ref (g 0)), (3, .int i)] [] (jf_w jh_X (jg_E E f) σ1 ++ jf_w jh_M (jg_E E g) τ1) cs ss) : jg_X E G A 4 350 [(0, .ref b), (1, .ref (f 0)), (2, .ref (g 0)), (3, .int i)] [] (jf_w jh_X (jg_E E f) σ ++ jf_w jh_M (jg_E E g) τ) cs ss := by
  refine jg_aload_n C dL_law_350 rfl ?_
  refine jg_aload_n C dL_law_351 rfl ?_
  refine jg_iload_n C dL_law_352 rfl ?_
  refine jg_iconst C 1 dL_law_353 (by decide) ?_
  refine jg_iadd C dL_law_354 ?_
  refine jg_sld C hX hbl hbA dL_law_355 h1 ?_
  refine jg_aload_n C dL_law_356 rfl ?_
  refine jg_iload_n C dL_law_357 rfl ?_
  refine jg_iconst C 2 dL_law_358 (by decide) ?_
  refine jg_iadd C dL_law_359 ?_
  refine jg_sld C hX hbl hbA dL_law_360 h2 ?_
  refine jg_aload_n C dL_law_361 rfl ?_
  refine jg_iload_n C dL_law_362 rfl ?_
  refine jg_iconst C 3 dL_law_363 (by decide) ?_
  refine jg_iadd C dL_law_364 ?_
  refine jg_sld C hX hbl hbA dL_law_365 h3 ?_
  refine jg_aload_n C dL_law_366 rfl ?_
  refine jg_iload_n C dL_law_367 rfl ?_
  refine jg_iconst C 4 dL_law_368 (by decide) ?_
  refine jg_iadd C dL_law_369 ?_
  refine jg_sld C hX hbl hbA dL_law_370 h4 ?_
  refine jg_vx C [.int _, .int _, .int _, .int _] _ hx ky_X10_bar kv_X10_bar kk_X_0 kl_31 (by omega) rfl (Nat.le_of_ble_eq_true rfl) hcs hss dL_law_371 (fun r1 σ1 p1 => ?_)
  refine jg_pop C dL_law_374 rfl ?_
  refine jg_aload_n C dL_law_375 rfl ?_
  refine jg_aload_n C dL_law_376 rfl ?_
  refine jg_iload_n C dL_law_377 rfl ?_
  refine jg_iconst C 1 dL_law_378 (by decide) ?_
  refine jg_iadd C dL_law_379 ?_
  refine jg_sld C hX hbl hbA dL_law_380 h1 ?_
  refine jg_aload_n C dL_law_381 rfl ?_
  refine jg_iload_n C dL_law_382 rfl ?_
  refine jg_iconst C 2 dL_law_383 (by decide) ?_
  refine jg_iadd C dL_law_384 ?_
  refine jg_sld C hX hbl hbA dL_law_385 h2 ?_
  refine jg_aload_n C dL_law_386 rfl ?_
  refine jg_iload_n C dL_law_387 rfl ?_
  refine jg_iconst C 3 dL_law_388 (by decide) ?_
  refine jg_iadd C dL_law_389 ?_
  refine jg_sld C hX hbl hbA dL_law_390 h3 ?_
  refine jg_aload_n C dL_law_391 rfl ?_
  refine jg_iload_n C dL_law_392 rfl ?_
  refine jg_iconst C 4 dL_law_393 (by decide) ?_
  refine jg_iadd C dL_law_394 ?_
  refine jg_sld C hX hbl hbA dL_law_395 h4 ?_
  refine jg_vm C [.int _, .int _, .int _, .int _] _ hm ky_X11_bar kv_X11_bar kk_M_0 kl_34 (by omega) rfl (Nat.le_of_ble_eq_true rfl) hcs hss dL_law_396 (fun r2 τ1 p2 => ?_)
  refine jg_pop C dL_law_399 rfl ?_
  refine jg_goto C 1168 dL_law_400 (by decide) ?_
  exact hk r1 r2 σ1 τ1 p1 p2
theorem lc_5 (C : jg_C E G A 4 cL_law RL d mc ms) {b n : Nat} {xs : Nat → Int32} {i : Int32} {f g : Nat → Nat} {σ τ : jf_S} {PX PM : Int32 → jf_S → Prop} {lx lm : Nat} (hX : va_X b n xs G.2.2.2.1 G.2.2.2.1.heap) (hbl : b < G.2.2.2.1.heap.size) (hbA : ¬ A b) (h1 : vp_in (i + 1) n) (h2 : vp_in (i + 2) n) (h3 : vp_in (i + 3) n) (h4 : vp_in (i + 4) n) (hx : jf_I jh_X (jg_E E f) yX10_why cX10_why 5 .int lx [jf_r (jg_E E f) 0, .int (xs (i + 1).toNatClampNeg), .int (xs (i + 2).toNatClampNeg), .int (xs (i + 3).toNatClampNeg), .int (xs (i + 4).toNatClampNeg)] σ PX) (hm : jf_I jh_M (jg_E E g) yX11_why cX11_why 5 .int lm [jf_r (jg_E E g) 0, .int (xs (i + 1).toNatClampNeg), .int (xs (i + 2).toNatClampNeg), .int (xs (i + 3).toNatClampNeg), .int (xs (i + 4).toNatClampNeg)] τ PM) (hlx : lx + 1 ≤ d) (hlm : lm + 1 ≤ d) (hcs : cs ≤ mc) (hss : ss ≤ ms) (hk : ∀ (r1 r2 : Int32) (σ1 τ1 : jf_S), PX r1 σ1 → PM r2 τ1 → jg_X E G A 4 1168 [(0, .ref b), (1, .ref (f 0)), (2, .ref (g 0)), (3, .int i)] [] (jf_w jh_X (jg_E E f) σ1 ++ jf_w jh_M (jg_E E g) τ1) cs ss) : jg_X E G A 4 403 [(0, .ref b), (1, .ref (f 0)), (2, .ref (g 0)), (3, .int i)] [] (jf_w jh_X (jg_E E f) σ ++ jf_w jh_M (jg_E E g) τ) cs ss := by
  refine jg_aload_n C dL_law_403 rfl ?_
  refine jg_aload_n C dL_law_404 rfl ?_
  refine jg_iload_n C dL_law_405 rfl ?_
  refine jg_iconst C 1 dL_law_406 (by decide) ?_
  refine jg_iadd C dL_law_407 ?_
  refine jg_sld C hX hbl hbA dL_law_408 h1 ?_
  refine jg_aload_n C dL_law_409 rfl ?_
  refine jg_iload_n C dL_law_410 rfl ?_
  refine jg_iconst C 2 dL_law_411 (by decide) ?_
  refine jg_iadd C dL_law_412 ?_
  refine jg_sld C hX hbl hbA dL_law_413 h2 ?_
  refine jg_aload_n C dL_law_414 rfl ?_
  refine jg_iload_n C dL_law_415 rfl ?_
  refine jg_iconst C 3 dL_law_416 (by decide) ?_
  refine jg_iadd C dL_law_417 ?_
  refine jg_sld C hX hbl hbA dL_law_418 h3 ?_
  refine jg_aload_n C dL_law_419 rfl ?_
  refine jg_iload_n C dL_law_420 rfl ?_
  refine jg_iconst C 4 dL_law_421 (by decide) ?_
  refine jg_iadd C dL_law_422 ?_
  refine jg_sld C hX hbl hbA dL_law_423 h4 ?_
  refine jg_vx C [.int _, .int _, .int _, .int _] _ hx ky_X10_why kv_X10_why kk_X_0 kl_35 (by omega) rfl (Nat.le_of_ble_eq_true rfl) hcs hss dL_law_424 (fun r1 σ1 p1 => ?_)
  refine jg_pop C dL_law_427 rfl ?_
  refine jg_aload_n C dL_law_428 rfl ?_
  refine jg_aload_n C dL_law_429 rfl ?_
  refine jg_iload_n C dL_law_430 rfl ?_
  refine jg_iconst C 1 dL_law_431 (by decide) ?_
  refine jg_iadd C dL_law_432 ?_
  refine jg_sld C hX hbl hbA dL_law_433 h1 ?_
  refine jg_aload_n C dL_law_434 rfl ?_
  refine jg_iload_n C dL_law_435 rfl ?_
  refine jg_iconst C 2 dL_law_436 (by decide) ?_
  refine jg_iadd C dL_law_437 ?_
  refine jg_sld C hX hbl hbA dL_law_438 h2 ?_
  refine jg_aload_n C dL_law_439 rfl ?_
  refine jg_iload_n C dL_law_440 rfl ?_
  refine jg_iconst C 3 dL_law_441 (by decide) ?_
  refine jg_iadd C dL_law_442 ?_
  refine jg_sld C hX hbl hbA dL_law_443 h3 ?_
  refine jg_aload_n C dL_law_444 rfl ?_
  refine jg_iload_n C dL_law_445 rfl ?_
  refine jg_iconst C 4 dL_law_446 (by decide) ?_
  refine jg_iadd C dL_law_447 ?_
  refine jg_sld C hX hbl hbA dL_law_448 h4 ?_
  refine jg_vm C [.int _, .int _, .int _, .int _] _ hm ky_X11_why kv_X11_why kk_M_0 kl_38 (by omega) rfl (Nat.le_of_ble_eq_true rfl) hcs hss dL_law_449 (fun r2 τ1 p2 => ?_)
  refine jg_pop C dL_law_452 rfl ?_
  refine jg_goto C 1168 dL_law_453 (by decide) ?_
  exact hk r1 r2 σ1 τ1 p1 p2
theorem lc_6 (C : jg_C E G A 4 cL_law RL d mc ms) {b n : Nat} {xs : Nat → Int32} {i : Int32} {f g : Nat → Nat} {σ τ : jf_S} {PX PM : Int32 → jf_S → Prop} {lx lm : Nat} (hX : va_X b n xs G.2.2.2.1 G.2.2.2.1.heap) (hbl : b < G.2.2.2.1.heap.size) (hbA : ¬ A b) (h1 : vp_in (i + 1) n) (h2 : vp_in (i + 2) n) (h3 : vp_in (i + 3) n) (h4 : vp_in (i + 4) n) (hx : jf_I jh_X (jg_E E f) yX10_put cX10_put 6 .int lx [jf_r (jg_E E f) 0, .int (xs (i + 1).toNatClampNeg), .int (xs (i + 2).toNatClampNeg), .int (xs (i + 3).toNatClampNeg), .int (xs (i + 4).toNatClampNeg)] σ PX) (hm : jf_I jh_M (jg_E E g) yX11_put cX11_put 5 .int lm [jf_r (jg_E E g) 0, .int (xs (i + 1).toNatClampNeg), .int (xs (i + 2).toNatClampNeg), .int (xs (i + 3).toNatClampNeg), .int (xs (i + 4).toNatClampNeg)] τ PM) (hlx : lx + 1 ≤ d) (hlm : lm + 1 ≤ d) (hcs : cs ≤ mc) (hss : ss ≤ ms) (hk : ∀ (r1 r2 : Int32) (σ1 τ1 : jf_S), PX r1 σ1 → PM r2 τ1 → jg_X E G A 4 1168 [(0, .ref b), (1, .ref (f 0)), (2, .ref (g 0)), (3, .int i)] [] (jf_w jh_X (jg_E E f) σ1 ++ jf_w jh_M (jg_E E g) τ1) cs ss) : jg_X E G A 4 456 [(0, .ref b), (1, .ref (f 0)), (2, .ref (g 0)), (3, .int i)] [] (jf_w jh_X (jg_E E f) σ ++ jf_w jh_M (jg_E E g) τ) cs ss := by
  refine jg_aload_n C dL_law_456 rfl ?_
  refine jg_aload_n C dL_law_457 rfl ?_
  refine jg_iload_n C dL_law_458 rfl ?_
  refine jg_iconst C 1 dL_law_459 (by decide) ?_
  refine jg_iadd C dL_law_460 ?_
  refine jg_sld C hX hbl hbA dL_law_461 h1 ?_
  refine jg_aload_n C dL_law_462 rfl ?_
  refine jg_iload_n C dL_law_463 rfl ?_
  refine jg_iconst C 2 dL_law_464 (by decide) ?_
  refine jg_iadd C dL_law_465 ?_
  refine jg_sld C hX hbl hbA dL_law_466 h2 ?_
  refine jg_aload_n C dL_law_467 rfl ?_
  refine jg_iload_n C dL_law_468 rfl ?_
  refine jg_iconst C 3 dL_law_469 (by decide) ?_
  refine jg_iadd C dL_law_470 ?_
  refine jg_sld C hX hbl hbA dL_law_471 h3 ?_
  refine jg_aload_n C dL_law_472 rfl ?_
  refine jg_iload_n C dL_law_473 rfl ?_
  refine jg_iconst C 4 dL_law_474 (by decide) ?_
  refine jg_iadd C dL_law_475 ?_
  refine jg_sld C hX hbl hbA dL_law_476 h4 ?_
  refine jg_vx C [.int _, .int _, .int _, .int _] _ hx ky_X10_put kv_X10_put kk_X_0 kl_39 (by omega) rfl (Nat.le_of_ble_eq_true rfl) hcs hss dL_law_477 (fun r1 σ1 p1 => ?_)
  refine jg_pop C dL_law_480 rfl ?_
  refine jg_aload_n C dL_law_481 rfl ?_
  refine jg_aload_n C dL_law_482 rfl ?_
  refine jg_iload_n C dL_law_483 rfl ?_
  refine jg_iconst C 1 dL_law_484 (by decide) ?_
  refine jg_iadd C dL_law_485 ?_
  refine jg_sld C hX hbl hbA dL_law_486 h1 ?_
  refine jg_aload_n C dL_law_487 rfl ?_
  refine jg_iload_n C dL_law_488 rfl ?_
  refine jg_iconst C 2 dL_law_489 (by decide) ?_
  refine jg_iadd C dL_law_490 ?_
  refine jg_sld C hX hbl hbA dL_law_491 h2 ?_
  refine jg_aload_n C dL_law_492 rfl ?_
  refine jg_iload_n C dL_law_493 rfl ?_
  refine jg_iconst C 3 dL_law_494 (by decide) ?_
  refine jg_iadd C dL_law_495 ?_
  refine jg_sld C hX hbl hbA dL_law_496 h3 ?_
  refine jg_aload_n C dL_law_497 rfl ?_
  refine jg_iload_n C dL_law_498 rfl ?_
  refine jg_iconst C 4 dL_law_499 (by decide) ?_
  refine jg_iadd C dL_law_500 ?_
  refine jg_sld C hX hbl hbA dL_law_501 h4 ?_
  refine jg_vm C [.int _, .int _, .int _, .int _] _ hm ky_X11_put kv_X11_put kk_M_0 kl_42 (by omega) rfl (Nat.le_of_ble_eq_true rfl) hcs hss dL_law_502 (fun r2 τ1 p2 => ?_)
  refine jg_pop C dL_law_505 rfl ?_
  refine jg_goto C 1168 dL_law_506 (by decide) ?_
  exact hk r1 r2 σ1 τ1 p1 p2
theorem lc_7 (C : jg_C E G A 4 cL_law RL d mc ms) {b n : Nat} {xs : Nat → Int32} {i : Int32} {f g : Nat → Nat} {σ τ : jf_S} {PX PM : Int32 → jf_S → Prop} {lx lm : Nat} (hX : va_X b n xs G.2.2.2.1 G.2.2.2.1.heap) (hbl : b < G.2.2.2.1.heap.size) (hbA : ¬ A b) (h1 : vp_in (i + 1) n) (hx : jf_I jh_X (jg_E E f) yX10_take cX10_take 2 .int lx [jf_r (jg_E E f) 0, .int (xs (i + 1).toNatClampNeg)] σ PX) (hm : jf_I jh_M (jg_E E g) yX11_take cX11_take 2 .int lm [jf_r (jg_E E g) 0, .int (xs (i + 1).toNatClampNeg)] τ PM) (hlx : lx + 1 ≤ d) (hlm : lm + 1 ≤ d) (hcs : cs ≤ mc) (hss : ss ≤ ms) (hk : ∀ (r1 r2 : Int32) (σ1 τ1 : jf_S), PX r1 σ1 → PM r2 τ1 → jg_X E G A 4 1168 [(0, .ref b), (1, .ref (f 0)), (2, .ref (g 0)), (3, .int i)] [] (jf_w jh_X (jg_E E f) σ1 ++ jf_w jh_M (jg_E E g) τ1) cs ss) : jg_X E G A 4 509 [(0, .ref b), (1, .ref (f 0)), (2, .ref (g 0)), (3, .int i)] [] (jf_w jh_X (jg_E E f) σ ++ jf_w jh_M (jg_E E g) τ) cs ss := by
  refine jg_aload_n C dL_law_509 rfl ?_
  refine jg_aload_n C dL_law_510 rfl ?_
  refine jg_iload_n C dL_law_511 rfl ?_
  refine jg_iconst C 1 dL_law_512 (by decide) ?_
  refine jg_iadd C dL_law_513 ?_
  refine jg_sld C hX hbl hbA dL_law_514 h1 ?_
  refine jg_vx C [.int _] _ hx ky_X10_take kv_X10_take kk_X_0 kl_43 (by omega) rfl (Nat.le_of_ble_eq_true rfl) hcs hss dL_law_515 (fun r1 σ1 p1 => ?_)
  refine jg_pop C dL_law_518 rfl ?_
  refine jg_aload_n C dL_law_519 rfl ?_
  refine jg_aload_n C dL_law_520 rfl ?_
  refine jg_iload_n C dL_law_521 rfl ?_
  refine jg_iconst C 1 dL_law_522 (by decide) ?_
  refine jg_iadd C dL_law_523 ?_
  refine jg_sld C hX hbl hbA dL_law_524 h1 ?_
  refine jg_vm C [.int _] _ hm ky_X11_take kv_X11_take kk_M_0 kl_47 (by omega) rfl (Nat.le_of_ble_eq_true rfl) hcs hss dL_law_525 (fun r2 τ1 p2 => ?_)
  refine jg_pop C dL_law_528 rfl ?_
  refine jg_goto C 1168 dL_law_529 (by decide) ?_
  exact hk r1 r2 σ1 τ1 p1 p2
theorem lc_8 (C : jg_C E G A 4 cL_law RL d mc ms) {b n : Nat} {xs : Nat → Int32} {i : Int32} {f g : Nat → Nat} {σ τ : jf_S} {PX PM : Int32 → jf_S → Prop} {lx lm : Nat} (hX : va_X b n xs G.2.2.2.1 G.2.2.2.1.heap) (hbl : b < G.2.2.2.1.heap.size) (hbA : ¬ A b) (h1 : vp_in (i + 1) n) (h2 : vp_in (i + 2) n) (hx : jf_I jh_X (jg_E E f) yX10_of cX10_of 3 .int lx [jf_r (jg_E E f) 0, .int (xs (i + 1).toNatClampNeg), .int (xs (i + 2).toNatClampNeg)] σ PX) (hm : jf_I jh_M (jg_E E g) yX11_of cX11_of 3 .int lm [jf_r (jg_E E g) 0, .int (xs (i + 1).toNatClampNeg), .int (xs (i + 2).toNatClampNeg)] τ PM) (hlx : lx + 1 ≤ d) (hlm : lm + 1 ≤ d) (hcs : cs ≤ mc) (hss : ss ≤ ms) (hk : ∀ (r1 r2 : Int32) (σ1 τ1 : jf_S), PX r1 σ1 → PM r2 τ1 → jg_X E G A 4 1168 [(0, .ref b), (1, .ref (f 0)), (2, .ref (g 0)), (3, .int i)] [] (jf_w jh_X (jg_E E f) σ1 ++ jf_w jh_M (jg_E E g) τ1) cs ss) : jg_X E G A 4 532 [(0, .ref b), (1, .ref (f 0)), (2, .ref (g 0)), (3, .int i)] [] (jf_w jh_X (jg_E E f) σ ++ jf_w jh_M (jg_E E g) τ) cs ss := by
  refine jg_aload_n C dL_law_532 rfl ?_
  refine jg_aload_n C dL_law_533 rfl ?_
  refine jg_iload_n C dL_law_534 rfl ?_
  refine jg_iconst C 1 dL_law_535 (by decide) ?_
  refine jg_iadd C dL_law_536 ?_
  refine jg_sld C hX hbl hbA dL_law_537 h1 ?_
  refine jg_aload_n C dL_law_538 rfl ?_
  refine jg_iload_n C dL_law_539 rfl ?_
  refine jg_iconst C 2 dL_law_540 (by decide) ?_
  refine jg_iadd C dL_law_541 ?_
  refine jg_sld C hX hbl hbA dL_law_542 h2 ?_
  refine jg_vx C [.int _, .int _] _ hx ky_X10_of kv_X10_of kk_X_0 kl_48 (by omega) rfl (Nat.le_of_ble_eq_true rfl) hcs hss dL_law_543 (fun r1 σ1 p1 => ?_)
  refine jg_pop C dL_law_546 rfl ?_
  refine jg_aload_n C dL_law_547 rfl ?_
  refine jg_aload_n C dL_law_548 rfl ?_
  refine jg_iload_n C dL_law_549 rfl ?_
  refine jg_iconst C 1 dL_law_550 (by decide) ?_
  refine jg_iadd C dL_law_551 ?_
  refine jg_sld C hX hbl hbA dL_law_552 h1 ?_
  refine jg_aload_n C dL_law_553 rfl ?_
  refine jg_iload_n C dL_law_554 rfl ?_
  refine jg_iconst C 2 dL_law_555 (by decide) ?_
  refine jg_iadd C dL_law_556 ?_
  refine jg_sld C hX hbl hbA dL_law_557 h2 ?_
  refine jg_vm C [.int _, .int _] _ hm ky_X11_of kv_X11_of kk_M_0 kl_52 (by omega) rfl (Nat.le_of_ble_eq_true rfl) hcs hss dL_law_558 (fun r2 τ1 p2 => ?_)
  refine jg_pop C dL_law_561 rfl ?_
  refine jg_goto C 1168 dL_law_562 (by decide) ?_
  exact hk r1 r2 σ1 τ1 p1 p2
theorem lc_9 (C : jg_C E G A 4 cL_law RL d mc ms) {b n : Nat} {xs : Nat → Int32} {i : Int32} {f g : Nat → Nat} {σ τ : jf_S} {PX PM : Int32 → jf_S → Prop} {lx lm : Nat} (hX : va_X b n xs G.2.2.2.1 G.2.2.2.1.heap) (hbl : b < G.2.2.2.1.heap.size) (hbA : ¬ A b) (h1 : vp_in (i + 1) n) (h2 : vp_in (i + 2) n) (hx : jf_I jh_X (jg_E E f) yX10_part cX10_part 3 .int lx [jf_r (jg_E E f) 0, .int (xs (i + 1).toNatClampNeg), .int (xs (i + 2).toNatClampNeg)] σ PX) (hm : jf_I jh_M (jg_E E g) yX11_part cX11_part 3 .int lm [jf_r (jg_E E g) 0, .int (xs (i + 1).toNatClampNeg), .int (xs (i + 2).toNatClampNeg)] τ PM) (hlx : lx + 1 ≤ d) (hlm : lm + 1 ≤ d) (hcs : cs ≤ mc) (hss : ss ≤ ms) (hk : ∀ (r1 r2 : Int32) (σ1 τ1 : jf_S), PX r1 σ1 → PM r2 τ1 → jg_X E G A 4 1168 [(0, .ref b), (1, .ref (f 0)), (2, .ref (g 0)), (3, .int i)] [] (jf_w jh_X (jg_E E f) σ1 ++ jf_w jh_M (jg_E E g) τ1) cs ss) : jg_X E G A 4 565 [(0, .ref b), (1, .ref (f 0)), (2, .ref (g 0)), (3, .int i)] [] (jf_w jh_X (jg_E E f) σ ++ jf_w jh_M (jg_E E g) τ) cs ss := by
  refine jg_aload_n C dL_law_565 rfl ?_
  refine jg_aload_n C dL_law_566 rfl ?_
  refine jg_iload_n C dL_law_567 rfl ?_
  refine jg_iconst C 1 dL_law_568 (by decide) ?_
  refine jg_iadd C dL_law_569 ?_
  refine jg_sld C hX hbl hbA dL_law_570 h1 ?_
  refine jg_aload_n C dL_law_571 rfl ?_
  refine jg_iload_n C dL_law_572 rfl ?_
  refine jg_iconst C 2 dL_law_573 (by decide) ?_
  refine jg_iadd C dL_law_574 ?_
  refine jg_sld C hX hbl hbA dL_law_575 h2 ?_
  refine jg_vx C [.int _, .int _] _ hx ky_X10_part kv_X10_part kk_X_0 kl_53 (by omega) rfl (Nat.le_of_ble_eq_true rfl) hcs hss dL_law_576 (fun r1 σ1 p1 => ?_)
  refine jg_pop C dL_law_579 rfl ?_
  refine jg_aload_n C dL_law_580 rfl ?_
  refine jg_aload_n C dL_law_581 rfl ?_
  refine jg_iload_n C dL_law_582 rfl ?_
  refine jg_iconst C 1 dL_law_583 (by decide) ?_
  refine jg_iadd C dL_law_584 ?_
  refine jg_sld C hX hbl hbA dL_law_585 h1 ?_
  refine jg_aload_n C dL_law_586 rfl ?_
  refine jg_iload_n C dL_law_587 rfl ?_
  refine jg_iconst C 2 dL_law_588 (by decide) ?_
  refine jg_iadd C dL_law_589 ?_
  refine jg_sld C hX hbl hbA dL_law_590 h2 ?_
  refine jg_vm C [.int _, .int _] _ hm ky_X11_part kv_X11_part kk_M_0 kl_56 (by omega) rfl (Nat.le_of_ble_eq_true rfl) hcs hss dL_law_591 (fun r2 τ1 p2 => ?_)
  refine jg_pop C dL_law_594 rfl ?_
  refine jg_goto C 1168 dL_law_595 (by decide) ?_
  exact hk r1 r2 σ1 τ1 p1 p2
theorem lc_10 (C : jg_C E G A 4 cL_law RL d mc ms) {b n : Nat} {xs : Nat → Int32} {i : Int32} {f g : Nat → Nat} {σ τ : jf_S} {PX PM : Int32 → jf_S → Prop} {lx lm : Nat} (hX : va_X b n xs G.2.2.2.1 G.2.2.2.1.heap) (hbl : b < G.2.2.2.1.heap.size) (hbA : ¬ A b)  (hx : jf_I jh_X (jg_E E f) yX10_grid cX10_grid 1 .int lx [jf_r (jg_E E f) 0] σ PX) (hm : jf_I jh_M (jg_E E g) yX11_grid cX11_grid 1 .int lm [jf_r (jg_E E g) 0] τ PM) (hlx : lx + 1 ≤ d) (hlm : lm + 1 ≤ d) (hcs : cs ≤ mc) (hss : ss ≤ ms) (hk : ∀ (r1 r2 : Int32) (σ1 τ1 : jf_S), PX r1 σ1 → PM r2 τ1 → jg_X E G A 4 1168 [(0, .ref b), (1, .ref (f 0)), (2, .ref (g 0)), (3, .int i)] [] (jf_w jh_X (jg_E E f) σ1 ++ jf_w jh_M (jg_E E g) τ1) cs ss) : jg_X E G A 4 598 [(0, .ref b), (1, .ref (f 0)), (2, .ref (g 0)), (3, .int i)] [] (jf_w jh_X (jg_E E f) σ ++ jf_w jh_M (jg_E E g) τ) cs ss := by
  refine jg_aload_n C dL_law_598 rfl ?_
  refine jg_vx C [] _ hx ky_X10_grid kv_X10_grid kk_X_0 kl_57 (by omega) rfl (Nat.le_of_ble_eq_true rfl) hcs hss dL_law_599 (fun r1 σ1 p1 => ?_)
  refine jg_pop C dL_law_602 rfl ?_
  refine jg_aload_n C dL_law_603 rfl ?_
  refine jg_vm C [] _ hm ky_X11_grid kv_X11_grid kk_M_0 kl_61 (by omega) rfl (Nat.le_of_ble_eq_true rfl) hcs hss dL_law_604 (fun r2 τ1 p2 => ?_)
  refine jg_pop C dL_law_607 rfl ?_
  refine jg_goto C 1168 dL_law_608 (by decide) ?_
  exact hk r1 r2 σ1 τ1 p1 p2
theorem lc_11 (C : jg_C E G A 4 cL_law RL d mc ms) {b n : Nat} {xs : Nat → Int32} {i : Int32} {f g : Nat → Nat} {σ τ : jf_S} {PX PM : Int32 → jf_S → Prop} {lx lm : Nat} (hX : va_X b n xs G.2.2.2.1 G.2.2.2.1.heap) (hbl : b < G.2.2.2.1.heap.size) (hbA : ¬ A b) (h1 : vp_in (i + 1) n) (hx : jf_I jh_X (jg_E E f) yX10_hour cX10_hour 2 .int lx [jf_r (jg_E E f) 0, .int (xs (i + 1).toNatClampNeg)] σ PX) (hm : jf_I jh_M (jg_E E g) yX11_hour cX11_hour 2 .int lm [jf_r (jg_E E g) 0, .int (xs (i + 1).toNatClampNeg)] τ PM) (hlx : lx + 1 ≤ d) (hlm : lm + 1 ≤ d) (hcs : cs ≤ mc) (hss : ss ≤ ms) (hk : ∀ (r1 r2 : Int32) (σ1 τ1 : jf_S), PX r1 σ1 → PM r2 τ1 → jg_X E G A 4 1168 [(0, .ref b), (1, .ref (f 0)), (2, .ref (g 0)), (3, .int i)] [] (jf_w jh_X (jg_E E f) σ1 ++ jf_w jh_M (jg_E E g) τ1) cs ss) : jg_X E G A 4 611 [(0, .ref b), (1, .ref (f 0)), (2, .ref (g 0)), (3, .int i)] [] (jf_w jh_X (jg_E E f) σ ++ jf_w jh_M (jg_E E g) τ) cs ss := by
  refine jg_aload_n C dL_law_611 rfl ?_
  refine jg_aload_n C dL_law_612 rfl ?_
  refine jg_iload_n C dL_law_613 rfl ?_
  refine jg_iconst C 1 dL_law_614 (by decide) ?_
  refine jg_iadd C dL_law_615 ?_
  refine jg_sld C hX hbl hbA dL_law_616 h1 ?_
  refine jg_vx C [.int _] _ hx ky_X10_hour kv_X10_hour kk_X_0 kl_62 (by omega) rfl (Nat.le_of_ble_eq_true rfl) hcs hss dL_law_617 (fun r1 σ1 p1 => ?_)
  refine jg_pop C dL_law_620 rfl ?_
  refine jg_aload_n C dL_law_621 rfl ?_
  refine jg_aload_n C dL_law_622 rfl ?_
  refine jg_iload_n C dL_law_623 rfl ?_
  refine jg_iconst C 1 dL_law_624 (by decide) ?_
  refine jg_iadd C dL_law_625 ?_
  refine jg_sld C hX hbl hbA dL_law_626 h1 ?_
  refine jg_vm C [.int _] _ hm ky_X11_hour kv_X11_hour kk_M_0 kl_65 (by omega) rfl (Nat.le_of_ble_eq_true rfl) hcs hss dL_law_627 (fun r2 τ1 p2 => ?_)
  refine jg_pop C dL_law_630 rfl ?_
  refine jg_goto C 1168 dL_law_631 (by decide) ?_
  exact hk r1 r2 σ1 τ1 p1 p2
theorem lc_12 (C : jg_C E G A 4 cL_law RL d mc ms) {b n : Nat} {xs : Nat → Int32} {i : Int32} {f g : Nat → Nat} {σ τ : jf_S} {PX PM : Int32 → jf_S → Prop} {lx lm : Nat} (hX : va_X b n xs G.2.2.2.1 G.2.2.2.1.heap) (hbl : b < G.2.2.2.1.heap.size) (hbA : ¬ A b)  (hx : jf_I jh_X (jg_E E f) yX10_better cX10_better 1 .int lx [jf_r (jg_E E f) 0] σ PX) (hm : jf_I jh_M (jg_E E g) yX11_better cX11_better 6 .int lm [jf_r (jg_E E g) 0] τ PM) (hlx : lx + 1 ≤ d) (hlm : lm + 1 ≤ d) (hcs : cs ≤ mc) (hss : ss ≤ ms) (hk : ∀ (r1 r2 : Int32) (σ1 τ1 : jf_S), PX r1 σ1 → PM r2 τ1 → jg_X E G A 4 1168 [(0, .ref b), (1, .ref (f 0)), (2, .ref (g 0)), (3, .int i)] [] (jf_w jh_X (jg_E E f) σ1 ++ jf_w jh_M (jg_E E g) τ1) cs ss) : jg_X E G A 4 634 [(0, .ref b), (1, .ref (f 0)), (2, .ref (g 0)), (3, .int i)] [] (jf_w jh_X (jg_E E f) σ ++ jf_w jh_M (jg_E E g) τ) cs ss := by
  refine jg_aload_n C dL_law_634 rfl ?_
  refine jg_vx C [] _ hx ky_X10_better kv_X10_better kk_X_0 kl_66 (by omega) rfl (Nat.le_of_ble_eq_true rfl) hcs hss dL_law_635 (fun r1 σ1 p1 => ?_)
  refine jg_pop C dL_law_638 rfl ?_
  refine jg_aload_n C dL_law_639 rfl ?_
  refine jg_vm C [] _ hm ky_X11_better kv_X11_better kk_M_0 kl_69 (by omega) rfl (Nat.le_of_ble_eq_true rfl) hcs hss dL_law_640 (fun r2 τ1 p2 => ?_)
  refine jg_pop C dL_law_643 rfl ?_
  refine jg_goto C 1168 dL_law_644 (by decide) ?_
  exact hk r1 r2 σ1 τ1 p1 p2
theorem lc_13 (C : jg_C E G A 4 cL_law RL d mc ms) {b n : Nat} {xs : Nat → Int32} {i : Int32} {f g : Nat → Nat} {σ τ : jf_S} {PX PM : Int32 → jf_S → Prop} {lx lm : Nat} (hX : va_X b n xs G.2.2.2.1 G.2.2.2.1.heap) (hbl : b < G.2.2.2.1.heap.size) (hbA : ¬ A b) (h1 : vp_in (i + 1) n) (h2 : vp_in (i + 2) n) (h3 : vp_in (i + 3) n) (hx : jf_I jh_X (jg_E E f) yX10_come cX10_come 4 .int lx [jf_r (jg_E E f) 0, .int (xs (i + 1).toNatClampNeg), .int (xs (i + 2).toNatClampNeg), .int (xs (i + 3).toNatClampNeg)] σ PX) (hm : jf_I jh_M (jg_E E g) yX11_come cX11_come 4 .int lm [jf_r (jg_E E g) 0, .int (xs (i + 1).toNatClampNeg), .int (xs (i + 2).toNatClampNeg), .int (xs (i + 3).toNatClampNeg)] τ PM) (hlx : lx + 1 ≤ d) (hlm : lm + 1 ≤ d) (hcs : cs ≤ mc) (hss : ss ≤ ms) (hk : ∀ (r1 r2 : Int32) (σ1 τ1 : jf_S), PX r1 σ1 → PM r2 τ1 → jg_X E G A 4 1168 [(0, .ref b), (1, .ref (f 0)), (2, .ref (g 0)), (3, .int i)] [] (jf_w jh_X (jg_E E f) σ1 ++ jf_w jh_M (jg_E E g) τ1) cs ss) : jg_X E G A 4 647 [(0, .ref b), (1, .ref (f 0)), (2, .ref (g 0)), (3, .int i)] [] (jf_w jh_X (jg_E E f) σ ++ jf_w jh_M (jg_E E g) τ) cs ss := by
  refine jg_aload_n C dL_law_647 rfl ?_
  refine jg_aload_n C dL_law_648 rfl ?_
  refine jg_iload_n C dL_law_649 rfl ?_
  refine jg_iconst C 1 dL_law_650 (by decide) ?_
  refine jg_iadd C dL_law_651 ?_
  refine jg_sld C hX hbl hbA dL_law_652 h1 ?_
  refine jg_aload_n C dL_law_653 rfl ?_
  refine jg_iload_n C dL_law_654 rfl ?_
  refine jg_iconst C 2 dL_law_655 (by decide) ?_
  refine jg_iadd C dL_law_656 ?_
  refine jg_sld C hX hbl hbA dL_law_657 h2 ?_
  refine jg_aload_n C dL_law_658 rfl ?_
  refine jg_iload_n C dL_law_659 rfl ?_
  refine jg_iconst C 3 dL_law_660 (by decide) ?_
  refine jg_iadd C dL_law_661 ?_
  refine jg_sld C hX hbl hbA dL_law_662 h3 ?_
  refine jg_vx C [.int _, .int _, .int _] _ hx ky_X10_come kv_X10_come kk_X_0 kl_70 (by omega) rfl (Nat.le_of_ble_eq_true rfl) hcs hss dL_law_663 (fun r1 σ1 p1 => ?_)
  refine jg_pop C dL_law_666 rfl ?_
  refine jg_aload_n C dL_law_667 rfl ?_
  refine jg_aload_n C dL_law_668 rfl ?_
  refine jg_iload_n C dL_law_669 rfl ?_
  refine jg_iconst C 1 dL_law_670 (by decide) ?_
  refine jg_iadd C dL_law_671 ?_
  refine jg_sld C hX hbl hbA dL_law_672 h1 ?_
  refine jg_aload_n C dL_law_673 rfl ?_
  refine jg_iload_n C dL_law_674 rfl ?_
  refine jg_iconst C 2 dL_law_675 (by decide) ?_
  refine jg_iadd C dL_law_676 ?_
  refine jg_sld C hX hbl hbA dL_law_677 h2 ?_
  refine jg_aload_n C dL_law_678 rfl ?_
  refine jg_iload_n C dL_law_679 rfl ?_
  refine jg_iconst C 3 dL_law_680 (by decide) ?_
  refine jg_iadd C dL_law_681 ?_
  refine jg_sld C hX hbl hbA dL_law_682 h3 ?_
  refine jg_vm C [.int _, .int _, .int _] _ hm ky_X11_come kv_X11_come kk_M_0 kl_73 (by omega) rfl (Nat.le_of_ble_eq_true rfl) hcs hss dL_law_683 (fun r2 τ1 p2 => ?_)
  refine jg_pop C dL_law_686 rfl ?_
  refine jg_goto C 1168 dL_law_687 (by decide) ?_
  exact hk r1 r2 σ1 τ1 p1 p2
theorem lc_14 (C : jg_C E G A 4 cL_law RL d mc ms) {b n : Nat} {xs : Nat → Int32} {i : Int32} {f g : Nat → Nat} {σ τ : jf_S} {PX PM : Int32 → jf_S → Prop} {lx lm : Nat} (hX : va_X b n xs G.2.2.2.1 G.2.2.2.1.heap) (hbl : b < G.2.2.2.1.heap.size) (hbA : ¬ A b) (h1 : vp_in (i + 1) n) (hx : jf_I jh_X (jg_E E f) yX10_doors cX10_doors 3 .int lx [jf_r (jg_E E f) 0, .int (xs (i + 1).toNatClampNeg)] σ PX) (hm : jf_I jh_M (jg_E E g) yX11_doors cX11_doors 3 .int lm [jf_r (jg_E E g) 0, .int (xs (i + 1).toNatClampNeg)] τ PM) (hlx : lx + 1 ≤ d) (hlm : lm + 1 ≤ d) (hcs : cs ≤ mc) (hss : ss ≤ ms) (hk : ∀ (r1 r2 : Int32) (σ1 τ1 : jf_S), PX r1 σ1 → PM r2 τ1 → jg_X E G A 4 1168 [(0, .ref b), (1, .ref (f 0)), (2, .ref (g 0)), (3, .int i)] [] (jf_w jh_X (jg_E E f) σ1 ++ jf_w jh_M (jg_E E g) τ1) cs ss) : jg_X E G A 4 690 [(0, .ref b), (1, .ref (f 0)), (2, .ref (g 0)), (3, .int i)] [] (jf_w jh_X (jg_E E f) σ ++ jf_w jh_M (jg_E E g) τ) cs ss := by
  refine jg_aload_n C dL_law_690 rfl ?_
  refine jg_aload_n C dL_law_691 rfl ?_
  refine jg_iload_n C dL_law_692 rfl ?_
  refine jg_iconst C 1 dL_law_693 (by decide) ?_
  refine jg_iadd C dL_law_694 ?_
  refine jg_sld C hX hbl hbA dL_law_695 h1 ?_
  refine jg_vx C [.int _] _ hx ky_X10_doors kv_X10_doors kk_X_0 kl_74 (by omega) rfl (Nat.le_of_ble_eq_true rfl) hcs hss dL_law_696 (fun r1 σ1 p1 => ?_)
  refine jg_pop C dL_law_699 rfl ?_
  refine jg_aload_n C dL_law_700 rfl ?_
  refine jg_aload_n C dL_law_701 rfl ?_
  refine jg_iload_n C dL_law_702 rfl ?_
  refine jg_iconst C 1 dL_law_703 (by decide) ?_
  refine jg_iadd C dL_law_704 ?_
  refine jg_sld C hX hbl hbA dL_law_705 h1 ?_
  refine jg_vm C [.int _] _ hm ky_X11_doors kv_X11_doors kk_M_0 kl_77 (by omega) rfl (Nat.le_of_ble_eq_true rfl) hcs hss dL_law_706 (fun r2 τ1 p2 => ?_)
  refine jg_pop C dL_law_709 rfl ?_
  refine jg_goto C 1168 dL_law_710 (by decide) ?_
  exact hk r1 r2 σ1 τ1 p1 p2
theorem lc_15 (C : jg_C E G A 4 cL_law RL d mc ms) {b n : Nat} {xs : Nat → Int32} {i : Int32} {f g : Nat → Nat} {σ τ : jf_S} {PX PM : Int32 → jf_S → Prop} {lx lm : Nat} (hX : va_X b n xs G.2.2.2.1 G.2.2.2.1.heap) (hbl : b < G.2.2.2.1.heap.size) (hbA : ¬ A b) (h1 : vp_in (i + 1) n) (h2 : vp_in (i + 2) n) (hx : jf_I jh_X (jg_E E f) yX10_delay cX10_delay 3 .int lx [jf_r (jg_E E f) 0, .int (xs (i + 1).toNatClampNeg), .int (xs (i + 2).toNatClampNeg)] σ PX) (hm : jf_I jh_M (jg_E E g) yX11_delay cX11_delay 3 .int lm [jf_r (jg_E E g) 0, .int (xs (i + 1).toNatClampNeg), .int (xs (i + 2).toNatClampNeg)] τ PM) (hlx : lx + 1 ≤ d) (hlm : lm + 1 ≤ d) (hcs : cs ≤ mc) (hss : ss ≤ ms) (hk : ∀ (r1 r2 : Int32) (σ1 τ1 : jf_S), PX r1 σ1 → PM r2 τ1 → jg_X E G A 4 1168 [(0, .ref b), (1, .ref (f 0)), (2, .ref (g 0)), (3, .int i)] [] (jf_w jh_X (jg_E E f) σ1 ++ jf_w jh_M (jg_E E g) τ1) cs ss) : jg_X E G A 4 713 [(0, .ref b), (1, .ref (f 0)), (2, .ref (g 0)), (3, .int i)] [] (jf_w jh_X (jg_E E f) σ ++ jf_w jh_M (jg_E E g) τ) cs ss := by
  refine jg_aload_n C dL_law_713 rfl ?_
  refine jg_aload_n C dL_law_714 rfl ?_
  refine jg_iload_n C dL_law_715 rfl ?_
  refine jg_iconst C 1 dL_law_716 (by decide) ?_
  refine jg_iadd C dL_law_717 ?_
  refine jg_sld C hX hbl hbA dL_law_718 h1 ?_
  refine jg_aload_n C dL_law_719 rfl ?_
  refine jg_iload_n C dL_law_720 rfl ?_
  refine jg_iconst C 2 dL_law_721 (by decide) ?_
  refine jg_iadd C dL_law_722 ?_
  refine jg_sld C hX hbl hbA dL_law_723 h2 ?_
  refine jg_vx C [.int _, .int _] _ hx ky_X10_delay kv_X10_delay kk_X_0 kl_78 (by omega) rfl (Nat.le_of_ble_eq_true rfl) hcs hss dL_law_724 (fun r1 σ1 p1 => ?_)
  refine jg_pop C dL_law_727 rfl ?_
  refine jg_aload_n C dL_law_728 rfl ?_
  refine jg_aload_n C dL_law_729 rfl ?_
  refine jg_iload_n C dL_law_730 rfl ?_
  refine jg_iconst C 1 dL_law_731 (by decide) ?_
  refine jg_iadd C dL_law_732 ?_
  refine jg_sld C hX hbl hbA dL_law_733 h1 ?_
  refine jg_aload_n C dL_law_734 rfl ?_
  refine jg_iload_n C dL_law_735 rfl ?_
  refine jg_iconst C 2 dL_law_736 (by decide) ?_
  refine jg_iadd C dL_law_737 ?_
  refine jg_sld C hX hbl hbA dL_law_738 h2 ?_
  refine jg_vm C [.int _, .int _] _ hm ky_X11_delay kv_X11_delay kk_M_0 kl_81 (by omega) rfl (Nat.le_of_ble_eq_true rfl) hcs hss dL_law_739 (fun r2 τ1 p2 => ?_)
  refine jg_pop C dL_law_742 rfl ?_
  refine jg_goto C 1168 dL_law_743 (by decide) ?_
  exact hk r1 r2 σ1 τ1 p1 p2
theorem lc_16 (C : jg_C E G A 4 cL_law RL d mc ms) {b n : Nat} {xs : Nat → Int32} {i : Int32} {f g : Nat → Nat} {σ τ : jf_S} {PX PM : Int32 → jf_S → Prop} {lx lm : Nat} (hX : va_X b n xs G.2.2.2.1 G.2.2.2.1.heap) (hbl : b < G.2.2.2.1.heap.size) (hbA : ¬ A b) (h1 : vp_in (i + 1) n) (h2 : vp_in (i + 2) n) (h3 : vp_in (i + 3) n) (hx : jf_I jh_X (jg_E E f) yX10_queue cX10_queue 4 .int lx [jf_r (jg_E E f) 0, .int (xs (i + 1).toNatClampNeg), .int (xs (i + 2).toNatClampNeg), .int (xs (i + 3).toNatClampNeg)] σ PX) (hm : jf_I jh_M (jg_E E g) yX11_queue cX11_queue 12 .int lm [jf_r (jg_E E g) 0, .int (xs (i + 1).toNatClampNeg), .int (xs (i + 2).toNatClampNeg), .int (xs (i + 3).toNatClampNeg)] τ PM) (hlx : lx + 1 ≤ d) (hlm : lm + 1 ≤ d) (hcs : cs ≤ mc) (hss : ss ≤ ms) (hk : ∀ (r1 r2 : Int32) (σ1 τ1 : jf_S), PX r1 σ1 → PM r2 τ1 → jg_X E G A 4 1168 [(0, .ref b), (1, .ref (f 0)), (2, .ref (g 0)), (3, .int i)] [] (jf_w jh_X (jg_E E f) σ1 ++ jf_w jh_M (jg_E E g) τ1) cs ss) : jg_X E G A 4 746 [(0, .ref b), (1, .ref (f 0)), (2, .ref (g 0)), (3, .int i)] [] (jf_w jh_X (jg_E E f) σ ++ jf_w jh_M (jg_E E g) τ) cs ss := by
  refine jg_aload_n C dL_law_746 rfl ?_
  refine jg_aload_n C dL_law_747 rfl ?_
  refine jg_iload_n C dL_law_748 rfl ?_
  refine jg_iconst C 1 dL_law_749 (by decide) ?_
  refine jg_iadd C dL_law_750 ?_
  refine jg_sld C hX hbl hbA dL_law_751 h1 ?_
  refine jg_aload_n C dL_law_752 rfl ?_
  refine jg_iload_n C dL_law_753 rfl ?_
  refine jg_iconst C 2 dL_law_754 (by decide) ?_
  refine jg_iadd C dL_law_755 ?_
  refine jg_sld C hX hbl hbA dL_law_756 h2 ?_
  refine jg_aload_n C dL_law_757 rfl ?_
  refine jg_iload_n C dL_law_758 rfl ?_
  refine jg_iconst C 3 dL_law_759 (by decide) ?_
  refine jg_iadd C dL_law_760 ?_
  refine jg_sld C hX hbl hbA dL_law_761 h3 ?_
  refine jg_vx C [.int _, .int _, .int _] _ hx ky_X10_queue kv_X10_queue kk_X_0 kl_82 (by omega) rfl (Nat.le_of_ble_eq_true rfl) hcs hss dL_law_762 (fun r1 σ1 p1 => ?_)
  refine jg_pop C dL_law_765 rfl ?_
  refine jg_aload_n C dL_law_766 rfl ?_
  refine jg_aload_n C dL_law_767 rfl ?_
  refine jg_iload_n C dL_law_768 rfl ?_
  refine jg_iconst C 1 dL_law_769 (by decide) ?_
  refine jg_iadd C dL_law_770 ?_
  refine jg_sld C hX hbl hbA dL_law_771 h1 ?_
  refine jg_aload_n C dL_law_772 rfl ?_
  refine jg_iload_n C dL_law_773 rfl ?_
  refine jg_iconst C 2 dL_law_774 (by decide) ?_
  refine jg_iadd C dL_law_775 ?_
  refine jg_sld C hX hbl hbA dL_law_776 h2 ?_
  refine jg_aload_n C dL_law_777 rfl ?_
  refine jg_iload_n C dL_law_778 rfl ?_
  refine jg_iconst C 3 dL_law_779 (by decide) ?_
  refine jg_iadd C dL_law_780 ?_
  refine jg_sld C hX hbl hbA dL_law_781 h3 ?_
  refine jg_vm C [.int _, .int _, .int _] _ hm ky_X11_queue kv_X11_queue kk_M_0 kl_85 (by omega) rfl (Nat.le_of_ble_eq_true rfl) hcs hss dL_law_782 (fun r2 τ1 p2 => ?_)
  refine jg_pop C dL_law_785 rfl ?_
  refine jg_goto C 1168 dL_law_786 (by decide) ?_
  exact hk r1 r2 σ1 τ1 p1 p2
theorem lc_17 (C : jg_C E G A 4 cL_law RL d mc ms) {b n : Nat} {xs : Nat → Int32} {i : Int32} {f g : Nat → Nat} {σ τ : jf_S} {PX PM : Int32 → jf_S → Prop} {lx lm : Nat} (hX : va_X b n xs G.2.2.2.1 G.2.2.2.1.heap) (hbl : b < G.2.2.2.1.heap.size) (hbA : ¬ A b) (h1 : vp_in (i + 1) n) (hx : jf_I jh_X (jg_E E f) yX10_juror cX10_juror 2 .int lx [jf_r (jg_E E f) 0, .int (xs (i + 1).toNatClampNeg)] σ PX) (hm : jf_I jh_M (jg_E E g) yX11_juror cX11_juror 2 .int lm [jf_r (jg_E E g) 0, .int (xs (i + 1).toNatClampNeg)] τ PM) (hlx : lx + 1 ≤ d) (hlm : lm + 1 ≤ d) (hcs : cs ≤ mc) (hss : ss ≤ ms) (hk : ∀ (r1 r2 : Int32) (σ1 τ1 : jf_S), PX r1 σ1 → PM r2 τ1 → jg_X E G A 4 1168 [(0, .ref b), (1, .ref (f 0)), (2, .ref (g 0)), (3, .int i)] [] (jf_w jh_X (jg_E E f) σ1 ++ jf_w jh_M (jg_E E g) τ1) cs ss) : jg_X E G A 4 789 [(0, .ref b), (1, .ref (f 0)), (2, .ref (g 0)), (3, .int i)] [] (jf_w jh_X (jg_E E f) σ ++ jf_w jh_M (jg_E E g) τ) cs ss := by
  refine jg_aload_n C dL_law_789 rfl ?_
  refine jg_aload_n C dL_law_790 rfl ?_
  refine jg_iload_n C dL_law_791 rfl ?_
  refine jg_iconst C 1 dL_law_792 (by decide) ?_
  refine jg_iadd C dL_law_793 ?_
  refine jg_sld C hX hbl hbA dL_law_794 h1 ?_
  refine jg_vx C [.int _] _ hx ky_X10_juror kv_X10_juror kk_X_0 kl_86 (by omega) rfl (Nat.le_of_ble_eq_true rfl) hcs hss dL_law_795 (fun r1 σ1 p1 => ?_)
  refine jg_pop C dL_law_798 rfl ?_
  refine jg_aload_n C dL_law_799 rfl ?_
  refine jg_aload_n C dL_law_800 rfl ?_
  refine jg_iload_n C dL_law_801 rfl ?_
  refine jg_iconst C 1 dL_law_802 (by decide) ?_
  refine jg_iadd C dL_law_803 ?_
  refine jg_sld C hX hbl hbA dL_law_804 h1 ?_
  refine jg_vm C [.int _] _ hm ky_X11_juror kv_X11_juror kk_M_0 kl_89 (by omega) rfl (Nat.le_of_ble_eq_true rfl) hcs hss dL_law_805 (fun r2 τ1 p2 => ?_)
  refine jg_pop C dL_law_808 rfl ?_
  refine jg_goto C 1168 dL_law_809 (by decide) ?_
  exact hk r1 r2 σ1 τ1 p1 p2
theorem lc_18 (C : jg_C E G A 4 cL_law RL d mc ms) {b n : Nat} {xs : Nat → Int32} {i : Int32} {f g : Nat → Nat} {σ τ : jf_S} {PX PM : Int32 → jf_S → Prop} {lx lm : Nat} (hX : va_X b n xs G.2.2.2.1 G.2.2.2.1.heap) (hbl : b < G.2.2.2.1.heap.size) (hbA : ¬ A b) (h1 : vp_in (i + 1) n) (h2 : vp_in (i + 2) n) (hx : jf_I jh_X (jg_E E f) yX10_vote cX10_vote 3 .int lx [jf_r (jg_E E f) 0, .int (xs (i + 1).toNatClampNeg), .int (xs (i + 2).toNatClampNeg)] σ PX) (hm : jf_I jh_M (jg_E E g) yX11_vote cX11_vote 3 .int lm [jf_r (jg_E E g) 0, .int (xs (i + 1).toNatClampNeg), .int (xs (i + 2).toNatClampNeg)] τ PM) (hlx : lx + 1 ≤ d) (hlm : lm + 1 ≤ d) (hcs : cs ≤ mc) (hss : ss ≤ ms) (hk : ∀ (r1 r2 : Int32) (σ1 τ1 : jf_S), PX r1 σ1 → PM r2 τ1 → jg_X E G A 4 1168 [(0, .ref b), (1, .ref (f 0)), (2, .ref (g 0)), (3, .int i)] [] (jf_w jh_X (jg_E E f) σ1 ++ jf_w jh_M (jg_E E g) τ1) cs ss) : jg_X E G A 4 812 [(0, .ref b), (1, .ref (f 0)), (2, .ref (g 0)), (3, .int i)] [] (jf_w jh_X (jg_E E f) σ ++ jf_w jh_M (jg_E E g) τ) cs ss := by
  refine jg_aload_n C dL_law_812 rfl ?_
  refine jg_aload_n C dL_law_813 rfl ?_
  refine jg_iload_n C dL_law_814 rfl ?_
  refine jg_iconst C 1 dL_law_815 (by decide) ?_
  refine jg_iadd C dL_law_816 ?_
  refine jg_sld C hX hbl hbA dL_law_817 h1 ?_
  refine jg_aload_n C dL_law_818 rfl ?_
  refine jg_iload_n C dL_law_819 rfl ?_
  refine jg_iconst C 2 dL_law_820 (by decide) ?_
  refine jg_iadd C dL_law_821 ?_
  refine jg_sld C hX hbl hbA dL_law_822 h2 ?_
  refine jg_vx C [.int _, .int _] _ hx ky_X10_vote kv_X10_vote kk_X_0 kl_90 (by omega) rfl (Nat.le_of_ble_eq_true rfl) hcs hss dL_law_823 (fun r1 σ1 p1 => ?_)
  refine jg_pop C dL_law_826 rfl ?_
  refine jg_aload_n C dL_law_827 rfl ?_
  refine jg_aload_n C dL_law_828 rfl ?_
  refine jg_iload_n C dL_law_829 rfl ?_
  refine jg_iconst C 1 dL_law_830 (by decide) ?_
  refine jg_iadd C dL_law_831 ?_
  refine jg_sld C hX hbl hbA dL_law_832 h1 ?_
  refine jg_aload_n C dL_law_833 rfl ?_
  refine jg_iload_n C dL_law_834 rfl ?_
  refine jg_iconst C 2 dL_law_835 (by decide) ?_
  refine jg_iadd C dL_law_836 ?_
  refine jg_sld C hX hbl hbA dL_law_837 h2 ?_
  refine jg_vm C [.int _, .int _] _ hm ky_X11_vote kv_X11_vote kk_M_0 kl_93 (by omega) rfl (Nat.le_of_ble_eq_true rfl) hcs hss dL_law_838 (fun r2 τ1 p2 => ?_)
  refine jg_pop C dL_law_841 rfl ?_
  refine jg_goto C 1168 dL_law_842 (by decide) ?_
  exact hk r1 r2 σ1 τ1 p1 p2
theorem lc_19 (C : jg_C E G A 4 cL_law RL d mc ms) {b n : Nat} {xs : Nat → Int32} {i : Int32} {f g : Nat → Nat} {σ τ : jf_S} {PX PM : Int32 → jf_S → Prop} {lx lm : Nat} (hX : va_X b n xs G.2.2.2.1 G.2.2.2.1.heap) (hbl : b < G.2.2.2.1.heap.size) (hbA : ¬ A b) (h1 : vp_in (i + 1) n) (hx : jf_I jh_X (jg_E E f) yX10_clear cX10_clear 3 .int lx [jf_r (jg_E E f) 0, .int (xs (i + 1).toNatClampNeg)] σ PX) (hm : jf_I jh_M (jg_E E g) yX11_clear cX11_clear 3 .int lm [jf_r (jg_E E g) 0, .int (xs (i + 1).toNatClampNeg)] τ PM) (hlx : lx + 1 ≤ d) (hlm : lm + 1 ≤ d) (hcs : cs ≤ mc) (hss : ss ≤ ms) (hk : ∀ (r1 r2 : Int32) (σ1 τ1 : jf_S), PX r1 σ1 → PM r2 τ1 → jg_X E G A 4 1168 [(0, .ref b), (1, .ref (f 0)), (2, .ref (g 0)), (3, .int i)] [] (jf_w jh_X (jg_E E f) σ1 ++ jf_w jh_M (jg_E E g) τ1) cs ss) : jg_X E G A 4 845 [(0, .ref b), (1, .ref (f 0)), (2, .ref (g 0)), (3, .int i)] [] (jf_w jh_X (jg_E E f) σ ++ jf_w jh_M (jg_E E g) τ) cs ss := by
  refine jg_aload_n C dL_law_845 rfl ?_
  refine jg_aload_n C dL_law_846 rfl ?_
  refine jg_iload_n C dL_law_847 rfl ?_
  refine jg_iconst C 1 dL_law_848 (by decide) ?_
  refine jg_iadd C dL_law_849 ?_
  refine jg_sld C hX hbl hbA dL_law_850 h1 ?_
  refine jg_vx C [.int _] _ hx ky_X10_clear kv_X10_clear kk_X_0 kl_94 (by omega) rfl (Nat.le_of_ble_eq_true rfl) hcs hss dL_law_851 (fun r1 σ1 p1 => ?_)
  refine jg_pop C dL_law_854 rfl ?_
  refine jg_aload_n C dL_law_855 rfl ?_
  refine jg_aload_n C dL_law_856 rfl ?_
  refine jg_iload_n C dL_law_857 rfl ?_
  refine jg_iconst C 1 dL_law_858 (by decide) ?_
  refine jg_iadd C dL_law_859 ?_
  refine jg_sld C hX hbl hbA dL_law_860 h1 ?_
  refine jg_vm C [.int _] _ hm ky_X11_clear kv_X11_clear kk_M_0 kl_97 (by omega) rfl (Nat.le_of_ble_eq_true rfl) hcs hss dL_law_861 (fun r2 τ1 p2 => ?_)
  refine jg_pop C dL_law_864 rfl ?_
  refine jg_goto C 1168 dL_law_865 (by decide) ?_
  exact hk r1 r2 σ1 τ1 p1 p2
theorem lc_20 (C : jg_C E G A 4 cL_law RL d mc ms) {b n : Nat} {xs : Nat → Int32} {i : Int32} {f g : Nat → Nat} {σ τ : jf_S} {PX PM : Int32 → jf_S → Prop} {lx lm : Nat} (hX : va_X b n xs G.2.2.2.1 G.2.2.2.1.heap) (hbl : b < G.2.2.2.1.heap.size) (hbA : ¬ A b) (h1 : vp_in (i + 1) n) (h2 : vp_in (i + 2) n) (h3 : vp_in (i + 3) n) (h4 : vp_in (i + 4) n) (hx : jf_I jh_X (jg_E E f) yX10_row cX10_row 5 .int lx [jf_r (jg_E E f) 0, .int (xs (i + 1).toNatClampNeg), .int (xs (i + 2).toNatClampNeg), .int (xs (i + 3).toNatClampNeg), .int (xs (i + 4).toNatClampNeg)] σ PX) (hm : jf_I jh_M (jg_E E g) yX11_row cX11_row 5 .int lm [jf_r (jg_E E g) 0, .int (xs (i + 1).toNatClampNeg), .int (xs (i + 2).toNatClampNeg), .int (xs (i + 3).toNatClampNeg), .int (xs (i + 4).toNatClampNeg)] τ PM) (hlx : lx + 1 ≤ d) (hlm : lm + 1 ≤ d) (hcs : cs ≤ mc) (hss : ss ≤ ms) (hk : ∀ (r1 r2 : Int32) (σ1 τ1 : jf_S), PX r1 σ1 → PM r2 τ1 → jg_X E G A 4 1168 [(0, .ref b), (1, .ref (f 0)), (2, .ref (g 0)), (3, .int i)] [] (jf_w jh_X (jg_E E f) σ1 ++ jf_w jh_M (jg_E E g) τ1) cs ss) : jg_X E G A 4 868 [(0, .ref b), (1, .ref (f 0)), (2, .ref (g 0)), (3, .int i)] [] (jf_w jh_X (jg_E E f) σ ++ jf_w jh_M (jg_E E g) τ) cs ss := by
  refine jg_aload_n C dL_law_868 rfl ?_
  refine jg_aload_n C dL_law_869 rfl ?_
  refine jg_iload_n C dL_law_870 rfl ?_
  refine jg_iconst C 1 dL_law_871 (by decide) ?_
  refine jg_iadd C dL_law_872 ?_
  refine jg_sld C hX hbl hbA dL_law_873 h1 ?_
  refine jg_aload_n C dL_law_874 rfl ?_
  refine jg_iload_n C dL_law_875 rfl ?_
  refine jg_iconst C 2 dL_law_876 (by decide) ?_
  refine jg_iadd C dL_law_877 ?_
  refine jg_sld C hX hbl hbA dL_law_878 h2 ?_
  refine jg_aload_n C dL_law_879 rfl ?_
  refine jg_iload_n C dL_law_880 rfl ?_
  refine jg_iconst C 3 dL_law_881 (by decide) ?_
  refine jg_iadd C dL_law_882 ?_
  refine jg_sld C hX hbl hbA dL_law_883 h3 ?_
  refine jg_aload_n C dL_law_884 rfl ?_
  refine jg_iload_n C dL_law_885 rfl ?_
  refine jg_iconst C 4 dL_law_886 (by decide) ?_
  refine jg_iadd C dL_law_887 ?_
  refine jg_sld C hX hbl hbA dL_law_888 h4 ?_
  refine jg_vx C [.int _, .int _, .int _, .int _] _ hx ky_X10_row kv_X10_row kk_X_0 kl_98 (by omega) rfl (Nat.le_of_ble_eq_true rfl) hcs hss dL_law_889 (fun r1 σ1 p1 => ?_)
  refine jg_pop C dL_law_892 rfl ?_
  refine jg_aload_n C dL_law_893 rfl ?_
  refine jg_aload_n C dL_law_894 rfl ?_
  refine jg_iload_n C dL_law_895 rfl ?_
  refine jg_iconst C 1 dL_law_896 (by decide) ?_
  refine jg_iadd C dL_law_897 ?_
  refine jg_sld C hX hbl hbA dL_law_898 h1 ?_
  refine jg_aload_n C dL_law_899 rfl ?_
  refine jg_iload_n C dL_law_900 rfl ?_
  refine jg_iconst C 2 dL_law_901 (by decide) ?_
  refine jg_iadd C dL_law_902 ?_
  refine jg_sld C hX hbl hbA dL_law_903 h2 ?_
  refine jg_aload_n C dL_law_904 rfl ?_
  refine jg_iload_n C dL_law_905 rfl ?_
  refine jg_iconst C 3 dL_law_906 (by decide) ?_
  refine jg_iadd C dL_law_907 ?_
  refine jg_sld C hX hbl hbA dL_law_908 h3 ?_
  refine jg_aload_n C dL_law_909 rfl ?_
  refine jg_iload_n C dL_law_910 rfl ?_
  refine jg_iconst C 4 dL_law_911 (by decide) ?_
  refine jg_iadd C dL_law_912 ?_
  refine jg_sld C hX hbl hbA dL_law_913 h4 ?_
  refine jg_vm C [.int _, .int _, .int _, .int _] _ hm ky_X11_row kv_X11_row kk_M_0 kl_101 (by omega) rfl (Nat.le_of_ble_eq_true rfl) hcs hss dL_law_914 (fun r2 τ1 p2 => ?_)
  refine jg_pop C dL_law_917 rfl ?_
  refine jg_goto C 1168 dL_law_918 (by decide) ?_
  exact hk r1 r2 σ1 τ1 p1 p2
theorem lc_21 (C : jg_C E G A 4 cL_law RL d mc ms) {b n : Nat} {xs : Nat → Int32} {i : Int32} {f g : Nat → Nat} {σ τ : jf_S} {PX PM : Int32 → jf_S → Prop} {lx lm : Nat} (hX : va_X b n xs G.2.2.2.1 G.2.2.2.1.heap) (hbl : b < G.2.2.2.1.heap.size) (hbA : ¬ A b) (h1 : vp_in (i + 1) n) (h2 : vp_in (i + 2) n) (h3 : vp_in (i + 3) n) (h4 : vp_in (i + 4) n) (h5 : vp_in (i + 5) n) (hx : jf_I jh_X (jg_E E f) yX10_feed cX10_feed 6 .int lx [jf_r (jg_E E f) 0, .int (xs (i + 1).toNatClampNeg), .int (xs (i + 2).toNatClampNeg), .int (xs (i + 3).toNatClampNeg), .int (xs (i + 4).toNatClampNeg), .int (xs (i + 5).toNatClampNeg)] σ PX) (hm : jf_I jh_M (jg_E E g) yX11_feed cX11_feed 6 .int lm [jf_r (jg_E E g) 0, .int (xs (i + 1).toNatClampNeg), .int (xs (i + 2).toNatClampNeg), .int (xs (i + 3).toNatClampNeg), .int (xs (i + 4).toNatClampNeg), .int (xs (i + 5).toNatClampNeg)] τ PM) (hlx : lx + 1 ≤ d) (hlm : lm + 1 ≤ d) (hcs : cs ≤ mc) (hss : ss ≤ ms) (hk : ∀ (r1 r2 : Int32) (σ1 τ1 : jf_S), PX r1 σ1 → PM r2 τ1 → jg_X E G A 4 1168 [(0, .ref b), (1, .ref (f 0)), (2, .ref (g 0)), (3, .int i)] [] (jf_w jh_X (jg_E E f) σ1 ++ jf_w jh_M (jg_E E g) τ1) cs ss) : jg_X E G A 4 921 [(0, .ref b), (1, .ref (f 0)), (2, .ref (g 0)), (3, .int i)] [] (jf_w jh_X (jg_E E f) σ ++ jf_w jh_M (jg_E E g) τ) cs ss := by
  refine jg_aload_n C dL_law_921 rfl ?_
  refine jg_aload_n C dL_law_922 rfl ?_
  refine jg_iload_n C dL_law_923 rfl ?_
  refine jg_iconst C 1 dL_law_924 (by decide) ?_
  refine jg_iadd C dL_law_925 ?_
  refine jg_sld C hX hbl hbA dL_law_926 h1 ?_
  refine jg_aload_n C dL_law_927 rfl ?_
  refine jg_iload_n C dL_law_928 rfl ?_
  refine jg_iconst C 2 dL_law_929 (by decide) ?_
  refine jg_iadd C dL_law_930 ?_
  refine jg_sld C hX hbl hbA dL_law_931 h2 ?_
  refine jg_aload_n C dL_law_932 rfl ?_
  refine jg_iload_n C dL_law_933 rfl ?_
  refine jg_iconst C 3 dL_law_934 (by decide) ?_
  refine jg_iadd C dL_law_935 ?_
  refine jg_sld C hX hbl hbA dL_law_936 h3 ?_
  refine jg_aload_n C dL_law_937 rfl ?_
  refine jg_iload_n C dL_law_938 rfl ?_
  refine jg_iconst C 4 dL_law_939 (by decide) ?_
  refine jg_iadd C dL_law_940 ?_
  refine jg_sld C hX hbl hbA dL_law_941 h4 ?_
  refine jg_aload_n C dL_law_942 rfl ?_
  refine jg_iload_n C dL_law_943 rfl ?_
  refine jg_iconst C 5 dL_law_944 (by decide) ?_
  refine jg_iadd C dL_law_945 ?_
  refine jg_sld C hX hbl hbA dL_law_946 h5 ?_
  refine jg_vx C [.int _, .int _, .int _, .int _, .int _] _ hx ky_X10_feed kv_X10_feed kk_X_0 kl_102 (by omega) rfl (Nat.le_of_ble_eq_true rfl) hcs hss dL_law_947 (fun r1 σ1 p1 => ?_)
  refine jg_pop C dL_law_950 rfl ?_
  refine jg_aload_n C dL_law_951 rfl ?_
  refine jg_aload_n C dL_law_952 rfl ?_
  refine jg_iload_n C dL_law_953 rfl ?_
  refine jg_iconst C 1 dL_law_954 (by decide) ?_
  refine jg_iadd C dL_law_955 ?_
  refine jg_sld C hX hbl hbA dL_law_956 h1 ?_
  refine jg_aload_n C dL_law_957 rfl ?_
  refine jg_iload_n C dL_law_958 rfl ?_
  refine jg_iconst C 2 dL_law_959 (by decide) ?_
  refine jg_iadd C dL_law_960 ?_
  refine jg_sld C hX hbl hbA dL_law_961 h2 ?_
  refine jg_aload_n C dL_law_962 rfl ?_
  refine jg_iload_n C dL_law_963 rfl ?_
  refine jg_iconst C 3 dL_law_964 (by decide) ?_
  refine jg_iadd C dL_law_965 ?_
  refine jg_sld C hX hbl hbA dL_law_966 h3 ?_
  refine jg_aload_n C dL_law_967 rfl ?_
  refine jg_iload_n C dL_law_968 rfl ?_
  refine jg_iconst C 4 dL_law_969 (by decide) ?_
  refine jg_iadd C dL_law_970 ?_
  refine jg_sld C hX hbl hbA dL_law_971 h4 ?_
  refine jg_aload_n C dL_law_972 rfl ?_
  refine jg_iload_n C dL_law_973 rfl ?_
  refine jg_iconst C 5 dL_law_974 (by decide) ?_
  refine jg_iadd C dL_law_975 ?_
  refine jg_sld C hX hbl hbA dL_law_976 h5 ?_
  refine jg_vm C [.int _, .int _, .int _, .int _, .int _] _ hm ky_X11_feed kv_X11_feed kk_M_0 kl_106 (by omega) rfl (Nat.le_of_ble_eq_true rfl) hcs hss dL_law_977 (fun r2 τ1 p2 => ?_)
  refine jg_pop C dL_law_980 rfl ?_
  refine jg_goto C 1168 dL_law_981 (by decide) ?_
  exact hk r1 r2 σ1 τ1 p1 p2
theorem lc_22 (C : jg_C E G A 4 cL_law RL d mc ms) {b n : Nat} {xs : Nat → Int32} {i : Int32} {f g : Nat → Nat} {σ τ : jf_S} {PX PM : Int32 → jf_S → Prop} {lx lm : Nat} (hX : va_X b n xs G.2.2.2.1 G.2.2.2.1.heap) (hbl : b < G.2.2.2.1.heap.size) (hbA : ¬ A b) (h1 : vp_in (i + 1) n) (hx : jf_I jh_X (jg_E E f) yX10_end cX10_end 2 .int lx [jf_r (jg_E E f) 0, .int (xs (i + 1).toNatClampNeg)] σ PX) (hm : jf_I jh_M (jg_E E g) yX11_end cX11_end 2 .int lm [jf_r (jg_E E g) 0, .int (xs (i + 1).toNatClampNeg)] τ PM) (hlx : lx + 1 ≤ d) (hlm : lm + 1 ≤ d) (hcs : cs ≤ mc) (hss : ss ≤ ms) (hk : ∀ (r1 r2 : Int32) (σ1 τ1 : jf_S), PX r1 σ1 → PM r2 τ1 → r1 = r2 ∧ jg_X E G A 4 1168 [(0, .ref b), (1, .ref (f 0)), (2, .ref (g 0)), (3, .int i)] [] (jf_w jh_X (jg_E E f) σ1 ++ jf_w jh_M (jg_E E g) τ1) cs ss) : jg_X E G A 4 984 [(0, .ref b), (1, .ref (f 0)), (2, .ref (g 0)), (3, .int i)] [] (jf_w jh_X (jg_E E f) σ ++ jf_w jh_M (jg_E E g) τ) cs ss := by
  refine jg_aload_n C dL_law_984 rfl ?_
  refine jg_aload_n C dL_law_985 rfl ?_
  refine jg_iload_n C dL_law_986 rfl ?_
  refine jg_iconst C 1 dL_law_987 (by decide) ?_
  refine jg_iadd C dL_law_988 ?_
  refine jg_sld C hX hbl hbA dL_law_989 h1 ?_
  refine jg_vx C [.int _] _ hx ky_X10_end kv_X10_end kk_X_0 kl_107 (by omega) rfl (Nat.le_of_ble_eq_true rfl) hcs hss dL_law_990 (fun r1 σ1 p1 => ?_)
  refine jg_aload_n C dL_law_993 rfl ?_
  refine jg_aload_n C dL_law_994 rfl ?_
  refine jg_iload_n C dL_law_995 rfl ?_
  refine jg_iconst C 1 dL_law_996 (by decide) ?_
  refine jg_iadd C dL_law_997 ?_
  refine jg_sld C hX hbl hbA dL_law_998 h1 ?_
  refine jg_vm C [.int _] _ hm ky_X11_end kv_X11_end kk_M_0 kl_110 (by omega) rfl (Nat.le_of_ble_eq_true rfl) hcs hss dL_law_999 (fun r2 τ1 p2 => ?_)
  obtain ⟨e, hk⟩ := hk r1 r2 σ1 τ1 p1 p2
  refine jg_icmp_eq C 1168 dL_law_1002 (by decide) (fun _ => ?_) (fun h => absurd e h)
  exact hk
theorem lc_23 (C : jg_C E G A 4 cL_law RL d mc ms) {b n : Nat} {xs : Nat → Int32} {i : Int32} {f g : Nat → Nat} {σ τ : jf_S} {PX PM : Int32 → jf_S → Prop} {lx lm : Nat} (hX : va_X b n xs G.2.2.2.1 G.2.2.2.1.heap) (hbl : b < G.2.2.2.1.heap.size) (hbA : ¬ A b)  {Z : State → Prop} (hZk : jf_ZK (jf_A jh_X (jg_E E f)) Z) (hZ : ∀ (H : Heap) (locs : List Loc) (U : State), (∀ q, jf_A jh_X (jg_E E f) q → A q) → va_S A G.2.2.2.1.heap H locs → U.heap = H → G.2.2.2.1.WarmedH U.vm → Z U) (hx : jf_IZ Z jh_X (jg_E E f) yX10_rules cX10_rules 2 .int lx [jf_r (jg_E E f) 0] σ PX) (hm : jf_I jh_M (jg_E E g) yX11_rules cX11_rules 2 .int lm [jf_r (jg_E E g) 0] τ PM) (hlx : lx + 1 ≤ d) (hlm : lm + 1 ≤ d) (hcs : cs ≤ mc) (hss : ss ≤ ms) (hk : ∀ (r1 r2 : Int32) (σ1 τ1 : jf_S), PX r1 σ1 → PM r2 τ1 → jg_X E G A 4 1168 [(0, .ref b), (1, .ref (f 0)), (2, .ref (g 0)), (3, .int i)] [] (jf_w jh_X (jg_E E f) σ1 ++ jf_w jh_M (jg_E E g) τ1) cs ss) : jg_X E G A 4 1007 [(0, .ref b), (1, .ref (f 0)), (2, .ref (g 0)), (3, .int i)] [] (jf_w jh_X (jg_E E f) σ ++ jf_w jh_M (jg_E E g) τ) cs ss := by
  refine jg_aload_n C dL_law_1007 rfl ?_
  refine jg_vxZ C hZk hZ [] _ hx ky_X10_rules kv_X10_rules kk_X_0 kl_111 (by omega) rfl (Nat.le_of_ble_eq_true rfl) hcs hss dL_law_1008 (fun r1 σ1 p1 => ?_)
  refine jg_pop C dL_law_1011 rfl ?_
  refine jg_aload_n C dL_law_1012 rfl ?_
  refine jg_vm C [] _ hm ky_X11_rules kv_X11_rules kk_M_0 kl_114 (by omega) rfl (Nat.le_of_ble_eq_true rfl) hcs hss dL_law_1013 (fun r2 τ1 p2 => ?_)
  refine jg_pop C dL_law_1016 rfl ?_
  refine jg_goto C 1168 dL_law_1017 (by decide) ?_
  exact hk r1 r2 σ1 τ1 p1 p2
theorem lc_24 (C : jg_C E G A 4 cL_law RL d mc ms) {b n : Nat} {xs : Nat → Int32} {i : Int32} {f g : Nat → Nat} {σ τ : jf_S} {PX PM : Int32 → jf_S → Prop} {lx lm : Nat} (hX : va_X b n xs G.2.2.2.1 G.2.2.2.1.heap) (hbl : b < G.2.2.2.1.heap.size) (hbA : ¬ A b)  (hx : jf_I jh_X (jg_E E f) yX10_fault cX10_fault 1 .int lx [jf_r (jg_E E f) 0] σ PX) (hm : jf_I jh_M (jg_E E g) yX11_fault cX11_fault 1 .int lm [jf_r (jg_E E g) 0] τ PM) (hlx : lx + 1 ≤ d) (hlm : lm + 1 ≤ d) (hcs : cs ≤ mc) (hss : ss ≤ ms) (hk : ∀ (r1 r2 : Int32) (σ1 τ1 : jf_S), PX r1 σ1 → PM r2 τ1 → jg_X E G A 4 1168 [(0, .ref b), (1, .ref (f 0)), (2, .ref (g 0)), (3, .int i)] [] (jf_w jh_X (jg_E E f) σ1 ++ jf_w jh_M (jg_E E g) τ1) cs ss) : jg_X E G A 4 1020 [(0, .ref b), (1, .ref (f 0)), (2, .ref (g 0)), (3, .int i)] [] (jf_w jh_X (jg_E E f) σ ++ jf_w jh_M (jg_E E g) τ) cs ss := by
  refine jg_aload_n C dL_law_1020 rfl ?_
  refine jg_vx C [] _ hx ky_X10_fault kv_X10_fault kk_X_0 kl_115 (by omega) rfl (Nat.le_of_ble_eq_true rfl) hcs hss dL_law_1021 (fun r1 σ1 p1 => ?_)
  refine jg_pop C dL_law_1024 rfl ?_
  refine jg_aload_n C dL_law_1025 rfl ?_
  refine jg_vm C [] _ hm ky_X11_fault kv_X11_fault kk_M_0 kl_118 (by omega) rfl (Nat.le_of_ble_eq_true rfl) hcs hss dL_law_1026 (fun r2 τ1 p2 => ?_)
  refine jg_pop C dL_law_1029 rfl ?_
  refine jg_goto C 1168 dL_law_1030 (by decide) ?_
  exact hk r1 r2 σ1 τ1 p1 p2
theorem lc_25 (C : jg_C E G A 4 cL_law RL d mc ms) {b n : Nat} {xs : Nat → Int32} {i : Int32} {f g : Nat → Nat} {σ τ : jf_S} {PX PM : Int32 → jf_S → Prop} {lx lm : Nat} (hX : va_X b n xs G.2.2.2.1 G.2.2.2.1.heap) (hbl : b < G.2.2.2.1.heap.size) (hbA : ¬ A b) (h1 : vp_in (i + 1) n) (h2 : vp_in (i + 2) n) (h3 : vp_in (i + 3) n) (hx : jf_I jh_X (jg_E E f) yX10_counts cX10_counts 4 .int lx [jf_r (jg_E E f) 0, .int (xs (i + 1).toNatClampNeg), .int (xs (i + 2).toNatClampNeg), .int (xs (i + 3).toNatClampNeg)] σ PX) (hm : jf_I jh_M (jg_E E g) yX11_counts cX11_counts 4 .int lm [jf_r (jg_E E g) 0, .int (xs (i + 1).toNatClampNeg), .int (xs (i + 2).toNatClampNeg), .int (xs (i + 3).toNatClampNeg)] τ PM) (hlx : lx + 1 ≤ d) (hlm : lm + 1 ≤ d) (hcs : cs ≤ mc) (hss : ss ≤ ms) (hk : ∀ (r1 r2 : Int32) (σ1 τ1 : jf_S), PX r1 σ1 → PM r2 τ1 → jg_X E G A 4 1168 [(0, .ref b), (1, .ref (f 0)), (2, .ref (g 0)), (3, .int i)] [] (jf_w jh_X (jg_E E f) σ1 ++ jf_w jh_M (jg_E E g) τ1) cs ss) : jg_X E G A 4 1033 [(0, .ref b), (1, .ref (f 0)), (2, .ref (g 0)), (3, .int i)] [] (jf_w jh_X (jg_E E f) σ ++ jf_w jh_M (jg_E E g) τ) cs ss := by
  refine jg_aload_n C dL_law_1033 rfl ?_
  refine jg_aload_n C dL_law_1034 rfl ?_
  refine jg_iload_n C dL_law_1035 rfl ?_
  refine jg_iconst C 1 dL_law_1036 (by decide) ?_
  refine jg_iadd C dL_law_1037 ?_
  refine jg_sld C hX hbl hbA dL_law_1038 h1 ?_
  refine jg_aload_n C dL_law_1039 rfl ?_
  refine jg_iload_n C dL_law_1040 rfl ?_
  refine jg_iconst C 2 dL_law_1041 (by decide) ?_
  refine jg_iadd C dL_law_1042 ?_
  refine jg_sld C hX hbl hbA dL_law_1043 h2 ?_
  refine jg_aload_n C dL_law_1044 rfl ?_
  refine jg_iload_n C dL_law_1045 rfl ?_
  refine jg_iconst C 3 dL_law_1046 (by decide) ?_
  refine jg_iadd C dL_law_1047 ?_
  refine jg_sld C hX hbl hbA dL_law_1048 h3 ?_
  refine jg_vx C [.int _, .int _, .int _] _ hx ky_X10_counts kv_X10_counts kk_X_0 kl_119 (by omega) rfl (Nat.le_of_ble_eq_true rfl) hcs hss dL_law_1049 (fun r1 σ1 p1 => ?_)
  refine jg_pop C dL_law_1052 rfl ?_
  refine jg_aload_n C dL_law_1053 rfl ?_
  refine jg_aload_n C dL_law_1054 rfl ?_
  refine jg_iload_n C dL_law_1055 rfl ?_
  refine jg_iconst C 1 dL_law_1056 (by decide) ?_
  refine jg_iadd C dL_law_1057 ?_
  refine jg_sld C hX hbl hbA dL_law_1058 h1 ?_
  refine jg_aload_n C dL_law_1059 rfl ?_
  refine jg_iload_n C dL_law_1060 rfl ?_
  refine jg_iconst C 2 dL_law_1061 (by decide) ?_
  refine jg_iadd C dL_law_1062 ?_
  refine jg_sld C hX hbl hbA dL_law_1063 h2 ?_
  refine jg_aload_n C dL_law_1064 rfl ?_
  refine jg_iload_n C dL_law_1065 rfl ?_
  refine jg_iconst C 3 dL_law_1066 (by decide) ?_
  refine jg_iadd C dL_law_1067 ?_
  refine jg_sld C hX hbl hbA dL_law_1068 h3 ?_
  refine jg_vm C [.int _, .int _, .int _] _ hm ky_X11_counts kv_X11_counts kk_M_0 kl_122 (by omega) rfl (Nat.le_of_ble_eq_true rfl) hcs hss dL_law_1069 (fun r2 τ1 p2 => ?_)
  refine jg_pop C dL_law_1072 rfl ?_
  refine jg_goto C 1168 dL_law_1073 (by decide) ?_
  exact hk r1 r2 σ1 τ1 p1 p2
theorem lc_26 (C : jg_C E G A 4 cL_law RL d mc ms) {b n : Nat} {xs : Nat → Int32} {i : Int32} {f g : Nat → Nat} {σ τ : jf_S} {PX PM : Int32 → jf_S → Prop} {lx lm : Nat} (hX : va_X b n xs G.2.2.2.1 G.2.2.2.1.heap) (hbl : b < G.2.2.2.1.heap.size) (hbA : ¬ A b) (h1 : vp_in (i + 1) n) (hx : jf_I jh_X (jg_E E f) yX10_prize cX10_prize 3 .int lx [jf_r (jg_E E f) 0, .int (xs (i + 1).toNatClampNeg)] σ PX) (hm : jf_I jh_M (jg_E E g) yX11_prize cX11_prize 4 .int lm [jf_r (jg_E E g) 0, .int (xs (i + 1).toNatClampNeg)] τ PM) (hlx : lx + 1 ≤ d) (hlm : lm + 1 ≤ d) (hcs : cs ≤ mc) (hss : ss ≤ ms) (hk : ∀ (r1 r2 : Int32) (σ1 τ1 : jf_S), PX r1 σ1 → PM r2 τ1 → jg_X E G A 4 1168 [(0, .ref b), (1, .ref (f 0)), (2, .ref (g 0)), (3, .int i)] [] (jf_w jh_X (jg_E E f) σ1 ++ jf_w jh_M (jg_E E g) τ1) cs ss) : jg_X E G A 4 1076 [(0, .ref b), (1, .ref (f 0)), (2, .ref (g 0)), (3, .int i)] [] (jf_w jh_X (jg_E E f) σ ++ jf_w jh_M (jg_E E g) τ) cs ss := by
  refine jg_aload_n C dL_law_1076 rfl ?_
  refine jg_aload_n C dL_law_1077 rfl ?_
  refine jg_iload_n C dL_law_1078 rfl ?_
  refine jg_iconst C 1 dL_law_1079 (by decide) ?_
  refine jg_iadd C dL_law_1080 ?_
  refine jg_sld C hX hbl hbA dL_law_1081 h1 ?_
  refine jg_vx C [.int _] _ hx ky_X10_prize kv_X10_prize kk_X_0 kl_123 (by omega) rfl (Nat.le_of_ble_eq_true rfl) hcs hss dL_law_1082 (fun r1 σ1 p1 => ?_)
  refine jg_pop C dL_law_1085 rfl ?_
  refine jg_aload_n C dL_law_1086 rfl ?_
  refine jg_aload_n C dL_law_1087 rfl ?_
  refine jg_iload_n C dL_law_1088 rfl ?_
  refine jg_iconst C 1 dL_law_1089 (by decide) ?_
  refine jg_iadd C dL_law_1090 ?_
  refine jg_sld C hX hbl hbA dL_law_1091 h1 ?_
  refine jg_vm C [.int _] _ hm ky_X11_prize kv_X11_prize kk_M_0 kl_126 (by omega) rfl (Nat.le_of_ble_eq_true rfl) hcs hss dL_law_1092 (fun r2 τ1 p2 => ?_)
  refine jg_pop C dL_law_1095 rfl ?_
  refine jg_goto C 1168 dL_law_1096 (by decide) ?_
  exact hk r1 r2 σ1 τ1 p1 p2
theorem lc_27 (C : jg_C E G A 4 cL_law RL d mc ms) {b n : Nat} {xs : Nat → Int32} {i : Int32} {f g : Nat → Nat} {σ τ : jf_S} {PX PM : Int32 → jf_S → Prop} {lx lm : Nat} (hX : va_X b n xs G.2.2.2.1 G.2.2.2.1.heap) (hbl : b < G.2.2.2.1.heap.size) (hbA : ¬ A b) (h1 : vp_in (i + 1) n) (h2 : vp_in (i + 2) n) (hx : jf_I jh_X (jg_E E f) yX10_round cX10_round 3 .int lx [jf_r (jg_E E f) 0, .int (xs (i + 1).toNatClampNeg), .int (xs (i + 2).toNatClampNeg)] σ PX) (hm : jf_I jh_M (jg_E E g) yX11_round cX11_round 3 .int lm [jf_r (jg_E E g) 0, .int (xs (i + 1).toNatClampNeg), .int (xs (i + 2).toNatClampNeg)] τ PM) (hlx : lx + 1 ≤ d) (hlm : lm + 1 ≤ d) (hcs : cs ≤ mc) (hss : ss ≤ ms) (hk : ∀ (r1 r2 : Int32) (σ1 τ1 : jf_S), PX r1 σ1 → PM r2 τ1 → jg_X E G A 4 1168 [(0, .ref b), (1, .ref (f 0)), (2, .ref (g 0)), (3, .int i)] [] (jf_w jh_X (jg_E E f) σ1 ++ jf_w jh_M (jg_E E g) τ1) cs ss) : jg_X E G A 4 1099 [(0, .ref b), (1, .ref (f 0)), (2, .ref (g 0)), (3, .int i)] [] (jf_w jh_X (jg_E E f) σ ++ jf_w jh_M (jg_E E g) τ) cs ss := by
  refine jg_aload_n C dL_law_1099 rfl ?_
  refine jg_aload_n C dL_law_1100 rfl ?_
  refine jg_iload_n C dL_law_1101 rfl ?_
  refine jg_iconst C 1 dL_law_1102 (by decide) ?_
  refine jg_iadd C dL_law_1103 ?_
  refine jg_sld C hX hbl hbA dL_law_1104 h1 ?_
  refine jg_aload_n C dL_law_1105 rfl ?_
  refine jg_iload_n C dL_law_1106 rfl ?_
  refine jg_iconst C 2 dL_law_1107 (by decide) ?_
  refine jg_iadd C dL_law_1108 ?_
  refine jg_sld C hX hbl hbA dL_law_1109 h2 ?_
  refine jg_vx C [.int _, .int _] _ hx ky_X10_round kv_X10_round kk_X_0 kl_127 (by omega) rfl (Nat.le_of_ble_eq_true rfl) hcs hss dL_law_1110 (fun r1 σ1 p1 => ?_)
  refine jg_pop C dL_law_1113 rfl ?_
  refine jg_aload_n C dL_law_1114 rfl ?_
  refine jg_aload_n C dL_law_1115 rfl ?_
  refine jg_iload_n C dL_law_1116 rfl ?_
  refine jg_iconst C 1 dL_law_1117 (by decide) ?_
  refine jg_iadd C dL_law_1118 ?_
  refine jg_sld C hX hbl hbA dL_law_1119 h1 ?_
  refine jg_aload_n C dL_law_1120 rfl ?_
  refine jg_iload_n C dL_law_1121 rfl ?_
  refine jg_iconst C 2 dL_law_1122 (by decide) ?_
  refine jg_iadd C dL_law_1123 ?_
  refine jg_sld C hX hbl hbA dL_law_1124 h2 ?_
  refine jg_vm C [.int _, .int _] _ hm ky_X11_round kv_X11_round kk_M_0 kl_130 (by omega) rfl (Nat.le_of_ble_eq_true rfl) hcs hss dL_law_1125 (fun r2 τ1 p2 => ?_)
  refine jg_pop C dL_law_1128 rfl ?_
  refine jg_goto C 1168 dL_law_1129 (by decide) ?_
  exact hk r1 r2 σ1 τ1 p1 p2
theorem lc_28 (C : jg_C E G A 4 cL_law RL d mc ms) {b n : Nat} {xs : Nat → Int32} {i : Int32} {f g : Nat → Nat} {σ τ : jf_S} {PX PM : Int32 → jf_S → Prop} {lx lm : Nat} (hX : va_X b n xs G.2.2.2.1 G.2.2.2.1.heap) (hbl : b < G.2.2.2.1.heap.size) (hbA : ¬ A b) (h1 : vp_in (i + 1) n) (hx : jf_I jh_X (jg_E E f) yX10_count cX10_count 2 .int lx [jf_r (jg_E E f) 0, .int (xs (i + 1).toNatClampNeg)] σ PX) (hm : jf_I jh_M (jg_E E g) yX11_count cX11_count 4 .int lm [jf_r (jg_E E g) 0, .int (xs (i + 1).toNatClampNeg)] τ PM) (hlx : lx + 1 ≤ d) (hlm : lm + 1 ≤ d) (hcs : cs ≤ mc) (hss : ss ≤ ms) (hk : ∀ (r1 r2 : Int32) (σ1 τ1 : jf_S), PX r1 σ1 → PM r2 τ1 → jg_X E G A 4 1168 [(0, .ref b), (1, .ref (f 0)), (2, .ref (g 0)), (3, .int i)] [] (jf_w jh_X (jg_E E f) σ1 ++ jf_w jh_M (jg_E E g) τ1) cs ss) : jg_X E G A 4 1132 [(0, .ref b), (1, .ref (f 0)), (2, .ref (g 0)), (3, .int i)] [] (jf_w jh_X (jg_E E f) σ ++ jf_w jh_M (jg_E E g) τ) cs ss := by
  refine jg_aload_n C dL_law_1132 rfl ?_
  refine jg_aload_n C dL_law_1133 rfl ?_
  refine jg_iload_n C dL_law_1134 rfl ?_
  refine jg_iconst C 1 dL_law_1135 (by decide) ?_
  refine jg_iadd C dL_law_1136 ?_
  refine jg_sld C hX hbl hbA dL_law_1137 h1 ?_
  refine jg_vx C [.int _] _ hx ky_X10_count kv_X10_count kk_X_0 kl_131 (by omega) rfl (Nat.le_of_ble_eq_true rfl) hcs hss dL_law_1138 (fun r1 σ1 p1 => ?_)
  refine jg_pop C dL_law_1141 rfl ?_
  refine jg_aload_n C dL_law_1142 rfl ?_
  refine jg_aload_n C dL_law_1143 rfl ?_
  refine jg_iload_n C dL_law_1144 rfl ?_
  refine jg_iconst C 1 dL_law_1145 (by decide) ?_
  refine jg_iadd C dL_law_1146 ?_
  refine jg_sld C hX hbl hbA dL_law_1147 h1 ?_
  refine jg_vm C [.int _] _ hm ky_X11_count kv_X11_count kk_M_0 kl_134 (by omega) rfl (Nat.le_of_ble_eq_true rfl) hcs hss dL_law_1148 (fun r2 τ1 p2 => ?_)
  refine jg_pop C dL_law_1151 rfl ?_
  refine jg_goto C 1168 dL_law_1152 (by decide) ?_
  exact hk r1 r2 σ1 τ1 p1 p2
theorem lc_29 (C : jg_C E G A 4 cL_law RL d mc ms) {b n : Nat} {xs : Nat → Int32} {i : Int32} {f g : Nat → Nat} {σ τ : jf_S} {PX PM : Int32 → jf_S → Prop} {lx lm : Nat} (hX : va_X b n xs G.2.2.2.1 G.2.2.2.1.heap) (hbl : b < G.2.2.2.1.heap.size) (hbA : ¬ A b)  (hx : jf_I jh_X (jg_E E f) yX10_status cX10_status 1 .int lx [jf_r (jg_E E f) 0] σ PX) (hm : jf_I jh_M (jg_E E g) yX11_status cX11_status 1 .int lm [jf_r (jg_E E g) 0] τ PM) (hlx : lx + 1 ≤ d) (hlm : lm + 1 ≤ d) (hcs : cs ≤ mc) (hss : ss ≤ ms) (hk : ∀ (r1 r2 : Int32) (σ1 τ1 : jf_S), PX r1 σ1 → PM r2 τ1 → jg_X E G A 4 1168 [(0, .ref b), (1, .ref (f 0)), (2, .ref (g 0)), (3, .int i)] [] (jf_w jh_X (jg_E E f) σ1 ++ jf_w jh_M (jg_E E g) τ1) cs ss) : jg_X E G A 4 1155 [(0, .ref b), (1, .ref (f 0)), (2, .ref (g 0)), (3, .int i)] [] (jf_w jh_X (jg_E E f) σ ++ jf_w jh_M (jg_E E g) τ) cs ss := by
  refine jg_aload_n C dL_law_1155 rfl ?_
  refine jg_vx C [] _ hx ky_X10_status kv_X10_status kk_X_0 kl_135 (by omega) rfl (Nat.le_of_ble_eq_true rfl) hcs hss dL_law_1156 (fun r1 σ1 p1 => ?_)
  refine jg_pop C dL_law_1159 rfl ?_
  refine jg_aload_n C dL_law_1160 rfl ?_
  refine jg_vm C [] _ hm ky_X11_status kv_X11_status kk_M_0 kl_138 (by omega) rfl (Nat.le_of_ble_eq_true rfl) hcs hss dL_law_1161 (fun r2 τ1 p2 => ?_)
  refine jg_pop C dL_law_1164 rfl ?_
  refine jg_goto C 1168 dL_law_1165 (by decide) ?_
  exact hk r1 r2 σ1 τ1 p1 p2
end JC
