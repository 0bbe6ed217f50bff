theorem eL_law_0 : (decode cL_law 0 = .ok (.new 7, 3)) ∧ (decode cL_law 3 = .ok (.dup, 1)) ∧ (decode cL_law 4 = .ok (.invokespecial 9, 3)) ∧ (decode cL_law 7 = .ok (.astore_n 1, 1)) ∧ (decode cL_law 8 = .ok (.new 10, 3)) ∧ (decode cL_law 11 = .ok (.dup, 1)) ∧ (decode cL_law 12 = .ok (.invokespecial 12, 3)) ∧ (decode cL_law 15 = .ok (.astore_n 2, 1)) := by decide +kernel
theorem dL_law_0 : decode cL_law 0 = .ok (.new 7, 3) := eL_law_0.1
theorem dL_law_3 : decode cL_law 3 = .ok (.dup, 1) := eL_law_0.2.1
theorem dL_law_4 : decode cL_law 4 = .ok (.invokespecial 9, 3) := eL_law_0.2.2.1
theorem dL_law_7 : decode cL_law 7 = .ok (.astore_n 1, 1) := eL_law_0.2.2.2.1
theorem dL_law_8 : decode cL_law 8 = .ok (.new 10, 3) := eL_law_0.2.2.2.2.1
theorem dL_law_11 : decode cL_law 11 = .ok (.dup, 1) := eL_law_0.2.2.2.2.2.1
theorem dL_law_12 : decode cL_law 12 = .ok (.invokespecial 12, 3) := eL_law_0.2.2.2.2.2.2.1
theorem dL_law_15 : decode cL_law 15 = .ok (.astore_n 2, 1) := eL_law_0.2.2.2.2.2.2.2
theorem eL_law_8 : (decode cL_law 16 = .ok (.iconst 0, 1)) ∧ (decode cL_law 17 = .ok (.istore_n 3, 1)) ∧ (decode cL_law 18 = .ok (.iload_n 3, 1)) ∧ (decode cL_law 19 = .ok (.aload_n 0, 1)) ∧ (decode cL_law 20 = .ok (.arraylength, 1)) ∧ (decode cL_law 21 = .ok (.bipush 6, 2)) ∧ (decode cL_law 23 = .ok (.isub, 1)) ∧ (decode cL_law 24 = .ok (.if_icmp .gt 1150, 3)) := by decide +kernel
theorem dL_law_16 : decode cL_law 16 = .ok (.iconst 0, 1) := eL_law_8.1
theorem dL_law_17 : decode cL_law 17 = .ok (.istore_n 3, 1) := eL_law_8.2.1
theorem dL_law_18 : decode cL_law 18 = .ok (.iload_n 3, 1) := eL_law_8.2.2.1
theorem dL_law_19 : decode cL_law 19 = .ok (.aload_n 0, 1) := eL_law_8.2.2.2.1
theorem dL_law_20 : decode cL_law 20 = .ok (.arraylength, 1) := eL_law_8.2.2.2.2.1
theorem dL_law_21 : decode cL_law 21 = .ok (.bipush 6, 2) := eL_law_8.2.2.2.2.2.1
theorem dL_law_23 : decode cL_law 23 = .ok (.isub, 1) := eL_law_8.2.2.2.2.2.2.1
theorem dL_law_24 : decode cL_law 24 = .ok (.if_icmp .gt 1150, 3) := eL_law_8.2.2.2.2.2.2.2
theorem eL_law_16 : (decode cL_law 27 = .ok (.aload_n 0, 1)) ∧ (decode cL_law 28 = .ok (.iload_n 3, 1)) ∧ (decode cL_law 29 = .ok (.iaload, 1)) ∧ (decode cL_law 30 = .ok (.bipush 31, 2)) ∧ (decode cL_law 32 = .ok (.iand, 1)) ∧ (decode cL_law 33 = .ok (.tableswitch 1135 0 29 #[135, 188, 231, 274, 317, 370, 423, 476, 499, 532, 565, 578, 601, 614, 657, 680, 713, 756, 779, 812, 835, 888, 951, 974, 987, 1000, 1043, 1066, 1099, 1122], 135)) ∧ (decode cL_law 168 = .ok (.aload_n 1, 1)) ∧ (decode cL_law 169 = .ok (.aload_n 0, 1)) := by decide +kernel
theorem dL_law_27 : decode cL_law 27 = .ok (.aload_n 0, 1) := eL_law_16.1
theorem dL_law_28 : decode cL_law 28 = .ok (.iload_n 3, 1) := eL_law_16.2.1
theorem dL_law_29 : decode cL_law 29 = .ok (.iaload, 1) := eL_law_16.2.2.1
theorem dL_law_30 : decode cL_law 30 = .ok (.bipush 31, 2) := eL_law_16.2.2.2.1
theorem dL_law_32 : decode cL_law 32 = .ok (.iand, 1) := eL_law_16.2.2.2.2.1
theorem dL_law_33 : decode cL_law 33 = .ok (.tableswitch 1135 0 29 #[135, 188, 231, 274, 317, 370, 423, 476, 499, 532, 565, 578, 601, 614, 657, 680, 713, 756, 779, 812, 835, 888, 951, 974, 987, 1000, 1043, 1066, 1099, 1122], 135) := eL_law_16.2.2.2.2.2.1
theorem dL_law_168 : decode cL_law 168 = .ok (.aload_n 1, 1) := eL_law_16.2.2.2.2.2.2.1
theorem dL_law_169 : decode cL_law 169 = .ok (.aload_n 0, 1) := eL_law_16.2.2.2.2.2.2.2
theorem eL_law_24 : (decode cL_law 170 = .ok (.iload_n 3, 1)) ∧ (decode cL_law 171 = .ok (.iconst 1, 1)) ∧ (decode cL_law 172 = .ok (.iadd, 1)) ∧ (decode cL_law 173 = .ok (.iaload, 1)) ∧ (decode cL_law 174 = .ok (.aload_n 0, 1)) ∧ (decode cL_law 175 = .ok (.iload_n 3, 1)) ∧ (decode cL_law 176 = .ok (.iconst 2, 1)) ∧ (decode cL_law 177 = .ok (.iadd, 1)) := by decide +kernel
theorem dL_law_170 : decode cL_law 170 = .ok (.iload_n 3, 1) := eL_law_24.1
theorem dL_law_171 : decode cL_law 171 = .ok (.iconst 1, 1) := eL_law_24.2.1
theorem dL_law_172 : decode cL_law 172 = .ok (.iadd, 1) := eL_law_24.2.2.1
theorem dL_law_173 : decode cL_law 173 = .ok (.iaload, 1) := eL_law_24.2.2.2.1
theorem dL_law_174 : decode cL_law 174 = .ok (.aload_n 0, 1) := eL_law_24.2.2.2.2.1
theorem dL_law_175 : decode cL_law 175 = .ok (.iload_n 3, 1) := eL_law_24.2.2.2.2.2.1
theorem dL_law_176 : decode cL_law 176 = .ok (.iconst 2, 1) := eL_law_24.2.2.2.2.2.2.1
theorem dL_law_177 : decode cL_law 177 = .ok (.iadd, 1) := eL_law_24.2.2.2.2.2.2.2
theorem eL_law_32 : (decode cL_law 178 = .ok (.iaload, 1)) ∧ (decode cL_law 179 = .ok (.aload_n 0, 1)) ∧ (decode cL_law 180 = .ok (.iload_n 3, 1)) ∧ (decode cL_law 181 = .ok (.iconst 3, 1)) ∧ (decode cL_law 182 = .ok (.iadd, 1)) ∧ (decode cL_law 183 = .ok (.iaload, 1)) ∧ (decode cL_law 184 = .ok (.aload_n 0, 1)) ∧ (decode cL_law 185 = .ok (.iload_n 3, 1)) := by decide +kernel
theorem dL_law_178 : decode cL_law 178 = .ok (.iaload, 1) := eL_law_32.1
theorem dL_law_179 : decode cL_law 179 = .ok (.aload_n 0, 1) := eL_law_32.2.1
theorem dL_law_180 : decode cL_law 180 = .ok (.iload_n 3, 1) := eL_law_32.2.2.1
theorem dL_law_181 : decode cL_law 181 = .ok (.iconst 3, 1) := eL_law_32.2.2.2.1
theorem dL_law_182 : decode cL_law 182 = .ok (.iadd, 1) := eL_law_32.2.2.2.2.1
theorem dL_law_183 : decode cL_law 183 = .ok (.iaload, 1) := eL_law_32.2.2.2.2.2.1
theorem dL_law_184 : decode cL_law 184 = .ok (.aload_n 0, 1) := eL_law_32.2.2.2.2.2.2.1
theorem dL_law_185 : decode cL_law 185 = .ok (.iload_n 3, 1) := eL_law_32.2.2.2.2.2.2.2
theorem eL_law_40 : (decode cL_law 186 = .ok (.iconst 4, 1)) ∧ (decode cL_law 187 = .ok (.iadd, 1)) ∧ (decode cL_law 188 = .ok (.iaload, 1)) ∧ (decode cL_law 189 = .ok (.invokevirtual 13, 3)) ∧ (decode cL_law 192 = .ok (.pop, 1)) ∧ (decode cL_law 193 = .ok (.aload_n 2, 1)) ∧ (decode cL_law 194 = .ok (.aload_n 0, 1)) ∧ (decode cL_law 195 = .ok (.iload_n 3, 1)) := by decide +kernel
theorem dL_law_186 : decode cL_law 186 = .ok (.iconst 4, 1) := eL_law_40.1
theorem dL_law_187 : decode cL_law 187 = .ok (.iadd, 1) := eL_law_40.2.1
theorem dL_law_188 : decode cL_law 188 = .ok (.iaload, 1) := eL_law_40.2.2.1
theorem dL_law_189 : decode cL_law 189 = .ok (.invokevirtual 13, 3) := eL_law_40.2.2.2.1
theorem dL_law_192 : decode cL_law 192 = .ok (.pop, 1) := eL_law_40.2.2.2.2.1
theorem dL_law_193 : decode cL_law 193 = .ok (.aload_n 2, 1) := eL_law_40.2.2.2.2.2.1
theorem dL_law_194 : decode cL_law 194 = .ok (.aload_n 0, 1) := eL_law_40.2.2.2.2.2.2.1
theorem dL_law_195 : decode cL_law 195 = .ok (.iload_n 3, 1) := eL_law_40.2.2.2.2.2.2.2
theorem eL_law_48 : (decode cL_law 196 = .ok (.iconst 1, 1)) ∧ (decode cL_law 197 = .ok (.iadd, 1)) ∧ (decode cL_law 198 = .ok (.iaload, 1)) ∧ (decode cL_law 199 = .ok (.aload_n 0, 1)) ∧ (decode cL_law 200 = .ok (.iload_n 3, 1)) ∧ (decode cL_law 201 = .ok (.iconst 2, 1)) ∧ (decode cL_law 202 = .ok (.iadd, 1)) ∧ (decode cL_law 203 = .ok (.iaload, 1)) := by decide +kernel
theorem dL_law_196 : decode cL_law 196 = .ok (.iconst 1, 1) := eL_law_48.1
theorem dL_law_197 : decode cL_law 197 = .ok (.iadd, 1) := eL_law_48.2.1
theorem dL_law_198 : decode cL_law 198 = .ok (.iaload, 1) := eL_law_48.2.2.1
theorem dL_law_199 : decode cL_law 199 = .ok (.aload_n 0, 1) := eL_law_48.2.2.2.1
theorem dL_law_200 : decode cL_law 200 = .ok (.iload_n 3, 1) := eL_law_48.2.2.2.2.1
theorem dL_law_201 : decode cL_law 201 = .ok (.iconst 2, 1) := eL_law_48.2.2.2.2.2.1
theorem dL_law_202 : decode cL_law 202 = .ok (.iadd, 1) := eL_law_48.2.2.2.2.2.2.1
theorem dL_law_203 : decode cL_law 203 = .ok (.iaload, 1) := eL_law_48.2.2.2.2.2.2.2
theorem eL_law_56 : (decode cL_law 204 = .ok (.aload_n 0, 1)) ∧ (decode cL_law 205 = .ok (.iload_n 3, 1)) ∧ (decode cL_law 206 = .ok (.iconst 3, 1)) ∧ (decode cL_law 207 = .ok (.iadd, 1)) ∧ (decode cL_law 208 = .ok (.iaload, 1)) ∧ (decode cL_law 209 = .ok (.aload_n 0, 1)) ∧ (decode cL_law 210 = .ok (.iload_n 3, 1)) ∧ (decode cL_law 211 = .ok (.iconst 4, 1)) := by decide +kernel
theorem dL_law_204 : decode cL_law 204 = .ok (.aload_n 0, 1) := eL_law_56.1
theorem dL_law_205 : decode cL_law 205 = .ok (.iload_n 3, 1) := eL_law_56.2.1
theorem dL_law_206 : decode cL_law 206 = .ok (.iconst 3, 1) := eL_law_56.2.2.1
theorem dL_law_207 : decode cL_law 207 = .ok (.iadd, 1) := eL_law_56.2.2.2.1
theorem dL_law_208 : decode cL_law 208 = .ok (.iaload, 1) := eL_law_56.2.2.2.2.1
theorem dL_law_209 : decode cL_law 209 = .ok (.aload_n 0, 1) := eL_law_56.2.2.2.2.2.1
theorem dL_law_210 : decode cL_law 210 = .ok (.iload_n 3, 1) := eL_law_56.2.2.2.2.2.2.1
theorem dL_law_211 : decode cL_law 211 = .ok (.iconst 4, 1) := eL_law_56.2.2.2.2.2.2.2
theorem eL_law_64 : (decode cL_law 212 = .ok (.iadd, 1)) ∧ (decode cL_law 213 = .ok (.iaload, 1)) ∧ (decode cL_law 214 = .ok (.invokevirtual 17, 3)) ∧ (decode cL_law 217 = .ok (.pop, 1)) ∧ (decode cL_law 218 = .ok (.goto 950, 3)) ∧ (decode cL_law 221 = .ok (.aload_n 1, 1)) ∧ (decode cL_law 222 = .ok (.aload_n 0, 1)) ∧ (decode cL_law 223 = .ok (.iload_n 3, 1)) := by decide +kernel
theorem dL_law_212 : decode cL_law 212 = .ok (.iadd, 1) := eL_law_64.1
theorem dL_law_213 : decode cL_law 213 = .ok (.iaload, 1) := eL_law_64.2.1
theorem dL_law_214 : decode cL_law 214 = .ok (.invokevirtual 17, 3) := eL_law_64.2.2.1
theorem dL_law_217 : decode cL_law 217 = .ok (.pop, 1) := eL_law_64.2.2.2.1
theorem dL_law_218 : decode cL_law 218 = .ok (.goto 950, 3) := eL_law_64.2.2.2.2.1
theorem dL_law_221 : decode cL_law 221 = .ok (.aload_n 1, 1) := eL_law_64.2.2.2.2.2.1
theorem dL_law_222 : decode cL_law 222 = .ok (.aload_n 0, 1) := eL_law_64.2.2.2.2.2.2.1
theorem dL_law_223 : decode cL_law 223 = .ok (.iload_n 3, 1) := eL_law_64.2.2.2.2.2.2.2
theorem eL_law_72 : (decode cL_law 224 = .ok (.iconst 1, 1)) ∧ (decode cL_law 225 = .ok (.iadd, 1)) ∧ (decode cL_law 226 = .ok (.iaload, 1)) ∧ (decode cL_law 227 = .ok (.aload_n 0, 1)) ∧ (decode cL_law 228 = .ok (.iload_n 3, 1)) ∧ (decode cL_law 229 = .ok (.iconst 2, 1)) ∧ (decode cL_law 230 = .ok (.iadd, 1)) ∧ (decode cL_law 231 = .ok (.iaload, 1)) := by decide +kernel
theorem dL_law_224 : decode cL_law 224 = .ok (.iconst 1, 1) := eL_law_72.1
theorem dL_law_225 : decode cL_law 225 = .ok (.iadd, 1) := eL_law_72.2.1
theorem dL_law_226 : decode cL_law 226 = .ok (.iaload, 1) := eL_law_72.2.2.1
theorem dL_law_227 : decode cL_law 227 = .ok (.aload_n 0, 1) := eL_law_72.2.2.2.1
theorem dL_law_228 : decode cL_law 228 = .ok (.iload_n 3, 1) := eL_law_72.2.2.2.2.1
theorem dL_law_229 : decode cL_law 229 = .ok (.iconst 2, 1) := eL_law_72.2.2.2.2.2.1
theorem dL_law_230 : decode cL_law 230 = .ok (.iadd, 1) := eL_law_72.2.2.2.2.2.2.1
theorem dL_law_231 : decode cL_law 231 = .ok (.iaload, 1) := eL_law_72.2.2.2.2.2.2.2
theorem eL_law_80 : (decode cL_law 232 = .ok (.aload_n 0, 1)) ∧ (decode cL_law 233 = .ok (.iload_n 3, 1)) ∧ (decode cL_law 234 = .ok (.iconst 3, 1)) ∧ (decode cL_law 235 = .ok (.iadd, 1)) ∧ (decode cL_law 236 = .ok (.iaload, 1)) ∧ (decode cL_law 237 = .ok (.invokevirtual 18, 3)) ∧ (decode cL_law 240 = .ok (.pop, 1)) ∧ (decode cL_law 241 = .ok (.aload_n 2, 1)) := by decide +kernel
theorem dL_law_232 : decode cL_law 232 = .ok (.aload_n 0, 1) := eL_law_80.1
theorem dL_law_233 : decode cL_law 233 = .ok (.iload_n 3, 1) := eL_law_80.2.1
theorem dL_law_234 : decode cL_law 234 = .ok (.iconst 3, 1) := eL_law_80.2.2.1
theorem dL_law_235 : decode cL_law 235 = .ok (.iadd, 1) := eL_law_80.2.2.2.1
theorem dL_law_236 : decode cL_law 236 = .ok (.iaload, 1) := eL_law_80.2.2.2.2.1
theorem dL_law_237 : decode cL_law 237 = .ok (.invokevirtual 18, 3) := eL_law_80.2.2.2.2.2.1
theorem dL_law_240 : decode cL_law 240 = .ok (.pop, 1) := eL_law_80.2.2.2.2.2.2.1
theorem dL_law_241 : decode cL_law 241 = .ok (.aload_n 2, 1) := eL_law_80.2.2.2.2.2.2.2
theorem eL_law_88 : (decode cL_law 242 = .ok (.aload_n 0, 1)) ∧ (decode cL_law 243 = .ok (.iload_n 3, 1)) ∧ (decode cL_law 244 = .ok (.iconst 1, 1)) ∧ (decode cL_law 245 = .ok (.iadd, 1)) ∧ (decode cL_law 246 = .ok (.iaload, 1)) ∧ (decode cL_law 247 = .ok (.aload_n 0, 1)) ∧ (decode cL_law 248 = .ok (.iload_n 3, 1)) ∧ (decode cL_law 249 = .ok (.iconst 2, 1)) := by decide +kernel
theorem dL_law_242 : decode cL_law 242 = .ok (.aload_n 0, 1) := eL_law_88.1
theorem dL_law_243 : decode cL_law 243 = .ok (.iload_n 3, 1) := eL_law_88.2.1
theorem dL_law_244 : decode cL_law 244 = .ok (.iconst 1, 1) := eL_law_88.2.2.1
theorem dL_law_245 : decode cL_law 245 = .ok (.iadd, 1) := eL_law_88.2.2.2.1
theorem dL_law_246 : decode cL_law 246 = .ok (.iaload, 1) := eL_law_88.2.2.2.2.1
theorem dL_law_247 : decode cL_law 247 = .ok (.aload_n 0, 1) := eL_law_88.2.2.2.2.2.1
theorem dL_law_248 : decode cL_law 248 = .ok (.iload_n 3, 1) := eL_law_88.2.2.2.2.2.2.1
theorem dL_law_249 : decode cL_law 249 = .ok (.iconst 2, 1) := eL_law_88.2.2.2.2.2.2.2
theorem eL_law_96 : (decode cL_law 250 = .ok (.iadd, 1)) ∧ (decode cL_law 251 = .ok (.iaload, 1)) ∧ (decode cL_law 252 = .ok (.aload_n 0, 1)) ∧ (decode cL_law 253 = .ok (.iload_n 3, 1)) ∧ (decode cL_law 254 = .ok (.iconst 3, 1)) ∧ (decode cL_law 255 = .ok (.iadd, 1)) ∧ (decode cL_law 256 = .ok (.iaload, 1)) ∧ (decode cL_law 257 = .ok (.invokevirtual 22, 3)) := by decide +kernel
theorem dL_law_250 : decode cL_law 250 = .ok (.iadd, 1) := eL_law_96.1
theorem dL_law_251 : decode cL_law 251 = .ok (.iaload, 1) := eL_law_96.2.1
theorem dL_law_252 : decode cL_law 252 = .ok (.aload_n 0, 1) := eL_law_96.2.2.1
theorem dL_law_253 : decode cL_law 253 = .ok (.iload_n 3, 1) := eL_law_96.2.2.2.1
theorem dL_law_254 : decode cL_law 254 = .ok (.iconst 3, 1) := eL_law_96.2.2.2.2.1
theorem dL_law_255 : decode cL_law 255 = .ok (.iadd, 1) := eL_law_96.2.2.2.2.2.1
theorem dL_law_256 : decode cL_law 256 = .ok (.iaload, 1) := eL_law_96.2.2.2.2.2.2.1
theorem dL_law_257 : decode cL_law 257 = .ok (.invokevirtual 22, 3) := eL_law_96.2.2.2.2.2.2.2
theorem eL_law_104 : (decode cL_law 260 = .ok (.pop, 1)) ∧ (decode cL_law 261 = .ok (.goto 907, 3)) ∧ (decode cL_law 264 = .ok (.aload_n 1, 1)) ∧ (decode cL_law 265 = .ok (.aload_n 0, 1)) ∧ (decode cL_law 266 = .ok (.iload_n 3, 1)) ∧ (decode cL_law 267 = .ok (.iconst 1, 1)) ∧ (decode cL_law 268 = .ok (.iadd, 1)) ∧ (decode cL_law 269 = .ok (.iaload, 1)) := by decide +kernel
theorem dL_law_260 : decode cL_law 260 = .ok (.pop, 1) := eL_law_104.1
theorem dL_law_261 : decode cL_law 261 = .ok (.goto 907, 3) := eL_law_104.2.1
theorem dL_law_264 : decode cL_law 264 = .ok (.aload_n 1, 1) := eL_law_104.2.2.1
theorem dL_law_265 : decode cL_law 265 = .ok (.aload_n 0, 1) := eL_law_104.2.2.2.1
theorem dL_law_266 : decode cL_law 266 = .ok (.iload_n 3, 1) := eL_law_104.2.2.2.2.1
theorem dL_law_267 : decode cL_law 267 = .ok (.iconst 1, 1) := eL_law_104.2.2.2.2.2.1
theorem dL_law_268 : decode cL_law 268 = .ok (.iadd, 1) := eL_law_104.2.2.2.2.2.2.1
theorem dL_law_269 : decode cL_law 269 = .ok (.iaload, 1) := eL_law_104.2.2.2.2.2.2.2
theorem eL_law_112 : (decode cL_law 270 = .ok (.aload_n 0, 1)) ∧ (decode cL_law 271 = .ok (.iload_n 3, 1)) ∧ (decode cL_law 272 = .ok (.iconst 2, 1)) ∧ (decode cL_law 273 = .ok (.iadd, 1)) ∧ (decode cL_law 274 = .ok (.iaload, 1)) ∧ (decode cL_law 275 = .ok (.aload_n 0, 1)) ∧ (decode cL_law 276 = .ok (.iload_n 3, 1)) ∧ (decode cL_law 277 = .ok (.iconst 3, 1)) := by decide +kernel
theorem dL_law_270 : decode cL_law 270 = .ok (.aload_n 0, 1) := eL_law_112.1
theorem dL_law_271 : decode cL_law 271 = .ok (.iload_n 3, 1) := eL_law_112.2.1
theorem dL_law_272 : decode cL_law 272 = .ok (.iconst 2, 1) := eL_law_112.2.2.1
theorem dL_law_273 : decode cL_law 273 = .ok (.iadd, 1) := eL_law_112.2.2.2.1
theorem dL_law_274 : decode cL_law 274 = .ok (.iaload, 1) := eL_law_112.2.2.2.2.1
theorem dL_law_275 : decode cL_law 275 = .ok (.aload_n 0, 1) := eL_law_112.2.2.2.2.2.1
theorem dL_law_276 : decode cL_law 276 = .ok (.iload_n 3, 1) := eL_law_112.2.2.2.2.2.2.1
theorem dL_law_277 : decode cL_law 277 = .ok (.iconst 3, 1) := eL_law_112.2.2.2.2.2.2.2
theorem eL_law_120 : (decode cL_law 278 = .ok (.iadd, 1)) ∧ (decode cL_law 279 = .ok (.iaload, 1)) ∧ (decode cL_law 280 = .ok (.invokevirtual 23, 3)) ∧ (decode cL_law 283 = .ok (.pop, 1)) ∧ (decode cL_law 284 = .ok (.aload_n 2, 1)) ∧ (decode cL_law 285 = .ok (.aload_n 0, 1)) ∧ (decode cL_law 286 = .ok (.iload_n 3, 1)) ∧ (decode cL_law 287 = .ok (.iconst 1, 1)) := by decide +kernel
theorem dL_law_278 : decode cL_law 278 = .ok (.iadd, 1) := eL_law_120.1
theorem dL_law_279 : decode cL_law 279 = .ok (.iaload, 1) := eL_law_120.2.1
theorem dL_law_280 : decode cL_law 280 = .ok (.invokevirtual 23, 3) := eL_law_120.2.2.1
theorem dL_law_283 : decode cL_law 283 = .ok (.pop, 1) := eL_law_120.2.2.2.1
theorem dL_law_284 : decode cL_law 284 = .ok (.aload_n 2, 1) := eL_law_120.2.2.2.2.1
theorem dL_law_285 : decode cL_law 285 = .ok (.aload_n 0, 1) := eL_law_120.2.2.2.2.2.1
theorem dL_law_286 : decode cL_law 286 = .ok (.iload_n 3, 1) := eL_law_120.2.2.2.2.2.2.1
theorem dL_law_287 : decode cL_law 287 = .ok (.iconst 1, 1) := eL_law_120.2.2.2.2.2.2.2
theorem eL_law_128 : (decode cL_law 288 = .ok (.iadd, 1)) ∧ (decode cL_law 289 = .ok (.iaload, 1)) ∧ (decode cL_law 290 = .ok (.aload_n 0, 1)) ∧ (decode cL_law 291 = .ok (.iload_n 3, 1)) ∧ (decode cL_law 292 = .ok (.iconst 2, 1)) ∧ (decode cL_law 293 = .ok (.iadd, 1)) ∧ (decode cL_law 294 = .ok (.iaload, 1)) ∧ (decode cL_law 295 = .ok (.aload_n 0, 1)) := by decide +kernel
theorem dL_law_288 : decode cL_law 288 = .ok (.iadd, 1) := eL_law_128.1
theorem dL_law_289 : decode cL_law 289 = .ok (.iaload, 1) := eL_law_128.2.1
theorem dL_law_290 : decode cL_law 290 = .ok (.aload_n 0, 1) := eL_law_128.2.2.1
theorem dL_law_291 : decode cL_law 291 = .ok (.iload_n 3, 1) := eL_law_128.2.2.2.1
theorem dL_law_292 : decode cL_law 292 = .ok (.iconst 2, 1) := eL_law_128.2.2.2.2.1
theorem dL_law_293 : decode cL_law 293 = .ok (.iadd, 1) := eL_law_128.2.2.2.2.2.1
theorem dL_law_294 : decode cL_law 294 = .ok (.iaload, 1) := eL_law_128.2.2.2.2.2.2.1
theorem dL_law_295 : decode cL_law 295 = .ok (.aload_n 0, 1) := eL_law_128.2.2.2.2.2.2.2
theorem eL_law_136 : (decode cL_law 296 = .ok (.iload_n 3, 1)) ∧ (decode cL_law 297 = .ok (.iconst 3, 1)) ∧ (decode cL_law 298 = .ok (.iadd, 1)) ∧ (decode cL_law 299 = .ok (.iaload, 1)) ∧ (decode cL_law 300 = .ok (.invokevirtual 26, 3)) ∧ (decode cL_law 303 = .ok (.pop, 1)) ∧ (decode cL_law 304 = .ok (.goto 864, 3)) ∧ (decode cL_law 307 = .ok (.aload_n 1, 1)) := by decide +kernel
theorem dL_law_296 : decode cL_law 296 = .ok (.iload_n 3, 1) := eL_law_136.1
theorem dL_law_297 : decode cL_law 297 = .ok (.iconst 3, 1) := eL_law_136.2.1
theorem dL_law_298 : decode cL_law 298 = .ok (.iadd, 1) := eL_law_136.2.2.1
theorem dL_law_299 : decode cL_law 299 = .ok (.iaload, 1) := eL_law_136.2.2.2.1
theorem dL_law_300 : decode cL_law 300 = .ok (.invokevirtual 26, 3) := eL_law_136.2.2.2.2.1
theorem dL_law_303 : decode cL_law 303 = .ok (.pop, 1) := eL_law_136.2.2.2.2.2.1
theorem dL_law_304 : decode cL_law 304 = .ok (.goto 864, 3) := eL_law_136.2.2.2.2.2.2.1
theorem dL_law_307 : decode cL_law 307 = .ok (.aload_n 1, 1) := eL_law_136.2.2.2.2.2.2.2
theorem eL_law_144 : (decode cL_law 308 = .ok (.aload_n 0, 1)) ∧ (decode cL_law 309 = .ok (.iload_n 3, 1)) ∧ (decode cL_law 310 = .ok (.iconst 1, 1)) ∧ (decode cL_law 311 = .ok (.iadd, 1)) ∧ (decode cL_law 312 = .ok (.iaload, 1)) ∧ (decode cL_law 313 = .ok (.aload_n 0, 1)) ∧ (decode cL_law 314 = .ok (.iload_n 3, 1)) ∧ (decode cL_law 315 = .ok (.iconst 2, 1)) := by decide +kernel
theorem dL_law_308 : decode cL_law 308 = .ok (.aload_n 0, 1) := eL_law_144.1
theorem dL_law_309 : decode cL_law 309 = .ok (.iload_n 3, 1) := eL_law_144.2.1
theorem dL_law_310 : decode cL_law 310 = .ok (.iconst 1, 1) := eL_law_144.2.2.1
theorem dL_law_311 : decode cL_law 311 = .ok (.iadd, 1) := eL_law_144.2.2.2.1
theorem dL_law_312 : decode cL_law 312 = .ok (.iaload, 1) := eL_law_144.2.2.2.2.1
theorem dL_law_313 : decode cL_law 313 = .ok (.aload_n 0, 1) := eL_law_144.2.2.2.2.2.1
theorem dL_law_314 : decode cL_law 314 = .ok (.iload_n 3, 1) := eL_law_144.2.2.2.2.2.2.1
theorem dL_law_315 : decode cL_law 315 = .ok (.iconst 2, 1) := eL_law_144.2.2.2.2.2.2.2
theorem eL_law_152 : (decode cL_law 316 = .ok (.iadd, 1)) ∧ (decode cL_law 317 = .ok (.iaload, 1)) ∧ (decode cL_law 318 = .ok (.aload_n 0, 1)) ∧ (decode cL_law 319 = .ok (.iload_n 3, 1)) ∧ (decode cL_law 320 = .ok (.iconst 3, 1)) ∧ (decode cL_law 321 = .ok (.iadd, 1)) ∧ (decode cL_law 322 = .ok (.iaload, 1)) ∧ (decode cL_law 323 = .ok (.invokevirtual 27, 3)) := by decide +kernel
theorem dL_law_316 : decode cL_law 316 = .ok (.iadd, 1) := eL_law_152.1
theorem dL_law_317 : decode cL_law 317 = .ok (.iaload, 1) := eL_law_152.2.1
theorem dL_law_318 : decode cL_law 318 = .ok (.aload_n 0, 1) := eL_law_152.2.2.1
theorem dL_law_319 : decode cL_law 319 = .ok (.iload_n 3, 1) := eL_law_152.2.2.2.1
theorem dL_law_320 : decode cL_law 320 = .ok (.iconst 3, 1) := eL_law_152.2.2.2.2.1
theorem dL_law_321 : decode cL_law 321 = .ok (.iadd, 1) := eL_law_152.2.2.2.2.2.1
theorem dL_law_322 : decode cL_law 322 = .ok (.iaload, 1) := eL_law_152.2.2.2.2.2.2.1
theorem dL_law_323 : decode cL_law 323 = .ok (.invokevirtual 27, 3) := eL_law_152.2.2.2.2.2.2.2
theorem eL_law_160 : (decode cL_law 326 = .ok (.pop, 1)) ∧ (decode cL_law 327 = .ok (.aload_n 2, 1)) ∧ (decode cL_law 328 = .ok (.aload_n 0, 1)) ∧ (decode cL_law 329 = .ok (.iload_n 3, 1)) ∧ (decode cL_law 330 = .ok (.iconst 1, 1)) ∧ (decode cL_law 331 = .ok (.iadd, 1)) ∧ (decode cL_law 332 = .ok (.iaload, 1)) ∧ (decode cL_law 333 = .ok (.aload_n 0, 1)) := by decide +kernel
theorem dL_law_326 : decode cL_law 326 = .ok (.pop, 1) := eL_law_160.1
theorem dL_law_327 : decode cL_law 327 = .ok (.aload_n 2, 1) := eL_law_160.2.1
theorem dL_law_328 : decode cL_law 328 = .ok (.aload_n 0, 1) := eL_law_160.2.2.1
theorem dL_law_329 : decode cL_law 329 = .ok (.iload_n 3, 1) := eL_law_160.2.2.2.1
theorem dL_law_330 : decode cL_law 330 = .ok (.iconst 1, 1) := eL_law_160.2.2.2.2.1
theorem dL_law_331 : decode cL_law 331 = .ok (.iadd, 1) := eL_law_160.2.2.2.2.2.1
theorem dL_law_332 : decode cL_law 332 = .ok (.iaload, 1) := eL_law_160.2.2.2.2.2.2.1
theorem dL_law_333 : decode cL_law 333 = .ok (.aload_n 0, 1) := eL_law_160.2.2.2.2.2.2.2
theorem eL_law_168 : (decode cL_law 334 = .ok (.iload_n 3, 1)) ∧ (decode cL_law 335 = .ok (.iconst 2, 1)) ∧ (decode cL_law 336 = .ok (.iadd, 1)) ∧ (decode cL_law 337 = .ok (.iaload, 1)) ∧ (decode cL_law 338 = .ok (.aload_n 0, 1)) ∧ (decode cL_law 339 = .ok (.iload_n 3, 1)) ∧ (decode cL_law 340 = .ok (.iconst 3, 1)) ∧ (decode cL_law 341 = .ok (.iadd, 1)) := by decide +kernel
theorem dL_law_334 : decode cL_law 334 = .ok (.iload_n 3, 1) := eL_law_168.1
theorem dL_law_335 : decode cL_law 335 = .ok (.iconst 2, 1) := eL_law_168.2.1
theorem dL_law_336 : decode cL_law 336 = .ok (.iadd, 1) := eL_law_168.2.2.1
theorem dL_law_337 : decode cL_law 337 = .ok (.iaload, 1) := eL_law_168.2.2.2.1
theorem dL_law_338 : decode cL_law 338 = .ok (.aload_n 0, 1) := eL_law_168.2.2.2.2.1
theorem dL_law_339 : decode cL_law 339 = .ok (.iload_n 3, 1) := eL_law_168.2.2.2.2.2.1
theorem dL_law_340 : decode cL_law 340 = .ok (.iconst 3, 1) := eL_law_168.2.2.2.2.2.2.1
theorem dL_law_341 : decode cL_law 341 = .ok (.iadd, 1) := eL_law_168.2.2.2.2.2.2.2
theorem eL_law_176 : (decode cL_law 342 = .ok (.iaload, 1)) ∧ (decode cL_law 343 = .ok (.invokevirtual 30, 3)) ∧ (decode cL_law 346 = .ok (.pop, 1)) ∧ (decode cL_law 347 = .ok (.goto 821, 3)) ∧ (decode cL_law 350 = .ok (.aload_n 1, 1)) ∧ (decode cL_law 351 = .ok (.aload_n 0, 1)) ∧ (decode cL_law 352 = .ok (.iload_n 3, 1)) ∧ (decode cL_law 353 = .ok (.iconst 1, 1)) := by decide +kernel
theorem dL_law_342 : decode cL_law 342 = .ok (.iaload, 1) := eL_law_176.1
theorem dL_law_343 : decode cL_law 343 = .ok (.invokevirtual 30, 3) := eL_law_176.2.1
theorem dL_law_346 : decode cL_law 346 = .ok (.pop, 1) := eL_law_176.2.2.1
theorem dL_law_347 : decode cL_law 347 = .ok (.goto 821, 3) := eL_law_176.2.2.2.1
theorem dL_law_350 : decode cL_law 350 = .ok (.aload_n 1, 1) := eL_law_176.2.2.2.2.1
theorem dL_law_351 : decode cL_law 351 = .ok (.aload_n 0, 1) := eL_law_176.2.2.2.2.2.1
theorem dL_law_352 : decode cL_law 352 = .ok (.iload_n 3, 1) := eL_law_176.2.2.2.2.2.2.1
theorem dL_law_353 : decode cL_law 353 = .ok (.iconst 1, 1) := eL_law_176.2.2.2.2.2.2.2
theorem eL_law_184 : (decode cL_law 354 = .ok (.iadd, 1)) ∧ (decode cL_law 355 = .ok (.iaload, 1)) ∧ (decode cL_law 356 = .ok (.aload_n 0, 1)) ∧ (decode cL_law 357 = .ok (.iload_n 3, 1)) ∧ (decode cL_law 358 = .ok (.iconst 2, 1)) ∧ (decode cL_law 359 = .ok (.iadd, 1)) ∧ (decode cL_law 360 = .ok (.iaload, 1)) ∧ (decode cL_law 361 = .ok (.aload_n 0, 1)) := by decide +kernel
theorem dL_law_354 : decode cL_law 354 = .ok (.iadd, 1) := eL_law_184.1
theorem dL_law_355 : decode cL_law 355 = .ok (.iaload, 1) := eL_law_184.2.1
theorem dL_law_356 : decode cL_law 356 = .ok (.aload_n 0, 1) := eL_law_184.2.2.1
theorem dL_law_357 : decode cL_law 357 = .ok (.iload_n 3, 1) := eL_law_184.2.2.2.1
theorem dL_law_358 : decode cL_law 358 = .ok (.iconst 2, 1) := eL_law_184.2.2.2.2.1
theorem dL_law_359 : decode cL_law 359 = .ok (.iadd, 1) := eL_law_184.2.2.2.2.2.1
theorem dL_law_360 : decode cL_law 360 = .ok (.iaload, 1) := eL_law_184.2.2.2.2.2.2.1
theorem dL_law_361 : decode cL_law 361 = .ok (.aload_n 0, 1) := eL_law_184.2.2.2.2.2.2.2
theorem eL_law_192 : (decode cL_law 362 = .ok (.iload_n 3, 1)) ∧ (decode cL_law 363 = .ok (.iconst 3, 1)) ∧ (decode cL_law 364 = .ok (.iadd, 1)) ∧ (decode cL_law 365 = .ok (.iaload, 1)) ∧ (decode cL_law 366 = .ok (.aload_n 0, 1)) ∧ (decode cL_law 367 = .ok (.iload_n 3, 1)) ∧ (decode cL_law 368 = .ok (.iconst 4, 1)) ∧ (decode cL_law 369 = .ok (.iadd, 1)) := by decide +kernel
theorem dL_law_362 : decode cL_law 362 = .ok (.iload_n 3, 1) := eL_law_192.1
theorem dL_law_363 : decode cL_law 363 = .ok (.iconst 3, 1) := eL_law_192.2.1
theorem dL_law_364 : decode cL_law 364 = .ok (.iadd, 1) := eL_law_192.2.2.1
theorem dL_law_365 : decode cL_law 365 = .ok (.iaload, 1) := eL_law_192.2.2.2.1
theorem dL_law_366 : decode cL_law 366 = .ok (.aload_n 0, 1) := eL_law_192.2.2.2.2.1
theorem dL_law_367 : decode cL_law 367 = .ok (.iload_n 3, 1) := eL_law_192.2.2.2.2.2.1
theorem dL_law_368 : decode cL_law 368 = .ok (.iconst 4, 1) := eL_law_192.2.2.2.2.2.2.1
theorem dL_law_369 : decode cL_law 369 = .ok (.iadd, 1) := eL_law_192.2.2.2.2.2.2.2
theorem eL_law_200 : (decode cL_law 370 = .ok (.iaload, 1)) ∧ (decode cL_law 371 = .ok (.invokevirtual 31, 3)) ∧ (decode cL_law 374 = .ok (.pop, 1)) ∧ (decode cL_law 375 = .ok (.aload_n 2, 1)) ∧ (decode cL_law 376 = .ok (.aload_n 0, 1)) ∧ (decode cL_law 377 = .ok (.iload_n 3, 1)) ∧ (decode cL_law 378 = .ok (.iconst 1, 1)) ∧ (decode cL_law 379 = .ok (.iadd, 1)) := by decide +kernel
theorem dL_law_370 : decode cL_law 370 = .ok (.iaload, 1) := eL_law_200.1
theorem dL_law_371 : decode cL_law 371 = .ok (.invokevirtual 31, 3) := eL_law_200.2.1
theorem dL_law_374 : decode cL_law 374 = .ok (.pop, 1) := eL_law_200.2.2.1
theorem dL_law_375 : decode cL_law 375 = .ok (.aload_n 2, 1) := eL_law_200.2.2.2.1
theorem dL_law_376 : decode cL_law 376 = .ok (.aload_n 0, 1) := eL_law_200.2.2.2.2.1
theorem dL_law_377 : decode cL_law 377 = .ok (.iload_n 3, 1) := eL_law_200.2.2.2.2.2.1
theorem dL_law_378 : decode cL_law 378 = .ok (.iconst 1, 1) := eL_law_200.2.2.2.2.2.2.1
theorem dL_law_379 : decode cL_law 379 = .ok (.iadd, 1) := eL_law_200.2.2.2.2.2.2.2
theorem eL_law_208 : (decode cL_law 380 = .ok (.iaload, 1)) ∧ (decode cL_law 381 = .ok (.aload_n 0, 1)) ∧ (decode cL_law 382 = .ok (.iload_n 3, 1)) ∧ (decode cL_law 383 = .ok (.iconst 2, 1)) ∧ (decode cL_law 384 = .ok (.iadd, 1)) ∧ (decode cL_law 385 = .ok (.iaload, 1)) ∧ (decode cL_law 386 = .ok (.aload_n 0, 1)) ∧ (decode cL_law 387 = .ok (.iload_n 3, 1)) := by decide +kernel
theorem dL_law_380 : decode cL_law 380 = .ok (.iaload, 1) := eL_law_208.1
theorem dL_law_381 : decode cL_law 381 = .ok (.aload_n 0, 1) := eL_law_208.2.1
theorem dL_law_382 : decode cL_law 382 = .ok (.iload_n 3, 1) := eL_law_208.2.2.1
theorem dL_law_383 : decode cL_law 383 = .ok (.iconst 2, 1) := eL_law_208.2.2.2.1
theorem dL_law_384 : decode cL_law 384 = .ok (.iadd, 1) := eL_law_208.2.2.2.2.1
theorem dL_law_385 : decode cL_law 385 = .ok (.iaload, 1) := eL_law_208.2.2.2.2.2.1
theorem dL_law_386 : decode cL_law 386 = .ok (.aload_n 0, 1) := eL_law_208.2.2.2.2.2.2.1
theorem dL_law_387 : decode cL_law 387 = .ok (.iload_n 3, 1) := eL_law_208.2.2.2.2.2.2.2
theorem eL_law_216 : (decode cL_law 388 = .ok (.iconst 3, 1)) ∧ (decode cL_law 389 = .ok (.iadd, 1)) ∧ (decode cL_law 390 = .ok (.iaload, 1)) ∧ (decode cL_law 391 = .ok (.aload_n 0, 1)) ∧ (decode cL_law 392 = .ok (.iload_n 3, 1)) ∧ (decode cL_law 393 = .ok (.iconst 4, 1)) ∧ (decode cL_law 394 = .ok (.iadd, 1)) ∧ (decode cL_law 395 = .ok (.iaload, 1)) := by decide +kernel
theorem dL_law_388 : decode cL_law 388 = .ok (.iconst 3, 1) := eL_law_216.1
theorem dL_law_389 : decode cL_law 389 = .ok (.iadd, 1) := eL_law_216.2.1
theorem dL_law_390 : decode cL_law 390 = .ok (.iaload, 1) := eL_law_216.2.2.1
theorem dL_law_391 : decode cL_law 391 = .ok (.aload_n 0, 1) := eL_law_216.2.2.2.1
theorem dL_law_392 : decode cL_law 392 = .ok (.iload_n 3, 1) := eL_law_216.2.2.2.2.1
theorem dL_law_393 : decode cL_law 393 = .ok (.iconst 4, 1) := eL_law_216.2.2.2.2.2.1
theorem dL_law_394 : decode cL_law 394 = .ok (.iadd, 1) := eL_law_216.2.2.2.2.2.2.1
theorem dL_law_395 : decode cL_law 395 = .ok (.iaload, 1) := eL_law_216.2.2.2.2.2.2.2
theorem eL_law_224 : (decode cL_law 396 = .ok (.invokevirtual 34, 3)) ∧ (decode cL_law 399 = .ok (.pop, 1)) ∧ (decode cL_law 400 = .ok (.goto 768, 3)) ∧ (decode cL_law 403 = .ok (.aload_n 1, 1)) ∧ (decode cL_law 404 = .ok (.aload_n 0, 1)) ∧ (decode cL_law 405 = .ok (.iload_n 3, 1)) ∧ (decode cL_law 406 = .ok (.iconst 1, 1)) ∧ (decode cL_law 407 = .ok (.iadd, 1)) := by decide +kernel
theorem dL_law_396 : decode cL_law 396 = .ok (.invokevirtual 34, 3) := eL_law_224.1
theorem dL_law_399 : decode cL_law 399 = .ok (.pop, 1) := eL_law_224.2.1
theorem dL_law_400 : decode cL_law 400 = .ok (.goto 768, 3) := eL_law_224.2.2.1
theorem dL_law_403 : decode cL_law 403 = .ok (.aload_n 1, 1) := eL_law_224.2.2.2.1
theorem dL_law_404 : decode cL_law 404 = .ok (.aload_n 0, 1) := eL_law_224.2.2.2.2.1
theorem dL_law_405 : decode cL_law 405 = .ok (.iload_n 3, 1) := eL_law_224.2.2.2.2.2.1
theorem dL_law_406 : decode cL_law 406 = .ok (.iconst 1, 1) := eL_law_224.2.2.2.2.2.2.1
theorem dL_law_407 : decode cL_law 407 = .ok (.iadd, 1) := eL_law_224.2.2.2.2.2.2.2
theorem eL_law_232 : (decode cL_law 408 = .ok (.iaload, 1)) ∧ (decode cL_law 409 = .ok (.aload_n 0, 1)) ∧ (decode cL_law 410 = .ok (.iload_n 3, 1)) ∧ (decode cL_law 411 = .ok (.iconst 2, 1)) ∧ (decode cL_law 412 = .ok (.iadd, 1)) ∧ (decode cL_law 413 = .ok (.iaload, 1)) ∧ (decode cL_law 414 = .ok (.aload_n 0, 1)) ∧ (decode cL_law 415 = .ok (.iload_n 3, 1)) := by decide +kernel
theorem dL_law_408 : decode cL_law 408 = .ok (.iaload, 1) := eL_law_232.1
theorem dL_law_409 : decode cL_law 409 = .ok (.aload_n 0, 1) := eL_law_232.2.1
theorem dL_law_410 : decode cL_law 410 = .ok (.iload_n 3, 1) := eL_law_232.2.2.1
theorem dL_law_411 : decode cL_law 411 = .ok (.iconst 2, 1) := eL_law_232.2.2.2.1
theorem dL_law_412 : decode cL_law 412 = .ok (.iadd, 1) := eL_law_232.2.2.2.2.1
theorem dL_law_413 : decode cL_law 413 = .ok (.iaload, 1) := eL_law_232.2.2.2.2.2.1
theorem dL_law_414 : decode cL_law 414 = .ok (.aload_n 0, 1) := eL_law_232.2.2.2.2.2.2.1
theorem dL_law_415 : decode cL_law 415 = .ok (.iload_n 3, 1) := eL_law_232.2.2.2.2.2.2.2
theorem eL_law_240 : (decode cL_law 416 = .ok (.iconst 3, 1)) ∧ (decode cL_law 417 = .ok (.iadd, 1)) ∧ (decode cL_law 418 = .ok (.iaload, 1)) ∧ (decode cL_law 419 = .ok (.aload_n 0, 1)) ∧ (decode cL_law 420 = .ok (.iload_n 3, 1)) ∧ (decode cL_law 421 = .ok (.iconst 4, 1)) ∧ (decode cL_law 422 = .ok (.iadd, 1)) ∧ (decode cL_law 423 = .ok (.iaload, 1)) := by decide +kernel
theorem dL_law_416 : decode cL_law 416 = .ok (.iconst 3, 1) := eL_law_240.1
theorem dL_law_417 : decode cL_law 417 = .ok (.iadd, 1) := eL_law_240.2.1
theorem dL_law_418 : decode cL_law 418 = .ok (.iaload, 1) := eL_law_240.2.2.1
theorem dL_law_419 : decode cL_law 419 = .ok (.aload_n 0, 1) := eL_law_240.2.2.2.1
theorem dL_law_420 : decode cL_law 420 = .ok (.iload_n 3, 1) := eL_law_240.2.2.2.2.1
theorem dL_law_421 : decode cL_law 421 = .ok (.iconst 4, 1) := eL_law_240.2.2.2.2.2.1
theorem dL_law_422 : decode cL_law 422 = .ok (.iadd, 1) := eL_law_240.2.2.2.2.2.2.1
theorem dL_law_423 : decode cL_law 423 = .ok (.iaload, 1) := eL_law_240.2.2.2.2.2.2.2
theorem eL_law_248 : (decode cL_law 424 = .ok (.invokevirtual 35, 3)) ∧ (decode cL_law 427 = .ok (.pop, 1)) ∧ (decode cL_law 428 = .ok (.aload_n 2, 1)) ∧ (decode cL_law 429 = .ok (.aload_n 0, 1)) ∧ (decode cL_law 430 = .ok (.iload_n 3, 1)) ∧ (decode cL_law 431 = .ok (.iconst 1, 1)) ∧ (decode cL_law 432 = .ok (.iadd, 1)) ∧ (decode cL_law 433 = .ok (.iaload, 1)) := by decide +kernel
theorem dL_law_424 : decode cL_law 424 = .ok (.invokevirtual 35, 3) := eL_law_248.1
theorem dL_law_427 : decode cL_law 427 = .ok (.pop, 1) := eL_law_248.2.1
theorem dL_law_428 : decode cL_law 428 = .ok (.aload_n 2, 1) := eL_law_248.2.2.1
theorem dL_law_429 : decode cL_law 429 = .ok (.aload_n 0, 1) := eL_law_248.2.2.2.1
theorem dL_law_430 : decode cL_law 430 = .ok (.iload_n 3, 1) := eL_law_248.2.2.2.2.1
theorem dL_law_431 : decode cL_law 431 = .ok (.iconst 1, 1) := eL_law_248.2.2.2.2.2.1
theorem dL_law_432 : decode cL_law 432 = .ok (.iadd, 1) := eL_law_248.2.2.2.2.2.2.1
theorem dL_law_433 : decode cL_law 433 = .ok (.iaload, 1) := eL_law_248.2.2.2.2.2.2.2
theorem eL_law_256 : (decode cL_law 434 = .ok (.aload_n 0, 1)) ∧ (decode cL_law 435 = .ok (.iload_n 3, 1)) ∧ (decode cL_law 436 = .ok (.iconst 2, 1)) ∧ (decode cL_law 437 = .ok (.iadd, 1)) ∧ (decode cL_law 438 = .ok (.iaload, 1)) ∧ (decode cL_law 439 = .ok (.aload_n 0, 1)) ∧ (decode cL_law 440 = .ok (.iload_n 3, 1)) ∧ (decode cL_law 441 = .ok (.iconst 3, 1)) := by decide +kernel
theorem dL_law_434 : decode cL_law 434 = .ok (.aload_n 0, 1) := eL_law_256.1
theorem dL_law_435 : decode cL_law 435 = .ok (.iload_n 3, 1) := eL_law_256.2.1
theorem dL_law_436 : decode cL_law 436 = .ok (.iconst 2, 1) := eL_law_256.2.2.1
theorem dL_law_437 : decode cL_law 437 = .ok (.iadd, 1) := eL_law_256.2.2.2.1
theorem dL_law_438 : decode cL_law 438 = .ok (.iaload, 1) := eL_law_256.2.2.2.2.1
theorem dL_law_439 : decode cL_law 439 = .ok (.aload_n 0, 1) := eL_law_256.2.2.2.2.2.1
theorem dL_law_440 : decode cL_law 440 = .ok (.iload_n 3, 1) := eL_law_256.2.2.2.2.2.2.1
theorem dL_law_441 : decode cL_law 441 = .ok (.iconst 3, 1) := eL_law_256.2.2.2.2.2.2.2
theorem eL_law_264 : (decode cL_law 442 = .ok (.iadd, 1)) ∧ (decode cL_law 443 = .ok (.iaload, 1)) ∧ (decode cL_law 444 = .ok (.aload_n 0, 1)) ∧ (decode cL_law 445 = .ok (.iload_n 3, 1)) ∧ (decode cL_law 446 = .ok (.iconst 4, 1)) ∧ (decode cL_law 447 = .ok (.iadd, 1)) ∧ (decode cL_law 448 = .ok (.iaload, 1)) ∧ (decode cL_law 449 = .ok (.invokevirtual 38, 3)) := by decide +kernel
theorem dL_law_442 : decode cL_law 442 = .ok (.iadd, 1) := eL_law_264.1
theorem dL_law_443 : decode cL_law 443 = .ok (.iaload, 1) := eL_law_264.2.1
theorem dL_law_444 : decode cL_law 444 = .ok (.aload_n 0, 1) := eL_law_264.2.2.1
theorem dL_law_445 : decode cL_law 445 = .ok (.iload_n 3, 1) := eL_law_264.2.2.2.1
theorem dL_law_446 : decode cL_law 446 = .ok (.iconst 4, 1) := eL_law_264.2.2.2.2.1
theorem dL_law_447 : decode cL_law 447 = .ok (.iadd, 1) := eL_law_264.2.2.2.2.2.1
theorem dL_law_448 : decode cL_law 448 = .ok (.iaload, 1) := eL_law_264.2.2.2.2.2.2.1
theorem dL_law_449 : decode cL_law 449 = .ok (.invokevirtual 38, 3) := eL_law_264.2.2.2.2.2.2.2
theorem eL_law_272 : (decode cL_law 452 = .ok (.pop, 1)) ∧ (decode cL_law 453 = .ok (.goto 715, 3)) ∧ (decode cL_law 456 = .ok (.aload_n 1, 1)) ∧ (decode cL_law 457 = .ok (.aload_n 0, 1)) ∧ (decode cL_law 458 = .ok (.iload_n 3, 1)) ∧ (decode cL_law 459 = .ok (.iconst 1, 1)) ∧ (decode cL_law 460 = .ok (.iadd, 1)) ∧ (decode cL_law 461 = .ok (.iaload, 1)) := by decide +kernel
theorem dL_law_452 : decode cL_law 452 = .ok (.pop, 1) := eL_law_272.1
theorem dL_law_453 : decode cL_law 453 = .ok (.goto 715, 3) := eL_law_272.2.1
theorem dL_law_456 : decode cL_law 456 = .ok (.aload_n 1, 1) := eL_law_272.2.2.1
theorem dL_law_457 : decode cL_law 457 = .ok (.aload_n 0, 1) := eL_law_272.2.2.2.1
theorem dL_law_458 : decode cL_law 458 = .ok (.iload_n 3, 1) := eL_law_272.2.2.2.2.1
theorem dL_law_459 : decode cL_law 459 = .ok (.iconst 1, 1) := eL_law_272.2.2.2.2.2.1
theorem dL_law_460 : decode cL_law 460 = .ok (.iadd, 1) := eL_law_272.2.2.2.2.2.2.1
theorem dL_law_461 : decode cL_law 461 = .ok (.iaload, 1) := eL_law_272.2.2.2.2.2.2.2
theorem eL_law_280 : (decode cL_law 462 = .ok (.aload_n 0, 1)) ∧ (decode cL_law 463 = .ok (.iload_n 3, 1)) ∧ (decode cL_law 464 = .ok (.iconst 2, 1)) ∧ (decode cL_law 465 = .ok (.iadd, 1)) ∧ (decode cL_law 466 = .ok (.iaload, 1)) ∧ (decode cL_law 467 = .ok (.aload_n 0, 1)) ∧ (decode cL_law 468 = .ok (.iload_n 3, 1)) ∧ (decode cL_law 469 = .ok (.iconst 3, 1)) := by decide +kernel
theorem dL_law_462 : decode cL_law 462 = .ok (.aload_n 0, 1) := eL_law_280.1
theorem dL_law_463 : decode cL_law 463 = .ok (.iload_n 3, 1) := eL_law_280.2.1
theorem dL_law_464 : decode cL_law 464 = .ok (.iconst 2, 1) := eL_law_280.2.2.1
theorem dL_law_465 : decode cL_law 465 = .ok (.iadd, 1) := eL_law_280.2.2.2.1
theorem dL_law_466 : decode cL_law 466 = .ok (.iaload, 1) := eL_law_280.2.2.2.2.1
theorem dL_law_467 : decode cL_law 467 = .ok (.aload_n 0, 1) := eL_law_280.2.2.2.2.2.1
theorem dL_law_468 : decode cL_law 468 = .ok (.iload_n 3, 1) := eL_law_280.2.2.2.2.2.2.1
theorem dL_law_469 : decode cL_law 469 = .ok (.iconst 3, 1) := eL_law_280.2.2.2.2.2.2.2
theorem eL_law_288 : (decode cL_law 470 = .ok (.iadd, 1)) ∧ (decode cL_law 471 = .ok (.iaload, 1)) ∧ (decode cL_law 472 = .ok (.aload_n 0, 1)) ∧ (decode cL_law 473 = .ok (.iload_n 3, 1)) ∧ (decode cL_law 474 = .ok (.iconst 4, 1)) ∧ (decode cL_law 475 = .ok (.iadd, 1)) ∧ (decode cL_law 476 = .ok (.iaload, 1)) ∧ (decode cL_law 477 = .ok (.invokevirtual 39, 3)) := by decide +kernel
theorem dL_law_470 : decode cL_law 470 = .ok (.iadd, 1) := eL_law_288.1
theorem dL_law_471 : decode cL_law 471 = .ok (.iaload, 1) := eL_law_288.2.1
theorem dL_law_472 : decode cL_law 472 = .ok (.aload_n 0, 1) := eL_law_288.2.2.1
theorem dL_law_473 : decode cL_law 473 = .ok (.iload_n 3, 1) := eL_law_288.2.2.2.1
theorem dL_law_474 : decode cL_law 474 = .ok (.iconst 4, 1) := eL_law_288.2.2.2.2.1
theorem dL_law_475 : decode cL_law 475 = .ok (.iadd, 1) := eL_law_288.2.2.2.2.2.1
theorem dL_law_476 : decode cL_law 476 = .ok (.iaload, 1) := eL_law_288.2.2.2.2.2.2.1
theorem dL_law_477 : decode cL_law 477 = .ok (.invokevirtual 39, 3) := eL_law_288.2.2.2.2.2.2.2
theorem eL_law_296 : (decode cL_law 480 = .ok (.pop, 1)) ∧ (decode cL_law 481 = .ok (.aload_n 2, 1)) ∧ (decode cL_law 482 = .ok (.aload_n 0, 1)) ∧ (decode cL_law 483 = .ok (.iload_n 3, 1)) ∧ (decode cL_law 484 = .ok (.iconst 1, 1)) ∧ (decode cL_law 485 = .ok (.iadd, 1)) ∧ (decode cL_law 486 = .ok (.iaload, 1)) ∧ (decode cL_law 487 = .ok (.aload_n 0, 1)) := by decide +kernel
theorem dL_law_480 : decode cL_law 480 = .ok (.pop, 1) := eL_law_296.1
theorem dL_law_481 : decode cL_law 481 = .ok (.aload_n 2, 1) := eL_law_296.2.1
theorem dL_law_482 : decode cL_law 482 = .ok (.aload_n 0, 1) := eL_law_296.2.2.1
theorem dL_law_483 : decode cL_law 483 = .ok (.iload_n 3, 1) := eL_law_296.2.2.2.1
theorem dL_law_484 : decode cL_law 484 = .ok (.iconst 1, 1) := eL_law_296.2.2.2.2.1
theorem dL_law_485 : decode cL_law 485 = .ok (.iadd, 1) := eL_law_296.2.2.2.2.2.1
theorem dL_law_486 : decode cL_law 486 = .ok (.iaload, 1) := eL_law_296.2.2.2.2.2.2.1
theorem dL_law_487 : decode cL_law 487 = .ok (.aload_n 0, 1) := eL_law_296.2.2.2.2.2.2.2
theorem eL_law_304 : (decode cL_law 488 = .ok (.iload_n 3, 1)) ∧ (decode cL_law 489 = .ok (.iconst 2, 1)) ∧ (decode cL_law 490 = .ok (.iadd, 1)) ∧ (decode cL_law 491 = .ok (.iaload, 1)) ∧ (decode cL_law 492 = .ok (.aload_n 0, 1)) ∧ (decode cL_law 493 = .ok (.iload_n 3, 1)) ∧ (decode cL_law 494 = .ok (.iconst 3, 1)) ∧ (decode cL_law 495 = .ok (.iadd, 1)) := by decide +kernel
theorem dL_law_488 : decode cL_law 488 = .ok (.iload_n 3, 1) := eL_law_304.1
theorem dL_law_489 : decode cL_law 489 = .ok (.iconst 2, 1) := eL_law_304.2.1
theorem dL_law_490 : decode cL_law 490 = .ok (.iadd, 1) := eL_law_304.2.2.1
theorem dL_law_491 : decode cL_law 491 = .ok (.iaload, 1) := eL_law_304.2.2.2.1
theorem dL_law_492 : decode cL_law 492 = .ok (.aload_n 0, 1) := eL_law_304.2.2.2.2.1
theorem dL_law_493 : decode cL_law 493 = .ok (.iload_n 3, 1) := eL_law_304.2.2.2.2.2.1
theorem dL_law_494 : decode cL_law 494 = .ok (.iconst 3, 1) := eL_law_304.2.2.2.2.2.2.1
theorem dL_law_495 : decode cL_law 495 = .ok (.iadd, 1) := eL_law_304.2.2.2.2.2.2.2
theorem eL_law_312 : (decode cL_law 496 = .ok (.iaload, 1)) ∧ (decode cL_law 497 = .ok (.aload_n 0, 1)) ∧ (decode cL_law 498 = .ok (.iload_n 3, 1)) ∧ (decode cL_law 499 = .ok (.iconst 4, 1)) ∧ (decode cL_law 500 = .ok (.iadd, 1)) ∧ (decode cL_law 501 = .ok (.iaload, 1)) ∧ (decode cL_law 502 = .ok (.invokevirtual 42, 3)) ∧ (decode cL_law 505 = .ok (.pop, 1)) := by decide +kernel
theorem dL_law_496 : decode cL_law 496 = .ok (.iaload, 1) := eL_law_312.1
theorem dL_law_497 : decode cL_law 497 = .ok (.aload_n 0, 1) := eL_law_312.2.1
theorem dL_law_498 : decode cL_law 498 = .ok (.iload_n 3, 1) := eL_law_312.2.2.1
theorem dL_law_499 : decode cL_law 499 = .ok (.iconst 4, 1) := eL_law_312.2.2.2.1
theorem dL_law_500 : decode cL_law 500 = .ok (.iadd, 1) := eL_law_312.2.2.2.2.1
theorem dL_law_501 : decode cL_law 501 = .ok (.iaload, 1) := eL_law_312.2.2.2.2.2.1
theorem dL_law_502 : decode cL_law 502 = .ok (.invokevirtual 42, 3) := eL_law_312.2.2.2.2.2.2.1
theorem dL_law_505 : decode cL_law 505 = .ok (.pop, 1) := eL_law_312.2.2.2.2.2.2.2
theorem eL_law_320 : (decode cL_law 506 = .ok (.goto 662, 3)) ∧ (decode cL_law 509 = .ok (.aload_n 1, 1)) ∧ (decode cL_law 510 = .ok (.aload_n 0, 1)) ∧ (decode cL_law 511 = .ok (.iload_n 3, 1)) ∧ (decode cL_law 512 = .ok (.iconst 1, 1)) ∧ (decode cL_law 513 = .ok (.iadd, 1)) ∧ (decode cL_law 514 = .ok (.iaload, 1)) ∧ (decode cL_law 515 = .ok (.invokevirtual 43, 3)) := by decide +kernel
theorem dL_law_506 : decode cL_law 506 = .ok (.goto 662, 3) := eL_law_320.1
theorem dL_law_509 : decode cL_law 509 = .ok (.aload_n 1, 1) := eL_law_320.2.1
theorem dL_law_510 : decode cL_law 510 = .ok (.aload_n 0, 1) := eL_law_320.2.2.1
theorem dL_law_511 : decode cL_law 511 = .ok (.iload_n 3, 1) := eL_law_320.2.2.2.1
theorem dL_law_512 : decode cL_law 512 = .ok (.iconst 1, 1) := eL_law_320.2.2.2.2.1
theorem dL_law_513 : decode cL_law 513 = .ok (.iadd, 1) := eL_law_320.2.2.2.2.2.1
theorem dL_law_514 : decode cL_law 514 = .ok (.iaload, 1) := eL_law_320.2.2.2.2.2.2.1
theorem dL_law_515 : decode cL_law 515 = .ok (.invokevirtual 43, 3) := eL_law_320.2.2.2.2.2.2.2
theorem eL_law_328 : (decode cL_law 518 = .ok (.pop, 1)) ∧ (decode cL_law 519 = .ok (.aload_n 2, 1)) ∧ (decode cL_law 520 = .ok (.aload_n 0, 1)) ∧ (decode cL_law 521 = .ok (.iload_n 3, 1)) ∧ (decode cL_law 522 = .ok (.iconst 1, 1)) ∧ (decode cL_law 523 = .ok (.iadd, 1)) ∧ (decode cL_law 524 = .ok (.iaload, 1)) ∧ (decode cL_law 525 = .ok (.invokevirtual 47, 3)) := by decide +kernel
theorem dL_law_518 : decode cL_law 518 = .ok (.pop, 1) := eL_law_328.1
theorem dL_law_519 : decode cL_law 519 = .ok (.aload_n 2, 1) := eL_law_328.2.1
theorem dL_law_520 : decode cL_law 520 = .ok (.aload_n 0, 1) := eL_law_328.2.2.1
theorem dL_law_521 : decode cL_law 521 = .ok (.iload_n 3, 1) := eL_law_328.2.2.2.1
theorem dL_law_522 : decode cL_law 522 = .ok (.iconst 1, 1) := eL_law_328.2.2.2.2.1
theorem dL_law_523 : decode cL_law 523 = .ok (.iadd, 1) := eL_law_328.2.2.2.2.2.1
theorem dL_law_524 : decode cL_law 524 = .ok (.iaload, 1) := eL_law_328.2.2.2.2.2.2.1
theorem dL_law_525 : decode cL_law 525 = .ok (.invokevirtual 47, 3) := eL_law_328.2.2.2.2.2.2.2
theorem eL_law_336 : (decode cL_law 528 = .ok (.pop, 1)) ∧ (decode cL_law 529 = .ok (.goto 639, 3)) ∧ (decode cL_law 532 = .ok (.aload_n 1, 1)) ∧ (decode cL_law 533 = .ok (.aload_n 0, 1)) ∧ (decode cL_law 534 = .ok (.iload_n 3, 1)) ∧ (decode cL_law 535 = .ok (.iconst 1, 1)) ∧ (decode cL_law 536 = .ok (.iadd, 1)) ∧ (decode cL_law 537 = .ok (.iaload, 1)) := by decide +kernel
theorem dL_law_528 : decode cL_law 528 = .ok (.pop, 1) := eL_law_336.1
theorem dL_law_529 : decode cL_law 529 = .ok (.goto 639, 3) := eL_law_336.2.1
theorem dL_law_532 : decode cL_law 532 = .ok (.aload_n 1, 1) := eL_law_336.2.2.1
theorem dL_law_533 : decode cL_law 533 = .ok (.aload_n 0, 1) := eL_law_336.2.2.2.1
theorem dL_law_534 : decode cL_law 534 = .ok (.iload_n 3, 1) := eL_law_336.2.2.2.2.1
theorem dL_law_535 : decode cL_law 535 = .ok (.iconst 1, 1) := eL_law_336.2.2.2.2.2.1
theorem dL_law_536 : decode cL_law 536 = .ok (.iadd, 1) := eL_law_336.2.2.2.2.2.2.1
theorem dL_law_537 : decode cL_law 537 = .ok (.iaload, 1) := eL_law_336.2.2.2.2.2.2.2
theorem eL_law_344 : (decode cL_law 538 = .ok (.aload_n 0, 1)) ∧ (decode cL_law 539 = .ok (.iload_n 3, 1)) ∧ (decode cL_law 540 = .ok (.iconst 2, 1)) ∧ (decode cL_law 541 = .ok (.iadd, 1)) ∧ (decode cL_law 542 = .ok (.iaload, 1)) ∧ (decode cL_law 543 = .ok (.invokevirtual 48, 3)) ∧ (decode cL_law 546 = .ok (.pop, 1)) ∧ (decode cL_law 547 = .ok (.aload_n 2, 1)) := by decide +kernel
theorem dL_law_538 : decode cL_law 538 = .ok (.aload_n 0, 1) := eL_law_344.1
theorem dL_law_539 : decode cL_law 539 = .ok (.iload_n 3, 1) := eL_law_344.2.1
theorem dL_law_540 : decode cL_law 540 = .ok (.iconst 2, 1) := eL_law_344.2.2.1
theorem dL_law_541 : decode cL_law 541 = .ok (.iadd, 1) := eL_law_344.2.2.2.1
theorem dL_law_542 : decode cL_law 542 = .ok (.iaload, 1) := eL_law_344.2.2.2.2.1
theorem dL_law_543 : decode cL_law 543 = .ok (.invokevirtual 48, 3) := eL_law_344.2.2.2.2.2.1
theorem dL_law_546 : decode cL_law 546 = .ok (.pop, 1) := eL_law_344.2.2.2.2.2.2.1
theorem dL_law_547 : decode cL_law 547 = .ok (.aload_n 2, 1) := eL_law_344.2.2.2.2.2.2.2
theorem eL_law_352 : (decode cL_law 548 = .ok (.aload_n 0, 1)) ∧ (decode cL_law 549 = .ok (.iload_n 3, 1)) ∧ (decode cL_law 550 = .ok (.iconst 1, 1)) ∧ (decode cL_law 551 = .ok (.iadd, 1)) ∧ (decode cL_law 552 = .ok (.iaload, 1)) ∧ (decode cL_law 553 = .ok (.aload_n 0, 1)) ∧ (decode cL_law 554 = .ok (.iload_n 3, 1)) ∧ (decode cL_law 555 = .ok (.iconst 2, 1)) := by decide +kernel
theorem dL_law_548 : decode cL_law 548 = .ok (.aload_n 0, 1) := eL_law_352.1
theorem dL_law_549 : decode cL_law 549 = .ok (.iload_n 3, 1) := eL_law_352.2.1
theorem dL_law_550 : decode cL_law 550 = .ok (.iconst 1, 1) := eL_law_352.2.2.1
theorem dL_law_551 : decode cL_law 551 = .ok (.iadd, 1) := eL_law_352.2.2.2.1
theorem dL_law_552 : decode cL_law 552 = .ok (.iaload, 1) := eL_law_352.2.2.2.2.1
theorem dL_law_553 : decode cL_law 553 = .ok (.aload_n 0, 1) := eL_law_352.2.2.2.2.2.1
theorem dL_law_554 : decode cL_law 554 = .ok (.iload_n 3, 1) := eL_law_352.2.2.2.2.2.2.1
theorem dL_law_555 : decode cL_law 555 = .ok (.iconst 2, 1) := eL_law_352.2.2.2.2.2.2.2
theorem eL_law_360 : (decode cL_law 556 = .ok (.iadd, 1)) ∧ (decode cL_law 557 = .ok (.iaload, 1)) ∧ (decode cL_law 558 = .ok (.invokevirtual 52, 3)) ∧ (decode cL_law 561 = .ok (.pop, 1)) ∧ (decode cL_law 562 = .ok (.goto 606, 3)) ∧ (decode cL_law 565 = .ok (.aload_n 1, 1)) ∧ (decode cL_law 566 = .ok (.aload_n 0, 1)) ∧ (decode cL_law 567 = .ok (.iload_n 3, 1)) := by decide +kernel
theorem dL_law_556 : decode cL_law 556 = .ok (.iadd, 1) := eL_law_360.1
theorem dL_law_557 : decode cL_law 557 = .ok (.iaload, 1) := eL_law_360.2.1
theorem dL_law_558 : decode cL_law 558 = .ok (.invokevirtual 52, 3) := eL_law_360.2.2.1
theorem dL_law_561 : decode cL_law 561 = .ok (.pop, 1) := eL_law_360.2.2.2.1
theorem dL_law_562 : decode cL_law 562 = .ok (.goto 606, 3) := eL_law_360.2.2.2.2.1
theorem dL_law_565 : decode cL_law 565 = .ok (.aload_n 1, 1) := eL_law_360.2.2.2.2.2.1
theorem dL_law_566 : decode cL_law 566 = .ok (.aload_n 0, 1) := eL_law_360.2.2.2.2.2.2.1
theorem dL_law_567 : decode cL_law 567 = .ok (.iload_n 3, 1) := eL_law_360.2.2.2.2.2.2.2
theorem eL_law_368 : (decode cL_law 568 = .ok (.iconst 1, 1)) ∧ (decode cL_law 569 = .ok (.iadd, 1)) ∧ (decode cL_law 570 = .ok (.iaload, 1)) ∧ (decode cL_law 571 = .ok (.aload_n 0, 1)) ∧ (decode cL_law 572 = .ok (.iload_n 3, 1)) ∧ (decode cL_law 573 = .ok (.iconst 2, 1)) ∧ (decode cL_law 574 = .ok (.iadd, 1)) ∧ (decode cL_law 575 = .ok (.iaload, 1)) := by decide +kernel
theorem dL_law_568 : decode cL_law 568 = .ok (.iconst 1, 1) := eL_law_368.1
theorem dL_law_569 : decode cL_law 569 = .ok (.iadd, 1) := eL_law_368.2.1
theorem dL_law_570 : decode cL_law 570 = .ok (.iaload, 1) := eL_law_368.2.2.1
theorem dL_law_571 : decode cL_law 571 = .ok (.aload_n 0, 1) := eL_law_368.2.2.2.1
theorem dL_law_572 : decode cL_law 572 = .ok (.iload_n 3, 1) := eL_law_368.2.2.2.2.1
theorem dL_law_573 : decode cL_law 573 = .ok (.iconst 2, 1) := eL_law_368.2.2.2.2.2.1
theorem dL_law_574 : decode cL_law 574 = .ok (.iadd, 1) := eL_law_368.2.2.2.2.2.2.1
theorem dL_law_575 : decode cL_law 575 = .ok (.iaload, 1) := eL_law_368.2.2.2.2.2.2.2
theorem eL_law_376 : (decode cL_law 576 = .ok (.invokevirtual 53, 3)) ∧ (decode cL_law 579 = .ok (.pop, 1)) ∧ (decode cL_law 580 = .ok (.aload_n 2, 1)) ∧ (decode cL_law 581 = .ok (.aload_n 0, 1)) ∧ (decode cL_law 582 = .ok (.iload_n 3, 1)) ∧ (decode cL_law 583 = .ok (.iconst 1, 1)) ∧ (decode cL_law 584 = .ok (.iadd, 1)) ∧ (decode cL_law 585 = .ok (.iaload, 1)) := by decide +kernel
theorem dL_law_576 : decode cL_law 576 = .ok (.invokevirtual 53, 3) := eL_law_376.1
theorem dL_law_579 : decode cL_law 579 = .ok (.pop, 1) := eL_law_376.2.1
theorem dL_law_580 : decode cL_law 580 = .ok (.aload_n 2, 1) := eL_law_376.2.2.1
theorem dL_law_581 : decode cL_law 581 = .ok (.aload_n 0, 1) := eL_law_376.2.2.2.1
theorem dL_law_582 : decode cL_law 582 = .ok (.iload_n 3, 1) := eL_law_376.2.2.2.2.1
theorem dL_law_583 : decode cL_law 583 = .ok (.iconst 1, 1) := eL_law_376.2.2.2.2.2.1
theorem dL_law_584 : decode cL_law 584 = .ok (.iadd, 1) := eL_law_376.2.2.2.2.2.2.1
theorem dL_law_585 : decode cL_law 585 = .ok (.iaload, 1) := eL_law_376.2.2.2.2.2.2.2
theorem eL_law_384 : (decode cL_law 586 = .ok (.aload_n 0, 1)) ∧ (decode cL_law 587 = .ok (.iload_n 3, 1)) ∧ (decode cL_law 588 = .ok (.iconst 2, 1)) ∧ (decode cL_law 589 = .ok (.iadd, 1)) ∧ (decode cL_law 590 = .ok (.iaload, 1)) ∧ (decode cL_law 591 = .ok (.invokevirtual 56, 3)) ∧ (decode cL_law 594 = .ok (.pop, 1)) ∧ (decode cL_law 595 = .ok (.goto 573, 3)) := by decide +kernel
theorem dL_law_586 : decode cL_law 586 = .ok (.aload_n 0, 1) := eL_law_384.1
theorem dL_law_587 : decode cL_law 587 = .ok (.iload_n 3, 1) := eL_law_384.2.1
theorem dL_law_588 : decode cL_law 588 = .ok (.iconst 2, 1) := eL_law_384.2.2.1
theorem dL_law_589 : decode cL_law 589 = .ok (.iadd, 1) := eL_law_384.2.2.2.1
theorem dL_law_590 : decode cL_law 590 = .ok (.iaload, 1) := eL_law_384.2.2.2.2.1
theorem dL_law_591 : decode cL_law 591 = .ok (.invokevirtual 56, 3) := eL_law_384.2.2.2.2.2.1
theorem dL_law_594 : decode cL_law 594 = .ok (.pop, 1) := eL_law_384.2.2.2.2.2.2.1
theorem dL_law_595 : decode cL_law 595 = .ok (.goto 573, 3) := eL_law_384.2.2.2.2.2.2.2
theorem eL_law_392 : (decode cL_law 598 = .ok (.aload_n 1, 1)) ∧ (decode cL_law 599 = .ok (.invokevirtual 57, 3)) ∧ (decode cL_law 602 = .ok (.pop, 1)) ∧ (decode cL_law 603 = .ok (.aload_n 2, 1)) ∧ (decode cL_law 604 = .ok (.invokevirtual 61, 3)) ∧ (decode cL_law 607 = .ok (.pop, 1)) ∧ (decode cL_law 608 = .ok (.goto 560, 3)) ∧ (decode cL_law 611 = .ok (.aload_n 1, 1)) := by decide +kernel
theorem dL_law_598 : decode cL_law 598 = .ok (.aload_n 1, 1) := eL_law_392.1
theorem dL_law_599 : decode cL_law 599 = .ok (.invokevirtual 57, 3) := eL_law_392.2.1
theorem dL_law_602 : decode cL_law 602 = .ok (.pop, 1) := eL_law_392.2.2.1
theorem dL_law_603 : decode cL_law 603 = .ok (.aload_n 2, 1) := eL_law_392.2.2.2.1
theorem dL_law_604 : decode cL_law 604 = .ok (.invokevirtual 61, 3) := eL_law_392.2.2.2.2.1
theorem dL_law_607 : decode cL_law 607 = .ok (.pop, 1) := eL_law_392.2.2.2.2.2.1
theorem dL_law_608 : decode cL_law 608 = .ok (.goto 560, 3) := eL_law_392.2.2.2.2.2.2.1
theorem dL_law_611 : decode cL_law 611 = .ok (.aload_n 1, 1) := eL_law_392.2.2.2.2.2.2.2
theorem eL_law_400 : (decode cL_law 612 = .ok (.aload_n 0, 1)) ∧ (decode cL_law 613 = .ok (.iload_n 3, 1)) ∧ (decode cL_law 614 = .ok (.iconst 1, 1)) ∧ (decode cL_law 615 = .ok (.iadd, 1)) ∧ (decode cL_law 616 = .ok (.iaload, 1)) ∧ (decode cL_law 617 = .ok (.invokevirtual 62, 3)) ∧ (decode cL_law 620 = .ok (.pop, 1)) ∧ (decode cL_law 621 = .ok (.aload_n 2, 1)) := by decide +kernel
theorem dL_law_612 : decode cL_law 612 = .ok (.aload_n 0, 1) := eL_law_400.1
theorem dL_law_613 : decode cL_law 613 = .ok (.iload_n 3, 1) := eL_law_400.2.1
theorem dL_law_614 : decode cL_law 614 = .ok (.iconst 1, 1) := eL_law_400.2.2.1
theorem dL_law_615 : decode cL_law 615 = .ok (.iadd, 1) := eL_law_400.2.2.2.1
theorem dL_law_616 : decode cL_law 616 = .ok (.iaload, 1) := eL_law_400.2.2.2.2.1
theorem dL_law_617 : decode cL_law 617 = .ok (.invokevirtual 62, 3) := eL_law_400.2.2.2.2.2.1
theorem dL_law_620 : decode cL_law 620 = .ok (.pop, 1) := eL_law_400.2.2.2.2.2.2.1
theorem dL_law_621 : decode cL_law 621 = .ok (.aload_n 2, 1) := eL_law_400.2.2.2.2.2.2.2
theorem eL_law_408 : (decode cL_law 622 = .ok (.aload_n 0, 1)) ∧ (decode cL_law 623 = .ok (.iload_n 3, 1)) ∧ (decode cL_law 624 = .ok (.iconst 1, 1)) ∧ (decode cL_law 625 = .ok (.iadd, 1)) ∧ (decode cL_law 626 = .ok (.iaload, 1)) ∧ (decode cL_law 627 = .ok (.invokevirtual 65, 3)) ∧ (decode cL_law 630 = .ok (.pop, 1)) ∧ (decode cL_law 631 = .ok (.goto 537, 3)) := by decide +kernel
theorem dL_law_622 : decode cL_law 622 = .ok (.aload_n 0, 1) := eL_law_408.1
theorem dL_law_623 : decode cL_law 623 = .ok (.iload_n 3, 1) := eL_law_408.2.1
theorem dL_law_624 : decode cL_law 624 = .ok (.iconst 1, 1) := eL_law_408.2.2.1
theorem dL_law_625 : decode cL_law 625 = .ok (.iadd, 1) := eL_law_408.2.2.2.1
theorem dL_law_626 : decode cL_law 626 = .ok (.iaload, 1) := eL_law_408.2.2.2.2.1
theorem dL_law_627 : decode cL_law 627 = .ok (.invokevirtual 65, 3) := eL_law_408.2.2.2.2.2.1
theorem dL_law_630 : decode cL_law 630 = .ok (.pop, 1) := eL_law_408.2.2.2.2.2.2.1
theorem dL_law_631 : decode cL_law 631 = .ok (.goto 537, 3) := eL_law_408.2.2.2.2.2.2.2
theorem eL_law_416 : (decode cL_law 634 = .ok (.aload_n 1, 1)) ∧ (decode cL_law 635 = .ok (.invokevirtual 66, 3)) ∧ (decode cL_law 638 = .ok (.pop, 1)) ∧ (decode cL_law 639 = .ok (.aload_n 2, 1)) ∧ (decode cL_law 640 = .ok (.invokevirtual 69, 3)) ∧ (decode cL_law 643 = .ok (.pop, 1)) ∧ (decode cL_law 644 = .ok (.goto 524, 3)) ∧ (decode cL_law 647 = .ok (.aload_n 1, 1)) := by decide +kernel
theorem dL_law_634 : decode cL_law 634 = .ok (.aload_n 1, 1) := eL_law_416.1
theorem dL_law_635 : decode cL_law 635 = .ok (.invokevirtual 66, 3) := eL_law_416.2.1
theorem dL_law_638 : decode cL_law 638 = .ok (.pop, 1) := eL_law_416.2.2.1
theorem dL_law_639 : decode cL_law 639 = .ok (.aload_n 2, 1) := eL_law_416.2.2.2.1
theorem dL_law_640 : decode cL_law 640 = .ok (.invokevirtual 69, 3) := eL_law_416.2.2.2.2.1
theorem dL_law_643 : decode cL_law 643 = .ok (.pop, 1) := eL_law_416.2.2.2.2.2.1
theorem dL_law_644 : decode cL_law 644 = .ok (.goto 524, 3) := eL_law_416.2.2.2.2.2.2.1
theorem dL_law_647 : decode cL_law 647 = .ok (.aload_n 1, 1) := eL_law_416.2.2.2.2.2.2.2
theorem eL_law_424 : (decode cL_law 648 = .ok (.aload_n 0, 1)) ∧ (decode cL_law 649 = .ok (.iload_n 3, 1)) ∧ (decode cL_law 650 = .ok (.iconst 1, 1)) ∧ (decode cL_law 651 = .ok (.iadd, 1)) ∧ (decode cL_law 652 = .ok (.iaload, 1)) ∧ (decode cL_law 653 = .ok (.aload_n 0, 1)) ∧ (decode cL_law 654 = .ok (.iload_n 3, 1)) ∧ (decode cL_law 655 = .ok (.iconst 2, 1)) := by decide +kernel
theorem dL_law_648 : decode cL_law 648 = .ok (.aload_n 0, 1) := eL_law_424.1
theorem dL_law_649 : decode cL_law 649 = .ok (.iload_n 3, 1) := eL_law_424.2.1
theorem dL_law_650 : decode cL_law 650 = .ok (.iconst 1, 1) := eL_law_424.2.2.1
theorem dL_law_651 : decode cL_law 651 = .ok (.iadd, 1) := eL_law_424.2.2.2.1
theorem dL_law_652 : decode cL_law 652 = .ok (.iaload, 1) := eL_law_424.2.2.2.2.1
theorem dL_law_653 : decode cL_law 653 = .ok (.aload_n 0, 1) := eL_law_424.2.2.2.2.2.1
theorem dL_law_654 : decode cL_law 654 = .ok (.iload_n 3, 1) := eL_law_424.2.2.2.2.2.2.1
theorem dL_law_655 : decode cL_law 655 = .ok (.iconst 2, 1) := eL_law_424.2.2.2.2.2.2.2
theorem eL_law_432 : (decode cL_law 656 = .ok (.iadd, 1)) ∧ (decode cL_law 657 = .ok (.iaload, 1)) ∧ (decode cL_law 658 = .ok (.aload_n 0, 1)) ∧ (decode cL_law 659 = .ok (.iload_n 3, 1)) ∧ (decode cL_law 660 = .ok (.iconst 3, 1)) ∧ (decode cL_law 661 = .ok (.iadd, 1)) ∧ (decode cL_law 662 = .ok (.iaload, 1)) ∧ (decode cL_law 663 = .ok (.invokevirtual 70, 3)) := by decide +kernel
theorem dL_law_656 : decode cL_law 656 = .ok (.iadd, 1) := eL_law_432.1
theorem dL_law_657 : decode cL_law 657 = .ok (.iaload, 1) := eL_law_432.2.1
theorem dL_law_658 : decode cL_law 658 = .ok (.aload_n 0, 1) := eL_law_432.2.2.1
theorem dL_law_659 : decode cL_law 659 = .ok (.iload_n 3, 1) := eL_law_432.2.2.2.1
theorem dL_law_660 : decode cL_law 660 = .ok (.iconst 3, 1) := eL_law_432.2.2.2.2.1
theorem dL_law_661 : decode cL_law 661 = .ok (.iadd, 1) := eL_law_432.2.2.2.2.2.1
theorem dL_law_662 : decode cL_law 662 = .ok (.iaload, 1) := eL_law_432.2.2.2.2.2.2.1
theorem dL_law_663 : decode cL_law 663 = .ok (.invokevirtual 70, 3) := eL_law_432.2.2.2.2.2.2.2
theorem eL_law_440 : (decode cL_law 666 = .ok (.pop, 1)) ∧ (decode cL_law 667 = .ok (.aload_n 2, 1)) ∧ (decode cL_law 668 = .ok (.aload_n 0, 1)) ∧ (decode cL_law 669 = .ok (.iload_n 3, 1)) ∧ (decode cL_law 670 = .ok (.iconst 1, 1)) ∧ (decode cL_law 671 = .ok (.iadd, 1)) ∧ (decode cL_law 672 = .ok (.iaload, 1)) ∧ (decode cL_law 673 = .ok (.aload_n 0, 1)) := by decide +kernel
theorem dL_law_666 : decode cL_law 666 = .ok (.pop, 1) := eL_law_440.1
theorem dL_law_667 : decode cL_law 667 = .ok (.aload_n 2, 1) := eL_law_440.2.1
theorem dL_law_668 : decode cL_law 668 = .ok (.aload_n 0, 1) := eL_law_440.2.2.1
theorem dL_law_669 : decode cL_law 669 = .ok (.iload_n 3, 1) := eL_law_440.2.2.2.1
theorem dL_law_670 : decode cL_law 670 = .ok (.iconst 1, 1) := eL_law_440.2.2.2.2.1
theorem dL_law_671 : decode cL_law 671 = .ok (.iadd, 1) := eL_law_440.2.2.2.2.2.1
theorem dL_law_672 : decode cL_law 672 = .ok (.iaload, 1) := eL_law_440.2.2.2.2.2.2.1
theorem dL_law_673 : decode cL_law 673 = .ok (.aload_n 0, 1) := eL_law_440.2.2.2.2.2.2.2
theorem eL_law_448 : (decode cL_law 674 = .ok (.iload_n 3, 1)) ∧ (decode cL_law 675 = .ok (.iconst 2, 1)) ∧ (decode cL_law 676 = .ok (.iadd, 1)) ∧ (decode cL_law 677 = .ok (.iaload, 1)) ∧ (decode cL_law 678 = .ok (.aload_n 0, 1)) ∧ (decode cL_law 679 = .ok (.iload_n 3, 1)) ∧ (decode cL_law 680 = .ok (.iconst 3, 1)) ∧ (decode cL_law 681 = .ok (.iadd, 1)) := by decide +kernel
theorem dL_law_674 : decode cL_law 674 = .ok (.iload_n 3, 1) := eL_law_448.1
theorem dL_law_675 : decode cL_law 675 = .ok (.iconst 2, 1) := eL_law_448.2.1
theorem dL_law_676 : decode cL_law 676 = .ok (.iadd, 1) := eL_law_448.2.2.1
theorem dL_law_677 : decode cL_law 677 = .ok (.iaload, 1) := eL_law_448.2.2.2.1
theorem dL_law_678 : decode cL_law 678 = .ok (.aload_n 0, 1) := eL_law_448.2.2.2.2.1
theorem dL_law_679 : decode cL_law 679 = .ok (.iload_n 3, 1) := eL_law_448.2.2.2.2.2.1
theorem dL_law_680 : decode cL_law 680 = .ok (.iconst 3, 1) := eL_law_448.2.2.2.2.2.2.1
theorem dL_law_681 : decode cL_law 681 = .ok (.iadd, 1) := eL_law_448.2.2.2.2.2.2.2
theorem eL_law_456 : (decode cL_law 682 = .ok (.iaload, 1)) ∧ (decode cL_law 683 = .ok (.invokevirtual 73, 3)) ∧ (decode cL_law 686 = .ok (.pop, 1)) ∧ (decode cL_law 687 = .ok (.goto 481, 3)) ∧ (decode cL_law 690 = .ok (.aload_n 1, 1)) ∧ (decode cL_law 691 = .ok (.aload_n 0, 1)) ∧ (decode cL_law 692 = .ok (.iload_n 3, 1)) ∧ (decode cL_law 693 = .ok (.iconst 1, 1)) := by decide +kernel
theorem dL_law_682 : decode cL_law 682 = .ok (.iaload, 1) := eL_law_456.1
theorem dL_law_683 : decode cL_law 683 = .ok (.invokevirtual 73, 3) := eL_law_456.2.1
theorem dL_law_686 : decode cL_law 686 = .ok (.pop, 1) := eL_law_456.2.2.1
theorem dL_law_687 : decode cL_law 687 = .ok (.goto 481, 3) := eL_law_456.2.2.2.1
theorem dL_law_690 : decode cL_law 690 = .ok (.aload_n 1, 1) := eL_law_456.2.2.2.2.1
theorem dL_law_691 : decode cL_law 691 = .ok (.aload_n 0, 1) := eL_law_456.2.2.2.2.2.1
theorem dL_law_692 : decode cL_law 692 = .ok (.iload_n 3, 1) := eL_law_456.2.2.2.2.2.2.1
theorem dL_law_693 : decode cL_law 693 = .ok (.iconst 1, 1) := eL_law_456.2.2.2.2.2.2.2
theorem eL_law_464 : (decode cL_law 694 = .ok (.iadd, 1)) ∧ (decode cL_law 695 = .ok (.iaload, 1)) ∧ (decode cL_law 696 = .ok (.invokevirtual 74, 3)) ∧ (decode cL_law 699 = .ok (.pop, 1)) ∧ (decode cL_law 700 = .ok (.aload_n 2, 1)) ∧ (decode cL_law 701 = .ok (.aload_n 0, 1)) ∧ (decode cL_law 702 = .ok (.iload_n 3, 1)) ∧ (decode cL_law 703 = .ok (.iconst 1, 1)) := by decide +kernel
theorem dL_law_694 : decode cL_law 694 = .ok (.iadd, 1) := eL_law_464.1
theorem dL_law_695 : decode cL_law 695 = .ok (.iaload, 1) := eL_law_464.2.1
theorem dL_law_696 : decode cL_law 696 = .ok (.invokevirtual 74, 3) := eL_law_464.2.2.1
theorem dL_law_699 : decode cL_law 699 = .ok (.pop, 1) := eL_law_464.2.2.2.1
theorem dL_law_700 : decode cL_law 700 = .ok (.aload_n 2, 1) := eL_law_464.2.2.2.2.1
theorem dL_law_701 : decode cL_law 701 = .ok (.aload_n 0, 1) := eL_law_464.2.2.2.2.2.1
theorem dL_law_702 : decode cL_law 702 = .ok (.iload_n 3, 1) := eL_law_464.2.2.2.2.2.2.1
theorem dL_law_703 : decode cL_law 703 = .ok (.iconst 1, 1) := eL_law_464.2.2.2.2.2.2.2
theorem eL_law_472 : (decode cL_law 704 = .ok (.iadd, 1)) ∧ (decode cL_law 705 = .ok (.iaload, 1)) ∧ (decode cL_law 706 = .ok (.invokevirtual 77, 3)) ∧ (decode cL_law 709 = .ok (.pop, 1)) ∧ (decode cL_law 710 = .ok (.goto 458, 3)) ∧ (decode cL_law 713 = .ok (.aload_n 1, 1)) ∧ (decode cL_law 714 = .ok (.aload_n 0, 1)) ∧ (decode cL_law 715 = .ok (.iload_n 3, 1)) := by decide +kernel
theorem dL_law_704 : decode cL_law 704 = .ok (.iadd, 1) := eL_law_472.1
theorem dL_law_705 : decode cL_law 705 = .ok (.iaload, 1) := eL_law_472.2.1
theorem dL_law_706 : decode cL_law 706 = .ok (.invokevirtual 77, 3) := eL_law_472.2.2.1
theorem dL_law_709 : decode cL_law 709 = .ok (.pop, 1) := eL_law_472.2.2.2.1
theorem dL_law_710 : decode cL_law 710 = .ok (.goto 458, 3) := eL_law_472.2.2.2.2.1
theorem dL_law_713 : decode cL_law 713 = .ok (.aload_n 1, 1) := eL_law_472.2.2.2.2.2.1
theorem dL_law_714 : decode cL_law 714 = .ok (.aload_n 0, 1) := eL_law_472.2.2.2.2.2.2.1
theorem dL_law_715 : decode cL_law 715 = .ok (.iload_n 3, 1) := eL_law_472.2.2.2.2.2.2.2
theorem eL_law_480 : (decode cL_law 716 = .ok (.iconst 1, 1)) ∧ (decode cL_law 717 = .ok (.iadd, 1)) ∧ (decode cL_law 718 = .ok (.iaload, 1)) ∧ (decode cL_law 719 = .ok (.aload_n 0, 1)) ∧ (decode cL_law 720 = .ok (.iload_n 3, 1)) ∧ (decode cL_law 721 = .ok (.iconst 2, 1)) ∧ (decode cL_law 722 = .ok (.iadd, 1)) ∧ (decode cL_law 723 = .ok (.iaload, 1)) := by decide +kernel
theorem dL_law_716 : decode cL_law 716 = .ok (.iconst 1, 1) := eL_law_480.1
theorem dL_law_717 : decode cL_law 717 = .ok (.iadd, 1) := eL_law_480.2.1
theorem dL_law_718 : decode cL_law 718 = .ok (.iaload, 1) := eL_law_480.2.2.1
theorem dL_law_719 : decode cL_law 719 = .ok (.aload_n 0, 1) := eL_law_480.2.2.2.1
theorem dL_law_720 : decode cL_law 720 = .ok (.iload_n 3, 1) := eL_law_480.2.2.2.2.1
theorem dL_law_721 : decode cL_law 721 = .ok (.iconst 2, 1) := eL_law_480.2.2.2.2.2.1
theorem dL_law_722 : decode cL_law 722 = .ok (.iadd, 1) := eL_law_480.2.2.2.2.2.2.1
theorem dL_law_723 : decode cL_law 723 = .ok (.iaload, 1) := eL_law_480.2.2.2.2.2.2.2
theorem eL_law_488 : (decode cL_law 724 = .ok (.invokevirtual 78, 3)) ∧ (decode cL_law 727 = .ok (.pop, 1)) ∧ (decode cL_law 728 = .ok (.aload_n 2, 1)) ∧ (decode cL_law 729 = .ok (.aload_n 0, 1)) ∧ (decode cL_law 730 = .ok (.iload_n 3, 1)) ∧ (decode cL_law 731 = .ok (.iconst 1, 1)) ∧ (decode cL_law 732 = .ok (.iadd, 1)) ∧ (decode cL_law 733 = .ok (.iaload, 1)) := by decide +kernel
theorem dL_law_724 : decode cL_law 724 = .ok (.invokevirtual 78, 3) := eL_law_488.1
theorem dL_law_727 : decode cL_law 727 = .ok (.pop, 1) := eL_law_488.2.1
theorem dL_law_728 : decode cL_law 728 = .ok (.aload_n 2, 1) := eL_law_488.2.2.1
theorem dL_law_729 : decode cL_law 729 = .ok (.aload_n 0, 1) := eL_law_488.2.2.2.1
theorem dL_law_730 : decode cL_law 730 = .ok (.iload_n 3, 1) := eL_law_488.2.2.2.2.1
theorem dL_law_731 : decode cL_law 731 = .ok (.iconst 1, 1) := eL_law_488.2.2.2.2.2.1
theorem dL_law_732 : decode cL_law 732 = .ok (.iadd, 1) := eL_law_488.2.2.2.2.2.2.1
theorem dL_law_733 : decode cL_law 733 = .ok (.iaload, 1) := eL_law_488.2.2.2.2.2.2.2
theorem eL_law_496 : (decode cL_law 734 = .ok (.aload_n 0, 1)) ∧ (decode cL_law 735 = .ok (.iload_n 3, 1)) ∧ (decode cL_law 736 = .ok (.iconst 2, 1)) ∧ (decode cL_law 737 = .ok (.iadd, 1)) ∧ (decode cL_law 738 = .ok (.iaload, 1)) ∧ (decode cL_law 739 = .ok (.invokevirtual 81, 3)) ∧ (decode cL_law 742 = .ok (.pop, 1)) ∧ (decode cL_law 743 = .ok (.goto 425, 3)) := by decide +kernel
theorem dL_law_734 : decode cL_law 734 = .ok (.aload_n 0, 1) := eL_law_496.1
theorem dL_law_735 : decode cL_law 735 = .ok (.iload_n 3, 1) := eL_law_496.2.1
theorem dL_law_736 : decode cL_law 736 = .ok (.iconst 2, 1) := eL_law_496.2.2.1
theorem dL_law_737 : decode cL_law 737 = .ok (.iadd, 1) := eL_law_496.2.2.2.1
theorem dL_law_738 : decode cL_law 738 = .ok (.iaload, 1) := eL_law_496.2.2.2.2.1
theorem dL_law_739 : decode cL_law 739 = .ok (.invokevirtual 81, 3) := eL_law_496.2.2.2.2.2.1
theorem dL_law_742 : decode cL_law 742 = .ok (.pop, 1) := eL_law_496.2.2.2.2.2.2.1
theorem dL_law_743 : decode cL_law 743 = .ok (.goto 425, 3) := eL_law_496.2.2.2.2.2.2.2
theorem eL_law_504 : (decode cL_law 746 = .ok (.aload_n 1, 1)) ∧ (decode cL_law 747 = .ok (.aload_n 0, 1)) ∧ (decode cL_law 748 = .ok (.iload_n 3, 1)) ∧ (decode cL_law 749 = .ok (.iconst 1, 1)) ∧ (decode cL_law 750 = .ok (.iadd, 1)) ∧ (decode cL_law 751 = .ok (.iaload, 1)) ∧ (decode cL_law 752 = .ok (.aload_n 0, 1)) ∧ (decode cL_law 753 = .ok (.iload_n 3, 1)) := by decide +kernel
theorem dL_law_746 : decode cL_law 746 = .ok (.aload_n 1, 1) := eL_law_504.1
theorem dL_law_747 : decode cL_law 747 = .ok (.aload_n 0, 1) := eL_law_504.2.1
theorem dL_law_748 : decode cL_law 748 = .ok (.iload_n 3, 1) := eL_law_504.2.2.1
theorem dL_law_749 : decode cL_law 749 = .ok (.iconst 1, 1) := eL_law_504.2.2.2.1
theorem dL_law_750 : decode cL_law 750 = .ok (.iadd, 1) := eL_law_504.2.2.2.2.1
theorem dL_law_751 : decode cL_law 751 = .ok (.iaload, 1) := eL_law_504.2.2.2.2.2.1
theorem dL_law_752 : decode cL_law 752 = .ok (.aload_n 0, 1) := eL_law_504.2.2.2.2.2.2.1
theorem dL_law_753 : decode cL_law 753 = .ok (.iload_n 3, 1) := eL_law_504.2.2.2.2.2.2.2
theorem eL_law_512 : (decode cL_law 754 = .ok (.iconst 2, 1)) ∧ (decode cL_law 755 = .ok (.iadd, 1)) ∧ (decode cL_law 756 = .ok (.iaload, 1)) ∧ (decode cL_law 757 = .ok (.aload_n 0, 1)) ∧ (decode cL_law 758 = .ok (.iload_n 3, 1)) ∧ (decode cL_law 759 = .ok (.iconst 3, 1)) ∧ (decode cL_law 760 = .ok (.iadd, 1)) ∧ (decode cL_law 761 = .ok (.iaload, 1)) := by decide +kernel
theorem dL_law_754 : decode cL_law 754 = .ok (.iconst 2, 1) := eL_law_512.1
theorem dL_law_755 : decode cL_law 755 = .ok (.iadd, 1) := eL_law_512.2.1
theorem dL_law_756 : decode cL_law 756 = .ok (.iaload, 1) := eL_law_512.2.2.1
theorem dL_law_757 : decode cL_law 757 = .ok (.aload_n 0, 1) := eL_law_512.2.2.2.1
theorem dL_law_758 : decode cL_law 758 = .ok (.iload_n 3, 1) := eL_law_512.2.2.2.2.1
theorem dL_law_759 : decode cL_law 759 = .ok (.iconst 3, 1) := eL_law_512.2.2.2.2.2.1
theorem dL_law_760 : decode cL_law 760 = .ok (.iadd, 1) := eL_law_512.2.2.2.2.2.2.1
theorem dL_law_761 : decode cL_law 761 = .ok (.iaload, 1) := eL_law_512.2.2.2.2.2.2.2
theorem eL_law_520 : (decode cL_law 762 = .ok (.invokevirtual 82, 3)) ∧ (decode cL_law 765 = .ok (.pop, 1)) ∧ (decode cL_law 766 = .ok (.aload_n 2, 1)) ∧ (decode cL_law 767 = .ok (.aload_n 0, 1)) ∧ (decode cL_law 768 = .ok (.iload_n 3, 1)) ∧ (decode cL_law 769 = .ok (.iconst 1, 1)) ∧ (decode cL_law 770 = .ok (.iadd, 1)) ∧ (decode cL_law 771 = .ok (.iaload, 1)) := by decide +kernel
theorem dL_law_762 : decode cL_law 762 = .ok (.invokevirtual 82, 3) := eL_law_520.1
theorem dL_law_765 : decode cL_law 765 = .ok (.pop, 1) := eL_law_520.2.1
theorem dL_law_766 : decode cL_law 766 = .ok (.aload_n 2, 1) := eL_law_520.2.2.1
theorem dL_law_767 : decode cL_law 767 = .ok (.aload_n 0, 1) := eL_law_520.2.2.2.1
theorem dL_law_768 : decode cL_law 768 = .ok (.iload_n 3, 1) := eL_law_520.2.2.2.2.1
theorem dL_law_769 : decode cL_law 769 = .ok (.iconst 1, 1) := eL_law_520.2.2.2.2.2.1
theorem dL_law_770 : decode cL_law 770 = .ok (.iadd, 1) := eL_law_520.2.2.2.2.2.2.1
theorem dL_law_771 : decode cL_law 771 = .ok (.iaload, 1) := eL_law_520.2.2.2.2.2.2.2
theorem eL_law_528 : (decode cL_law 772 = .ok (.aload_n 0, 1)) ∧ (decode cL_law 773 = .ok (.iload_n 3, 1)) ∧ (decode cL_law 774 = .ok (.iconst 2, 1)) ∧ (decode cL_law 775 = .ok (.iadd, 1)) ∧ (decode cL_law 776 = .ok (.iaload, 1)) ∧ (decode cL_law 777 = .ok (.aload_n 0, 1)) ∧ (decode cL_law 778 = .ok (.iload_n 3, 1)) ∧ (decode cL_law 779 = .ok (.iconst 3, 1)) := by decide +kernel
theorem dL_law_772 : decode cL_law 772 = .ok (.aload_n 0, 1) := eL_law_528.1
theorem dL_law_773 : decode cL_law 773 = .ok (.iload_n 3, 1) := eL_law_528.2.1
theorem dL_law_774 : decode cL_law 774 = .ok (.iconst 2, 1) := eL_law_528.2.2.1
theorem dL_law_775 : decode cL_law 775 = .ok (.iadd, 1) := eL_law_528.2.2.2.1
theorem dL_law_776 : decode cL_law 776 = .ok (.iaload, 1) := eL_law_528.2.2.2.2.1
theorem dL_law_777 : decode cL_law 777 = .ok (.aload_n 0, 1) := eL_law_528.2.2.2.2.2.1
theorem dL_law_778 : decode cL_law 778 = .ok (.iload_n 3, 1) := eL_law_528.2.2.2.2.2.2.1
theorem dL_law_779 : decode cL_law 779 = .ok (.iconst 3, 1) := eL_law_528.2.2.2.2.2.2.2
theorem eL_law_536 : (decode cL_law 780 = .ok (.iadd, 1)) ∧ (decode cL_law 781 = .ok (.iaload, 1)) ∧ (decode cL_law 782 = .ok (.invokevirtual 85, 3)) ∧ (decode cL_law 785 = .ok (.pop, 1)) ∧ (decode cL_law 786 = .ok (.goto 382, 3)) ∧ (decode cL_law 789 = .ok (.aload_n 1, 1)) ∧ (decode cL_law 790 = .ok (.aload_n 0, 1)) ∧ (decode cL_law 791 = .ok (.iload_n 3, 1)) := by decide +kernel
theorem dL_law_780 : decode cL_law 780 = .ok (.iadd, 1) := eL_law_536.1
theorem dL_law_781 : decode cL_law 781 = .ok (.iaload, 1) := eL_law_536.2.1
theorem dL_law_782 : decode cL_law 782 = .ok (.invokevirtual 85, 3) := eL_law_536.2.2.1
theorem dL_law_785 : decode cL_law 785 = .ok (.pop, 1) := eL_law_536.2.2.2.1
theorem dL_law_786 : decode cL_law 786 = .ok (.goto 382, 3) := eL_law_536.2.2.2.2.1
theorem dL_law_789 : decode cL_law 789 = .ok (.aload_n 1, 1) := eL_law_536.2.2.2.2.2.1
theorem dL_law_790 : decode cL_law 790 = .ok (.aload_n 0, 1) := eL_law_536.2.2.2.2.2.2.1
theorem dL_law_791 : decode cL_law 791 = .ok (.iload_n 3, 1) := eL_law_536.2.2.2.2.2.2.2
theorem eL_law_544 : (decode cL_law 792 = .ok (.iconst 1, 1)) ∧ (decode cL_law 793 = .ok (.iadd, 1)) ∧ (decode cL_law 794 = .ok (.iaload, 1)) ∧ (decode cL_law 795 = .ok (.invokevirtual 86, 3)) ∧ (decode cL_law 798 = .ok (.pop, 1)) ∧ (decode cL_law 799 = .ok (.aload_n 2, 1)) ∧ (decode cL_law 800 = .ok (.aload_n 0, 1)) ∧ (decode cL_law 801 = .ok (.iload_n 3, 1)) := by decide +kernel
theorem dL_law_792 : decode cL_law 792 = .ok (.iconst 1, 1) := eL_law_544.1
theorem dL_law_793 : decode cL_law 793 = .ok (.iadd, 1) := eL_law_544.2.1
theorem dL_law_794 : decode cL_law 794 = .ok (.iaload, 1) := eL_law_544.2.2.1
theorem dL_law_795 : decode cL_law 795 = .ok (.invokevirtual 86, 3) := eL_law_544.2.2.2.1
theorem dL_law_798 : decode cL_law 798 = .ok (.pop, 1) := eL_law_544.2.2.2.2.1
theorem dL_law_799 : decode cL_law 799 = .ok (.aload_n 2, 1) := eL_law_544.2.2.2.2.2.1
theorem dL_law_800 : decode cL_law 800 = .ok (.aload_n 0, 1) := eL_law_544.2.2.2.2.2.2.1
theorem dL_law_801 : decode cL_law 801 = .ok (.iload_n 3, 1) := eL_law_544.2.2.2.2.2.2.2
theorem eL_law_552 : (decode cL_law 802 = .ok (.iconst 1, 1)) ∧ (decode cL_law 803 = .ok (.iadd, 1)) ∧ (decode cL_law 804 = .ok (.iaload, 1)) ∧ (decode cL_law 805 = .ok (.invokevirtual 89, 3)) ∧ (decode cL_law 808 = .ok (.pop, 1)) ∧ (decode cL_law 809 = .ok (.goto 359, 3)) ∧ (decode cL_law 812 = .ok (.aload_n 1, 1)) ∧ (decode cL_law 813 = .ok (.aload_n 0, 1)) := by decide +kernel
theorem dL_law_802 : decode cL_law 802 = .ok (.iconst 1, 1) := eL_law_552.1
theorem dL_law_803 : decode cL_law 803 = .ok (.iadd, 1) := eL_law_552.2.1
theorem dL_law_804 : decode cL_law 804 = .ok (.iaload, 1) := eL_law_552.2.2.1
theorem dL_law_805 : decode cL_law 805 = .ok (.invokevirtual 89, 3) := eL_law_552.2.2.2.1
theorem dL_law_808 : decode cL_law 808 = .ok (.pop, 1) := eL_law_552.2.2.2.2.1
theorem dL_law_809 : decode cL_law 809 = .ok (.goto 359, 3) := eL_law_552.2.2.2.2.2.1
theorem dL_law_812 : decode cL_law 812 = .ok (.aload_n 1, 1) := eL_law_552.2.2.2.2.2.2.1
theorem dL_law_813 : decode cL_law 813 = .ok (.aload_n 0, 1) := eL_law_552.2.2.2.2.2.2.2
theorem eL_law_560 : (decode cL_law 814 = .ok (.iload_n 3, 1)) ∧ (decode cL_law 815 = .ok (.iconst 1, 1)) ∧ (decode cL_law 816 = .ok (.iadd, 1)) ∧ (decode cL_law 817 = .ok (.iaload, 1)) ∧ (decode cL_law 818 = .ok (.aload_n 0, 1)) ∧ (decode cL_law 819 = .ok (.iload_n 3, 1)) ∧ (decode cL_law 820 = .ok (.iconst 2, 1)) ∧ (decode cL_law 821 = .ok (.iadd, 1)) := by decide +kernel
theorem dL_law_814 : decode cL_law 814 = .ok (.iload_n 3, 1) := eL_law_560.1
theorem dL_law_815 : decode cL_law 815 = .ok (.iconst 1, 1) := eL_law_560.2.1
theorem dL_law_816 : decode cL_law 816 = .ok (.iadd, 1) := eL_law_560.2.2.1
theorem dL_law_817 : decode cL_law 817 = .ok (.iaload, 1) := eL_law_560.2.2.2.1
theorem dL_law_818 : decode cL_law 818 = .ok (.aload_n 0, 1) := eL_law_560.2.2.2.2.1
theorem dL_law_819 : decode cL_law 819 = .ok (.iload_n 3, 1) := eL_law_560.2.2.2.2.2.1
theorem dL_law_820 : decode cL_law 820 = .ok (.iconst 2, 1) := eL_law_560.2.2.2.2.2.2.1
theorem dL_law_821 : decode cL_law 821 = .ok (.iadd, 1) := eL_law_560.2.2.2.2.2.2.2
theorem eL_law_568 : (decode cL_law 822 = .ok (.iaload, 1)) ∧ (decode cL_law 823 = .ok (.invokevirtual 90, 3)) ∧ (decode cL_law 826 = .ok (.pop, 1)) ∧ (decode cL_law 827 = .ok (.aload_n 2, 1)) ∧ (decode cL_law 828 = .ok (.aload_n 0, 1)) ∧ (decode cL_law 829 = .ok (.iload_n 3, 1)) ∧ (decode cL_law 830 = .ok (.iconst 1, 1)) ∧ (decode cL_law 831 = .ok (.iadd, 1)) := by decide +kernel
theorem dL_law_822 : decode cL_law 822 = .ok (.iaload, 1) := eL_law_568.1
theorem dL_law_823 : decode cL_law 823 = .ok (.invokevirtual 90, 3) := eL_law_568.2.1
theorem dL_law_826 : decode cL_law 826 = .ok (.pop, 1) := eL_law_568.2.2.1
theorem dL_law_827 : decode cL_law 827 = .ok (.aload_n 2, 1) := eL_law_568.2.2.2.1
theorem dL_law_828 : decode cL_law 828 = .ok (.aload_n 0, 1) := eL_law_568.2.2.2.2.1
theorem dL_law_829 : decode cL_law 829 = .ok (.iload_n 3, 1) := eL_law_568.2.2.2.2.2.1
theorem dL_law_830 : decode cL_law 830 = .ok (.iconst 1, 1) := eL_law_568.2.2.2.2.2.2.1
theorem dL_law_831 : decode cL_law 831 = .ok (.iadd, 1) := eL_law_568.2.2.2.2.2.2.2
theorem eL_law_576 : (decode cL_law 832 = .ok (.iaload, 1)) ∧ (decode cL_law 833 = .ok (.aload_n 0, 1)) ∧ (decode cL_law 834 = .ok (.iload_n 3, 1)) ∧ (decode cL_law 835 = .ok (.iconst 2, 1)) ∧ (decode cL_law 836 = .ok (.iadd, 1)) ∧ (decode cL_law 837 = .ok (.iaload, 1)) ∧ (decode cL_law 838 = .ok (.invokevirtual 93, 3)) ∧ (decode cL_law 841 = .ok (.pop, 1)) := by decide +kernel
theorem dL_law_832 : decode cL_law 832 = .ok (.iaload, 1) := eL_law_576.1
theorem dL_law_833 : decode cL_law 833 = .ok (.aload_n 0, 1) := eL_law_576.2.1
theorem dL_law_834 : decode cL_law 834 = .ok (.iload_n 3, 1) := eL_law_576.2.2.1
theorem dL_law_835 : decode cL_law 835 = .ok (.iconst 2, 1) := eL_law_576.2.2.2.1
theorem dL_law_836 : decode cL_law 836 = .ok (.iadd, 1) := eL_law_576.2.2.2.2.1
theorem dL_law_837 : decode cL_law 837 = .ok (.iaload, 1) := eL_law_576.2.2.2.2.2.1
theorem dL_law_838 : decode cL_law 838 = .ok (.invokevirtual 93, 3) := eL_law_576.2.2.2.2.2.2.1
theorem dL_law_841 : decode cL_law 841 = .ok (.pop, 1) := eL_law_576.2.2.2.2.2.2.2
theorem eL_law_584 : (decode cL_law 842 = .ok (.goto 326, 3)) ∧ (decode cL_law 845 = .ok (.aload_n 1, 1)) ∧ (decode cL_law 846 = .ok (.aload_n 0, 1)) ∧ (decode cL_law 847 = .ok (.iload_n 3, 1)) ∧ (decode cL_law 848 = .ok (.iconst 1, 1)) ∧ (decode cL_law 849 = .ok (.iadd, 1)) ∧ (decode cL_law 850 = .ok (.iaload, 1)) ∧ (decode cL_law 851 = .ok (.invokevirtual 94, 3)) := by decide +kernel
theorem dL_law_842 : decode cL_law 842 = .ok (.goto 326, 3) := eL_law_584.1
theorem dL_law_845 : decode cL_law 845 = .ok (.aload_n 1, 1) := eL_law_584.2.1
theorem dL_law_846 : decode cL_law 846 = .ok (.aload_n 0, 1) := eL_law_584.2.2.1
theorem dL_law_847 : decode cL_law 847 = .ok (.iload_n 3, 1) := eL_law_584.2.2.2.1
theorem dL_law_848 : decode cL_law 848 = .ok (.iconst 1, 1) := eL_law_584.2.2.2.2.1
theorem dL_law_849 : decode cL_law 849 = .ok (.iadd, 1) := eL_law_584.2.2.2.2.2.1
theorem dL_law_850 : decode cL_law 850 = .ok (.iaload, 1) := eL_law_584.2.2.2.2.2.2.1
theorem dL_law_851 : decode cL_law 851 = .ok (.invokevirtual 94, 3) := eL_law_584.2.2.2.2.2.2.2
theorem eL_law_592 : (decode cL_law 854 = .ok (.pop, 1)) ∧ (decode cL_law 855 = .ok (.aload_n 2, 1)) ∧ (decode cL_law 856 = .ok (.aload_n 0, 1)) ∧ (decode cL_law 857 = .ok (.iload_n 3, 1)) ∧ (decode cL_law 858 = .ok (.iconst 1, 1)) ∧ (decode cL_law 859 = .ok (.iadd, 1)) ∧ (decode cL_law 860 = .ok (.iaload, 1)) ∧ (decode cL_law 861 = .ok (.invokevirtual 97, 3)) := by decide +kernel
theorem dL_law_854 : decode cL_law 854 = .ok (.pop, 1) := eL_law_592.1
theorem dL_law_855 : decode cL_law 855 = .ok (.aload_n 2, 1) := eL_law_592.2.1
theorem dL_law_856 : decode cL_law 856 = .ok (.aload_n 0, 1) := eL_law_592.2.2.1
theorem dL_law_857 : decode cL_law 857 = .ok (.iload_n 3, 1) := eL_law_592.2.2.2.1
theorem dL_law_858 : decode cL_law 858 = .ok (.iconst 1, 1) := eL_law_592.2.2.2.2.1
theorem dL_law_859 : decode cL_law 859 = .ok (.iadd, 1) := eL_law_592.2.2.2.2.2.1
theorem dL_law_860 : decode cL_law 860 = .ok (.iaload, 1) := eL_law_592.2.2.2.2.2.2.1
theorem dL_law_861 : decode cL_law 861 = .ok (.invokevirtual 97, 3) := eL_law_592.2.2.2.2.2.2.2
theorem eL_law_600 : (decode cL_law 864 = .ok (.pop, 1)) ∧ (decode cL_law 865 = .ok (.goto 303, 3)) ∧ (decode cL_law 868 = .ok (.aload_n 1, 1)) ∧ (decode cL_law 869 = .ok (.aload_n 0, 1)) ∧ (decode cL_law 870 = .ok (.iload_n 3, 1)) ∧ (decode cL_law 871 = .ok (.iconst 1, 1)) ∧ (decode cL_law 872 = .ok (.iadd, 1)) ∧ (decode cL_law 873 = .ok (.iaload, 1)) := by decide +kernel
theorem dL_law_864 : decode cL_law 864 = .ok (.pop, 1) := eL_law_600.1
theorem dL_law_865 : decode cL_law 865 = .ok (.goto 303, 3) := eL_law_600.2.1
theorem dL_law_868 : decode cL_law 868 = .ok (.aload_n 1, 1) := eL_law_600.2.2.1
theorem dL_law_869 : decode cL_law 869 = .ok (.aload_n 0, 1) := eL_law_600.2.2.2.1
theorem dL_law_870 : decode cL_law 870 = .ok (.iload_n 3, 1) := eL_law_600.2.2.2.2.1
theorem dL_law_871 : decode cL_law 871 = .ok (.iconst 1, 1) := eL_law_600.2.2.2.2.2.1
theorem dL_law_872 : decode cL_law 872 = .ok (.iadd, 1) := eL_law_600.2.2.2.2.2.2.1
theorem dL_law_873 : decode cL_law 873 = .ok (.iaload, 1) := eL_law_600.2.2.2.2.2.2.2
theorem eL_law_608 : (decode cL_law 874 = .ok (.aload_n 0, 1)) ∧ (decode cL_law 875 = .ok (.iload_n 3, 1)) ∧ (decode cL_law 876 = .ok (.iconst 2, 1)) ∧ (decode cL_law 877 = .ok (.iadd, 1)) ∧ (decode cL_law 878 = .ok (.iaload, 1)) ∧ (decode cL_law 879 = .ok (.aload_n 0, 1)) ∧ (decode cL_law 880 = .ok (.iload_n 3, 1)) ∧ (decode cL_law 881 = .ok (.iconst 3, 1)) := by decide +kernel
theorem dL_law_874 : decode cL_law 874 = .ok (.aload_n 0, 1) := eL_law_608.1
theorem dL_law_875 : decode cL_law 875 = .ok (.iload_n 3, 1) := eL_law_608.2.1
theorem dL_law_876 : decode cL_law 876 = .ok (.iconst 2, 1) := eL_law_608.2.2.1
theorem dL_law_877 : decode cL_law 877 = .ok (.iadd, 1) := eL_law_608.2.2.2.1
theorem dL_law_878 : decode cL_law 878 = .ok (.iaload, 1) := eL_law_608.2.2.2.2.1
theorem dL_law_879 : decode cL_law 879 = .ok (.aload_n 0, 1) := eL_law_608.2.2.2.2.2.1
theorem dL_law_880 : decode cL_law 880 = .ok (.iload_n 3, 1) := eL_law_608.2.2.2.2.2.2.1
theorem dL_law_881 : decode cL_law 881 = .ok (.iconst 3, 1) := eL_law_608.2.2.2.2.2.2.2
theorem eL_law_616 : (decode cL_law 882 = .ok (.iadd, 1)) ∧ (decode cL_law 883 = .ok (.iaload, 1)) ∧ (decode cL_law 884 = .ok (.aload_n 0, 1)) ∧ (decode cL_law 885 = .ok (.iload_n 3, 1)) ∧ (decode cL_law 886 = .ok (.iconst 4, 1)) ∧ (decode cL_law 887 = .ok (.iadd, 1)) ∧ (decode cL_law 888 = .ok (.iaload, 1)) ∧ (decode cL_law 889 = .ok (.invokevirtual 98, 3)) := by decide +kernel
theorem dL_law_882 : decode cL_law 882 = .ok (.iadd, 1) := eL_law_616.1
theorem dL_law_883 : decode cL_law 883 = .ok (.iaload, 1) := eL_law_616.2.1
theorem dL_law_884 : decode cL_law 884 = .ok (.aload_n 0, 1) := eL_law_616.2.2.1
theorem dL_law_885 : decode cL_law 885 = .ok (.iload_n 3, 1) := eL_law_616.2.2.2.1
theorem dL_law_886 : decode cL_law 886 = .ok (.iconst 4, 1) := eL_law_616.2.2.2.2.1
theorem dL_law_887 : decode cL_law 887 = .ok (.iadd, 1) := eL_law_616.2.2.2.2.2.1
theorem dL_law_888 : decode cL_law 888 = .ok (.iaload, 1) := eL_law_616.2.2.2.2.2.2.1
theorem dL_law_889 : decode cL_law 889 = .ok (.invokevirtual 98, 3) := eL_law_616.2.2.2.2.2.2.2
theorem eL_law_624 : (decode cL_law 892 = .ok (.pop, 1)) ∧ (decode cL_law 893 = .ok (.aload_n 2, 1)) ∧ (decode cL_law 894 = .ok (.aload_n 0, 1)) ∧ (decode cL_law 895 = .ok (.iload_n 3, 1)) ∧ (decode cL_law 896 = .ok (.iconst 1, 1)) ∧ (decode cL_law 897 = .ok (.iadd, 1)) ∧ (decode cL_law 898 = .ok (.iaload, 1)) ∧ (decode cL_law 899 = .ok (.aload_n 0, 1)) := by decide +kernel
theorem dL_law_892 : decode cL_law 892 = .ok (.pop, 1) := eL_law_624.1
theorem dL_law_893 : decode cL_law 893 = .ok (.aload_n 2, 1) := eL_law_624.2.1
theorem dL_law_894 : decode cL_law 894 = .ok (.aload_n 0, 1) := eL_law_624.2.2.1
theorem dL_law_895 : decode cL_law 895 = .ok (.iload_n 3, 1) := eL_law_624.2.2.2.1
theorem dL_law_896 : decode cL_law 896 = .ok (.iconst 1, 1) := eL_law_624.2.2.2.2.1
theorem dL_law_897 : decode cL_law 897 = .ok (.iadd, 1) := eL_law_624.2.2.2.2.2.1
theorem dL_law_898 : decode cL_law 898 = .ok (.iaload, 1) := eL_law_624.2.2.2.2.2.2.1
theorem dL_law_899 : decode cL_law 899 = .ok (.aload_n 0, 1) := eL_law_624.2.2.2.2.2.2.2
theorem eL_law_632 : (decode cL_law 900 = .ok (.iload_n 3, 1)) ∧ (decode cL_law 901 = .ok (.iconst 2, 1)) ∧ (decode cL_law 902 = .ok (.iadd, 1)) ∧ (decode cL_law 903 = .ok (.iaload, 1)) ∧ (decode cL_law 904 = .ok (.aload_n 0, 1)) ∧ (decode cL_law 905 = .ok (.iload_n 3, 1)) ∧ (decode cL_law 906 = .ok (.iconst 3, 1)) ∧ (decode cL_law 907 = .ok (.iadd, 1)) := by decide +kernel
theorem dL_law_900 : decode cL_law 900 = .ok (.iload_n 3, 1) := eL_law_632.1
theorem dL_law_901 : decode cL_law 901 = .ok (.iconst 2, 1) := eL_law_632.2.1
theorem dL_law_902 : decode cL_law 902 = .ok (.iadd, 1) := eL_law_632.2.2.1
theorem dL_law_903 : decode cL_law 903 = .ok (.iaload, 1) := eL_law_632.2.2.2.1
theorem dL_law_904 : decode cL_law 904 = .ok (.aload_n 0, 1) := eL_law_632.2.2.2.2.1
theorem dL_law_905 : decode cL_law 905 = .ok (.iload_n 3, 1) := eL_law_632.2.2.2.2.2.1
theorem dL_law_906 : decode cL_law 906 = .ok (.iconst 3, 1) := eL_law_632.2.2.2.2.2.2.1
theorem dL_law_907 : decode cL_law 907 = .ok (.iadd, 1) := eL_law_632.2.2.2.2.2.2.2
theorem eL_law_640 : (decode cL_law 908 = .ok (.iaload, 1)) ∧ (decode cL_law 909 = .ok (.aload_n 0, 1)) ∧ (decode cL_law 910 = .ok (.iload_n 3, 1)) ∧ (decode cL_law 911 = .ok (.iconst 4, 1)) ∧ (decode cL_law 912 = .ok (.iadd, 1)) ∧ (decode cL_law 913 = .ok (.iaload, 1)) ∧ (decode cL_law 914 = .ok (.invokevirtual 101, 3)) ∧ (decode cL_law 917 = .ok (.pop, 1)) := by decide +kernel
theorem dL_law_908 : decode cL_law 908 = .ok (.iaload, 1) := eL_law_640.1
theorem dL_law_909 : decode cL_law 909 = .ok (.aload_n 0, 1) := eL_law_640.2.1
theorem dL_law_910 : decode cL_law 910 = .ok (.iload_n 3, 1) := eL_law_640.2.2.1
theorem dL_law_911 : decode cL_law 911 = .ok (.iconst 4, 1) := eL_law_640.2.2.2.1
theorem dL_law_912 : decode cL_law 912 = .ok (.iadd, 1) := eL_law_640.2.2.2.2.1
theorem dL_law_913 : decode cL_law 913 = .ok (.iaload, 1) := eL_law_640.2.2.2.2.2.1
theorem dL_law_914 : decode cL_law 914 = .ok (.invokevirtual 101, 3) := eL_law_640.2.2.2.2.2.2.1
theorem dL_law_917 : decode cL_law 917 = .ok (.pop, 1) := eL_law_640.2.2.2.2.2.2.2
theorem eL_law_648 : (decode cL_law 918 = .ok (.goto 250, 3)) ∧ (decode cL_law 921 = .ok (.aload_n 1, 1)) ∧ (decode cL_law 922 = .ok (.aload_n 0, 1)) ∧ (decode cL_law 923 = .ok (.iload_n 3, 1)) ∧ (decode cL_law 924 = .ok (.iconst 1, 1)) ∧ (decode cL_law 925 = .ok (.iadd, 1)) ∧ (decode cL_law 926 = .ok (.iaload, 1)) ∧ (decode cL_law 927 = .ok (.aload_n 0, 1)) := by decide +kernel
theorem dL_law_918 : decode cL_law 918 = .ok (.goto 250, 3) := eL_law_648.1
theorem dL_law_921 : decode cL_law 921 = .ok (.aload_n 1, 1) := eL_law_648.2.1
theorem dL_law_922 : decode cL_law 922 = .ok (.aload_n 0, 1) := eL_law_648.2.2.1
theorem dL_law_923 : decode cL_law 923 = .ok (.iload_n 3, 1) := eL_law_648.2.2.2.1
theorem dL_law_924 : decode cL_law 924 = .ok (.iconst 1, 1) := eL_law_648.2.2.2.2.1
theorem dL_law_925 : decode cL_law 925 = .ok (.iadd, 1) := eL_law_648.2.2.2.2.2.1
theorem dL_law_926 : decode cL_law 926 = .ok (.iaload, 1) := eL_law_648.2.2.2.2.2.2.1
theorem dL_law_927 : decode cL_law 927 = .ok (.aload_n 0, 1) := eL_law_648.2.2.2.2.2.2.2
theorem eL_law_656 : (decode cL_law 928 = .ok (.iload_n 3, 1)) ∧ (decode cL_law 929 = .ok (.iconst 2, 1)) ∧ (decode cL_law 930 = .ok (.iadd, 1)) ∧ (decode cL_law 931 = .ok (.iaload, 1)) ∧ (decode cL_law 932 = .ok (.aload_n 0, 1)) ∧ (decode cL_law 933 = .ok (.iload_n 3, 1)) ∧ (decode cL_law 934 = .ok (.iconst 3, 1)) ∧ (decode cL_law 935 = .ok (.iadd, 1)) := by decide +kernel
theorem dL_law_928 : decode cL_law 928 = .ok (.iload_n 3, 1) := eL_law_656.1
theorem dL_law_929 : decode cL_law 929 = .ok (.iconst 2, 1) := eL_law_656.2.1
theorem dL_law_930 : decode cL_law 930 = .ok (.iadd, 1) := eL_law_656.2.2.1
theorem dL_law_931 : decode cL_law 931 = .ok (.iaload, 1) := eL_law_656.2.2.2.1
theorem dL_law_932 : decode cL_law 932 = .ok (.aload_n 0, 1) := eL_law_656.2.2.2.2.1
theorem dL_law_933 : decode cL_law 933 = .ok (.iload_n 3, 1) := eL_law_656.2.2.2.2.2.1
theorem dL_law_934 : decode cL_law 934 = .ok (.iconst 3, 1) := eL_law_656.2.2.2.2.2.2.1
theorem dL_law_935 : decode cL_law 935 = .ok (.iadd, 1) := eL_law_656.2.2.2.2.2.2.2
theorem eL_law_664 : (decode cL_law 936 = .ok (.iaload, 1)) ∧ (decode cL_law 937 = .ok (.aload_n 0, 1)) ∧ (decode cL_law 938 = .ok (.iload_n 3, 1)) ∧ (decode cL_law 939 = .ok (.iconst 4, 1)) ∧ (decode cL_law 940 = .ok (.iadd, 1)) ∧ (decode cL_law 941 = .ok (.iaload, 1)) ∧ (decode cL_law 942 = .ok (.aload_n 0, 1)) ∧ (decode cL_law 943 = .ok (.iload_n 3, 1)) := by decide +kernel
theorem dL_law_936 : decode cL_law 936 = .ok (.iaload, 1) := eL_law_664.1
theorem dL_law_937 : decode cL_law 937 = .ok (.aload_n 0, 1) := eL_law_664.2.1
theorem dL_law_938 : decode cL_law 938 = .ok (.iload_n 3, 1) := eL_law_664.2.2.1
theorem dL_law_939 : decode cL_law 939 = .ok (.iconst 4, 1) := eL_law_664.2.2.2.1
theorem dL_law_940 : decode cL_law 940 = .ok (.iadd, 1) := eL_law_664.2.2.2.2.1
theorem dL_law_941 : decode cL_law 941 = .ok (.iaload, 1) := eL_law_664.2.2.2.2.2.1
theorem dL_law_942 : decode cL_law 942 = .ok (.aload_n 0, 1) := eL_law_664.2.2.2.2.2.2.1
theorem dL_law_943 : decode cL_law 943 = .ok (.iload_n 3, 1) := eL_law_664.2.2.2.2.2.2.2
theorem eL_law_672 : (decode cL_law 944 = .ok (.iconst 5, 1)) ∧ (decode cL_law 945 = .ok (.iadd, 1)) ∧ (decode cL_law 946 = .ok (.iaload, 1)) ∧ (decode cL_law 947 = .ok (.invokevirtual 102, 3)) ∧ (decode cL_law 950 = .ok (.pop, 1)) ∧ (decode cL_law 951 = .ok (.aload_n 2, 1)) ∧ (decode cL_law 952 = .ok (.aload_n 0, 1)) ∧ (decode cL_law 953 = .ok (.iload_n 3, 1)) := by decide +kernel
theorem dL_law_944 : decode cL_law 944 = .ok (.iconst 5, 1) := eL_law_672.1
theorem dL_law_945 : decode cL_law 945 = .ok (.iadd, 1) := eL_law_672.2.1
theorem dL_law_946 : decode cL_law 946 = .ok (.iaload, 1) := eL_law_672.2.2.1
theorem dL_law_947 : decode cL_law 947 = .ok (.invokevirtual 102, 3) := eL_law_672.2.2.2.1
theorem dL_law_950 : decode cL_law 950 = .ok (.pop, 1) := eL_law_672.2.2.2.2.1
theorem dL_law_951 : decode cL_law 951 = .ok (.aload_n 2, 1) := eL_law_672.2.2.2.2.2.1
theorem dL_law_952 : decode cL_law 952 = .ok (.aload_n 0, 1) := eL_law_672.2.2.2.2.2.2.1
theorem dL_law_953 : decode cL_law 953 = .ok (.iload_n 3, 1) := eL_law_672.2.2.2.2.2.2.2
theorem eL_law_680 : (decode cL_law 954 = .ok (.iconst 1, 1)) ∧ (decode cL_law 955 = .ok (.iadd, 1)) ∧ (decode cL_law 956 = .ok (.iaload, 1)) ∧ (decode cL_law 957 = .ok (.aload_n 0, 1)) ∧ (decode cL_law 958 = .ok (.iload_n 3, 1)) ∧ (decode cL_law 959 = .ok (.iconst 2, 1)) ∧ (decode cL_law 960 = .ok (.iadd, 1)) ∧ (decode cL_law 961 = .ok (.iaload, 1)) := by decide +kernel
theorem dL_law_954 : decode cL_law 954 = .ok (.iconst 1, 1) := eL_law_680.1
theorem dL_law_955 : decode cL_law 955 = .ok (.iadd, 1) := eL_law_680.2.1
theorem dL_law_956 : decode cL_law 956 = .ok (.iaload, 1) := eL_law_680.2.2.1
theorem dL_law_957 : decode cL_law 957 = .ok (.aload_n 0, 1) := eL_law_680.2.2.2.1
theorem dL_law_958 : decode cL_law 958 = .ok (.iload_n 3, 1) := eL_law_680.2.2.2.2.1
theorem dL_law_959 : decode cL_law 959 = .ok (.iconst 2, 1) := eL_law_680.2.2.2.2.2.1
theorem dL_law_960 : decode cL_law 960 = .ok (.iadd, 1) := eL_law_680.2.2.2.2.2.2.1
theorem dL_law_961 : decode cL_law 961 = .ok (.iaload, 1) := eL_law_680.2.2.2.2.2.2.2
theorem eL_law_688 : (decode cL_law 962 = .ok (.aload_n 0, 1)) ∧ (decode cL_law 963 = .ok (.iload_n 3, 1)) ∧ (decode cL_law 964 = .ok (.iconst 3, 1)) ∧ (decode cL_law 965 = .ok (.iadd, 1)) ∧ (decode cL_law 966 = .ok (.iaload, 1)) ∧ (decode cL_law 967 = .ok (.aload_n 0, 1)) ∧ (decode cL_law 968 = .ok (.iload_n 3, 1)) ∧ (decode cL_law 969 = .ok (.iconst 4, 1)) := by decide +kernel
theorem dL_law_962 : decode cL_law 962 = .ok (.aload_n 0, 1) := eL_law_688.1
theorem dL_law_963 : decode cL_law 963 = .ok (.iload_n 3, 1) := eL_law_688.2.1
theorem dL_law_964 : decode cL_law 964 = .ok (.iconst 3, 1) := eL_law_688.2.2.1
theorem dL_law_965 : decode cL_law 965 = .ok (.iadd, 1) := eL_law_688.2.2.2.1
theorem dL_law_966 : decode cL_law 966 = .ok (.iaload, 1) := eL_law_688.2.2.2.2.1
theorem dL_law_967 : decode cL_law 967 = .ok (.aload_n 0, 1) := eL_law_688.2.2.2.2.2.1
theorem dL_law_968 : decode cL_law 968 = .ok (.iload_n 3, 1) := eL_law_688.2.2.2.2.2.2.1
theorem dL_law_969 : decode cL_law 969 = .ok (.iconst 4, 1) := eL_law_688.2.2.2.2.2.2.2
theorem eL_law_696 : (decode cL_law 970 = .ok (.iadd, 1)) ∧ (decode cL_law 971 = .ok (.iaload, 1)) ∧ (decode cL_law 972 = .ok (.aload_n 0, 1)) ∧ (decode cL_law 973 = .ok (.iload_n 3, 1)) ∧ (decode cL_law 974 = .ok (.iconst 5, 1)) ∧ (decode cL_law 975 = .ok (.iadd, 1)) ∧ (decode cL_law 976 = .ok (.iaload, 1)) ∧ (decode cL_law 977 = .ok (.invokevirtual 106, 3)) := by decide +kernel
theorem dL_law_970 : decode cL_law 970 = .ok (.iadd, 1) := eL_law_696.1
theorem dL_law_971 : decode cL_law 971 = .ok (.iaload, 1) := eL_law_696.2.1
theorem dL_law_972 : decode cL_law 972 = .ok (.aload_n 0, 1) := eL_law_696.2.2.1
theorem dL_law_973 : decode cL_law 973 = .ok (.iload_n 3, 1) := eL_law_696.2.2.2.1
theorem dL_law_974 : decode cL_law 974 = .ok (.iconst 5, 1) := eL_law_696.2.2.2.2.1
theorem dL_law_975 : decode cL_law 975 = .ok (.iadd, 1) := eL_law_696.2.2.2.2.2.1
theorem dL_law_976 : decode cL_law 976 = .ok (.iaload, 1) := eL_law_696.2.2.2.2.2.2.1
theorem dL_law_977 : decode cL_law 977 = .ok (.invokevirtual 106, 3) := eL_law_696.2.2.2.2.2.2.2
theorem eL_law_704 : (decode cL_law 980 = .ok (.pop, 1)) ∧ (decode cL_law 981 = .ok (.goto 187, 3)) ∧ (decode cL_law 984 = .ok (.aload_n 1, 1)) ∧ (decode cL_law 985 = .ok (.aload_n 0, 1)) ∧ (decode cL_law 986 = .ok (.iload_n 3, 1)) ∧ (decode cL_law 987 = .ok (.iconst 1, 1)) ∧ (decode cL_law 988 = .ok (.iadd, 1)) ∧ (decode cL_law 989 = .ok (.iaload, 1)) := by decide +kernel
theorem dL_law_980 : decode cL_law 980 = .ok (.pop, 1) := eL_law_704.1
theorem dL_law_981 : decode cL_law 981 = .ok (.goto 187, 3) := eL_law_704.2.1
theorem dL_law_984 : decode cL_law 984 = .ok (.aload_n 1, 1) := eL_law_704.2.2.1
theorem dL_law_985 : decode cL_law 985 = .ok (.aload_n 0, 1) := eL_law_704.2.2.2.1
theorem dL_law_986 : decode cL_law 986 = .ok (.iload_n 3, 1) := eL_law_704.2.2.2.2.1
theorem dL_law_987 : decode cL_law 987 = .ok (.iconst 1, 1) := eL_law_704.2.2.2.2.2.1
theorem dL_law_988 : decode cL_law 988 = .ok (.iadd, 1) := eL_law_704.2.2.2.2.2.2.1
theorem dL_law_989 : decode cL_law 989 = .ok (.iaload, 1) := eL_law_704.2.2.2.2.2.2.2
theorem eL_law_712 : (decode cL_law 990 = .ok (.invokevirtual 107, 3)) ∧ (decode cL_law 993 = .ok (.aload_n 2, 1)) ∧ (decode cL_law 994 = .ok (.aload_n 0, 1)) ∧ (decode cL_law 995 = .ok (.iload_n 3, 1)) ∧ (decode cL_law 996 = .ok (.iconst 1, 1)) ∧ (decode cL_law 997 = .ok (.iadd, 1)) ∧ (decode cL_law 998 = .ok (.iaload, 1)) ∧ (decode cL_law 999 = .ok (.invokevirtual 110, 3)) := by decide +kernel
theorem dL_law_990 : decode cL_law 990 = .ok (.invokevirtual 107, 3) := eL_law_712.1
theorem dL_law_993 : decode cL_law 993 = .ok (.aload_n 2, 1) := eL_law_712.2.1
theorem dL_law_994 : decode cL_law 994 = .ok (.aload_n 0, 1) := eL_law_712.2.2.1
theorem dL_law_995 : decode cL_law 995 = .ok (.iload_n 3, 1) := eL_law_712.2.2.2.1
theorem dL_law_996 : decode cL_law 996 = .ok (.iconst 1, 1) := eL_law_712.2.2.2.2.1
theorem dL_law_997 : decode cL_law 997 = .ok (.iadd, 1) := eL_law_712.2.2.2.2.2.1
theorem dL_law_998 : decode cL_law 998 = .ok (.iaload, 1) := eL_law_712.2.2.2.2.2.2.1
theorem dL_law_999 : decode cL_law 999 = .ok (.invokevirtual 110, 3) := eL_law_712.2.2.2.2.2.2.2
theorem eL_law_720 : (decode cL_law 1002 = .ok (.if_icmp .eq 166, 3)) ∧ (decode cL_law 1005 = .ok (.iconst 0, 1)) ∧ (decode cL_law 1006 = .ok (.ireturn, 1)) ∧ (decode cL_law 1007 = .ok (.aload_n 1, 1)) ∧ (decode cL_law 1008 = .ok (.invokevirtual 111, 3)) ∧ (decode cL_law 1011 = .ok (.pop, 1)) ∧ (decode cL_law 1012 = .ok (.aload_n 2, 1)) ∧ (decode cL_law 1013 = .ok (.invokevirtual 114, 3)) := by decide +kernel
theorem dL_law_1002 : decode cL_law 1002 = .ok (.if_icmp .eq 166, 3) := eL_law_720.1
theorem dL_law_1005 : decode cL_law 1005 = .ok (.iconst 0, 1) := eL_law_720.2.1
theorem dL_law_1006 : decode cL_law 1006 = .ok (.ireturn, 1) := eL_law_720.2.2.1
theorem dL_law_1007 : decode cL_law 1007 = .ok (.aload_n 1, 1) := eL_law_720.2.2.2.1
theorem dL_law_1008 : decode cL_law 1008 = .ok (.invokevirtual 111, 3) := eL_law_720.2.2.2.2.1
theorem dL_law_1011 : decode cL_law 1011 = .ok (.pop, 1) := eL_law_720.2.2.2.2.2.1
theorem dL_law_1012 : decode cL_law 1012 = .ok (.aload_n 2, 1) := eL_law_720.2.2.2.2.2.2.1
theorem dL_law_1013 : decode cL_law 1013 = .ok (.invokevirtual 114, 3) := eL_law_720.2.2.2.2.2.2.2
theorem eL_law_728 : (decode cL_law 1016 = .ok (.pop, 1)) ∧ (decode cL_law 1017 = .ok (.goto 151, 3)) ∧ (decode cL_law 1020 = .ok (.aload_n 1, 1)) ∧ (decode cL_law 1021 = .ok (.invokevirtual 115, 3)) ∧ (decode cL_law 1024 = .ok (.pop, 1)) ∧ (decode cL_law 1025 = .ok (.aload_n 2, 1)) ∧ (decode cL_law 1026 = .ok (.invokevirtual 118, 3)) ∧ (decode cL_law 1029 = .ok (.pop, 1)) := by decide +kernel
theorem dL_law_1016 : decode cL_law 1016 = .ok (.pop, 1) := eL_law_728.1
theorem dL_law_1017 : decode cL_law 1017 = .ok (.goto 151, 3) := eL_law_728.2.1
theorem dL_law_1020 : decode cL_law 1020 = .ok (.aload_n 1, 1) := eL_law_728.2.2.1
theorem dL_law_1021 : decode cL_law 1021 = .ok (.invokevirtual 115, 3) := eL_law_728.2.2.2.1
theorem dL_law_1024 : decode cL_law 1024 = .ok (.pop, 1) := eL_law_728.2.2.2.2.1
theorem dL_law_1025 : decode cL_law 1025 = .ok (.aload_n 2, 1) := eL_law_728.2.2.2.2.2.1
theorem dL_law_1026 : decode cL_law 1026 = .ok (.invokevirtual 118, 3) := eL_law_728.2.2.2.2.2.2.1
theorem dL_law_1029 : decode cL_law 1029 = .ok (.pop, 1) := eL_law_728.2.2.2.2.2.2.2
theorem eL_law_736 : (decode cL_law 1030 = .ok (.goto 138, 3)) ∧ (decode cL_law 1033 = .ok (.aload_n 1, 1)) ∧ (decode cL_law 1034 = .ok (.aload_n 0, 1)) ∧ (decode cL_law 1035 = .ok (.iload_n 3, 1)) ∧ (decode cL_law 1036 = .ok (.iconst 1, 1)) ∧ (decode cL_law 1037 = .ok (.iadd, 1)) ∧ (decode cL_law 1038 = .ok (.iaload, 1)) ∧ (decode cL_law 1039 = .ok (.aload_n 0, 1)) := by decide +kernel
theorem dL_law_1030 : decode cL_law 1030 = .ok (.goto 138, 3) := eL_law_736.1
theorem dL_law_1033 : decode cL_law 1033 = .ok (.aload_n 1, 1) := eL_law_736.2.1
theorem dL_law_1034 : decode cL_law 1034 = .ok (.aload_n 0, 1) := eL_law_736.2.2.1
theorem dL_law_1035 : decode cL_law 1035 = .ok (.iload_n 3, 1) := eL_law_736.2.2.2.1
theorem dL_law_1036 : decode cL_law 1036 = .ok (.iconst 1, 1) := eL_law_736.2.2.2.2.1
theorem dL_law_1037 : decode cL_law 1037 = .ok (.iadd, 1) := eL_law_736.2.2.2.2.2.1
theorem dL_law_1038 : decode cL_law 1038 = .ok (.iaload, 1) := eL_law_736.2.2.2.2.2.2.1
theorem dL_law_1039 : decode cL_law 1039 = .ok (.aload_n 0, 1) := eL_law_736.2.2.2.2.2.2.2
theorem eL_law_744 : (decode cL_law 1040 = .ok (.iload_n 3, 1)) ∧ (decode cL_law 1041 = .ok (.iconst 2, 1)) ∧ (decode cL_law 1042 = .ok (.iadd, 1)) ∧ (decode cL_law 1043 = .ok (.iaload, 1)) ∧ (decode cL_law 1044 = .ok (.aload_n 0, 1)) ∧ (decode cL_law 1045 = .ok (.iload_n 3, 1)) ∧ (decode cL_law 1046 = .ok (.iconst 3, 1)) ∧ (decode cL_law 1047 = .ok (.iadd, 1)) := by decide +kernel
theorem dL_law_1040 : decode cL_law 1040 = .ok (.iload_n 3, 1) := eL_law_744.1
theorem dL_law_1041 : decode cL_law 1041 = .ok (.iconst 2, 1) := eL_law_744.2.1
theorem dL_law_1042 : decode cL_law 1042 = .ok (.iadd, 1) := eL_law_744.2.2.1
theorem dL_law_1043 : decode cL_law 1043 = .ok (.iaload, 1) := eL_law_744.2.2.2.1
theorem dL_law_1044 : decode cL_law 1044 = .ok (.aload_n 0, 1) := eL_law_744.2.2.2.2.1
theorem dL_law_1045 : decode cL_law 1045 = .ok (.iload_n 3, 1) := eL_law_744.2.2.2.2.2.1
theorem dL_law_1046 : decode cL_law 1046 = .ok (.iconst 3, 1) := eL_law_744.2.2.2.2.2.2.1
theorem dL_law_1047 : decode cL_law 1047 = .ok (.iadd, 1) := eL_law_744.2.2.2.2.2.2.2
theorem eL_law_752 : (decode cL_law 1048 = .ok (.iaload, 1)) ∧ (decode cL_law 1049 = .ok (.invokevirtual 119, 3)) ∧ (decode cL_law 1052 = .ok (.pop, 1)) ∧ (decode cL_law 1053 = .ok (.aload_n 2, 1)) ∧ (decode cL_law 1054 = .ok (.aload_n 0, 1)) ∧ (decode cL_law 1055 = .ok (.iload_n 3, 1)) ∧ (decode cL_law 1056 = .ok (.iconst 1, 1)) ∧ (decode cL_law 1057 = .ok (.iadd, 1)) := by decide +kernel
theorem dL_law_1048 : decode cL_law 1048 = .ok (.iaload, 1) := eL_law_752.1
theorem dL_law_1049 : decode cL_law 1049 = .ok (.invokevirtual 119, 3) := eL_law_752.2.1
theorem dL_law_1052 : decode cL_law 1052 = .ok (.pop, 1) := eL_law_752.2.2.1
theorem dL_law_1053 : decode cL_law 1053 = .ok (.aload_n 2, 1) := eL_law_752.2.2.2.1
theorem dL_law_1054 : decode cL_law 1054 = .ok (.aload_n 0, 1) := eL_law_752.2.2.2.2.1
theorem dL_law_1055 : decode cL_law 1055 = .ok (.iload_n 3, 1) := eL_law_752.2.2.2.2.2.1
theorem dL_law_1056 : decode cL_law 1056 = .ok (.iconst 1, 1) := eL_law_752.2.2.2.2.2.2.1
theorem dL_law_1057 : decode cL_law 1057 = .ok (.iadd, 1) := eL_law_752.2.2.2.2.2.2.2
theorem eL_law_760 : (decode cL_law 1058 = .ok (.iaload, 1)) ∧ (decode cL_law 1059 = .ok (.aload_n 0, 1)) ∧ (decode cL_law 1060 = .ok (.iload_n 3, 1)) ∧ (decode cL_law 1061 = .ok (.iconst 2, 1)) ∧ (decode cL_law 1062 = .ok (.iadd, 1)) ∧ (decode cL_law 1063 = .ok (.iaload, 1)) ∧ (decode cL_law 1064 = .ok (.aload_n 0, 1)) ∧ (decode cL_law 1065 = .ok (.iload_n 3, 1)) := by decide +kernel
theorem dL_law_1058 : decode cL_law 1058 = .ok (.iaload, 1) := eL_law_760.1
theorem dL_law_1059 : decode cL_law 1059 = .ok (.aload_n 0, 1) := eL_law_760.2.1
theorem dL_law_1060 : decode cL_law 1060 = .ok (.iload_n 3, 1) := eL_law_760.2.2.1
theorem dL_law_1061 : decode cL_law 1061 = .ok (.iconst 2, 1) := eL_law_760.2.2.2.1
theorem dL_law_1062 : decode cL_law 1062 = .ok (.iadd, 1) := eL_law_760.2.2.2.2.1
theorem dL_law_1063 : decode cL_law 1063 = .ok (.iaload, 1) := eL_law_760.2.2.2.2.2.1
theorem dL_law_1064 : decode cL_law 1064 = .ok (.aload_n 0, 1) := eL_law_760.2.2.2.2.2.2.1
theorem dL_law_1065 : decode cL_law 1065 = .ok (.iload_n 3, 1) := eL_law_760.2.2.2.2.2.2.2
theorem eL_law_768 : (decode cL_law 1066 = .ok (.iconst 3, 1)) ∧ (decode cL_law 1067 = .ok (.iadd, 1)) ∧ (decode cL_law 1068 = .ok (.iaload, 1)) ∧ (decode cL_law 1069 = .ok (.invokevirtual 122, 3)) ∧ (decode cL_law 1072 = .ok (.pop, 1)) ∧ (decode cL_law 1073 = .ok (.goto 95, 3)) ∧ (decode cL_law 1076 = .ok (.aload_n 1, 1)) ∧ (decode cL_law 1077 = .ok (.aload_n 0, 1)) := by decide +kernel
theorem dL_law_1066 : decode cL_law 1066 = .ok (.iconst 3, 1) := eL_law_768.1
theorem dL_law_1067 : decode cL_law 1067 = .ok (.iadd, 1) := eL_law_768.2.1
theorem dL_law_1068 : decode cL_law 1068 = .ok (.iaload, 1) := eL_law_768.2.2.1
theorem dL_law_1069 : decode cL_law 1069 = .ok (.invokevirtual 122, 3) := eL_law_768.2.2.2.1
theorem dL_law_1072 : decode cL_law 1072 = .ok (.pop, 1) := eL_law_768.2.2.2.2.1
theorem dL_law_1073 : decode cL_law 1073 = .ok (.goto 95, 3) := eL_law_768.2.2.2.2.2.1
theorem dL_law_1076 : decode cL_law 1076 = .ok (.aload_n 1, 1) := eL_law_768.2.2.2.2.2.2.1
theorem dL_law_1077 : decode cL_law 1077 = .ok (.aload_n 0, 1) := eL_law_768.2.2.2.2.2.2.2
theorem eL_law_776 : (decode cL_law 1078 = .ok (.iload_n 3, 1)) ∧ (decode cL_law 1079 = .ok (.iconst 1, 1)) ∧ (decode cL_law 1080 = .ok (.iadd, 1)) ∧ (decode cL_law 1081 = .ok (.iaload, 1)) ∧ (decode cL_law 1082 = .ok (.invokevirtual 123, 3)) ∧ (decode cL_law 1085 = .ok (.pop, 1)) ∧ (decode cL_law 1086 = .ok (.aload_n 2, 1)) ∧ (decode cL_law 1087 = .ok (.aload_n 0, 1)) := by decide +kernel
theorem dL_law_1078 : decode cL_law 1078 = .ok (.iload_n 3, 1) := eL_law_776.1
theorem dL_law_1079 : decode cL_law 1079 = .ok (.iconst 1, 1) := eL_law_776.2.1
theorem dL_law_1080 : decode cL_law 1080 = .ok (.iadd, 1) := eL_law_776.2.2.1
theorem dL_law_1081 : decode cL_law 1081 = .ok (.iaload, 1) := eL_law_776.2.2.2.1
theorem dL_law_1082 : decode cL_law 1082 = .ok (.invokevirtual 123, 3) := eL_law_776.2.2.2.2.1
theorem dL_law_1085 : decode cL_law 1085 = .ok (.pop, 1) := eL_law_776.2.2.2.2.2.1
theorem dL_law_1086 : decode cL_law 1086 = .ok (.aload_n 2, 1) := eL_law_776.2.2.2.2.2.2.1
theorem dL_law_1087 : decode cL_law 1087 = .ok (.aload_n 0, 1) := eL_law_776.2.2.2.2.2.2.2
theorem eL_law_784 : (decode cL_law 1088 = .ok (.iload_n 3, 1)) ∧ (decode cL_law 1089 = .ok (.iconst 1, 1)) ∧ (decode cL_law 1090 = .ok (.iadd, 1)) ∧ (decode cL_law 1091 = .ok (.iaload, 1)) ∧ (decode cL_law 1092 = .ok (.invokevirtual 126, 3)) ∧ (decode cL_law 1095 = .ok (.pop, 1)) ∧ (decode cL_law 1096 = .ok (.goto 72, 3)) ∧ (decode cL_law 1099 = .ok (.aload_n 1, 1)) := by decide +kernel
theorem dL_law_1088 : decode cL_law 1088 = .ok (.iload_n 3, 1) := eL_law_784.1
theorem dL_law_1089 : decode cL_law 1089 = .ok (.iconst 1, 1) := eL_law_784.2.1
theorem dL_law_1090 : decode cL_law 1090 = .ok (.iadd, 1) := eL_law_784.2.2.1
theorem dL_law_1091 : decode cL_law 1091 = .ok (.iaload, 1) := eL_law_784.2.2.2.1
theorem dL_law_1092 : decode cL_law 1092 = .ok (.invokevirtual 126, 3) := eL_law_784.2.2.2.2.1
theorem dL_law_1095 : decode cL_law 1095 = .ok (.pop, 1) := eL_law_784.2.2.2.2.2.1
theorem dL_law_1096 : decode cL_law 1096 = .ok (.goto 72, 3) := eL_law_784.2.2.2.2.2.2.1
theorem dL_law_1099 : decode cL_law 1099 = .ok (.aload_n 1, 1) := eL_law_784.2.2.2.2.2.2.2
theorem eL_law_792 : (decode cL_law 1100 = .ok (.aload_n 0, 1)) ∧ (decode cL_law 1101 = .ok (.iload_n 3, 1)) ∧ (decode cL_law 1102 = .ok (.iconst 1, 1)) ∧ (decode cL_law 1103 = .ok (.iadd, 1)) ∧ (decode cL_law 1104 = .ok (.iaload, 1)) ∧ (decode cL_law 1105 = .ok (.aload_n 0, 1)) ∧ (decode cL_law 1106 = .ok (.iload_n 3, 1)) ∧ (decode cL_law 1107 = .ok (.iconst 2, 1)) := by decide +kernel
theorem dL_law_1100 : decode cL_law 1100 = .ok (.aload_n 0, 1) := eL_law_792.1
theorem dL_law_1101 : decode cL_law 1101 = .ok (.iload_n 3, 1) := eL_law_792.2.1
theorem dL_law_1102 : decode cL_law 1102 = .ok (.iconst 1, 1) := eL_law_792.2.2.1
theorem dL_law_1103 : decode cL_law 1103 = .ok (.iadd, 1) := eL_law_792.2.2.2.1
theorem dL_law_1104 : decode cL_law 1104 = .ok (.iaload, 1) := eL_law_792.2.2.2.2.1
theorem dL_law_1105 : decode cL_law 1105 = .ok (.aload_n 0, 1) := eL_law_792.2.2.2.2.2.1
theorem dL_law_1106 : decode cL_law 1106 = .ok (.iload_n 3, 1) := eL_law_792.2.2.2.2.2.2.1
theorem dL_law_1107 : decode cL_law 1107 = .ok (.iconst 2, 1) := eL_law_792.2.2.2.2.2.2.2
theorem eL_law_800 : (decode cL_law 1108 = .ok (.iadd, 1)) ∧ (decode cL_law 1109 = .ok (.iaload, 1)) ∧ (decode cL_law 1110 = .ok (.invokevirtual 127, 3)) ∧ (decode cL_law 1113 = .ok (.pop, 1)) ∧ (decode cL_law 1114 = .ok (.aload_n 2, 1)) ∧ (decode cL_law 1115 = .ok (.aload_n 0, 1)) ∧ (decode cL_law 1116 = .ok (.iload_n 3, 1)) ∧ (decode cL_law 1117 = .ok (.iconst 1, 1)) := by decide +kernel
theorem dL_law_1108 : decode cL_law 1108 = .ok (.iadd, 1) := eL_law_800.1
theorem dL_law_1109 : decode cL_law 1109 = .ok (.iaload, 1) := eL_law_800.2.1
theorem dL_law_1110 : decode cL_law 1110 = .ok (.invokevirtual 127, 3) := eL_law_800.2.2.1
theorem dL_law_1113 : decode cL_law 1113 = .ok (.pop, 1) := eL_law_800.2.2.2.1
theorem dL_law_1114 : decode cL_law 1114 = .ok (.aload_n 2, 1) := eL_law_800.2.2.2.2.1
theorem dL_law_1115 : decode cL_law 1115 = .ok (.aload_n 0, 1) := eL_law_800.2.2.2.2.2.1
theorem dL_law_1116 : decode cL_law 1116 = .ok (.iload_n 3, 1) := eL_law_800.2.2.2.2.2.2.1
theorem dL_law_1117 : decode cL_law 1117 = .ok (.iconst 1, 1) := eL_law_800.2.2.2.2.2.2.2
theorem eL_law_808 : (decode cL_law 1118 = .ok (.iadd, 1)) ∧ (decode cL_law 1119 = .ok (.iaload, 1)) ∧ (decode cL_law 1120 = .ok (.aload_n 0, 1)) ∧ (decode cL_law 1121 = .ok (.iload_n 3, 1)) ∧ (decode cL_law 1122 = .ok (.iconst 2, 1)) ∧ (decode cL_law 1123 = .ok (.iadd, 1)) ∧ (decode cL_law 1124 = .ok (.iaload, 1)) ∧ (decode cL_law 1125 = .ok (.invokevirtual 130, 3)) := by decide +kernel
theorem dL_law_1118 : decode cL_law 1118 = .ok (.iadd, 1) := eL_law_808.1
theorem dL_law_1119 : decode cL_law 1119 = .ok (.iaload, 1) := eL_law_808.2.1
theorem dL_law_1120 : decode cL_law 1120 = .ok (.aload_n 0, 1) := eL_law_808.2.2.1
theorem dL_law_1121 : decode cL_law 1121 = .ok (.iload_n 3, 1) := eL_law_808.2.2.2.1
theorem dL_law_1122 : decode cL_law 1122 = .ok (.iconst 2, 1) := eL_law_808.2.2.2.2.1
theorem dL_law_1123 : decode cL_law 1123 = .ok (.iadd, 1) := eL_law_808.2.2.2.2.2.1
theorem dL_law_1124 : decode cL_law 1124 = .ok (.iaload, 1) := eL_law_808.2.2.2.2.2.2.1
theorem dL_law_1125 : decode cL_law 1125 = .ok (.invokevirtual 130, 3) := eL_law_808.2.2.2.2.2.2.2
theorem eL_law_816 : (decode cL_law 1128 = .ok (.pop, 1)) ∧ (decode cL_law 1129 = .ok (.goto 39, 3)) ∧ (decode cL_law 1132 = .ok (.aload_n 1, 1)) ∧ (decode cL_law 1133 = .ok (.aload_n 0, 1)) ∧ (decode cL_law 1134 = .ok (.iload_n 3, 1)) ∧ (decode cL_law 1135 = .ok (.iconst 1, 1)) ∧ (decode cL_law 1136 = .ok (.iadd, 1)) ∧ (decode cL_law 1137 = .ok (.iaload, 1)) := by decide +kernel
theorem dL_law_1128 : decode cL_law 1128 = .ok (.pop, 1) := eL_law_816.1
theorem dL_law_1129 : decode cL_law 1129 = .ok (.goto 39, 3) := eL_law_816.2.1
theorem dL_law_1132 : decode cL_law 1132 = .ok (.aload_n 1, 1) := eL_law_816.2.2.1
theorem dL_law_1133 : decode cL_law 1133 = .ok (.aload_n 0, 1) := eL_law_816.2.2.2.1
theorem dL_law_1134 : decode cL_law 1134 = .ok (.iload_n 3, 1) := eL_law_816.2.2.2.2.1
theorem dL_law_1135 : decode cL_law 1135 = .ok (.iconst 1, 1) := eL_law_816.2.2.2.2.2.1
theorem dL_law_1136 : decode cL_law 1136 = .ok (.iadd, 1) := eL_law_816.2.2.2.2.2.2.1
theorem dL_law_1137 : decode cL_law 1137 = .ok (.iaload, 1) := eL_law_816.2.2.2.2.2.2.2
theorem eL_law_824 : (decode cL_law 1138 = .ok (.invokevirtual 131, 3)) ∧ (decode cL_law 1141 = .ok (.pop, 1)) ∧ (decode cL_law 1142 = .ok (.aload_n 2, 1)) ∧ (decode cL_law 1143 = .ok (.aload_n 0, 1)) ∧ (decode cL_law 1144 = .ok (.iload_n 3, 1)) ∧ (decode cL_law 1145 = .ok (.iconst 1, 1)) ∧ (decode cL_law 1146 = .ok (.iadd, 1)) ∧ (decode cL_law 1147 = .ok (.iaload, 1)) := by decide +kernel
theorem dL_law_1138 : decode cL_law 1138 = .ok (.invokevirtual 131, 3) := eL_law_824.1
theorem dL_law_1141 : decode cL_law 1141 = .ok (.pop, 1) := eL_law_824.2.1
theorem dL_law_1142 : decode cL_law 1142 = .ok (.aload_n 2, 1) := eL_law_824.2.2.1
theorem dL_law_1143 : decode cL_law 1143 = .ok (.aload_n 0, 1) := eL_law_824.2.2.2.1
theorem dL_law_1144 : decode cL_law 1144 = .ok (.iload_n 3, 1) := eL_law_824.2.2.2.2.1
theorem dL_law_1145 : decode cL_law 1145 = .ok (.iconst 1, 1) := eL_law_824.2.2.2.2.2.1
theorem dL_law_1146 : decode cL_law 1146 = .ok (.iadd, 1) := eL_law_824.2.2.2.2.2.2.1
theorem dL_law_1147 : decode cL_law 1147 = .ok (.iaload, 1) := eL_law_824.2.2.2.2.2.2.2
theorem eL_law_832 : (decode cL_law 1148 = .ok (.invokevirtual 134, 3)) ∧ (decode cL_law 1151 = .ok (.pop, 1)) ∧ (decode cL_law 1152 = .ok (.goto 16, 3)) ∧ (decode cL_law 1155 = .ok (.aload_n 1, 1)) ∧ (decode cL_law 1156 = .ok (.invokevirtual 135, 3)) ∧ (decode cL_law 1159 = .ok (.pop, 1)) ∧ (decode cL_law 1160 = .ok (.aload_n 2, 1)) ∧ (decode cL_law 1161 = .ok (.invokevirtual 138, 3)) := by decide +kernel
theorem dL_law_1148 : decode cL_law 1148 = .ok (.invokevirtual 134, 3) := eL_law_832.1
theorem dL_law_1151 : decode cL_law 1151 = .ok (.pop, 1) := eL_law_832.2.1
theorem dL_law_1152 : decode cL_law 1152 = .ok (.goto 16, 3) := eL_law_832.2.2.1
theorem dL_law_1155 : decode cL_law 1155 = .ok (.aload_n 1, 1) := eL_law_832.2.2.2.1
theorem dL_law_1156 : decode cL_law 1156 = .ok (.invokevirtual 135, 3) := eL_law_832.2.2.2.2.1
theorem dL_law_1159 : decode cL_law 1159 = .ok (.pop, 1) := eL_law_832.2.2.2.2.2.1
theorem dL_law_1160 : decode cL_law 1160 = .ok (.aload_n 2, 1) := eL_law_832.2.2.2.2.2.2.1
theorem dL_law_1161 : decode cL_law 1161 = .ok (.invokevirtual 138, 3) := eL_law_832.2.2.2.2.2.2.2
theorem eL_law_840 : (decode cL_law 1164 = .ok (.pop, 1)) ∧ (decode cL_law 1165 = .ok (.goto 3, 3)) ∧ (decode cL_law 1168 = .ok (.iinc 3 6, 3)) ∧ (decode cL_law 1171 = .ok (.goto (-1153), 3)) ∧ (decode cL_law 1174 = .ok (.iconst 1, 1)) ∧ (decode cL_law 1175 = .ok (.ireturn, 1)) := by decide +kernel
theorem dL_law_1164 : decode cL_law 1164 = .ok (.pop, 1) := eL_law_840.1
theorem dL_law_1165 : decode cL_law 1165 = .ok (.goto 3, 3) := eL_law_840.2.1
theorem dL_law_1168 : decode cL_law 1168 = .ok (.iinc 3 6, 3) := eL_law_840.2.2.1
theorem dL_law_1171 : decode cL_law 1171 = .ok (.goto (-1153), 3) := eL_law_840.2.2.2.1
theorem dL_law_1174 : decode cL_law 1174 = .ok (.iconst 1, 1) := eL_law_840.2.2.2.2.1
theorem dL_law_1175 : decode cL_law 1175 = .ok (.ireturn, 1) := eL_law_840.2.2.2.2.2
