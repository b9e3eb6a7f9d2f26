theorem dch_dL_law_0 : decode cL_law 0 = .ok (.new 7, 3) ∧ decode cL_law 3 = .ok (.dup, 1) ∧ decode cL_law 4 = .ok (.invokespecial 9, 3) ∧ decode cL_law 7 = .ok (.astore_n 1, 1) ∧ decode cL_law 8 = .ok (.new 10, 3) ∧ decode cL_law 11 = .ok (.dup, 1) ∧ decode cL_law 12 = .ok (.invokespecial 12, 3) ∧ decode cL_law 15 = .ok (.astore_n 2, 1) ∧ decode cL_law 16 = .ok (.iconst 0, 1) ∧ decode cL_law 17 = .ok (.istore_n 3, 1) ∧ decode cL_law 18 = .ok (.iload_n 3, 1) ∧ decode cL_law 19 = .ok (.aload_n 0, 1) ∧ decode cL_law 20 = .ok (.arraylength, 1) ∧ decode cL_law 21 = .ok (.bipush 7, 2) ∧ decode cL_law 23 = .ok (.isub, 1) ∧ decode cL_law 24 = .ok (.if_icmp .gt 1483, 3) ∧ decode cL_law 27 = .ok (.aload_n 0, 1) ∧ decode cL_law 28 = .ok (.iload_n 3, 1) ∧ decode cL_law 29 = .ok (.iaload, 1) ∧ decode cL_law 30 = .ok (.bipush 63, 2) ∧ decode cL_law 32 = .ok (.iand, 1) ∧ decode cL_law 33 = .ok (.tableswitch 1468 0 34 #[155, 246, 299, 374, 449, 512, 575, 588, 621, 654, 687, 730, 773, 826, 849, 882, 931, 954, 977, 1000, 1033, 1056, 1069, 1112, 1125, 1148, 1191, 1214, 1247, 1280, 1323, 1336, 1349, 1392, 1415], 155) ∧ decode cL_law 188 = .ok (.aload_n 1, 1) ∧ decode cL_law 189 = .ok (.aload_n 0, 1) := by decide +kernel
theorem dL_law_0 : decode cL_law 0 = .ok (.new 7, 3) := dch_dL_law_0.1
theorem dL_law_3 : decode cL_law 3 = .ok (.dup, 1) := dch_dL_law_0.2.1
theorem dL_law_4 : decode cL_law 4 = .ok (.invokespecial 9, 3) := dch_dL_law_0.2.2.1
theorem dL_law_7 : decode cL_law 7 = .ok (.astore_n 1, 1) := dch_dL_law_0.2.2.2.1
theorem dL_law_8 : decode cL_law 8 = .ok (.new 10, 3) := dch_dL_law_0.2.2.2.2.1
theorem dL_law_11 : decode cL_law 11 = .ok (.dup, 1) := dch_dL_law_0.2.2.2.2.2.1
theorem dL_law_12 : decode cL_law 12 = .ok (.invokespecial 12, 3) := dch_dL_law_0.2.2.2.2.2.2.1
theorem dL_law_15 : decode cL_law 15 = .ok (.astore_n 2, 1) := dch_dL_law_0.2.2.2.2.2.2.2.1
theorem dL_law_16 : decode cL_law 16 = .ok (.iconst 0, 1) := dch_dL_law_0.2.2.2.2.2.2.2.2.1
theorem dL_law_17 : decode cL_law 17 = .ok (.istore_n 3, 1) := dch_dL_law_0.2.2.2.2.2.2.2.2.2.1
theorem dL_law_18 : decode cL_law 18 = .ok (.iload_n 3, 1) := dch_dL_law_0.2.2.2.2.2.2.2.2.2.2.1
theorem dL_law_19 : decode cL_law 19 = .ok (.aload_n 0, 1) := dch_dL_law_0.2.2.2.2.2.2.2.2.2.2.2.1
theorem dL_law_20 : decode cL_law 20 = .ok (.arraylength, 1) := dch_dL_law_0.2.2.2.2.2.2.2.2.2.2.2.2.1
theorem dL_law_21 : decode cL_law 21 = .ok (.bipush 7, 2) := dch_dL_law_0.2.2.2.2.2.2.2.2.2.2.2.2.2.1
theorem dL_law_23 : decode cL_law 23 = .ok (.isub, 1) := dch_dL_law_0.2.2.2.2.2.2.2.2.2.2.2.2.2.2.1
theorem dL_law_24 : decode cL_law 24 = .ok (.if_icmp .gt 1483, 3) := dch_dL_law_0.2.2.2.2.2.2.2.2.2.2.2.2.2.2.2.1
theorem dL_law_27 : decode cL_law 27 = .ok (.aload_n 0, 1) := dch_dL_law_0.2.2.2.2.2.2.2.2.2.2.2.2.2.2.2.2.1
theorem dL_law_28 : decode cL_law 28 = .ok (.iload_n 3, 1) := dch_dL_law_0.2.2.2.2.2.2.2.2.2.2.2.2.2.2.2.2.2.1
theorem dL_law_29 : decode cL_law 29 = .ok (.iaload, 1) := dch_dL_law_0.2.2.2.2.2.2.2.2.2.2.2.2.2.2.2.2.2.2.1
theorem dL_law_30 : decode cL_law 30 = .ok (.bipush 63, 2) := dch_dL_law_0.2.2.2.2.2.2.2.2.2.2.2.2.2.2.2.2.2.2.2.1
theorem dL_law_32 : decode cL_law 32 = .ok (.iand, 1) := dch_dL_law_0.2.2.2.2.2.2.2.2.2.2.2.2.2.2.2.2.2.2.2.2.1
theorem dL_law_33 : decode cL_law 33 = .ok (.tableswitch 1468 0 34 #[155, 246, 299, 374, 449, 512, 575, 588, 621, 654, 687, 730, 773, 826, 849, 882, 931, 954, 977, 1000, 1033, 1056, 1069, 1112, 1125, 1148, 1191, 1214, 1247, 1280, 1323, 1336, 1349, 1392, 1415], 155) := dch_dL_law_0.2.2.2.2.2.2.2.2.2.2.2.2.2.2.2.2.2.2.2.2.2.1
theorem dL_law_188 : decode cL_law 188 = .ok (.aload_n 1, 1) := dch_dL_law_0.2.2.2.2.2.2.2.2.2.2.2.2.2.2.2.2.2.2.2.2.2.2.1
theorem dL_law_189 : decode cL_law 189 = .ok (.aload_n 0, 1) := dch_dL_law_0.2.2.2.2.2.2.2.2.2.2.2.2.2.2.2.2.2.2.2.2.2.2.2
theorem dch_dL_law_190 : decode cL_law 190 = .ok (.iload_n 3, 1) ∧ decode cL_law 191 = .ok (.iconst 1, 1) ∧ decode cL_law 192 = .ok (.iadd, 1) ∧ decode cL_law 193 = .ok (.iaload, 1) ∧ decode cL_law 194 = .ok (.aload_n 0, 1) ∧ decode cL_law 195 = .ok (.iload_n 3, 1) ∧ decode cL_law 196 = .ok (.iconst 2, 1) ∧ decode cL_law 197 = .ok (.iadd, 1) ∧ decode cL_law 198 = .ok (.iaload, 1) ∧ decode cL_law 199 = .ok (.aload_n 0, 1) ∧ decode cL_law 200 = .ok (.iload_n 3, 1) ∧ decode cL_law 201 = .ok (.iconst 3, 1) ∧ decode cL_law 202 = .ok (.iadd, 1) ∧ decode cL_law 203 = .ok (.iaload, 1) ∧ decode cL_law 204 = .ok (.aload_n 0, 1) ∧ decode cL_law 205 = .ok (.iload_n 3, 1) ∧ decode cL_law 206 = .ok (.iconst 4, 1) ∧ decode cL_law 207 = .ok (.iadd, 1) ∧ decode cL_law 208 = .ok (.iaload, 1) ∧ decode cL_law 209 = .ok (.aload_n 0, 1) ∧ decode cL_law 210 = .ok (.iload_n 3, 1) ∧ decode cL_law 211 = .ok (.iconst 5, 1) ∧ decode cL_law 212 = .ok (.iadd, 1) ∧ decode cL_law 213 = .ok (.iaload, 1) := by decide +kernel
theorem dL_law_190 : decode cL_law 190 = .ok (.iload_n 3, 1) := dch_dL_law_190.1
theorem dL_law_191 : decode cL_law 191 = .ok (.iconst 1, 1) := dch_dL_law_190.2.1
theorem dL_law_192 : decode cL_law 192 = .ok (.iadd, 1) := dch_dL_law_190.2.2.1
theorem dL_law_193 : decode cL_law 193 = .ok (.iaload, 1) := dch_dL_law_190.2.2.2.1
theorem dL_law_194 : decode cL_law 194 = .ok (.aload_n 0, 1) := dch_dL_law_190.2.2.2.2.1
theorem dL_law_195 : decode cL_law 195 = .ok (.iload_n 3, 1) := dch_dL_law_190.2.2.2.2.2.1
theorem dL_law_196 : decode cL_law 196 = .ok (.iconst 2, 1) := dch_dL_law_190.2.2.2.2.2.2.1
theorem dL_law_197 : decode cL_law 197 = .ok (.iadd, 1) := dch_dL_law_190.2.2.2.2.2.2.2.1
theorem dL_law_198 : decode cL_law 198 = .ok (.iaload, 1) := dch_dL_law_190.2.2.2.2.2.2.2.2.1
theorem dL_law_199 : decode cL_law 199 = .ok (.aload_n 0, 1) := dch_dL_law_190.2.2.2.2.2.2.2.2.2.1
theorem dL_law_200 : decode cL_law 200 = .ok (.iload_n 3, 1) := dch_dL_law_190.2.2.2.2.2.2.2.2.2.2.1
theorem dL_law_201 : decode cL_law 201 = .ok (.iconst 3, 1) := dch_dL_law_190.2.2.2.2.2.2.2.2.2.2.2.1
theorem dL_law_202 : decode cL_law 202 = .ok (.iadd, 1) := dch_dL_law_190.2.2.2.2.2.2.2.2.2.2.2.2.1
theorem dL_law_203 : decode cL_law 203 = .ok (.iaload, 1) := dch_dL_law_190.2.2.2.2.2.2.2.2.2.2.2.2.2.1
theorem dL_law_204 : decode cL_law 204 = .ok (.aload_n 0, 1) := dch_dL_law_190.2.2.2.2.2.2.2.2.2.2.2.2.2.2.1
theorem dL_law_205 : decode cL_law 205 = .ok (.iload_n 3, 1) := dch_dL_law_190.2.2.2.2.2.2.2.2.2.2.2.2.2.2.2.1
theorem dL_law_206 : decode cL_law 206 = .ok (.iconst 4, 1) := dch_dL_law_190.2.2.2.2.2.2.2.2.2.2.2.2.2.2.2.2.1
theorem dL_law_207 : decode cL_law 207 = .ok (.iadd, 1) := dch_dL_law_190.2.2.2.2.2.2.2.2.2.2.2.2.2.2.2.2.2.1
theorem dL_law_208 : decode cL_law 208 = .ok (.iaload, 1) := dch_dL_law_190.2.2.2.2.2.2.2.2.2.2.2.2.2.2.2.2.2.2.1
theorem dL_law_209 : decode cL_law 209 = .ok (.aload_n 0, 1) := dch_dL_law_190.2.2.2.2.2.2.2.2.2.2.2.2.2.2.2.2.2.2.2.1
theorem dL_law_210 : decode cL_law 210 = .ok (.iload_n 3, 1) := dch_dL_law_190.2.2.2.2.2.2.2.2.2.2.2.2.2.2.2.2.2.2.2.2.1
theorem dL_law_211 : decode cL_law 211 = .ok (.iconst 5, 1) := dch_dL_law_190.2.2.2.2.2.2.2.2.2.2.2.2.2.2.2.2.2.2.2.2.2.1
theorem dL_law_212 : decode cL_law 212 = .ok (.iadd, 1) := dch_dL_law_190.2.2.2.2.2.2.2.2.2.2.2.2.2.2.2.2.2.2.2.2.2.2.1
theorem dL_law_213 : decode cL_law 213 = .ok (.iaload, 1) := dch_dL_law_190.2.2.2.2.2.2.2.2.2.2.2.2.2.2.2.2.2.2.2.2.2.2.2
theorem dch_dL_law_214 : decode cL_law 214 = .ok (.aload_n 0, 1) ∧ decode cL_law 215 = .ok (.iload_n 3, 1) ∧ decode cL_law 216 = .ok (.bipush 6, 2) ∧ decode cL_law 218 = .ok (.iadd, 1) ∧ decode cL_law 219 = .ok (.iaload, 1) ∧ decode cL_law 220 = .ok (.ifCond .eq 7, 3) ∧ decode cL_law 223 = .ok (.iconst 1, 1) ∧ decode cL_law 224 = .ok (.goto 4, 3) ∧ decode cL_law 227 = .ok (.iconst 0, 1) ∧ decode cL_law 228 = .ok (.invokevirtual 13, 3) ∧ decode cL_law 231 = .ok (.pop, 1) ∧ decode cL_law 232 = .ok (.aload_n 2, 1) ∧ decode cL_law 233 = .ok (.aload_n 0, 1) ∧ decode cL_law 234 = .ok (.iload_n 3, 1) ∧ decode cL_law 235 = .ok (.iconst 1, 1) ∧ decode cL_law 236 = .ok (.iadd, 1) ∧ decode cL_law 237 = .ok (.iaload, 1) ∧ decode cL_law 238 = .ok (.aload_n 0, 1) ∧ decode cL_law 239 = .ok (.iload_n 3, 1) ∧ decode cL_law 240 = .ok (.iconst 2, 1) ∧ decode cL_law 241 = .ok (.iadd, 1) ∧ decode cL_law 242 = .ok (.iaload, 1) ∧ decode cL_law 243 = .ok (.aload_n 0, 1) ∧ decode cL_law 244 = .ok (.iload_n 3, 1) := by decide +kernel
theorem dL_law_214 : decode cL_law 214 = .ok (.aload_n 0, 1) := dch_dL_law_214.1
theorem dL_law_215 : decode cL_law 215 = .ok (.iload_n 3, 1) := dch_dL_law_214.2.1
theorem dL_law_216 : decode cL_law 216 = .ok (.bipush 6, 2) := dch_dL_law_214.2.2.1
theorem dL_law_218 : decode cL_law 218 = .ok (.iadd, 1) := dch_dL_law_214.2.2.2.1
theorem dL_law_219 : decode cL_law 219 = .ok (.iaload, 1) := dch_dL_law_214.2.2.2.2.1
theorem dL_law_220 : decode cL_law 220 = .ok (.ifCond .eq 7, 3) := dch_dL_law_214.2.2.2.2.2.1
theorem dL_law_223 : decode cL_law 223 = .ok (.iconst 1, 1) := dch_dL_law_214.2.2.2.2.2.2.1
theorem dL_law_224 : decode cL_law 224 = .ok (.goto 4, 3) := dch_dL_law_214.2.2.2.2.2.2.2.1
theorem dL_law_227 : decode cL_law 227 = .ok (.iconst 0, 1) := dch_dL_law_214.2.2.2.2.2.2.2.2.1
theorem dL_law_228 : decode cL_law 228 = .ok (.invokevirtual 13, 3) := dch_dL_law_214.2.2.2.2.2.2.2.2.2.1
theorem dL_law_231 : decode cL_law 231 = .ok (.pop, 1) := dch_dL_law_214.2.2.2.2.2.2.2.2.2.2.1
theorem dL_law_232 : decode cL_law 232 = .ok (.aload_n 2, 1) := dch_dL_law_214.2.2.2.2.2.2.2.2.2.2.2.1
theorem dL_law_233 : decode cL_law 233 = .ok (.aload_n 0, 1) := dch_dL_law_214.2.2.2.2.2.2.2.2.2.2.2.2.1
theorem dL_law_234 : decode cL_law 234 = .ok (.iload_n 3, 1) := dch_dL_law_214.2.2.2.2.2.2.2.2.2.2.2.2.2.1
theorem dL_law_235 : decode cL_law 235 = .ok (.iconst 1, 1) := dch_dL_law_214.2.2.2.2.2.2.2.2.2.2.2.2.2.2.1
theorem dL_law_236 : decode cL_law 236 = .ok (.iadd, 1) := dch_dL_law_214.2.2.2.2.2.2.2.2.2.2.2.2.2.2.2.1
theorem dL_law_237 : decode cL_law 237 = .ok (.iaload, 1) := dch_dL_law_214.2.2.2.2.2.2.2.2.2.2.2.2.2.2.2.2.1
theorem dL_law_238 : decode cL_law 238 = .ok (.aload_n 0, 1) := dch_dL_law_214.2.2.2.2.2.2.2.2.2.2.2.2.2.2.2.2.2.1
theorem dL_law_239 : decode cL_law 239 = .ok (.iload_n 3, 1) := dch_dL_law_214.2.2.2.2.2.2.2.2.2.2.2.2.2.2.2.2.2.2.1
theorem dL_law_240 : decode cL_law 240 = .ok (.iconst 2, 1) := dch_dL_law_214.2.2.2.2.2.2.2.2.2.2.2.2.2.2.2.2.2.2.2.1
theorem dL_law_241 : decode cL_law 241 = .ok (.iadd, 1) := dch_dL_law_214.2.2.2.2.2.2.2.2.2.2.2.2.2.2.2.2.2.2.2.2.1
theorem dL_law_242 : decode cL_law 242 = .ok (.iaload, 1) := dch_dL_law_214.2.2.2.2.2.2.2.2.2.2.2.2.2.2.2.2.2.2.2.2.2.1
theorem dL_law_243 : decode cL_law 243 = .ok (.aload_n 0, 1) := dch_dL_law_214.2.2.2.2.2.2.2.2.2.2.2.2.2.2.2.2.2.2.2.2.2.2.1
theorem dL_law_244 : decode cL_law 244 = .ok (.iload_n 3, 1) := dch_dL_law_214.2.2.2.2.2.2.2.2.2.2.2.2.2.2.2.2.2.2.2.2.2.2.2
theorem dch_dL_law_245 : decode cL_law 245 = .ok (.iconst 3, 1) ∧ decode cL_law 246 = .ok (.iadd, 1) ∧ decode cL_law 247 = .ok (.iaload, 1) ∧ decode cL_law 248 = .ok (.aload_n 0, 1) ∧ decode cL_law 249 = .ok (.iload_n 3, 1) ∧ decode cL_law 250 = .ok (.iconst 4, 1) ∧ decode cL_law 251 = .ok (.iadd, 1) ∧ decode cL_law 252 = .ok (.iaload, 1) ∧ decode cL_law 253 = .ok (.aload_n 0, 1) ∧ decode cL_law 254 = .ok (.iload_n 3, 1) ∧ decode cL_law 255 = .ok (.iconst 5, 1) ∧ decode cL_law 256 = .ok (.iadd, 1) ∧ decode cL_law 257 = .ok (.iaload, 1) ∧ decode cL_law 258 = .ok (.aload_n 0, 1) ∧ decode cL_law 259 = .ok (.iload_n 3, 1) ∧ decode cL_law 260 = .ok (.bipush 6, 2) ∧ decode cL_law 262 = .ok (.iadd, 1) ∧ decode cL_law 263 = .ok (.iaload, 1) ∧ decode cL_law 264 = .ok (.ifCond .eq 7, 3) ∧ decode cL_law 267 = .ok (.iconst 1, 1) ∧ decode cL_law 268 = .ok (.goto 4, 3) ∧ decode cL_law 271 = .ok (.iconst 0, 1) ∧ decode cL_law 272 = .ok (.invokevirtual 17, 3) ∧ decode cL_law 275 = .ok (.pop, 1) := by decide +kernel
theorem dL_law_245 : decode cL_law 245 = .ok (.iconst 3, 1) := dch_dL_law_245.1
theorem dL_law_246 : decode cL_law 246 = .ok (.iadd, 1) := dch_dL_law_245.2.1
theorem dL_law_247 : decode cL_law 247 = .ok (.iaload, 1) := dch_dL_law_245.2.2.1
theorem dL_law_248 : decode cL_law 248 = .ok (.aload_n 0, 1) := dch_dL_law_245.2.2.2.1
theorem dL_law_249 : decode cL_law 249 = .ok (.iload_n 3, 1) := dch_dL_law_245.2.2.2.2.1
theorem dL_law_250 : decode cL_law 250 = .ok (.iconst 4, 1) := dch_dL_law_245.2.2.2.2.2.1
theorem dL_law_251 : decode cL_law 251 = .ok (.iadd, 1) := dch_dL_law_245.2.2.2.2.2.2.1
theorem dL_law_252 : decode cL_law 252 = .ok (.iaload, 1) := dch_dL_law_245.2.2.2.2.2.2.2.1
theorem dL_law_253 : decode cL_law 253 = .ok (.aload_n 0, 1) := dch_dL_law_245.2.2.2.2.2.2.2.2.1
theorem dL_law_254 : decode cL_law 254 = .ok (.iload_n 3, 1) := dch_dL_law_245.2.2.2.2.2.2.2.2.2.1
theorem dL_law_255 : decode cL_law 255 = .ok (.iconst 5, 1) := dch_dL_law_245.2.2.2.2.2.2.2.2.2.2.1
theorem dL_law_256 : decode cL_law 256 = .ok (.iadd, 1) := dch_dL_law_245.2.2.2.2.2.2.2.2.2.2.2.1
theorem dL_law_257 : decode cL_law 257 = .ok (.iaload, 1) := dch_dL_law_245.2.2.2.2.2.2.2.2.2.2.2.2.1
theorem dL_law_258 : decode cL_law 258 = .ok (.aload_n 0, 1) := dch_dL_law_245.2.2.2.2.2.2.2.2.2.2.2.2.2.1
theorem dL_law_259 : decode cL_law 259 = .ok (.iload_n 3, 1) := dch_dL_law_245.2.2.2.2.2.2.2.2.2.2.2.2.2.2.1
theorem dL_law_260 : decode cL_law 260 = .ok (.bipush 6, 2) := dch_dL_law_245.2.2.2.2.2.2.2.2.2.2.2.2.2.2.2.1
theorem dL_law_262 : decode cL_law 262 = .ok (.iadd, 1) := dch_dL_law_245.2.2.2.2.2.2.2.2.2.2.2.2.2.2.2.2.1
theorem dL_law_263 : decode cL_law 263 = .ok (.iaload, 1) := dch_dL_law_245.2.2.2.2.2.2.2.2.2.2.2.2.2.2.2.2.2.1
theorem dL_law_264 : decode cL_law 264 = .ok (.ifCond .eq 7, 3) := dch_dL_law_245.2.2.2.2.2.2.2.2.2.2.2.2.2.2.2.2.2.2.1
theorem dL_law_267 : decode cL_law 267 = .ok (.iconst 1, 1) := dch_dL_law_245.2.2.2.2.2.2.2.2.2.2.2.2.2.2.2.2.2.2.2.1
theorem dL_law_268 : decode cL_law 268 = .ok (.goto 4, 3) := dch_dL_law_245.2.2.2.2.2.2.2.2.2.2.2.2.2.2.2.2.2.2.2.2.1
theorem dL_law_271 : decode cL_law 271 = .ok (.iconst 0, 1) := dch_dL_law_245.2.2.2.2.2.2.2.2.2.2.2.2.2.2.2.2.2.2.2.2.2.1
theorem dL_law_272 : decode cL_law 272 = .ok (.invokevirtual 17, 3) := dch_dL_law_245.2.2.2.2.2.2.2.2.2.2.2.2.2.2.2.2.2.2.2.2.2.2.1
theorem dL_law_275 : decode cL_law 275 = .ok (.pop, 1) := dch_dL_law_245.2.2.2.2.2.2.2.2.2.2.2.2.2.2.2.2.2.2.2.2.2.2.2
theorem dch_dL_law_276 : decode cL_law 276 = .ok (.goto 1225, 3) ∧ decode cL_law 279 = .ok (.aload_n 1, 1) ∧ decode cL_law 280 = .ok (.aload_n 0, 1) ∧ decode cL_law 281 = .ok (.iload_n 3, 1) ∧ decode cL_law 282 = .ok (.iconst 1, 1) ∧ decode cL_law 283 = .ok (.iadd, 1) ∧ decode cL_law 284 = .ok (.iaload, 1) ∧ decode cL_law 285 = .ok (.aload_n 0, 1) ∧ decode cL_law 286 = .ok (.iload_n 3, 1) ∧ decode cL_law 287 = .ok (.iconst 2, 1) ∧ decode cL_law 288 = .ok (.iadd, 1) ∧ decode cL_law 289 = .ok (.iaload, 1) ∧ decode cL_law 290 = .ok (.aload_n 0, 1) ∧ decode cL_law 291 = .ok (.iload_n 3, 1) ∧ decode cL_law 292 = .ok (.iconst 3, 1) ∧ decode cL_law 293 = .ok (.iadd, 1) ∧ decode cL_law 294 = .ok (.iaload, 1) ∧ decode cL_law 295 = .ok (.aload_n 0, 1) ∧ decode cL_law 296 = .ok (.iload_n 3, 1) ∧ decode cL_law 297 = .ok (.iconst 4, 1) ∧ decode cL_law 298 = .ok (.iadd, 1) ∧ decode cL_law 299 = .ok (.iaload, 1) ∧ decode cL_law 300 = .ok (.invokevirtual 18, 3) ∧ decode cL_law 303 = .ok (.pop, 1) := by decide +kernel
theorem dL_law_276 : decode cL_law 276 = .ok (.goto 1225, 3) := dch_dL_law_276.1
theorem dL_law_279 : decode cL_law 279 = .ok (.aload_n 1, 1) := dch_dL_law_276.2.1
theorem dL_law_280 : decode cL_law 280 = .ok (.aload_n 0, 1) := dch_dL_law_276.2.2.1
theorem dL_law_281 : decode cL_law 281 = .ok (.iload_n 3, 1) := dch_dL_law_276.2.2.2.1
theorem dL_law_282 : decode cL_law 282 = .ok (.iconst 1, 1) := dch_dL_law_276.2.2.2.2.1
theorem dL_law_283 : decode cL_law 283 = .ok (.iadd, 1) := dch_dL_law_276.2.2.2.2.2.1
theorem dL_law_284 : decode cL_law 284 = .ok (.iaload, 1) := dch_dL_law_276.2.2.2.2.2.2.1
theorem dL_law_285 : decode cL_law 285 = .ok (.aload_n 0, 1) := dch_dL_law_276.2.2.2.2.2.2.2.1
theorem dL_law_286 : decode cL_law 286 = .ok (.iload_n 3, 1) := dch_dL_law_276.2.2.2.2.2.2.2.2.1
theorem dL_law_287 : decode cL_law 287 = .ok (.iconst 2, 1) := dch_dL_law_276.2.2.2.2.2.2.2.2.2.1
theorem dL_law_288 : decode cL_law 288 = .ok (.iadd, 1) := dch_dL_law_276.2.2.2.2.2.2.2.2.2.2.1
theorem dL_law_289 : decode cL_law 289 = .ok (.iaload, 1) := dch_dL_law_276.2.2.2.2.2.2.2.2.2.2.2.1
theorem dL_law_290 : decode cL_law 290 = .ok (.aload_n 0, 1) := dch_dL_law_276.2.2.2.2.2.2.2.2.2.2.2.2.1
theorem dL_law_291 : decode cL_law 291 = .ok (.iload_n 3, 1) := dch_dL_law_276.2.2.2.2.2.2.2.2.2.2.2.2.2.1
theorem dL_law_292 : decode cL_law 292 = .ok (.iconst 3, 1) := dch_dL_law_276.2.2.2.2.2.2.2.2.2.2.2.2.2.2.1
theorem dL_law_293 : decode cL_law 293 = .ok (.iadd, 1) := dch_dL_law_276.2.2.2.2.2.2.2.2.2.2.2.2.2.2.2.1
theorem dL_law_294 : decode cL_law 294 = .ok (.iaload, 1) := dch_dL_law_276.2.2.2.2.2.2.2.2.2.2.2.2.2.2.2.2.1
theorem dL_law_295 : decode cL_law 295 = .ok (.aload_n 0, 1) := dch_dL_law_276.2.2.2.2.2.2.2.2.2.2.2.2.2.2.2.2.2.1
theorem dL_law_296 : decode cL_law 296 = .ok (.iload_n 3, 1) := dch_dL_law_276.2.2.2.2.2.2.2.2.2.2.2.2.2.2.2.2.2.2.1
theorem dL_law_297 : decode cL_law 297 = .ok (.iconst 4, 1) := dch_dL_law_276.2.2.2.2.2.2.2.2.2.2.2.2.2.2.2.2.2.2.2.1
theorem dL_law_298 : decode cL_law 298 = .ok (.iadd, 1) := dch_dL_law_276.2.2.2.2.2.2.2.2.2.2.2.2.2.2.2.2.2.2.2.2.1
theorem dL_law_299 : decode cL_law 299 = .ok (.iaload, 1) := dch_dL_law_276.2.2.2.2.2.2.2.2.2.2.2.2.2.2.2.2.2.2.2.2.2.1
theorem dL_law_300 : decode cL_law 300 = .ok (.invokevirtual 18, 3) := dch_dL_law_276.2.2.2.2.2.2.2.2.2.2.2.2.2.2.2.2.2.2.2.2.2.2.1
theorem dL_law_303 : decode cL_law 303 = .ok (.pop, 1) := dch_dL_law_276.2.2.2.2.2.2.2.2.2.2.2.2.2.2.2.2.2.2.2.2.2.2.2
theorem dch_dL_law_304 : decode cL_law 304 = .ok (.aload_n 2, 1) ∧ decode cL_law 305 = .ok (.aload_n 0, 1) ∧ decode cL_law 306 = .ok (.iload_n 3, 1) ∧ decode cL_law 307 = .ok (.iconst 1, 1) ∧ decode cL_law 308 = .ok (.iadd, 1) ∧ decode cL_law 309 = .ok (.iaload, 1) ∧ decode cL_law 310 = .ok (.aload_n 0, 1) ∧ decode cL_law 311 = .ok (.iload_n 3, 1) ∧ decode cL_law 312 = .ok (.iconst 2, 1) ∧ decode cL_law 313 = .ok (.iadd, 1) ∧ decode cL_law 314 = .ok (.iaload, 1) ∧ decode cL_law 315 = .ok (.aload_n 0, 1) ∧ decode cL_law 316 = .ok (.iload_n 3, 1) ∧ decode cL_law 317 = .ok (.iconst 3, 1) ∧ decode cL_law 318 = .ok (.iadd, 1) ∧ decode cL_law 319 = .ok (.iaload, 1) ∧ decode cL_law 320 = .ok (.aload_n 0, 1) ∧ decode cL_law 321 = .ok (.iload_n 3, 1) ∧ decode cL_law 322 = .ok (.iconst 4, 1) ∧ decode cL_law 323 = .ok (.iadd, 1) ∧ decode cL_law 324 = .ok (.iaload, 1) ∧ decode cL_law 325 = .ok (.invokevirtual 22, 3) ∧ decode cL_law 328 = .ok (.pop, 1) ∧ decode cL_law 329 = .ok (.goto 1172, 3) := by decide +kernel
theorem dL_law_304 : decode cL_law 304 = .ok (.aload_n 2, 1) := dch_dL_law_304.1
theorem dL_law_305 : decode cL_law 305 = .ok (.aload_n 0, 1) := dch_dL_law_304.2.1
theorem dL_law_306 : decode cL_law 306 = .ok (.iload_n 3, 1) := dch_dL_law_304.2.2.1
theorem dL_law_307 : decode cL_law 307 = .ok (.iconst 1, 1) := dch_dL_law_304.2.2.2.1
theorem dL_law_308 : decode cL_law 308 = .ok (.iadd, 1) := dch_dL_law_304.2.2.2.2.1
theorem dL_law_309 : decode cL_law 309 = .ok (.iaload, 1) := dch_dL_law_304.2.2.2.2.2.1
theorem dL_law_310 : decode cL_law 310 = .ok (.aload_n 0, 1) := dch_dL_law_304.2.2.2.2.2.2.1
theorem dL_law_311 : decode cL_law 311 = .ok (.iload_n 3, 1) := dch_dL_law_304.2.2.2.2.2.2.2.1
theorem dL_law_312 : decode cL_law 312 = .ok (.iconst 2, 1) := dch_dL_law_304.2.2.2.2.2.2.2.2.1
theorem dL_law_313 : decode cL_law 313 = .ok (.iadd, 1) := dch_dL_law_304.2.2.2.2.2.2.2.2.2.1
theorem dL_law_314 : decode cL_law 314 = .ok (.iaload, 1) := dch_dL_law_304.2.2.2.2.2.2.2.2.2.2.1
theorem dL_law_315 : decode cL_law 315 = .ok (.aload_n 0, 1) := dch_dL_law_304.2.2.2.2.2.2.2.2.2.2.2.1
theorem dL_law_316 : decode cL_law 316 = .ok (.iload_n 3, 1) := dch_dL_law_304.2.2.2.2.2.2.2.2.2.2.2.2.1
theorem dL_law_317 : decode cL_law 317 = .ok (.iconst 3, 1) := dch_dL_law_304.2.2.2.2.2.2.2.2.2.2.2.2.2.1
theorem dL_law_318 : decode cL_law 318 = .ok (.iadd, 1) := dch_dL_law_304.2.2.2.2.2.2.2.2.2.2.2.2.2.2.1
theorem dL_law_319 : decode cL_law 319 = .ok (.iaload, 1) := dch_dL_law_304.2.2.2.2.2.2.2.2.2.2.2.2.2.2.2.1
theorem dL_law_320 : decode cL_law 320 = .ok (.aload_n 0, 1) := dch_dL_law_304.2.2.2.2.2.2.2.2.2.2.2.2.2.2.2.2.1
theorem dL_law_321 : decode cL_law 321 = .ok (.iload_n 3, 1) := dch_dL_law_304.2.2.2.2.2.2.2.2.2.2.2.2.2.2.2.2.2.1
theorem dL_law_322 : decode cL_law 322 = .ok (.iconst 4, 1) := dch_dL_law_304.2.2.2.2.2.2.2.2.2.2.2.2.2.2.2.2.2.2.1
theorem dL_law_323 : decode cL_law 323 = .ok (.iadd, 1) := dch_dL_law_304.2.2.2.2.2.2.2.2.2.2.2.2.2.2.2.2.2.2.2.1
theorem dL_law_324 : decode cL_law 324 = .ok (.iaload, 1) := dch_dL_law_304.2.2.2.2.2.2.2.2.2.2.2.2.2.2.2.2.2.2.2.2.1
theorem dL_law_325 : decode cL_law 325 = .ok (.invokevirtual 22, 3) := dch_dL_law_304.2.2.2.2.2.2.2.2.2.2.2.2.2.2.2.2.2.2.2.2.2.1
theorem dL_law_328 : decode cL_law 328 = .ok (.pop, 1) := dch_dL_law_304.2.2.2.2.2.2.2.2.2.2.2.2.2.2.2.2.2.2.2.2.2.2.1
theorem dL_law_329 : decode cL_law 329 = .ok (.goto 1172, 3) := dch_dL_law_304.2.2.2.2.2.2.2.2.2.2.2.2.2.2.2.2.2.2.2.2.2.2.2
theorem dch_dL_law_332 : decode cL_law 332 = .ok (.aload_n 1, 1) ∧ decode cL_law 333 = .ok (.aload_n 0, 1) ∧ decode cL_law 334 = .ok (.iload_n 3, 1) ∧ decode cL_law 335 = .ok (.iconst 1, 1) ∧ decode cL_law 336 = .ok (.iadd, 1) ∧ decode cL_law 337 = .ok (.iaload, 1) ∧ decode cL_law 338 = .ok (.aload_n 0, 1) ∧ decode cL_law 339 = .ok (.iload_n 3, 1) ∧ decode cL_law 340 = .ok (.iconst 2, 1) ∧ decode cL_law 341 = .ok (.iadd, 1) ∧ decode cL_law 342 = .ok (.iaload, 1) ∧ decode cL_law 343 = .ok (.aload_n 0, 1) ∧ decode cL_law 344 = .ok (.iload_n 3, 1) ∧ decode cL_law 345 = .ok (.iconst 3, 1) ∧ decode cL_law 346 = .ok (.iadd, 1) ∧ decode cL_law 347 = .ok (.iaload, 1) ∧ decode cL_law 348 = .ok (.aload_n 0, 1) ∧ decode cL_law 349 = .ok (.iload_n 3, 1) ∧ decode cL_law 350 = .ok (.iconst 4, 1) ∧ decode cL_law 351 = .ok (.iadd, 1) ∧ decode cL_law 352 = .ok (.iaload, 1) ∧ decode cL_law 353 = .ok (.aload_n 0, 1) ∧ decode cL_law 354 = .ok (.iload_n 3, 1) ∧ decode cL_law 355 = .ok (.iconst 5, 1) := by decide +kernel
theorem dL_law_332 : decode cL_law 332 = .ok (.aload_n 1, 1) := dch_dL_law_332.1
theorem dL_law_333 : decode cL_law 333 = .ok (.aload_n 0, 1) := dch_dL_law_332.2.1
theorem dL_law_334 : decode cL_law 334 = .ok (.iload_n 3, 1) := dch_dL_law_332.2.2.1
theorem dL_law_335 : decode cL_law 335 = .ok (.iconst 1, 1) := dch_dL_law_332.2.2.2.1
theorem dL_law_336 : decode cL_law 336 = .ok (.iadd, 1) := dch_dL_law_332.2.2.2.2.1
theorem dL_law_337 : decode cL_law 337 = .ok (.iaload, 1) := dch_dL_law_332.2.2.2.2.2.1
theorem dL_law_338 : decode cL_law 338 = .ok (.aload_n 0, 1) := dch_dL_law_332.2.2.2.2.2.2.1
theorem dL_law_339 : decode cL_law 339 = .ok (.iload_n 3, 1) := dch_dL_law_332.2.2.2.2.2.2.2.1
theorem dL_law_340 : decode cL_law 340 = .ok (.iconst 2, 1) := dch_dL_law_332.2.2.2.2.2.2.2.2.1
theorem dL_law_341 : decode cL_law 341 = .ok (.iadd, 1) := dch_dL_law_332.2.2.2.2.2.2.2.2.2.1
theorem dL_law_342 : decode cL_law 342 = .ok (.iaload, 1) := dch_dL_law_332.2.2.2.2.2.2.2.2.2.2.1
theorem dL_law_343 : decode cL_law 343 = .ok (.aload_n 0, 1) := dch_dL_law_332.2.2.2.2.2.2.2.2.2.2.2.1
theorem dL_law_344 : decode cL_law 344 = .ok (.iload_n 3, 1) := dch_dL_law_332.2.2.2.2.2.2.2.2.2.2.2.2.1
theorem dL_law_345 : decode cL_law 345 = .ok (.iconst 3, 1) := dch_dL_law_332.2.2.2.2.2.2.2.2.2.2.2.2.2.1
theorem dL_law_346 : decode cL_law 346 = .ok (.iadd, 1) := dch_dL_law_332.2.2.2.2.2.2.2.2.2.2.2.2.2.2.1
theorem dL_law_347 : decode cL_law 347 = .ok (.iaload, 1) := dch_dL_law_332.2.2.2.2.2.2.2.2.2.2.2.2.2.2.2.1
theorem dL_law_348 : decode cL_law 348 = .ok (.aload_n 0, 1) := dch_dL_law_332.2.2.2.2.2.2.2.2.2.2.2.2.2.2.2.2.1
theorem dL_law_349 : decode cL_law 349 = .ok (.iload_n 3, 1) := dch_dL_law_332.2.2.2.2.2.2.2.2.2.2.2.2.2.2.2.2.2.1
theorem dL_law_350 : decode cL_law 350 = .ok (.iconst 4, 1) := dch_dL_law_332.2.2.2.2.2.2.2.2.2.2.2.2.2.2.2.2.2.2.1
theorem dL_law_351 : decode cL_law 351 = .ok (.iadd, 1) := dch_dL_law_332.2.2.2.2.2.2.2.2.2.2.2.2.2.2.2.2.2.2.2.1
theorem dL_law_352 : decode cL_law 352 = .ok (.iaload, 1) := dch_dL_law_332.2.2.2.2.2.2.2.2.2.2.2.2.2.2.2.2.2.2.2.2.1
theorem dL_law_353 : decode cL_law 353 = .ok (.aload_n 0, 1) := dch_dL_law_332.2.2.2.2.2.2.2.2.2.2.2.2.2.2.2.2.2.2.2.2.2.1
theorem dL_law_354 : decode cL_law 354 = .ok (.iload_n 3, 1) := dch_dL_law_332.2.2.2.2.2.2.2.2.2.2.2.2.2.2.2.2.2.2.2.2.2.2.1
theorem dL_law_355 : decode cL_law 355 = .ok (.iconst 5, 1) := dch_dL_law_332.2.2.2.2.2.2.2.2.2.2.2.2.2.2.2.2.2.2.2.2.2.2.2
theorem dch_dL_law_356 : decode cL_law 356 = .ok (.iadd, 1) ∧ decode cL_law 357 = .ok (.iaload, 1) ∧ decode cL_law 358 = .ok (.aload_n 0, 1) ∧ decode cL_law 359 = .ok (.iload_n 3, 1) ∧ decode cL_law 360 = .ok (.bipush 6, 2) ∧ decode cL_law 362 = .ok (.iadd, 1) ∧ decode cL_law 363 = .ok (.iaload, 1) ∧ decode cL_law 364 = .ok (.invokevirtual 23, 3) ∧ decode cL_law 367 = .ok (.pop, 1) ∧ decode cL_law 368 = .ok (.aload_n 2, 1) ∧ decode cL_law 369 = .ok (.aload_n 0, 1) ∧ decode cL_law 370 = .ok (.iload_n 3, 1) ∧ decode cL_law 371 = .ok (.iconst 1, 1) ∧ decode cL_law 372 = .ok (.iadd, 1) ∧ decode cL_law 373 = .ok (.iaload, 1) ∧ decode cL_law 374 = .ok (.aload_n 0, 1) ∧ decode cL_law 375 = .ok (.iload_n 3, 1) ∧ decode cL_law 376 = .ok (.iconst 2, 1) ∧ decode cL_law 377 = .ok (.iadd, 1) ∧ decode cL_law 378 = .ok (.iaload, 1) ∧ decode cL_law 379 = .ok (.aload_n 0, 1) ∧ decode cL_law 380 = .ok (.iload_n 3, 1) ∧ decode cL_law 381 = .ok (.iconst 3, 1) ∧ decode cL_law 382 = .ok (.iadd, 1) := by decide +kernel
theorem dL_law_356 : decode cL_law 356 = .ok (.iadd, 1) := dch_dL_law_356.1
theorem dL_law_357 : decode cL_law 357 = .ok (.iaload, 1) := dch_dL_law_356.2.1
theorem dL_law_358 : decode cL_law 358 = .ok (.aload_n 0, 1) := dch_dL_law_356.2.2.1
theorem dL_law_359 : decode cL_law 359 = .ok (.iload_n 3, 1) := dch_dL_law_356.2.2.2.1
theorem dL_law_360 : decode cL_law 360 = .ok (.bipush 6, 2) := dch_dL_law_356.2.2.2.2.1
theorem dL_law_362 : decode cL_law 362 = .ok (.iadd, 1) := dch_dL_law_356.2.2.2.2.2.1
theorem dL_law_363 : decode cL_law 363 = .ok (.iaload, 1) := dch_dL_law_356.2.2.2.2.2.2.1
theorem dL_law_364 : decode cL_law 364 = .ok (.invokevirtual 23, 3) := dch_dL_law_356.2.2.2.2.2.2.2.1
theorem dL_law_367 : decode cL_law 367 = .ok (.pop, 1) := dch_dL_law_356.2.2.2.2.2.2.2.2.1
theorem dL_law_368 : decode cL_law 368 = .ok (.aload_n 2, 1) := dch_dL_law_356.2.2.2.2.2.2.2.2.2.1
theorem dL_law_369 : decode cL_law 369 = .ok (.aload_n 0, 1) := dch_dL_law_356.2.2.2.2.2.2.2.2.2.2.1
theorem dL_law_370 : decode cL_law 370 = .ok (.iload_n 3, 1) := dch_dL_law_356.2.2.2.2.2.2.2.2.2.2.2.1
theorem dL_law_371 : decode cL_law 371 = .ok (.iconst 1, 1) := dch_dL_law_356.2.2.2.2.2.2.2.2.2.2.2.2.1
theorem dL_law_372 : decode cL_law 372 = .ok (.iadd, 1) := dch_dL_law_356.2.2.2.2.2.2.2.2.2.2.2.2.2.1
theorem dL_law_373 : decode cL_law 373 = .ok (.iaload, 1) := dch_dL_law_356.2.2.2.2.2.2.2.2.2.2.2.2.2.2.1
theorem dL_law_374 : decode cL_law 374 = .ok (.aload_n 0, 1) := dch_dL_law_356.2.2.2.2.2.2.2.2.2.2.2.2.2.2.2.1
theorem dL_law_375 : decode cL_law 375 = .ok (.iload_n 3, 1) := dch_dL_law_356.2.2.2.2.2.2.2.2.2.2.2.2.2.2.2.2.1
theorem dL_law_376 : decode cL_law 376 = .ok (.iconst 2, 1) := dch_dL_law_356.2.2.2.2.2.2.2.2.2.2.2.2.2.2.2.2.2.1
theorem dL_law_377 : decode cL_law 377 = .ok (.iadd, 1) := dch_dL_law_356.2.2.2.2.2.2.2.2.2.2.2.2.2.2.2.2.2.2.1
theorem dL_law_378 : decode cL_law 378 = .ok (.iaload, 1) := dch_dL_law_356.2.2.2.2.2.2.2.2.2.2.2.2.2.2.2.2.2.2.2.1
theorem dL_law_379 : decode cL_law 379 = .ok (.aload_n 0, 1) := dch_dL_law_356.2.2.2.2.2.2.2.2.2.2.2.2.2.2.2.2.2.2.2.2.1
theorem dL_law_380 : decode cL_law 380 = .ok (.iload_n 3, 1) := dch_dL_law_356.2.2.2.2.2.2.2.2.2.2.2.2.2.2.2.2.2.2.2.2.2.1
theorem dL_law_381 : decode cL_law 381 = .ok (.iconst 3, 1) := dch_dL_law_356.2.2.2.2.2.2.2.2.2.2.2.2.2.2.2.2.2.2.2.2.2.2.1
theorem dL_law_382 : decode cL_law 382 = .ok (.iadd, 1) := dch_dL_law_356.2.2.2.2.2.2.2.2.2.2.2.2.2.2.2.2.2.2.2.2.2.2.2
theorem dch_dL_law_383 : decode cL_law 383 = .ok (.iaload, 1) ∧ decode cL_law 384 = .ok (.aload_n 0, 1) ∧ decode cL_law 385 = .ok (.iload_n 3, 1) ∧ decode cL_law 386 = .ok (.iconst 4, 1) ∧ decode cL_law 387 = .ok (.iadd, 1) ∧ decode cL_law 388 = .ok (.iaload, 1) ∧ decode cL_law 389 = .ok (.aload_n 0, 1) ∧ decode cL_law 390 = .ok (.iload_n 3, 1) ∧ decode cL_law 391 = .ok (.iconst 5, 1) ∧ decode cL_law 392 = .ok (.iadd, 1) ∧ decode cL_law 393 = .ok (.iaload, 1) ∧ decode cL_law 394 = .ok (.aload_n 0, 1) ∧ decode cL_law 395 = .ok (.iload_n 3, 1) ∧ decode cL_law 396 = .ok (.bipush 6, 2) ∧ decode cL_law 398 = .ok (.iadd, 1) ∧ decode cL_law 399 = .ok (.iaload, 1) ∧ decode cL_law 400 = .ok (.invokevirtual 27, 3) ∧ decode cL_law 403 = .ok (.pop, 1) ∧ decode cL_law 404 = .ok (.goto 1097, 3) ∧ decode cL_law 407 = .ok (.aload_n 1, 1) ∧ decode cL_law 408 = .ok (.aload_n 0, 1) ∧ decode cL_law 409 = .ok (.iload_n 3, 1) ∧ decode cL_law 410 = .ok (.iconst 1, 1) ∧ decode cL_law 411 = .ok (.iadd, 1) := by decide +kernel
theorem dL_law_383 : decode cL_law 383 = .ok (.iaload, 1) := dch_dL_law_383.1
theorem dL_law_384 : decode cL_law 384 = .ok (.aload_n 0, 1) := dch_dL_law_383.2.1
theorem dL_law_385 : decode cL_law 385 = .ok (.iload_n 3, 1) := dch_dL_law_383.2.2.1
theorem dL_law_386 : decode cL_law 386 = .ok (.iconst 4, 1) := dch_dL_law_383.2.2.2.1
theorem dL_law_387 : decode cL_law 387 = .ok (.iadd, 1) := dch_dL_law_383.2.2.2.2.1
theorem dL_law_388 : decode cL_law 388 = .ok (.iaload, 1) := dch_dL_law_383.2.2.2.2.2.1
theorem dL_law_389 : decode cL_law 389 = .ok (.aload_n 0, 1) := dch_dL_law_383.2.2.2.2.2.2.1
theorem dL_law_390 : decode cL_law 390 = .ok (.iload_n 3, 1) := dch_dL_law_383.2.2.2.2.2.2.2.1
theorem dL_law_391 : decode cL_law 391 = .ok (.iconst 5, 1) := dch_dL_law_383.2.2.2.2.2.2.2.2.1
theorem dL_law_392 : decode cL_law 392 = .ok (.iadd, 1) := dch_dL_law_383.2.2.2.2.2.2.2.2.2.1
theorem dL_law_393 : decode cL_law 393 = .ok (.iaload, 1) := dch_dL_law_383.2.2.2.2.2.2.2.2.2.2.1
theorem dL_law_394 : decode cL_law 394 = .ok (.aload_n 0, 1) := dch_dL_law_383.2.2.2.2.2.2.2.2.2.2.2.1
theorem dL_law_395 : decode cL_law 395 = .ok (.iload_n 3, 1) := dch_dL_law_383.2.2.2.2.2.2.2.2.2.2.2.2.1
theorem dL_law_396 : decode cL_law 396 = .ok (.bipush 6, 2) := dch_dL_law_383.2.2.2.2.2.2.2.2.2.2.2.2.2.1
theorem dL_law_398 : decode cL_law 398 = .ok (.iadd, 1) := dch_dL_law_383.2.2.2.2.2.2.2.2.2.2.2.2.2.2.1
theorem dL_law_399 : decode cL_law 399 = .ok (.iaload, 1) := dch_dL_law_383.2.2.2.2.2.2.2.2.2.2.2.2.2.2.2.1
theorem dL_law_400 : decode cL_law 400 = .ok (.invokevirtual 27, 3) := dch_dL_law_383.2.2.2.2.2.2.2.2.2.2.2.2.2.2.2.2.1
theorem dL_law_403 : decode cL_law 403 = .ok (.pop, 1) := dch_dL_law_383.2.2.2.2.2.2.2.2.2.2.2.2.2.2.2.2.2.1
theorem dL_law_404 : decode cL_law 404 = .ok (.goto 1097, 3) := dch_dL_law_383.2.2.2.2.2.2.2.2.2.2.2.2.2.2.2.2.2.2.1
theorem dL_law_407 : decode cL_law 407 = .ok (.aload_n 1, 1) := dch_dL_law_383.2.2.2.2.2.2.2.2.2.2.2.2.2.2.2.2.2.2.2.1
theorem dL_law_408 : decode cL_law 408 = .ok (.aload_n 0, 1) := dch_dL_law_383.2.2.2.2.2.2.2.2.2.2.2.2.2.2.2.2.2.2.2.2.1
theorem dL_law_409 : decode cL_law 409 = .ok (.iload_n 3, 1) := dch_dL_law_383.2.2.2.2.2.2.2.2.2.2.2.2.2.2.2.2.2.2.2.2.2.1
theorem dL_law_410 : decode cL_law 410 = .ok (.iconst 1, 1) := dch_dL_law_383.2.2.2.2.2.2.2.2.2.2.2.2.2.2.2.2.2.2.2.2.2.2.1
theorem dL_law_411 : decode cL_law 411 = .ok (.iadd, 1) := dch_dL_law_383.2.2.2.2.2.2.2.2.2.2.2.2.2.2.2.2.2.2.2.2.2.2.2
theorem dch_dL_law_412 : decode cL_law 412 = .ok (.iaload, 1) ∧ decode cL_law 413 = .ok (.aload_n 0, 1) ∧ decode cL_law 414 = .ok (.iload_n 3, 1) ∧ decode cL_law 415 = .ok (.iconst 2, 1) ∧ decode cL_law 416 = .ok (.iadd, 1) ∧ decode cL_law 417 = .ok (.iaload, 1) ∧ decode cL_law 418 = .ok (.aload_n 0, 1) ∧ decode cL_law 419 = .ok (.iload_n 3, 1) ∧ decode cL_law 420 = .ok (.iconst 3, 1) ∧ decode cL_law 421 = .ok (.iadd, 1) ∧ decode cL_law 422 = .ok (.iaload, 1) ∧ decode cL_law 423 = .ok (.aload_n 0, 1) ∧ decode cL_law 424 = .ok (.iload_n 3, 1) ∧ decode cL_law 425 = .ok (.iconst 4, 1) ∧ decode cL_law 426 = .ok (.iadd, 1) ∧ decode cL_law 427 = .ok (.iaload, 1) ∧ decode cL_law 428 = .ok (.aload_n 0, 1) ∧ decode cL_law 429 = .ok (.iload_n 3, 1) ∧ decode cL_law 430 = .ok (.iconst 5, 1) ∧ decode cL_law 431 = .ok (.iadd, 1) ∧ decode cL_law 432 = .ok (.iaload, 1) ∧ decode cL_law 433 = .ok (.aload_n 0, 1) ∧ decode cL_law 434 = .ok (.iload_n 3, 1) ∧ decode cL_law 435 = .ok (.bipush 6, 2) := by decide +kernel
theorem dL_law_412 : decode cL_law 412 = .ok (.iaload, 1) := dch_dL_law_412.1
theorem dL_law_413 : decode cL_law 413 = .ok (.aload_n 0, 1) := dch_dL_law_412.2.1
theorem dL_law_414 : decode cL_law 414 = .ok (.iload_n 3, 1) := dch_dL_law_412.2.2.1
theorem dL_law_415 : decode cL_law 415 = .ok (.iconst 2, 1) := dch_dL_law_412.2.2.2.1
theorem dL_law_416 : decode cL_law 416 = .ok (.iadd, 1) := dch_dL_law_412.2.2.2.2.1
theorem dL_law_417 : decode cL_law 417 = .ok (.iaload, 1) := dch_dL_law_412.2.2.2.2.2.1
theorem dL_law_418 : decode cL_law 418 = .ok (.aload_n 0, 1) := dch_dL_law_412.2.2.2.2.2.2.1
theorem dL_law_419 : decode cL_law 419 = .ok (.iload_n 3, 1) := dch_dL_law_412.2.2.2.2.2.2.2.1
theorem dL_law_420 : decode cL_law 420 = .ok (.iconst 3, 1) := dch_dL_law_412.2.2.2.2.2.2.2.2.1
theorem dL_law_421 : decode cL_law 421 = .ok (.iadd, 1) := dch_dL_law_412.2.2.2.2.2.2.2.2.2.1
theorem dL_law_422 : decode cL_law 422 = .ok (.iaload, 1) := dch_dL_law_412.2.2.2.2.2.2.2.2.2.2.1
theorem dL_law_423 : decode cL_law 423 = .ok (.aload_n 0, 1) := dch_dL_law_412.2.2.2.2.2.2.2.2.2.2.2.1
theorem dL_law_424 : decode cL_law 424 = .ok (.iload_n 3, 1) := dch_dL_law_412.2.2.2.2.2.2.2.2.2.2.2.2.1
theorem dL_law_425 : decode cL_law 425 = .ok (.iconst 4, 1) := dch_dL_law_412.2.2.2.2.2.2.2.2.2.2.2.2.2.1
theorem dL_law_426 : decode cL_law 426 = .ok (.iadd, 1) := dch_dL_law_412.2.2.2.2.2.2.2.2.2.2.2.2.2.2.1
theorem dL_law_427 : decode cL_law 427 = .ok (.iaload, 1) := dch_dL_law_412.2.2.2.2.2.2.2.2.2.2.2.2.2.2.2.1
theorem dL_law_428 : decode cL_law 428 = .ok (.aload_n 0, 1) := dch_dL_law_412.2.2.2.2.2.2.2.2.2.2.2.2.2.2.2.2.1
theorem dL_law_429 : decode cL_law 429 = .ok (.iload_n 3, 1) := dch_dL_law_412.2.2.2.2.2.2.2.2.2.2.2.2.2.2.2.2.2.1
theorem dL_law_430 : decode cL_law 430 = .ok (.iconst 5, 1) := dch_dL_law_412.2.2.2.2.2.2.2.2.2.2.2.2.2.2.2.2.2.2.1
theorem dL_law_431 : decode cL_law 431 = .ok (.iadd, 1) := dch_dL_law_412.2.2.2.2.2.2.2.2.2.2.2.2.2.2.2.2.2.2.2.1
theorem dL_law_432 : decode cL_law 432 = .ok (.iaload, 1) := dch_dL_law_412.2.2.2.2.2.2.2.2.2.2.2.2.2.2.2.2.2.2.2.2.1
theorem dL_law_433 : decode cL_law 433 = .ok (.aload_n 0, 1) := dch_dL_law_412.2.2.2.2.2.2.2.2.2.2.2.2.2.2.2.2.2.2.2.2.2.1
theorem dL_law_434 : decode cL_law 434 = .ok (.iload_n 3, 1) := dch_dL_law_412.2.2.2.2.2.2.2.2.2.2.2.2.2.2.2.2.2.2.2.2.2.2.1
theorem dL_law_435 : decode cL_law 435 = .ok (.bipush 6, 2) := dch_dL_law_412.2.2.2.2.2.2.2.2.2.2.2.2.2.2.2.2.2.2.2.2.2.2.2
theorem dch_dL_law_437 : decode cL_law 437 = .ok (.iadd, 1) ∧ decode cL_law 438 = .ok (.iaload, 1) ∧ decode cL_law 439 = .ok (.invokevirtual 28, 3) ∧ decode cL_law 442 = .ok (.pop, 1) ∧ decode cL_law 443 = .ok (.aload_n 2, 1) ∧ decode cL_law 444 = .ok (.aload_n 0, 1) ∧ decode cL_law 445 = .ok (.iload_n 3, 1) ∧ decode cL_law 446 = .ok (.iconst 1, 1) ∧ decode cL_law 447 = .ok (.iadd, 1) ∧ decode cL_law 448 = .ok (.iaload, 1) ∧ decode cL_law 449 = .ok (.aload_n 0, 1) ∧ decode cL_law 450 = .ok (.iload_n 3, 1) ∧ decode cL_law 451 = .ok (.iconst 2, 1) ∧ decode cL_law 452 = .ok (.iadd, 1) ∧ decode cL_law 453 = .ok (.iaload, 1) ∧ decode cL_law 454 = .ok (.aload_n 0, 1) ∧ decode cL_law 455 = .ok (.iload_n 3, 1) ∧ decode cL_law 456 = .ok (.iconst 3, 1) ∧ decode cL_law 457 = .ok (.iadd, 1) ∧ decode cL_law 458 = .ok (.iaload, 1) ∧ decode cL_law 459 = .ok (.aload_n 0, 1) ∧ decode cL_law 460 = .ok (.iload_n 3, 1) ∧ decode cL_law 461 = .ok (.iconst 4, 1) ∧ decode cL_law 462 = .ok (.iadd, 1) := by decide +kernel
theorem dL_law_437 : decode cL_law 437 = .ok (.iadd, 1) := dch_dL_law_437.1
theorem dL_law_438 : decode cL_law 438 = .ok (.iaload, 1) := dch_dL_law_437.2.1
theorem dL_law_439 : decode cL_law 439 = .ok (.invokevirtual 28, 3) := dch_dL_law_437.2.2.1
theorem dL_law_442 : decode cL_law 442 = .ok (.pop, 1) := dch_dL_law_437.2.2.2.1
theorem dL_law_443 : decode cL_law 443 = .ok (.aload_n 2, 1) := dch_dL_law_437.2.2.2.2.1
theorem dL_law_444 : decode cL_law 444 = .ok (.aload_n 0, 1) := dch_dL_law_437.2.2.2.2.2.1
theorem dL_law_445 : decode cL_law 445 = .ok (.iload_n 3, 1) := dch_dL_law_437.2.2.2.2.2.2.1
theorem dL_law_446 : decode cL_law 446 = .ok (.iconst 1, 1) := dch_dL_law_437.2.2.2.2.2.2.2.1
theorem dL_law_447 : decode cL_law 447 = .ok (.iadd, 1) := dch_dL_law_437.2.2.2.2.2.2.2.2.1
theorem dL_law_448 : decode cL_law 448 = .ok (.iaload, 1) := dch_dL_law_437.2.2.2.2.2.2.2.2.2.1
theorem dL_law_449 : decode cL_law 449 = .ok (.aload_n 0, 1) := dch_dL_law_437.2.2.2.2.2.2.2.2.2.2.1
theorem dL_law_450 : decode cL_law 450 = .ok (.iload_n 3, 1) := dch_dL_law_437.2.2.2.2.2.2.2.2.2.2.2.1
theorem dL_law_451 : decode cL_law 451 = .ok (.iconst 2, 1) := dch_dL_law_437.2.2.2.2.2.2.2.2.2.2.2.2.1
theorem dL_law_452 : decode cL_law 452 = .ok (.iadd, 1) := dch_dL_law_437.2.2.2.2.2.2.2.2.2.2.2.2.2.1
theorem dL_law_453 : decode cL_law 453 = .ok (.iaload, 1) := dch_dL_law_437.2.2.2.2.2.2.2.2.2.2.2.2.2.2.1
theorem dL_law_454 : decode cL_law 454 = .ok (.aload_n 0, 1) := dch_dL_law_437.2.2.2.2.2.2.2.2.2.2.2.2.2.2.2.1
theorem dL_law_455 : decode cL_law 455 = .ok (.iload_n 3, 1) := dch_dL_law_437.2.2.2.2.2.2.2.2.2.2.2.2.2.2.2.2.1
theorem dL_law_456 : decode cL_law 456 = .ok (.iconst 3, 1) := dch_dL_law_437.2.2.2.2.2.2.2.2.2.2.2.2.2.2.2.2.2.1
theorem dL_law_457 : decode cL_law 457 = .ok (.iadd, 1) := dch_dL_law_437.2.2.2.2.2.2.2.2.2.2.2.2.2.2.2.2.2.2.1
theorem dL_law_458 : decode cL_law 458 = .ok (.iaload, 1) := dch_dL_law_437.2.2.2.2.2.2.2.2.2.2.2.2.2.2.2.2.2.2.2.1
theorem dL_law_459 : decode cL_law 459 = .ok (.aload_n 0, 1) := dch_dL_law_437.2.2.2.2.2.2.2.2.2.2.2.2.2.2.2.2.2.2.2.2.1
theorem dL_law_460 : decode cL_law 460 = .ok (.iload_n 3, 1) := dch_dL_law_437.2.2.2.2.2.2.2.2.2.2.2.2.2.2.2.2.2.2.2.2.2.1
theorem dL_law_461 : decode cL_law 461 = .ok (.iconst 4, 1) := dch_dL_law_437.2.2.2.2.2.2.2.2.2.2.2.2.2.2.2.2.2.2.2.2.2.2.1
theorem dL_law_462 : decode cL_law 462 = .ok (.iadd, 1) := dch_dL_law_437.2.2.2.2.2.2.2.2.2.2.2.2.2.2.2.2.2.2.2.2.2.2.2
theorem dch_dL_law_463 : decode cL_law 463 = .ok (.iaload, 1) ∧ decode cL_law 464 = .ok (.aload_n 0, 1) ∧ decode cL_law 465 = .ok (.iload_n 3, 1) ∧ decode cL_law 466 = .ok (.iconst 5, 1) ∧ decode cL_law 467 = .ok (.iadd, 1) ∧ decode cL_law 468 = .ok (.iaload, 1) ∧ decode cL_law 469 = .ok (.aload_n 0, 1) ∧ decode cL_law 470 = .ok (.iload_n 3, 1) ∧ decode cL_law 471 = .ok (.bipush 6, 2) ∧ decode cL_law 473 = .ok (.iadd, 1) ∧ decode cL_law 474 = .ok (.iaload, 1) ∧ decode cL_law 475 = .ok (.invokevirtual 31, 3) ∧ decode cL_law 478 = .ok (.pop, 1) ∧ decode cL_law 479 = .ok (.goto 1022, 3) ∧ decode cL_law 482 = .ok (.aload_n 1, 1) ∧ decode cL_law 483 = .ok (.aload_n 0, 1) ∧ decode cL_law 484 = .ok (.iload_n 3, 1) ∧ decode cL_law 485 = .ok (.iconst 1, 1) ∧ decode cL_law 486 = .ok (.iadd, 1) ∧ decode cL_law 487 = .ok (.iaload, 1) ∧ decode cL_law 488 = .ok (.aload_n 0, 1) ∧ decode cL_law 489 = .ok (.iload_n 3, 1) ∧ decode cL_law 490 = .ok (.iconst 2, 1) ∧ decode cL_law 491 = .ok (.iadd, 1) := by decide +kernel
theorem dL_law_463 : decode cL_law 463 = .ok (.iaload, 1) := dch_dL_law_463.1
theorem dL_law_464 : decode cL_law 464 = .ok (.aload_n 0, 1) := dch_dL_law_463.2.1
theorem dL_law_465 : decode cL_law 465 = .ok (.iload_n 3, 1) := dch_dL_law_463.2.2.1
theorem dL_law_466 : decode cL_law 466 = .ok (.iconst 5, 1) := dch_dL_law_463.2.2.2.1
theorem dL_law_467 : decode cL_law 467 = .ok (.iadd, 1) := dch_dL_law_463.2.2.2.2.1
theorem dL_law_468 : decode cL_law 468 = .ok (.iaload, 1) := dch_dL_law_463.2.2.2.2.2.1
theorem dL_law_469 : decode cL_law 469 = .ok (.aload_n 0, 1) := dch_dL_law_463.2.2.2.2.2.2.1
theorem dL_law_470 : decode cL_law 470 = .ok (.iload_n 3, 1) := dch_dL_law_463.2.2.2.2.2.2.2.1
theorem dL_law_471 : decode cL_law 471 = .ok (.bipush 6, 2) := dch_dL_law_463.2.2.2.2.2.2.2.2.1
theorem dL_law_473 : decode cL_law 473 = .ok (.iadd, 1) := dch_dL_law_463.2.2.2.2.2.2.2.2.2.1
theorem dL_law_474 : decode cL_law 474 = .ok (.iaload, 1) := dch_dL_law_463.2.2.2.2.2.2.2.2.2.2.1
theorem dL_law_475 : decode cL_law 475 = .ok (.invokevirtual 31, 3) := dch_dL_law_463.2.2.2.2.2.2.2.2.2.2.2.1
theorem dL_law_478 : decode cL_law 478 = .ok (.pop, 1) := dch_dL_law_463.2.2.2.2.2.2.2.2.2.2.2.2.1
theorem dL_law_479 : decode cL_law 479 = .ok (.goto 1022, 3) := dch_dL_law_463.2.2.2.2.2.2.2.2.2.2.2.2.2.1
theorem dL_law_482 : decode cL_law 482 = .ok (.aload_n 1, 1) := dch_dL_law_463.2.2.2.2.2.2.2.2.2.2.2.2.2.2.1
theorem dL_law_483 : decode cL_law 483 = .ok (.aload_n 0, 1) := dch_dL_law_463.2.2.2.2.2.2.2.2.2.2.2.2.2.2.2.1
theorem dL_law_484 : decode cL_law 484 = .ok (.iload_n 3, 1) := dch_dL_law_463.2.2.2.2.2.2.2.2.2.2.2.2.2.2.2.2.1
theorem dL_law_485 : decode cL_law 485 = .ok (.iconst 1, 1) := dch_dL_law_463.2.2.2.2.2.2.2.2.2.2.2.2.2.2.2.2.2.1
theorem dL_law_486 : decode cL_law 486 = .ok (.iadd, 1) := dch_dL_law_463.2.2.2.2.2.2.2.2.2.2.2.2.2.2.2.2.2.2.1
theorem dL_law_487 : decode cL_law 487 = .ok (.iaload, 1) := dch_dL_law_463.2.2.2.2.2.2.2.2.2.2.2.2.2.2.2.2.2.2.2.1
theorem dL_law_488 : decode cL_law 488 = .ok (.aload_n 0, 1) := dch_dL_law_463.2.2.2.2.2.2.2.2.2.2.2.2.2.2.2.2.2.2.2.2.1
theorem dL_law_489 : decode cL_law 489 = .ok (.iload_n 3, 1) := dch_dL_law_463.2.2.2.2.2.2.2.2.2.2.2.2.2.2.2.2.2.2.2.2.2.1
theorem dL_law_490 : decode cL_law 490 = .ok (.iconst 2, 1) := dch_dL_law_463.2.2.2.2.2.2.2.2.2.2.2.2.2.2.2.2.2.2.2.2.2.2.1
theorem dL_law_491 : decode cL_law 491 = .ok (.iadd, 1) := dch_dL_law_463.2.2.2.2.2.2.2.2.2.2.2.2.2.2.2.2.2.2.2.2.2.2.2
theorem dch_dL_law_492 : decode cL_law 492 = .ok (.iaload, 1) ∧ decode cL_law 493 = .ok (.aload_n 0, 1) ∧ decode cL_law 494 = .ok (.iload_n 3, 1) ∧ decode cL_law 495 = .ok (.iconst 3, 1) ∧ decode cL_law 496 = .ok (.iadd, 1) ∧ decode cL_law 497 = .ok (.iaload, 1) ∧ decode cL_law 498 = .ok (.aload_n 0, 1) ∧ decode cL_law 499 = .ok (.iload_n 3, 1) ∧ decode cL_law 500 = .ok (.iconst 4, 1) ∧ decode cL_law 501 = .ok (.iadd, 1) ∧ decode cL_law 502 = .ok (.iaload, 1) ∧ decode cL_law 503 = .ok (.aload_n 0, 1) ∧ decode cL_law 504 = .ok (.iload_n 3, 1) ∧ decode cL_law 505 = .ok (.iconst 5, 1) ∧ decode cL_law 506 = .ok (.iadd, 1) ∧ decode cL_law 507 = .ok (.iaload, 1) ∧ decode cL_law 508 = .ok (.invokevirtual 32, 3) ∧ decode cL_law 511 = .ok (.pop, 1) ∧ decode cL_law 512 = .ok (.aload_n 2, 1) ∧ decode cL_law 513 = .ok (.aload_n 0, 1) ∧ decode cL_law 514 = .ok (.iload_n 3, 1) ∧ decode cL_law 515 = .ok (.iconst 1, 1) ∧ decode cL_law 516 = .ok (.iadd, 1) ∧ decode cL_law 517 = .ok (.iaload, 1) := by decide +kernel
theorem dL_law_492 : decode cL_law 492 = .ok (.iaload, 1) := dch_dL_law_492.1
theorem dL_law_493 : decode cL_law 493 = .ok (.aload_n 0, 1) := dch_dL_law_492.2.1
theorem dL_law_494 : decode cL_law 494 = .ok (.iload_n 3, 1) := dch_dL_law_492.2.2.1
theorem dL_law_495 : decode cL_law 495 = .ok (.iconst 3, 1) := dch_dL_law_492.2.2.2.1
theorem dL_law_496 : decode cL_law 496 = .ok (.iadd, 1) := dch_dL_law_492.2.2.2.2.1
theorem dL_law_497 : decode cL_law 497 = .ok (.iaload, 1) := dch_dL_law_492.2.2.2.2.2.1
theorem dL_law_498 : decode cL_law 498 = .ok (.aload_n 0, 1) := dch_dL_law_492.2.2.2.2.2.2.1
theorem dL_law_499 : decode cL_law 499 = .ok (.iload_n 3, 1) := dch_dL_law_492.2.2.2.2.2.2.2.1
theorem dL_law_500 : decode cL_law 500 = .ok (.iconst 4, 1) := dch_dL_law_492.2.2.2.2.2.2.2.2.1
theorem dL_law_501 : decode cL_law 501 = .ok (.iadd, 1) := dch_dL_law_492.2.2.2.2.2.2.2.2.2.1
theorem dL_law_502 : decode cL_law 502 = .ok (.iaload, 1) := dch_dL_law_492.2.2.2.2.2.2.2.2.2.2.1
theorem dL_law_503 : decode cL_law 503 = .ok (.aload_n 0, 1) := dch_dL_law_492.2.2.2.2.2.2.2.2.2.2.2.1
theorem dL_law_504 : decode cL_law 504 = .ok (.iload_n 3, 1) := dch_dL_law_492.2.2.2.2.2.2.2.2.2.2.2.2.1
theorem dL_law_505 : decode cL_law 505 = .ok (.iconst 5, 1) := dch_dL_law_492.2.2.2.2.2.2.2.2.2.2.2.2.2.1
theorem dL_law_506 : decode cL_law 506 = .ok (.iadd, 1) := dch_dL_law_492.2.2.2.2.2.2.2.2.2.2.2.2.2.2.1
theorem dL_law_507 : decode cL_law 507 = .ok (.iaload, 1) := dch_dL_law_492.2.2.2.2.2.2.2.2.2.2.2.2.2.2.2.1
theorem dL_law_508 : decode cL_law 508 = .ok (.invokevirtual 32, 3) := dch_dL_law_492.2.2.2.2.2.2.2.2.2.2.2.2.2.2.2.2.1
theorem dL_law_511 : decode cL_law 511 = .ok (.pop, 1) := dch_dL_law_492.2.2.2.2.2.2.2.2.2.2.2.2.2.2.2.2.2.1
theorem dL_law_512 : decode cL_law 512 = .ok (.aload_n 2, 1) := dch_dL_law_492.2.2.2.2.2.2.2.2.2.2.2.2.2.2.2.2.2.2.1
theorem dL_law_513 : decode cL_law 513 = .ok (.aload_n 0, 1) := dch_dL_law_492.2.2.2.2.2.2.2.2.2.2.2.2.2.2.2.2.2.2.2.1
theorem dL_law_514 : decode cL_law 514 = .ok (.iload_n 3, 1) := dch_dL_law_492.2.2.2.2.2.2.2.2.2.2.2.2.2.2.2.2.2.2.2.2.1
theorem dL_law_515 : decode cL_law 515 = .ok (.iconst 1, 1) := dch_dL_law_492.2.2.2.2.2.2.2.2.2.2.2.2.2.2.2.2.2.2.2.2.2.1
theorem dL_law_516 : decode cL_law 516 = .ok (.iadd, 1) := dch_dL_law_492.2.2.2.2.2.2.2.2.2.2.2.2.2.2.2.2.2.2.2.2.2.2.1
theorem dL_law_517 : decode cL_law 517 = .ok (.iaload, 1) := dch_dL_law_492.2.2.2.2.2.2.2.2.2.2.2.2.2.2.2.2.2.2.2.2.2.2.2
theorem dch_dL_law_518 : decode cL_law 518 = .ok (.aload_n 0, 1) ∧ decode cL_law 519 = .ok (.iload_n 3, 1) ∧ decode cL_law 520 = .ok (.iconst 2, 1) ∧ decode cL_law 521 = .ok (.iadd, 1) ∧ decode cL_law 522 = .ok (.iaload, 1) ∧ decode cL_law 523 = .ok (.aload_n 0, 1) ∧ decode cL_law 524 = .ok (.iload_n 3, 1) ∧ decode cL_law 525 = .ok (.iconst 3, 1) ∧ decode cL_law 526 = .ok (.iadd, 1) ∧ decode cL_law 527 = .ok (.iaload, 1) ∧ decode cL_law 528 = .ok (.aload_n 0, 1) ∧ decode cL_law 529 = .ok (.iload_n 3, 1) ∧ decode cL_law 530 = .ok (.iconst 4, 1) ∧ decode cL_law 531 = .ok (.iadd, 1) ∧ decode cL_law 532 = .ok (.iaload, 1) ∧ decode cL_law 533 = .ok (.aload_n 0, 1) ∧ decode cL_law 534 = .ok (.iload_n 3, 1) ∧ decode cL_law 535 = .ok (.iconst 5, 1) ∧ decode cL_law 536 = .ok (.iadd, 1) ∧ decode cL_law 537 = .ok (.iaload, 1) ∧ decode cL_law 538 = .ok (.invokevirtual 36, 3) ∧ decode cL_law 541 = .ok (.pop, 1) ∧ decode cL_law 542 = .ok (.goto 959, 3) ∧ decode cL_law 545 = .ok (.aload_n 1, 1) := by decide +kernel
theorem dL_law_518 : decode cL_law 518 = .ok (.aload_n 0, 1) := dch_dL_law_518.1
theorem dL_law_519 : decode cL_law 519 = .ok (.iload_n 3, 1) := dch_dL_law_518.2.1
theorem dL_law_520 : decode cL_law 520 = .ok (.iconst 2, 1) := dch_dL_law_518.2.2.1
theorem dL_law_521 : decode cL_law 521 = .ok (.iadd, 1) := dch_dL_law_518.2.2.2.1
theorem dL_law_522 : decode cL_law 522 = .ok (.iaload, 1) := dch_dL_law_518.2.2.2.2.1
theorem dL_law_523 : decode cL_law 523 = .ok (.aload_n 0, 1) := dch_dL_law_518.2.2.2.2.2.1
theorem dL_law_524 : decode cL_law 524 = .ok (.iload_n 3, 1) := dch_dL_law_518.2.2.2.2.2.2.1
theorem dL_law_525 : decode cL_law 525 = .ok (.iconst 3, 1) := dch_dL_law_518.2.2.2.2.2.2.2.1
theorem dL_law_526 : decode cL_law 526 = .ok (.iadd, 1) := dch_dL_law_518.2.2.2.2.2.2.2.2.1
theorem dL_law_527 : decode cL_law 527 = .ok (.iaload, 1) := dch_dL_law_518.2.2.2.2.2.2.2.2.2.1
theorem dL_law_528 : decode cL_law 528 = .ok (.aload_n 0, 1) := dch_dL_law_518.2.2.2.2.2.2.2.2.2.2.1
theorem dL_law_529 : decode cL_law 529 = .ok (.iload_n 3, 1) := dch_dL_law_518.2.2.2.2.2.2.2.2.2.2.2.1
theorem dL_law_530 : decode cL_law 530 = .ok (.iconst 4, 1) := dch_dL_law_518.2.2.2.2.2.2.2.2.2.2.2.2.1
theorem dL_law_531 : decode cL_law 531 = .ok (.iadd, 1) := dch_dL_law_518.2.2.2.2.2.2.2.2.2.2.2.2.2.1
theorem dL_law_532 : decode cL_law 532 = .ok (.iaload, 1) := dch_dL_law_518.2.2.2.2.2.2.2.2.2.2.2.2.2.2.1
theorem dL_law_533 : decode cL_law 533 = .ok (.aload_n 0, 1) := dch_dL_law_518.2.2.2.2.2.2.2.2.2.2.2.2.2.2.2.1
theorem dL_law_534 : decode cL_law 534 = .ok (.iload_n 3, 1) := dch_dL_law_518.2.2.2.2.2.2.2.2.2.2.2.2.2.2.2.2.1
theorem dL_law_535 : decode cL_law 535 = .ok (.iconst 5, 1) := dch_dL_law_518.2.2.2.2.2.2.2.2.2.2.2.2.2.2.2.2.2.1
theorem dL_law_536 : decode cL_law 536 = .ok (.iadd, 1) := dch_dL_law_518.2.2.2.2.2.2.2.2.2.2.2.2.2.2.2.2.2.2.1
theorem dL_law_537 : decode cL_law 537 = .ok (.iaload, 1) := dch_dL_law_518.2.2.2.2.2.2.2.2.2.2.2.2.2.2.2.2.2.2.2.1
theorem dL_law_538 : decode cL_law 538 = .ok (.invokevirtual 36, 3) := dch_dL_law_518.2.2.2.2.2.2.2.2.2.2.2.2.2.2.2.2.2.2.2.2.1
theorem dL_law_541 : decode cL_law 541 = .ok (.pop, 1) := dch_dL_law_518.2.2.2.2.2.2.2.2.2.2.2.2.2.2.2.2.2.2.2.2.2.1
theorem dL_law_542 : decode cL_law 542 = .ok (.goto 959, 3) := dch_dL_law_518.2.2.2.2.2.2.2.2.2.2.2.2.2.2.2.2.2.2.2.2.2.2.1
theorem dL_law_545 : decode cL_law 545 = .ok (.aload_n 1, 1) := dch_dL_law_518.2.2.2.2.2.2.2.2.2.2.2.2.2.2.2.2.2.2.2.2.2.2.2
theorem dch_dL_law_546 : decode cL_law 546 = .ok (.aload_n 0, 1) ∧ decode cL_law 547 = .ok (.iload_n 3, 1) ∧ decode cL_law 548 = .ok (.iconst 1, 1) ∧ decode cL_law 549 = .ok (.iadd, 1) ∧ decode cL_law 550 = .ok (.iaload, 1) ∧ decode cL_law 551 = .ok (.i2l, 1) ∧ decode cL_law 552 = .ok (.bipush 32, 2) ∧ decode cL_law 554 = .ok (.lshl, 1) ∧ decode cL_law 555 = .ok (.aload_n 0, 1) ∧ decode cL_law 556 = .ok (.iload_n 3, 1) ∧ decode cL_law 557 = .ok (.iconst 2, 1) ∧ decode cL_law 558 = .ok (.iadd, 1) ∧ decode cL_law 559 = .ok (.iaload, 1) ∧ decode cL_law 560 = .ok (.i2l, 1) ∧ decode cL_law 561 = .ok (.ldc2_w 37, 3) ∧ decode cL_law 564 = .ok (.land, 1) ∧ decode cL_law 565 = .ok (.lor, 1) ∧ decode cL_law 566 = .ok (.aload_n 0, 1) ∧ decode cL_law 567 = .ok (.iload_n 3, 1) ∧ decode cL_law 568 = .ok (.iconst 3, 1) ∧ decode cL_law 569 = .ok (.iadd, 1) ∧ decode cL_law 570 = .ok (.iaload, 1) ∧ decode cL_law 571 = .ok (.invokevirtual 39, 3) ∧ decode cL_law 574 = .ok (.aload_n 2, 1) := by decide +kernel
theorem dL_law_546 : decode cL_law 546 = .ok (.aload_n 0, 1) := dch_dL_law_546.1
theorem dL_law_547 : decode cL_law 547 = .ok (.iload_n 3, 1) := dch_dL_law_546.2.1
theorem dL_law_548 : decode cL_law 548 = .ok (.iconst 1, 1) := dch_dL_law_546.2.2.1
theorem dL_law_549 : decode cL_law 549 = .ok (.iadd, 1) := dch_dL_law_546.2.2.2.1
theorem dL_law_550 : decode cL_law 550 = .ok (.iaload, 1) := dch_dL_law_546.2.2.2.2.1
theorem dL_law_551 : decode cL_law 551 = .ok (.i2l, 1) := dch_dL_law_546.2.2.2.2.2.1
theorem dL_law_552 : decode cL_law 552 = .ok (.bipush 32, 2) := dch_dL_law_546.2.2.2.2.2.2.1
theorem dL_law_554 : decode cL_law 554 = .ok (.lshl, 1) := dch_dL_law_546.2.2.2.2.2.2.2.1
theorem dL_law_555 : decode cL_law 555 = .ok (.aload_n 0, 1) := dch_dL_law_546.2.2.2.2.2.2.2.2.1
theorem dL_law_556 : decode cL_law 556 = .ok (.iload_n 3, 1) := dch_dL_law_546.2.2.2.2.2.2.2.2.2.1
theorem dL_law_557 : decode cL_law 557 = .ok (.iconst 2, 1) := dch_dL_law_546.2.2.2.2.2.2.2.2.2.2.1
theorem dL_law_558 : decode cL_law 558 = .ok (.iadd, 1) := dch_dL_law_546.2.2.2.2.2.2.2.2.2.2.2.1
theorem dL_law_559 : decode cL_law 559 = .ok (.iaload, 1) := dch_dL_law_546.2.2.2.2.2.2.2.2.2.2.2.2.1
theorem dL_law_560 : decode cL_law 560 = .ok (.i2l, 1) := dch_dL_law_546.2.2.2.2.2.2.2.2.2.2.2.2.2.1
theorem dL_law_561 : decode cL_law 561 = .ok (.ldc2_w 37, 3) := dch_dL_law_546.2.2.2.2.2.2.2.2.2.2.2.2.2.2.1
theorem dL_law_564 : decode cL_law 564 = .ok (.land, 1) := dch_dL_law_546.2.2.2.2.2.2.2.2.2.2.2.2.2.2.2.1
theorem dL_law_565 : decode cL_law 565 = .ok (.lor, 1) := dch_dL_law_546.2.2.2.2.2.2.2.2.2.2.2.2.2.2.2.2.1
theorem dL_law_566 : decode cL_law 566 = .ok (.aload_n 0, 1) := dch_dL_law_546.2.2.2.2.2.2.2.2.2.2.2.2.2.2.2.2.2.1
theorem dL_law_567 : decode cL_law 567 = .ok (.iload_n 3, 1) := dch_dL_law_546.2.2.2.2.2.2.2.2.2.2.2.2.2.2.2.2.2.2.1
theorem dL_law_568 : decode cL_law 568 = .ok (.iconst 3, 1) := dch_dL_law_546.2.2.2.2.2.2.2.2.2.2.2.2.2.2.2.2.2.2.2.1
theorem dL_law_569 : decode cL_law 569 = .ok (.iadd, 1) := dch_dL_law_546.2.2.2.2.2.2.2.2.2.2.2.2.2.2.2.2.2.2.2.2.1
theorem dL_law_570 : decode cL_law 570 = .ok (.iaload, 1) := dch_dL_law_546.2.2.2.2.2.2.2.2.2.2.2.2.2.2.2.2.2.2.2.2.2.1
theorem dL_law_571 : decode cL_law 571 = .ok (.invokevirtual 39, 3) := dch_dL_law_546.2.2.2.2.2.2.2.2.2.2.2.2.2.2.2.2.2.2.2.2.2.2.1
theorem dL_law_574 : decode cL_law 574 = .ok (.aload_n 2, 1) := dch_dL_law_546.2.2.2.2.2.2.2.2.2.2.2.2.2.2.2.2.2.2.2.2.2.2.2
theorem dch_dL_law_575 : decode cL_law 575 = .ok (.aload_n 0, 1) ∧ decode cL_law 576 = .ok (.iload_n 3, 1) ∧ decode cL_law 577 = .ok (.iconst 1, 1) ∧ decode cL_law 578 = .ok (.iadd, 1) ∧ decode cL_law 579 = .ok (.iaload, 1) ∧ decode cL_law 580 = .ok (.i2l, 1) ∧ decode cL_law 581 = .ok (.bipush 32, 2) ∧ decode cL_law 583 = .ok (.lshl, 1) ∧ decode cL_law 584 = .ok (.aload_n 0, 1) ∧ decode cL_law 585 = .ok (.iload_n 3, 1) ∧ decode cL_law 586 = .ok (.iconst 2, 1) ∧ decode cL_law 587 = .ok (.iadd, 1) ∧ decode cL_law 588 = .ok (.iaload, 1) ∧ decode cL_law 589 = .ok (.i2l, 1) ∧ decode cL_law 590 = .ok (.ldc2_w 37, 3) ∧ decode cL_law 593 = .ok (.land, 1) ∧ decode cL_law 594 = .ok (.lor, 1) ∧ decode cL_law 595 = .ok (.aload_n 0, 1) ∧ decode cL_law 596 = .ok (.iload_n 3, 1) ∧ decode cL_law 597 = .ok (.iconst 3, 1) ∧ decode cL_law 598 = .ok (.iadd, 1) ∧ decode cL_law 599 = .ok (.iaload, 1) ∧ decode cL_law 600 = .ok (.invokevirtual 43, 3) ∧ decode cL_law 603 = .ok (.if_icmp .eq 898, 3) := by decide +kernel
theorem dL_law_575 : decode cL_law 575 = .ok (.aload_n 0, 1) := dch_dL_law_575.1
theorem dL_law_576 : decode cL_law 576 = .ok (.iload_n 3, 1) := dch_dL_law_575.2.1
theorem dL_law_577 : decode cL_law 577 = .ok (.iconst 1, 1) := dch_dL_law_575.2.2.1
theorem dL_law_578 : decode cL_law 578 = .ok (.iadd, 1) := dch_dL_law_575.2.2.2.1
theorem dL_law_579 : decode cL_law 579 = .ok (.iaload, 1) := dch_dL_law_575.2.2.2.2.1
theorem dL_law_580 : decode cL_law 580 = .ok (.i2l, 1) := dch_dL_law_575.2.2.2.2.2.1
theorem dL_law_581 : decode cL_law 581 = .ok (.bipush 32, 2) := dch_dL_law_575.2.2.2.2.2.2.1
theorem dL_law_583 : decode cL_law 583 = .ok (.lshl, 1) := dch_dL_law_575.2.2.2.2.2.2.2.1
theorem dL_law_584 : decode cL_law 584 = .ok (.aload_n 0, 1) := dch_dL_law_575.2.2.2.2.2.2.2.2.1
theorem dL_law_585 : decode cL_law 585 = .ok (.iload_n 3, 1) := dch_dL_law_575.2.2.2.2.2.2.2.2.2.1
theorem dL_law_586 : decode cL_law 586 = .ok (.iconst 2, 1) := dch_dL_law_575.2.2.2.2.2.2.2.2.2.2.1
theorem dL_law_587 : decode cL_law 587 = .ok (.iadd, 1) := dch_dL_law_575.2.2.2.2.2.2.2.2.2.2.2.1
theorem dL_law_588 : decode cL_law 588 = .ok (.iaload, 1) := dch_dL_law_575.2.2.2.2.2.2.2.2.2.2.2.2.1
theorem dL_law_589 : decode cL_law 589 = .ok (.i2l, 1) := dch_dL_law_575.2.2.2.2.2.2.2.2.2.2.2.2.2.1
theorem dL_law_590 : decode cL_law 590 = .ok (.ldc2_w 37, 3) := dch_dL_law_575.2.2.2.2.2.2.2.2.2.2.2.2.2.2.1
theorem dL_law_593 : decode cL_law 593 = .ok (.land, 1) := dch_dL_law_575.2.2.2.2.2.2.2.2.2.2.2.2.2.2.2.1
theorem dL_law_594 : decode cL_law 594 = .ok (.lor, 1) := dch_dL_law_575.2.2.2.2.2.2.2.2.2.2.2.2.2.2.2.2.1
theorem dL_law_595 : decode cL_law 595 = .ok (.aload_n 0, 1) := dch_dL_law_575.2.2.2.2.2.2.2.2.2.2.2.2.2.2.2.2.2.1
theorem dL_law_596 : decode cL_law 596 = .ok (.iload_n 3, 1) := dch_dL_law_575.2.2.2.2.2.2.2.2.2.2.2.2.2.2.2.2.2.2.1
theorem dL_law_597 : decode cL_law 597 = .ok (.iconst 3, 1) := dch_dL_law_575.2.2.2.2.2.2.2.2.2.2.2.2.2.2.2.2.2.2.2.1
theorem dL_law_598 : decode cL_law 598 = .ok (.iadd, 1) := dch_dL_law_575.2.2.2.2.2.2.2.2.2.2.2.2.2.2.2.2.2.2.2.2.1
theorem dL_law_599 : decode cL_law 599 = .ok (.iaload, 1) := dch_dL_law_575.2.2.2.2.2.2.2.2.2.2.2.2.2.2.2.2.2.2.2.2.2.1
theorem dL_law_600 : decode cL_law 600 = .ok (.invokevirtual 43, 3) := dch_dL_law_575.2.2.2.2.2.2.2.2.2.2.2.2.2.2.2.2.2.2.2.2.2.2.1
theorem dL_law_603 : decode cL_law 603 = .ok (.if_icmp .eq 898, 3) := dch_dL_law_575.2.2.2.2.2.2.2.2.2.2.2.2.2.2.2.2.2.2.2.2.2.2.2
theorem dch_dL_law_606 : decode cL_law 606 = .ok (.iconst 0, 1) ∧ decode cL_law 607 = .ok (.ireturn, 1) ∧ decode cL_law 608 = .ok (.aload_n 1, 1) ∧ decode cL_law 609 = .ok (.invokevirtual 44, 3) ∧ decode cL_law 612 = .ok (.pop, 1) ∧ decode cL_law 613 = .ok (.aload_n 2, 1) ∧ decode cL_law 614 = .ok (.invokevirtual 48, 3) ∧ decode cL_law 617 = .ok (.pop, 1) ∧ decode cL_law 618 = .ok (.goto 883, 3) ∧ decode cL_law 621 = .ok (.aload_n 1, 1) ∧ decode cL_law 622 = .ok (.aload_n 0, 1) ∧ decode cL_law 623 = .ok (.iload_n 3, 1) ∧ decode cL_law 624 = .ok (.iconst 1, 1) ∧ decode cL_law 625 = .ok (.iadd, 1) ∧ decode cL_law 626 = .ok (.iaload, 1) ∧ decode cL_law 627 = .ok (.aload_n 0, 1) ∧ decode cL_law 628 = .ok (.iload_n 3, 1) ∧ decode cL_law 629 = .ok (.iconst 2, 1) ∧ decode cL_law 630 = .ok (.iadd, 1) ∧ decode cL_law 631 = .ok (.iaload, 1) ∧ decode cL_law 632 = .ok (.invokevirtual 49, 3) ∧ decode cL_law 635 = .ok (.pop, 1) ∧ decode cL_law 636 = .ok (.aload_n 2, 1) ∧ decode cL_law 637 = .ok (.aload_n 0, 1) := by decide +kernel
theorem dL_law_606 : decode cL_law 606 = .ok (.iconst 0, 1) := dch_dL_law_606.1
theorem dL_law_607 : decode cL_law 607 = .ok (.ireturn, 1) := dch_dL_law_606.2.1
theorem dL_law_608 : decode cL_law 608 = .ok (.aload_n 1, 1) := dch_dL_law_606.2.2.1
theorem dL_law_609 : decode cL_law 609 = .ok (.invokevirtual 44, 3) := dch_dL_law_606.2.2.2.1
theorem dL_law_612 : decode cL_law 612 = .ok (.pop, 1) := dch_dL_law_606.2.2.2.2.1
theorem dL_law_613 : decode cL_law 613 = .ok (.aload_n 2, 1) := dch_dL_law_606.2.2.2.2.2.1
theorem dL_law_614 : decode cL_law 614 = .ok (.invokevirtual 48, 3) := dch_dL_law_606.2.2.2.2.2.2.1
theorem dL_law_617 : decode cL_law 617 = .ok (.pop, 1) := dch_dL_law_606.2.2.2.2.2.2.2.1
theorem dL_law_618 : decode cL_law 618 = .ok (.goto 883, 3) := dch_dL_law_606.2.2.2.2.2.2.2.2.1
theorem dL_law_621 : decode cL_law 621 = .ok (.aload_n 1, 1) := dch_dL_law_606.2.2.2.2.2.2.2.2.2.1
theorem dL_law_622 : decode cL_law 622 = .ok (.aload_n 0, 1) := dch_dL_law_606.2.2.2.2.2.2.2.2.2.2.1
theorem dL_law_623 : decode cL_law 623 = .ok (.iload_n 3, 1) := dch_dL_law_606.2.2.2.2.2.2.2.2.2.2.2.1
theorem dL_law_624 : decode cL_law 624 = .ok (.iconst 1, 1) := dch_dL_law_606.2.2.2.2.2.2.2.2.2.2.2.2.1
theorem dL_law_625 : decode cL_law 625 = .ok (.iadd, 1) := dch_dL_law_606.2.2.2.2.2.2.2.2.2.2.2.2.2.1
theorem dL_law_626 : decode cL_law 626 = .ok (.iaload, 1) := dch_dL_law_606.2.2.2.2.2.2.2.2.2.2.2.2.2.2.1
theorem dL_law_627 : decode cL_law 627 = .ok (.aload_n 0, 1) := dch_dL_law_606.2.2.2.2.2.2.2.2.2.2.2.2.2.2.2.1
theorem dL_law_628 : decode cL_law 628 = .ok (.iload_n 3, 1) := dch_dL_law_606.2.2.2.2.2.2.2.2.2.2.2.2.2.2.2.2.1
theorem dL_law_629 : decode cL_law 629 = .ok (.iconst 2, 1) := dch_dL_law_606.2.2.2.2.2.2.2.2.2.2.2.2.2.2.2.2.2.1
theorem dL_law_630 : decode cL_law 630 = .ok (.iadd, 1) := dch_dL_law_606.2.2.2.2.2.2.2.2.2.2.2.2.2.2.2.2.2.2.1
theorem dL_law_631 : decode cL_law 631 = .ok (.iaload, 1) := dch_dL_law_606.2.2.2.2.2.2.2.2.2.2.2.2.2.2.2.2.2.2.2.1
theorem dL_law_632 : decode cL_law 632 = .ok (.invokevirtual 49, 3) := dch_dL_law_606.2.2.2.2.2.2.2.2.2.2.2.2.2.2.2.2.2.2.2.2.1
theorem dL_law_635 : decode cL_law 635 = .ok (.pop, 1) := dch_dL_law_606.2.2.2.2.2.2.2.2.2.2.2.2.2.2.2.2.2.2.2.2.2.1
theorem dL_law_636 : decode cL_law 636 = .ok (.aload_n 2, 1) := dch_dL_law_606.2.2.2.2.2.2.2.2.2.2.2.2.2.2.2.2.2.2.2.2.2.2.1
theorem dL_law_637 : decode cL_law 637 = .ok (.aload_n 0, 1) := dch_dL_law_606.2.2.2.2.2.2.2.2.2.2.2.2.2.2.2.2.2.2.2.2.2.2.2
theorem dch_dL_law_638 : decode cL_law 638 = .ok (.iload_n 3, 1) ∧ decode cL_law 639 = .ok (.iconst 1, 1) ∧ decode cL_law 640 = .ok (.iadd, 1) ∧ decode cL_law 641 = .ok (.iaload, 1) ∧ decode cL_law 642 = .ok (.aload_n 0, 1) ∧ decode cL_law 643 = .ok (.iload_n 3, 1) ∧ decode cL_law 644 = .ok (.iconst 2, 1) ∧ decode cL_law 645 = .ok (.iadd, 1) ∧ decode cL_law 646 = .ok (.iaload, 1) ∧ decode cL_law 647 = .ok (.invokevirtual 53, 3) ∧ decode cL_law 650 = .ok (.pop, 1) ∧ decode cL_law 651 = .ok (.goto 850, 3) ∧ decode cL_law 654 = .ok (.aload_n 1, 1) ∧ decode cL_law 655 = .ok (.aload_n 0, 1) ∧ decode cL_law 656 = .ok (.iload_n 3, 1) ∧ decode cL_law 657 = .ok (.iconst 1, 1) ∧ decode cL_law 658 = .ok (.iadd, 1) ∧ decode cL_law 659 = .ok (.iaload, 1) ∧ decode cL_law 660 = .ok (.aload_n 0, 1) ∧ decode cL_law 661 = .ok (.iload_n 3, 1) ∧ decode cL_law 662 = .ok (.iconst 2, 1) ∧ decode cL_law 663 = .ok (.iadd, 1) ∧ decode cL_law 664 = .ok (.iaload, 1) ∧ decode cL_law 665 = .ok (.invokevirtual 54, 3) := by decide +kernel
theorem dL_law_638 : decode cL_law 638 = .ok (.iload_n 3, 1) := dch_dL_law_638.1
theorem dL_law_639 : decode cL_law 639 = .ok (.iconst 1, 1) := dch_dL_law_638.2.1
theorem dL_law_640 : decode cL_law 640 = .ok (.iadd, 1) := dch_dL_law_638.2.2.1
theorem dL_law_641 : decode cL_law 641 = .ok (.iaload, 1) := dch_dL_law_638.2.2.2.1
theorem dL_law_642 : decode cL_law 642 = .ok (.aload_n 0, 1) := dch_dL_law_638.2.2.2.2.1
theorem dL_law_643 : decode cL_law 643 = .ok (.iload_n 3, 1) := dch_dL_law_638.2.2.2.2.2.1
theorem dL_law_644 : decode cL_law 644 = .ok (.iconst 2, 1) := dch_dL_law_638.2.2.2.2.2.2.1
theorem dL_law_645 : decode cL_law 645 = .ok (.iadd, 1) := dch_dL_law_638.2.2.2.2.2.2.2.1
theorem dL_law_646 : decode cL_law 646 = .ok (.iaload, 1) := dch_dL_law_638.2.2.2.2.2.2.2.2.1
theorem dL_law_647 : decode cL_law 647 = .ok (.invokevirtual 53, 3) := dch_dL_law_638.2.2.2.2.2.2.2.2.2.1
theorem dL_law_650 : decode cL_law 650 = .ok (.pop, 1) := dch_dL_law_638.2.2.2.2.2.2.2.2.2.2.1
theorem dL_law_651 : decode cL_law 651 = .ok (.goto 850, 3) := dch_dL_law_638.2.2.2.2.2.2.2.2.2.2.2.1
theorem dL_law_654 : decode cL_law 654 = .ok (.aload_n 1, 1) := dch_dL_law_638.2.2.2.2.2.2.2.2.2.2.2.2.1
theorem dL_law_655 : decode cL_law 655 = .ok (.aload_n 0, 1) := dch_dL_law_638.2.2.2.2.2.2.2.2.2.2.2.2.2.1
theorem dL_law_656 : decode cL_law 656 = .ok (.iload_n 3, 1) := dch_dL_law_638.2.2.2.2.2.2.2.2.2.2.2.2.2.2.1
theorem dL_law_657 : decode cL_law 657 = .ok (.iconst 1, 1) := dch_dL_law_638.2.2.2.2.2.2.2.2.2.2.2.2.2.2.2.1
theorem dL_law_658 : decode cL_law 658 = .ok (.iadd, 1) := dch_dL_law_638.2.2.2.2.2.2.2.2.2.2.2.2.2.2.2.2.1
theorem dL_law_659 : decode cL_law 659 = .ok (.iaload, 1) := dch_dL_law_638.2.2.2.2.2.2.2.2.2.2.2.2.2.2.2.2.2.1
theorem dL_law_660 : decode cL_law 660 = .ok (.aload_n 0, 1) := dch_dL_law_638.2.2.2.2.2.2.2.2.2.2.2.2.2.2.2.2.2.2.1
theorem dL_law_661 : decode cL_law 661 = .ok (.iload_n 3, 1) := dch_dL_law_638.2.2.2.2.2.2.2.2.2.2.2.2.2.2.2.2.2.2.2.1
theorem dL_law_662 : decode cL_law 662 = .ok (.iconst 2, 1) := dch_dL_law_638.2.2.2.2.2.2.2.2.2.2.2.2.2.2.2.2.2.2.2.2.1
theorem dL_law_663 : decode cL_law 663 = .ok (.iadd, 1) := dch_dL_law_638.2.2.2.2.2.2.2.2.2.2.2.2.2.2.2.2.2.2.2.2.2.1
theorem dL_law_664 : decode cL_law 664 = .ok (.iaload, 1) := dch_dL_law_638.2.2.2.2.2.2.2.2.2.2.2.2.2.2.2.2.2.2.2.2.2.2.1
theorem dL_law_665 : decode cL_law 665 = .ok (.invokevirtual 54, 3) := dch_dL_law_638.2.2.2.2.2.2.2.2.2.2.2.2.2.2.2.2.2.2.2.2.2.2.2
theorem dch_dL_law_668 : decode cL_law 668 = .ok (.pop, 1) ∧ decode cL_law 669 = .ok (.aload_n 2, 1) ∧ decode cL_law 670 = .ok (.aload_n 0, 1) ∧ decode cL_law 671 = .ok (.iload_n 3, 1) ∧ decode cL_law 672 = .ok (.iconst 1, 1) ∧ decode cL_law 673 = .ok (.iadd, 1) ∧ decode cL_law 674 = .ok (.iaload, 1) ∧ decode cL_law 675 = .ok (.aload_n 0, 1) ∧ decode cL_law 676 = .ok (.iload_n 3, 1) ∧ decode cL_law 677 = .ok (.iconst 2, 1) ∧ decode cL_law 678 = .ok (.iadd, 1) ∧ decode cL_law 679 = .ok (.iaload, 1) ∧ decode cL_law 680 = .ok (.invokevirtual 57, 3) ∧ decode cL_law 683 = .ok (.pop, 1) ∧ decode cL_law 684 = .ok (.goto 817, 3) ∧ decode cL_law 687 = .ok (.aload_n 1, 1) ∧ decode cL_law 688 = .ok (.aload_n 0, 1) ∧ decode cL_law 689 = .ok (.iload_n 3, 1) ∧ decode cL_law 690 = .ok (.iconst 1, 1) ∧ decode cL_law 691 = .ok (.iadd, 1) ∧ decode cL_law 692 = .ok (.iaload, 1) ∧ decode cL_law 693 = .ok (.aload_n 0, 1) ∧ decode cL_law 694 = .ok (.iload_n 3, 1) ∧ decode cL_law 695 = .ok (.iconst 2, 1) := by decide +kernel
theorem dL_law_668 : decode cL_law 668 = .ok (.pop, 1) := dch_dL_law_668.1
theorem dL_law_669 : decode cL_law 669 = .ok (.aload_n 2, 1) := dch_dL_law_668.2.1
theorem dL_law_670 : decode cL_law 670 = .ok (.aload_n 0, 1) := dch_dL_law_668.2.2.1
theorem dL_law_671 : decode cL_law 671 = .ok (.iload_n 3, 1) := dch_dL_law_668.2.2.2.1
theorem dL_law_672 : decode cL_law 672 = .ok (.iconst 1, 1) := dch_dL_law_668.2.2.2.2.1
theorem dL_law_673 : decode cL_law 673 = .ok (.iadd, 1) := dch_dL_law_668.2.2.2.2.2.1
theorem dL_law_674 : decode cL_law 674 = .ok (.iaload, 1) := dch_dL_law_668.2.2.2.2.2.2.1
theorem dL_law_675 : decode cL_law 675 = .ok (.aload_n 0, 1) := dch_dL_law_668.2.2.2.2.2.2.2.1
theorem dL_law_676 : decode cL_law 676 = .ok (.iload_n 3, 1) := dch_dL_law_668.2.2.2.2.2.2.2.2.1
theorem dL_law_677 : decode cL_law 677 = .ok (.iconst 2, 1) := dch_dL_law_668.2.2.2.2.2.2.2.2.2.1
theorem dL_law_678 : decode cL_law 678 = .ok (.iadd, 1) := dch_dL_law_668.2.2.2.2.2.2.2.2.2.2.1
theorem dL_law_679 : decode cL_law 679 = .ok (.iaload, 1) := dch_dL_law_668.2.2.2.2.2.2.2.2.2.2.2.1
theorem dL_law_680 : decode cL_law 680 = .ok (.invokevirtual 57, 3) := dch_dL_law_668.2.2.2.2.2.2.2.2.2.2.2.2.1
theorem dL_law_683 : decode cL_law 683 = .ok (.pop, 1) := dch_dL_law_668.2.2.2.2.2.2.2.2.2.2.2.2.2.1
theorem dL_law_684 : decode cL_law 684 = .ok (.goto 817, 3) := dch_dL_law_668.2.2.2.2.2.2.2.2.2.2.2.2.2.2.1
theorem dL_law_687 : decode cL_law 687 = .ok (.aload_n 1, 1) := dch_dL_law_668.2.2.2.2.2.2.2.2.2.2.2.2.2.2.2.1
theorem dL_law_688 : decode cL_law 688 = .ok (.aload_n 0, 1) := dch_dL_law_668.2.2.2.2.2.2.2.2.2.2.2.2.2.2.2.2.1
theorem dL_law_689 : decode cL_law 689 = .ok (.iload_n 3, 1) := dch_dL_law_668.2.2.2.2.2.2.2.2.2.2.2.2.2.2.2.2.2.1
theorem dL_law_690 : decode cL_law 690 = .ok (.iconst 1, 1) := dch_dL_law_668.2.2.2.2.2.2.2.2.2.2.2.2.2.2.2.2.2.2.1
theorem dL_law_691 : decode cL_law 691 = .ok (.iadd, 1) := dch_dL_law_668.2.2.2.2.2.2.2.2.2.2.2.2.2.2.2.2.2.2.2.1
theorem dL_law_692 : decode cL_law 692 = .ok (.iaload, 1) := dch_dL_law_668.2.2.2.2.2.2.2.2.2.2.2.2.2.2.2.2.2.2.2.2.1
theorem dL_law_693 : decode cL_law 693 = .ok (.aload_n 0, 1) := dch_dL_law_668.2.2.2.2.2.2.2.2.2.2.2.2.2.2.2.2.2.2.2.2.2.1
theorem dL_law_694 : decode cL_law 694 = .ok (.iload_n 3, 1) := dch_dL_law_668.2.2.2.2.2.2.2.2.2.2.2.2.2.2.2.2.2.2.2.2.2.2.1
theorem dL_law_695 : decode cL_law 695 = .ok (.iconst 2, 1) := dch_dL_law_668.2.2.2.2.2.2.2.2.2.2.2.2.2.2.2.2.2.2.2.2.2.2.2
theorem dch_dL_law_696 : decode cL_law 696 = .ok (.iadd, 1) ∧ decode cL_law 697 = .ok (.iaload, 1) ∧ decode cL_law 698 = .ok (.invokevirtual 58, 3) ∧ decode cL_law 701 = .ok (.pop, 1) ∧ decode cL_law 702 = .ok (.aload_n 2, 1) ∧ decode cL_law 703 = .ok (.aload_n 0, 1) ∧ decode cL_law 704 = .ok (.iload_n 3, 1) ∧ decode cL_law 705 = .ok (.iconst 1, 1) ∧ decode cL_law 706 = .ok (.iadd, 1) ∧ decode cL_law 707 = .ok (.iaload, 1) ∧ decode cL_law 708 = .ok (.aload_n 0, 1) ∧ decode cL_law 709 = .ok (.iload_n 3, 1) ∧ decode cL_law 710 = .ok (.iconst 2, 1) ∧ decode cL_law 711 = .ok (.iadd, 1) ∧ decode cL_law 712 = .ok (.iaload, 1) ∧ decode cL_law 713 = .ok (.invokevirtual 61, 3) ∧ decode cL_law 716 = .ok (.pop, 1) ∧ decode cL_law 717 = .ok (.goto 784, 3) ∧ decode cL_law 720 = .ok (.aload_n 1, 1) ∧ decode cL_law 721 = .ok (.aload_n 0, 1) ∧ decode cL_law 722 = .ok (.iload_n 3, 1) ∧ decode cL_law 723 = .ok (.iconst 1, 1) ∧ decode cL_law 724 = .ok (.iadd, 1) ∧ decode cL_law 725 = .ok (.iaload, 1) := by decide +kernel
theorem dL_law_696 : decode cL_law 696 = .ok (.iadd, 1) := dch_dL_law_696.1
theorem dL_law_697 : decode cL_law 697 = .ok (.iaload, 1) := dch_dL_law_696.2.1
theorem dL_law_698 : decode cL_law 698 = .ok (.invokevirtual 58, 3) := dch_dL_law_696.2.2.1
theorem dL_law_701 : decode cL_law 701 = .ok (.pop, 1) := dch_dL_law_696.2.2.2.1
theorem dL_law_702 : decode cL_law 702 = .ok (.aload_n 2, 1) := dch_dL_law_696.2.2.2.2.1
theorem dL_law_703 : decode cL_law 703 = .ok (.aload_n 0, 1) := dch_dL_law_696.2.2.2.2.2.1
theorem dL_law_704 : decode cL_law 704 = .ok (.iload_n 3, 1) := dch_dL_law_696.2.2.2.2.2.2.1
theorem dL_law_705 : decode cL_law 705 = .ok (.iconst 1, 1) := dch_dL_law_696.2.2.2.2.2.2.2.1
theorem dL_law_706 : decode cL_law 706 = .ok (.iadd, 1) := dch_dL_law_696.2.2.2.2.2.2.2.2.1
theorem dL_law_707 : decode cL_law 707 = .ok (.iaload, 1) := dch_dL_law_696.2.2.2.2.2.2.2.2.2.1
theorem dL_law_708 : decode cL_law 708 = .ok (.aload_n 0, 1) := dch_dL_law_696.2.2.2.2.2.2.2.2.2.2.1
theorem dL_law_709 : decode cL_law 709 = .ok (.iload_n 3, 1) := dch_dL_law_696.2.2.2.2.2.2.2.2.2.2.2.1
theorem dL_law_710 : decode cL_law 710 = .ok (.iconst 2, 1) := dch_dL_law_696.2.2.2.2.2.2.2.2.2.2.2.2.1
theorem dL_law_711 : decode cL_law 711 = .ok (.iadd, 1) := dch_dL_law_696.2.2.2.2.2.2.2.2.2.2.2.2.2.1
theorem dL_law_712 : decode cL_law 712 = .ok (.iaload, 1) := dch_dL_law_696.2.2.2.2.2.2.2.2.2.2.2.2.2.2.1
theorem dL_law_713 : decode cL_law 713 = .ok (.invokevirtual 61, 3) := dch_dL_law_696.2.2.2.2.2.2.2.2.2.2.2.2.2.2.2.1
theorem dL_law_716 : decode cL_law 716 = .ok (.pop, 1) := dch_dL_law_696.2.2.2.2.2.2.2.2.2.2.2.2.2.2.2.2.1
theorem dL_law_717 : decode cL_law 717 = .ok (.goto 784, 3) := dch_dL_law_696.2.2.2.2.2.2.2.2.2.2.2.2.2.2.2.2.2.1
theorem dL_law_720 : decode cL_law 720 = .ok (.aload_n 1, 1) := dch_dL_law_696.2.2.2.2.2.2.2.2.2.2.2.2.2.2.2.2.2.2.1
theorem dL_law_721 : decode cL_law 721 = .ok (.aload_n 0, 1) := dch_dL_law_696.2.2.2.2.2.2.2.2.2.2.2.2.2.2.2.2.2.2.2.1
theorem dL_law_722 : decode cL_law 722 = .ok (.iload_n 3, 1) := dch_dL_law_696.2.2.2.2.2.2.2.2.2.2.2.2.2.2.2.2.2.2.2.2.1
theorem dL_law_723 : decode cL_law 723 = .ok (.iconst 1, 1) := dch_dL_law_696.2.2.2.2.2.2.2.2.2.2.2.2.2.2.2.2.2.2.2.2.2.1
theorem dL_law_724 : decode cL_law 724 = .ok (.iadd, 1) := dch_dL_law_696.2.2.2.2.2.2.2.2.2.2.2.2.2.2.2.2.2.2.2.2.2.2.1
theorem dL_law_725 : decode cL_law 725 = .ok (.iaload, 1) := dch_dL_law_696.2.2.2.2.2.2.2.2.2.2.2.2.2.2.2.2.2.2.2.2.2.2.2
theorem dch_dL_law_726 : decode cL_law 726 = .ok (.aload_n 0, 1) ∧ decode cL_law 727 = .ok (.iload_n 3, 1) ∧ decode cL_law 728 = .ok (.iconst 2, 1) ∧ decode cL_law 729 = .ok (.iadd, 1) ∧ decode cL_law 730 = .ok (.iaload, 1) ∧ decode cL_law 731 = .ok (.aload_n 0, 1) ∧ decode cL_law 732 = .ok (.iload_n 3, 1) ∧ decode cL_law 733 = .ok (.iconst 3, 1) ∧ decode cL_law 734 = .ok (.iadd, 1) ∧ decode cL_law 735 = .ok (.iaload, 1) ∧ decode cL_law 736 = .ok (.invokevirtual 62, 3) ∧ decode cL_law 739 = .ok (.pop, 1) ∧ decode cL_law 740 = .ok (.aload_n 2, 1) ∧ decode cL_law 741 = .ok (.aload_n 0, 1) ∧ decode cL_law 742 = .ok (.iload_n 3, 1) ∧ decode cL_law 743 = .ok (.iconst 1, 1) ∧ decode cL_law 744 = .ok (.iadd, 1) ∧ decode cL_law 745 = .ok (.iaload, 1) ∧ decode cL_law 746 = .ok (.aload_n 0, 1) ∧ decode cL_law 747 = .ok (.iload_n 3, 1) ∧ decode cL_law 748 = .ok (.iconst 2, 1) ∧ decode cL_law 749 = .ok (.iadd, 1) ∧ decode cL_law 750 = .ok (.iaload, 1) ∧ decode cL_law 751 = .ok (.aload_n 0, 1) := by decide +kernel
theorem dL_law_726 : decode cL_law 726 = .ok (.aload_n 0, 1) := dch_dL_law_726.1
theorem dL_law_727 : decode cL_law 727 = .ok (.iload_n 3, 1) := dch_dL_law_726.2.1
theorem dL_law_728 : decode cL_law 728 = .ok (.iconst 2, 1) := dch_dL_law_726.2.2.1
theorem dL_law_729 : decode cL_law 729 = .ok (.iadd, 1) := dch_dL_law_726.2.2.2.1
theorem dL_law_730 : decode cL_law 730 = .ok (.iaload, 1) := dch_dL_law_726.2.2.2.2.1
theorem dL_law_731 : decode cL_law 731 = .ok (.aload_n 0, 1) := dch_dL_law_726.2.2.2.2.2.1
theorem dL_law_732 : decode cL_law 732 = .ok (.iload_n 3, 1) := dch_dL_law_726.2.2.2.2.2.2.1
theorem dL_law_733 : decode cL_law 733 = .ok (.iconst 3, 1) := dch_dL_law_726.2.2.2.2.2.2.2.1
theorem dL_law_734 : decode cL_law 734 = .ok (.iadd, 1) := dch_dL_law_726.2.2.2.2.2.2.2.2.1
theorem dL_law_735 : decode cL_law 735 = .ok (.iaload, 1) := dch_dL_law_726.2.2.2.2.2.2.2.2.2.1
theorem dL_law_736 : decode cL_law 736 = .ok (.invokevirtual 62, 3) := dch_dL_law_726.2.2.2.2.2.2.2.2.2.2.1
theorem dL_law_739 : decode cL_law 739 = .ok (.pop, 1) := dch_dL_law_726.2.2.2.2.2.2.2.2.2.2.2.1
theorem dL_law_740 : decode cL_law 740 = .ok (.aload_n 2, 1) := dch_dL_law_726.2.2.2.2.2.2.2.2.2.2.2.2.1
theorem dL_law_741 : decode cL_law 741 = .ok (.aload_n 0, 1) := dch_dL_law_726.2.2.2.2.2.2.2.2.2.2.2.2.2.1
theorem dL_law_742 : decode cL_law 742 = .ok (.iload_n 3, 1) := dch_dL_law_726.2.2.2.2.2.2.2.2.2.2.2.2.2.2.1
theorem dL_law_743 : decode cL_law 743 = .ok (.iconst 1, 1) := dch_dL_law_726.2.2.2.2.2.2.2.2.2.2.2.2.2.2.2.1
theorem dL_law_744 : decode cL_law 744 = .ok (.iadd, 1) := dch_dL_law_726.2.2.2.2.2.2.2.2.2.2.2.2.2.2.2.2.1
theorem dL_law_745 : decode cL_law 745 = .ok (.iaload, 1) := dch_dL_law_726.2.2.2.2.2.2.2.2.2.2.2.2.2.2.2.2.2.1
theorem dL_law_746 : decode cL_law 746 = .ok (.aload_n 0, 1) := dch_dL_law_726.2.2.2.2.2.2.2.2.2.2.2.2.2.2.2.2.2.2.1
theorem dL_law_747 : decode cL_law 747 = .ok (.iload_n 3, 1) := dch_dL_law_726.2.2.2.2.2.2.2.2.2.2.2.2.2.2.2.2.2.2.2.1
theorem dL_law_748 : decode cL_law 748 = .ok (.iconst 2, 1) := dch_dL_law_726.2.2.2.2.2.2.2.2.2.2.2.2.2.2.2.2.2.2.2.2.1
theorem dL_law_749 : decode cL_law 749 = .ok (.iadd, 1) := dch_dL_law_726.2.2.2.2.2.2.2.2.2.2.2.2.2.2.2.2.2.2.2.2.2.1
theorem dL_law_750 : decode cL_law 750 = .ok (.iaload, 1) := dch_dL_law_726.2.2.2.2.2.2.2.2.2.2.2.2.2.2.2.2.2.2.2.2.2.2.1
theorem dL_law_751 : decode cL_law 751 = .ok (.aload_n 0, 1) := dch_dL_law_726.2.2.2.2.2.2.2.2.2.2.2.2.2.2.2.2.2.2.2.2.2.2.2
theorem dch_dL_law_752 : decode cL_law 752 = .ok (.iload_n 3, 1) ∧ decode cL_law 753 = .ok (.iconst 3, 1) ∧ decode cL_law 754 = .ok (.iadd, 1) ∧ decode cL_law 755 = .ok (.iaload, 1) ∧ decode cL_law 756 = .ok (.invokevirtual 66, 3) ∧ decode cL_law 759 = .ok (.pop, 1) ∧ decode cL_law 760 = .ok (.goto 741, 3) ∧ decode cL_law 763 = .ok (.aload_n 1, 1) ∧ decode cL_law 764 = .ok (.aload_n 0, 1) ∧ decode cL_law 765 = .ok (.iload_n 3, 1) ∧ decode cL_law 766 = .ok (.iconst 1, 1) ∧ decode cL_law 767 = .ok (.iadd, 1) ∧ decode cL_law 768 = .ok (.iaload, 1) ∧ decode cL_law 769 = .ok (.aload_n 0, 1) ∧ decode cL_law 770 = .ok (.iload_n 3, 1) ∧ decode cL_law 771 = .ok (.iconst 2, 1) ∧ decode cL_law 772 = .ok (.iadd, 1) ∧ decode cL_law 773 = .ok (.iaload, 1) ∧ decode cL_law 774 = .ok (.aload_n 0, 1) ∧ decode cL_law 775 = .ok (.iload_n 3, 1) ∧ decode cL_law 776 = .ok (.iconst 3, 1) ∧ decode cL_law 777 = .ok (.iadd, 1) ∧ decode cL_law 778 = .ok (.iaload, 1) ∧ decode cL_law 779 = .ok (.invokevirtual 67, 3) := by decide +kernel
theorem dL_law_752 : decode cL_law 752 = .ok (.iload_n 3, 1) := dch_dL_law_752.1
theorem dL_law_753 : decode cL_law 753 = .ok (.iconst 3, 1) := dch_dL_law_752.2.1
theorem dL_law_754 : decode cL_law 754 = .ok (.iadd, 1) := dch_dL_law_752.2.2.1
theorem dL_law_755 : decode cL_law 755 = .ok (.iaload, 1) := dch_dL_law_752.2.2.2.1
theorem dL_law_756 : decode cL_law 756 = .ok (.invokevirtual 66, 3) := dch_dL_law_752.2.2.2.2.1
theorem dL_law_759 : decode cL_law 759 = .ok (.pop, 1) := dch_dL_law_752.2.2.2.2.2.1
theorem dL_law_760 : decode cL_law 760 = .ok (.goto 741, 3) := dch_dL_law_752.2.2.2.2.2.2.1
theorem dL_law_763 : decode cL_law 763 = .ok (.aload_n 1, 1) := dch_dL_law_752.2.2.2.2.2.2.2.1
theorem dL_law_764 : decode cL_law 764 = .ok (.aload_n 0, 1) := dch_dL_law_752.2.2.2.2.2.2.2.2.1
theorem dL_law_765 : decode cL_law 765 = .ok (.iload_n 3, 1) := dch_dL_law_752.2.2.2.2.2.2.2.2.2.1
theorem dL_law_766 : decode cL_law 766 = .ok (.iconst 1, 1) := dch_dL_law_752.2.2.2.2.2.2.2.2.2.2.1
theorem dL_law_767 : decode cL_law 767 = .ok (.iadd, 1) := dch_dL_law_752.2.2.2.2.2.2.2.2.2.2.2.1
theorem dL_law_768 : decode cL_law 768 = .ok (.iaload, 1) := dch_dL_law_752.2.2.2.2.2.2.2.2.2.2.2.2.1
theorem dL_law_769 : decode cL_law 769 = .ok (.aload_n 0, 1) := dch_dL_law_752.2.2.2.2.2.2.2.2.2.2.2.2.2.1
theorem dL_law_770 : decode cL_law 770 = .ok (.iload_n 3, 1) := dch_dL_law_752.2.2.2.2.2.2.2.2.2.2.2.2.2.2.1
theorem dL_law_771 : decode cL_law 771 = .ok (.iconst 2, 1) := dch_dL_law_752.2.2.2.2.2.2.2.2.2.2.2.2.2.2.2.1
theorem dL_law_772 : decode cL_law 772 = .ok (.iadd, 1) := dch_dL_law_752.2.2.2.2.2.2.2.2.2.2.2.2.2.2.2.2.1
theorem dL_law_773 : decode cL_law 773 = .ok (.iaload, 1) := dch_dL_law_752.2.2.2.2.2.2.2.2.2.2.2.2.2.2.2.2.2.1
theorem dL_law_774 : decode cL_law 774 = .ok (.aload_n 0, 1) := dch_dL_law_752.2.2.2.2.2.2.2.2.2.2.2.2.2.2.2.2.2.2.1
theorem dL_law_775 : decode cL_law 775 = .ok (.iload_n 3, 1) := dch_dL_law_752.2.2.2.2.2.2.2.2.2.2.2.2.2.2.2.2.2.2.2.1
theorem dL_law_776 : decode cL_law 776 = .ok (.iconst 3, 1) := dch_dL_law_752.2.2.2.2.2.2.2.2.2.2.2.2.2.2.2.2.2.2.2.2.1
theorem dL_law_777 : decode cL_law 777 = .ok (.iadd, 1) := dch_dL_law_752.2.2.2.2.2.2.2.2.2.2.2.2.2.2.2.2.2.2.2.2.2.1
theorem dL_law_778 : decode cL_law 778 = .ok (.iaload, 1) := dch_dL_law_752.2.2.2.2.2.2.2.2.2.2.2.2.2.2.2.2.2.2.2.2.2.2.1
theorem dL_law_779 : decode cL_law 779 = .ok (.invokevirtual 67, 3) := dch_dL_law_752.2.2.2.2.2.2.2.2.2.2.2.2.2.2.2.2.2.2.2.2.2.2.2
theorem dch_dL_law_782 : decode cL_law 782 = .ok (.pop, 1) ∧ decode cL_law 783 = .ok (.aload_n 2, 1) ∧ decode cL_law 784 = .ok (.aload_n 0, 1) ∧ decode cL_law 785 = .ok (.iload_n 3, 1) ∧ decode cL_law 786 = .ok (.iconst 1, 1) ∧ decode cL_law 787 = .ok (.iadd, 1) ∧ decode cL_law 788 = .ok (.iaload, 1) ∧ decode cL_law 789 = .ok (.aload_n 0, 1) ∧ decode cL_law 790 = .ok (.iload_n 3, 1) ∧ decode cL_law 791 = .ok (.iconst 2, 1) ∧ decode cL_law 792 = .ok (.iadd, 1) ∧ decode cL_law 793 = .ok (.iaload, 1) ∧ decode cL_law 794 = .ok (.aload_n 0, 1) ∧ decode cL_law 795 = .ok (.iload_n 3, 1) ∧ decode cL_law 796 = .ok (.iconst 3, 1) ∧ decode cL_law 797 = .ok (.iadd, 1) ∧ decode cL_law 798 = .ok (.iaload, 1) ∧ decode cL_law 799 = .ok (.invokevirtual 70, 3) ∧ decode cL_law 802 = .ok (.pop, 1) ∧ decode cL_law 803 = .ok (.goto 698, 3) ∧ decode cL_law 806 = .ok (.aload_n 1, 1) ∧ decode cL_law 807 = .ok (.aload_n 0, 1) ∧ decode cL_law 808 = .ok (.iload_n 3, 1) ∧ decode cL_law 809 = .ok (.iconst 1, 1) := by decide +kernel
theorem dL_law_782 : decode cL_law 782 = .ok (.pop, 1) := dch_dL_law_782.1
theorem dL_law_783 : decode cL_law 783 = .ok (.aload_n 2, 1) := dch_dL_law_782.2.1
theorem dL_law_784 : decode cL_law 784 = .ok (.aload_n 0, 1) := dch_dL_law_782.2.2.1
theorem dL_law_785 : decode cL_law 785 = .ok (.iload_n 3, 1) := dch_dL_law_782.2.2.2.1
theorem dL_law_786 : decode cL_law 786 = .ok (.iconst 1, 1) := dch_dL_law_782.2.2.2.2.1
theorem dL_law_787 : decode cL_law 787 = .ok (.iadd, 1) := dch_dL_law_782.2.2.2.2.2.1
theorem dL_law_788 : decode cL_law 788 = .ok (.iaload, 1) := dch_dL_law_782.2.2.2.2.2.2.1
theorem dL_law_789 : decode cL_law 789 = .ok (.aload_n 0, 1) := dch_dL_law_782.2.2.2.2.2.2.2.1
theorem dL_law_790 : decode cL_law 790 = .ok (.iload_n 3, 1) := dch_dL_law_782.2.2.2.2.2.2.2.2.1
theorem dL_law_791 : decode cL_law 791 = .ok (.iconst 2, 1) := dch_dL_law_782.2.2.2.2.2.2.2.2.2.1
theorem dL_law_792 : decode cL_law 792 = .ok (.iadd, 1) := dch_dL_law_782.2.2.2.2.2.2.2.2.2.2.1
theorem dL_law_793 : decode cL_law 793 = .ok (.iaload, 1) := dch_dL_law_782.2.2.2.2.2.2.2.2.2.2.2.1
theorem dL_law_794 : decode cL_law 794 = .ok (.aload_n 0, 1) := dch_dL_law_782.2.2.2.2.2.2.2.2.2.2.2.2.1
theorem dL_law_795 : decode cL_law 795 = .ok (.iload_n 3, 1) := dch_dL_law_782.2.2.2.2.2.2.2.2.2.2.2.2.2.1
theorem dL_law_796 : decode cL_law 796 = .ok (.iconst 3, 1) := dch_dL_law_782.2.2.2.2.2.2.2.2.2.2.2.2.2.2.1
theorem dL_law_797 : decode cL_law 797 = .ok (.iadd, 1) := dch_dL_law_782.2.2.2.2.2.2.2.2.2.2.2.2.2.2.2.1
theorem dL_law_798 : decode cL_law 798 = .ok (.iaload, 1) := dch_dL_law_782.2.2.2.2.2.2.2.2.2.2.2.2.2.2.2.2.1
theorem dL_law_799 : decode cL_law 799 = .ok (.invokevirtual 70, 3) := dch_dL_law_782.2.2.2.2.2.2.2.2.2.2.2.2.2.2.2.2.2.1
theorem dL_law_802 : decode cL_law 802 = .ok (.pop, 1) := dch_dL_law_782.2.2.2.2.2.2.2.2.2.2.2.2.2.2.2.2.2.2.1
theorem dL_law_803 : decode cL_law 803 = .ok (.goto 698, 3) := dch_dL_law_782.2.2.2.2.2.2.2.2.2.2.2.2.2.2.2.2.2.2.2.1
theorem dL_law_806 : decode cL_law 806 = .ok (.aload_n 1, 1) := dch_dL_law_782.2.2.2.2.2.2.2.2.2.2.2.2.2.2.2.2.2.2.2.2.1
theorem dL_law_807 : decode cL_law 807 = .ok (.aload_n 0, 1) := dch_dL_law_782.2.2.2.2.2.2.2.2.2.2.2.2.2.2.2.2.2.2.2.2.2.1
theorem dL_law_808 : decode cL_law 808 = .ok (.iload_n 3, 1) := dch_dL_law_782.2.2.2.2.2.2.2.2.2.2.2.2.2.2.2.2.2.2.2.2.2.2.1
theorem dL_law_809 : decode cL_law 809 = .ok (.iconst 1, 1) := dch_dL_law_782.2.2.2.2.2.2.2.2.2.2.2.2.2.2.2.2.2.2.2.2.2.2.2
theorem dch_dL_law_810 : decode cL_law 810 = .ok (.iadd, 1) ∧ decode cL_law 811 = .ok (.iaload, 1) ∧ decode cL_law 812 = .ok (.aload_n 0, 1) ∧ decode cL_law 813 = .ok (.iload_n 3, 1) ∧ decode cL_law 814 = .ok (.iconst 2, 1) ∧ decode cL_law 815 = .ok (.iadd, 1) ∧ decode cL_law 816 = .ok (.iaload, 1) ∧ decode cL_law 817 = .ok (.aload_n 0, 1) ∧ decode cL_law 818 = .ok (.iload_n 3, 1) ∧ decode cL_law 819 = .ok (.iconst 3, 1) ∧ decode cL_law 820 = .ok (.iadd, 1) ∧ decode cL_law 821 = .ok (.iaload, 1) ∧ decode cL_law 822 = .ok (.aload_n 0, 1) ∧ decode cL_law 823 = .ok (.iload_n 3, 1) ∧ decode cL_law 824 = .ok (.iconst 4, 1) ∧ decode cL_law 825 = .ok (.iadd, 1) ∧ decode cL_law 826 = .ok (.iaload, 1) ∧ decode cL_law 827 = .ok (.invokevirtual 71, 3) ∧ decode cL_law 830 = .ok (.pop, 1) ∧ decode cL_law 831 = .ok (.aload_n 2, 1) ∧ decode cL_law 832 = .ok (.aload_n 0, 1) ∧ decode cL_law 833 = .ok (.iload_n 3, 1) ∧ decode cL_law 834 = .ok (.iconst 1, 1) ∧ decode cL_law 835 = .ok (.iadd, 1) := by decide +kernel
theorem dL_law_810 : decode cL_law 810 = .ok (.iadd, 1) := dch_dL_law_810.1
theorem dL_law_811 : decode cL_law 811 = .ok (.iaload, 1) := dch_dL_law_810.2.1
theorem dL_law_812 : decode cL_law 812 = .ok (.aload_n 0, 1) := dch_dL_law_810.2.2.1
theorem dL_law_813 : decode cL_law 813 = .ok (.iload_n 3, 1) := dch_dL_law_810.2.2.2.1
theorem dL_law_814 : decode cL_law 814 = .ok (.iconst 2, 1) := dch_dL_law_810.2.2.2.2.1
theorem dL_law_815 : decode cL_law 815 = .ok (.iadd, 1) := dch_dL_law_810.2.2.2.2.2.1
theorem dL_law_816 : decode cL_law 816 = .ok (.iaload, 1) := dch_dL_law_810.2.2.2.2.2.2.1
theorem dL_law_817 : decode cL_law 817 = .ok (.aload_n 0, 1) := dch_dL_law_810.2.2.2.2.2.2.2.1
theorem dL_law_818 : decode cL_law 818 = .ok (.iload_n 3, 1) := dch_dL_law_810.2.2.2.2.2.2.2.2.1
theorem dL_law_819 : decode cL_law 819 = .ok (.iconst 3, 1) := dch_dL_law_810.2.2.2.2.2.2.2.2.2.1
theorem dL_law_820 : decode cL_law 820 = .ok (.iadd, 1) := dch_dL_law_810.2.2.2.2.2.2.2.2.2.2.1
theorem dL_law_821 : decode cL_law 821 = .ok (.iaload, 1) := dch_dL_law_810.2.2.2.2.2.2.2.2.2.2.2.1
theorem dL_law_822 : decode cL_law 822 = .ok (.aload_n 0, 1) := dch_dL_law_810.2.2.2.2.2.2.2.2.2.2.2.2.1
theorem dL_law_823 : decode cL_law 823 = .ok (.iload_n 3, 1) := dch_dL_law_810.2.2.2.2.2.2.2.2.2.2.2.2.2.1
theorem dL_law_824 : decode cL_law 824 = .ok (.iconst 4, 1) := dch_dL_law_810.2.2.2.2.2.2.2.2.2.2.2.2.2.2.1
theorem dL_law_825 : decode cL_law 825 = .ok (.iadd, 1) := dch_dL_law_810.2.2.2.2.2.2.2.2.2.2.2.2.2.2.2.1
theorem dL_law_826 : decode cL_law 826 = .ok (.iaload, 1) := dch_dL_law_810.2.2.2.2.2.2.2.2.2.2.2.2.2.2.2.2.1
theorem dL_law_827 : decode cL_law 827 = .ok (.invokevirtual 71, 3) := dch_dL_law_810.2.2.2.2.2.2.2.2.2.2.2.2.2.2.2.2.2.1
theorem dL_law_830 : decode cL_law 830 = .ok (.pop, 1) := dch_dL_law_810.2.2.2.2.2.2.2.2.2.2.2.2.2.2.2.2.2.2.1
theorem dL_law_831 : decode cL_law 831 = .ok (.aload_n 2, 1) := dch_dL_law_810.2.2.2.2.2.2.2.2.2.2.2.2.2.2.2.2.2.2.2.1
theorem dL_law_832 : decode cL_law 832 = .ok (.aload_n 0, 1) := dch_dL_law_810.2.2.2.2.2.2.2.2.2.2.2.2.2.2.2.2.2.2.2.2.1
theorem dL_law_833 : decode cL_law 833 = .ok (.iload_n 3, 1) := dch_dL_law_810.2.2.2.2.2.2.2.2.2.2.2.2.2.2.2.2.2.2.2.2.2.1
theorem dL_law_834 : decode cL_law 834 = .ok (.iconst 1, 1) := dch_dL_law_810.2.2.2.2.2.2.2.2.2.2.2.2.2.2.2.2.2.2.2.2.2.2.1
theorem dL_law_835 : decode cL_law 835 = .ok (.iadd, 1) := dch_dL_law_810.2.2.2.2.2.2.2.2.2.2.2.2.2.2.2.2.2.2.2.2.2.2.2
theorem dch_dL_law_836 : decode cL_law 836 = .ok (.iaload, 1) ∧ decode cL_law 837 = .ok (.aload_n 0, 1) ∧ decode cL_law 838 = .ok (.iload_n 3, 1) ∧ decode cL_law 839 = .ok (.iconst 2, 1) ∧ decode cL_law 840 = .ok (.iadd, 1) ∧ decode cL_law 841 = .ok (.iaload, 1) ∧ decode cL_law 842 = .ok (.aload_n 0, 1) ∧ decode cL_law 843 = .ok (.iload_n 3, 1) ∧ decode cL_law 844 = .ok (.iconst 3, 1) ∧ decode cL_law 845 = .ok (.iadd, 1) ∧ decode cL_law 846 = .ok (.iaload, 1) ∧ decode cL_law 847 = .ok (.aload_n 0, 1) ∧ decode cL_law 848 = .ok (.iload_n 3, 1) ∧ decode cL_law 849 = .ok (.iconst 4, 1) ∧ decode cL_law 850 = .ok (.iadd, 1) ∧ decode cL_law 851 = .ok (.iaload, 1) ∧ decode cL_law 852 = .ok (.invokevirtual 74, 3) ∧ decode cL_law 855 = .ok (.pop, 1) ∧ decode cL_law 856 = .ok (.goto 645, 3) ∧ decode cL_law 859 = .ok (.aload_n 1, 1) ∧ decode cL_law 860 = .ok (.aload_n 0, 1) ∧ decode cL_law 861 = .ok (.iload_n 3, 1) ∧ decode cL_law 862 = .ok (.iconst 1, 1) ∧ decode cL_law 863 = .ok (.iadd, 1) := by decide +kernel
theorem dL_law_836 : decode cL_law 836 = .ok (.iaload, 1) := dch_dL_law_836.1
theorem dL_law_837 : decode cL_law 837 = .ok (.aload_n 0, 1) := dch_dL_law_836.2.1
theorem dL_law_838 : decode cL_law 838 = .ok (.iload_n 3, 1) := dch_dL_law_836.2.2.1
theorem dL_law_839 : decode cL_law 839 = .ok (.iconst 2, 1) := dch_dL_law_836.2.2.2.1
theorem dL_law_840 : decode cL_law 840 = .ok (.iadd, 1) := dch_dL_law_836.2.2.2.2.1
theorem dL_law_841 : decode cL_law 841 = .ok (.iaload, 1) := dch_dL_law_836.2.2.2.2.2.1
theorem dL_law_842 : decode cL_law 842 = .ok (.aload_n 0, 1) := dch_dL_law_836.2.2.2.2.2.2.1
theorem dL_law_843 : decode cL_law 843 = .ok (.iload_n 3, 1) := dch_dL_law_836.2.2.2.2.2.2.2.1
theorem dL_law_844 : decode cL_law 844 = .ok (.iconst 3, 1) := dch_dL_law_836.2.2.2.2.2.2.2.2.1
theorem dL_law_845 : decode cL_law 845 = .ok (.iadd, 1) := dch_dL_law_836.2.2.2.2.2.2.2.2.2.1
theorem dL_law_846 : decode cL_law 846 = .ok (.iaload, 1) := dch_dL_law_836.2.2.2.2.2.2.2.2.2.2.1
theorem dL_law_847 : decode cL_law 847 = .ok (.aload_n 0, 1) := dch_dL_law_836.2.2.2.2.2.2.2.2.2.2.2.1
theorem dL_law_848 : decode cL_law 848 = .ok (.iload_n 3, 1) := dch_dL_law_836.2.2.2.2.2.2.2.2.2.2.2.2.1
theorem dL_law_849 : decode cL_law 849 = .ok (.iconst 4, 1) := dch_dL_law_836.2.2.2.2.2.2.2.2.2.2.2.2.2.1
theorem dL_law_850 : decode cL_law 850 = .ok (.iadd, 1) := dch_dL_law_836.2.2.2.2.2.2.2.2.2.2.2.2.2.2.1
theorem dL_law_851 : decode cL_law 851 = .ok (.iaload, 1) := dch_dL_law_836.2.2.2.2.2.2.2.2.2.2.2.2.2.2.2.1
theorem dL_law_852 : decode cL_law 852 = .ok (.invokevirtual 74, 3) := dch_dL_law_836.2.2.2.2.2.2.2.2.2.2.2.2.2.2.2.2.1
theorem dL_law_855 : decode cL_law 855 = .ok (.pop, 1) := dch_dL_law_836.2.2.2.2.2.2.2.2.2.2.2.2.2.2.2.2.2.1
theorem dL_law_856 : decode cL_law 856 = .ok (.goto 645, 3) := dch_dL_law_836.2.2.2.2.2.2.2.2.2.2.2.2.2.2.2.2.2.2.1
theorem dL_law_859 : decode cL_law 859 = .ok (.aload_n 1, 1) := dch_dL_law_836.2.2.2.2.2.2.2.2.2.2.2.2.2.2.2.2.2.2.2.1
theorem dL_law_860 : decode cL_law 860 = .ok (.aload_n 0, 1) := dch_dL_law_836.2.2.2.2.2.2.2.2.2.2.2.2.2.2.2.2.2.2.2.2.1
theorem dL_law_861 : decode cL_law 861 = .ok (.iload_n 3, 1) := dch_dL_law_836.2.2.2.2.2.2.2.2.2.2.2.2.2.2.2.2.2.2.2.2.2.1
theorem dL_law_862 : decode cL_law 862 = .ok (.iconst 1, 1) := dch_dL_law_836.2.2.2.2.2.2.2.2.2.2.2.2.2.2.2.2.2.2.2.2.2.2.1
theorem dL_law_863 : decode cL_law 863 = .ok (.iadd, 1) := dch_dL_law_836.2.2.2.2.2.2.2.2.2.2.2.2.2.2.2.2.2.2.2.2.2.2.2
theorem dch_dL_law_864 : decode cL_law 864 = .ok (.iaload, 1) ∧ decode cL_law 865 = .ok (.invokevirtual 75, 3) ∧ decode cL_law 868 = .ok (.pop, 1) ∧ decode cL_law 869 = .ok (.aload_n 2, 1) ∧ decode cL_law 870 = .ok (.aload_n 0, 1) ∧ decode cL_law 871 = .ok (.iload_n 3, 1) ∧ decode cL_law 872 = .ok (.iconst 1, 1) ∧ decode cL_law 873 = .ok (.iadd, 1) ∧ decode cL_law 874 = .ok (.iaload, 1) ∧ decode cL_law 875 = .ok (.invokevirtual 79, 3) ∧ decode cL_law 878 = .ok (.pop, 1) ∧ decode cL_law 879 = .ok (.goto 622, 3) ∧ decode cL_law 882 = .ok (.aload_n 1, 1) ∧ decode cL_law 883 = .ok (.aload_n 0, 1) ∧ decode cL_law 884 = .ok (.iload_n 3, 1) ∧ decode cL_law 885 = .ok (.iconst 1, 1) ∧ decode cL_law 886 = .ok (.iadd, 1) ∧ decode cL_law 887 = .ok (.iaload, 1) ∧ decode cL_law 888 = .ok (.aload_n 0, 1) ∧ decode cL_law 889 = .ok (.iload_n 3, 1) ∧ decode cL_law 890 = .ok (.iconst 2, 1) ∧ decode cL_law 891 = .ok (.iadd, 1) ∧ decode cL_law 892 = .ok (.iaload, 1) ∧ decode cL_law 893 = .ok (.invokevirtual 80, 3) := by decide +kernel
theorem dL_law_864 : decode cL_law 864 = .ok (.iaload, 1) := dch_dL_law_864.1
theorem dL_law_865 : decode cL_law 865 = .ok (.invokevirtual 75, 3) := dch_dL_law_864.2.1
theorem dL_law_868 : decode cL_law 868 = .ok (.pop, 1) := dch_dL_law_864.2.2.1
theorem dL_law_869 : decode cL_law 869 = .ok (.aload_n 2, 1) := dch_dL_law_864.2.2.2.1
theorem dL_law_870 : decode cL_law 870 = .ok (.aload_n 0, 1) := dch_dL_law_864.2.2.2.2.1
theorem dL_law_871 : decode cL_law 871 = .ok (.iload_n 3, 1) := dch_dL_law_864.2.2.2.2.2.1
theorem dL_law_872 : decode cL_law 872 = .ok (.iconst 1, 1) := dch_dL_law_864.2.2.2.2.2.2.1
theorem dL_law_873 : decode cL_law 873 = .ok (.iadd, 1) := dch_dL_law_864.2.2.2.2.2.2.2.1
theorem dL_law_874 : decode cL_law 874 = .ok (.iaload, 1) := dch_dL_law_864.2.2.2.2.2.2.2.2.1
theorem dL_law_875 : decode cL_law 875 = .ok (.invokevirtual 79, 3) := dch_dL_law_864.2.2.2.2.2.2.2.2.2.1
theorem dL_law_878 : decode cL_law 878 = .ok (.pop, 1) := dch_dL_law_864.2.2.2.2.2.2.2.2.2.2.1
theorem dL_law_879 : decode cL_law 879 = .ok (.goto 622, 3) := dch_dL_law_864.2.2.2.2.2.2.2.2.2.2.2.1
theorem dL_law_882 : decode cL_law 882 = .ok (.aload_n 1, 1) := dch_dL_law_864.2.2.2.2.2.2.2.2.2.2.2.2.1
theorem dL_law_883 : decode cL_law 883 = .ok (.aload_n 0, 1) := dch_dL_law_864.2.2.2.2.2.2.2.2.2.2.2.2.2.1
theorem dL_law_884 : decode cL_law 884 = .ok (.iload_n 3, 1) := dch_dL_law_864.2.2.2.2.2.2.2.2.2.2.2.2.2.2.1
theorem dL_law_885 : decode cL_law 885 = .ok (.iconst 1, 1) := dch_dL_law_864.2.2.2.2.2.2.2.2.2.2.2.2.2.2.2.1
theorem dL_law_886 : decode cL_law 886 = .ok (.iadd, 1) := dch_dL_law_864.2.2.2.2.2.2.2.2.2.2.2.2.2.2.2.2.1
theorem dL_law_887 : decode cL_law 887 = .ok (.iaload, 1) := dch_dL_law_864.2.2.2.2.2.2.2.2.2.2.2.2.2.2.2.2.2.1
theorem dL_law_888 : decode cL_law 888 = .ok (.aload_n 0, 1) := dch_dL_law_864.2.2.2.2.2.2.2.2.2.2.2.2.2.2.2.2.2.2.1
theorem dL_law_889 : decode cL_law 889 = .ok (.iload_n 3, 1) := dch_dL_law_864.2.2.2.2.2.2.2.2.2.2.2.2.2.2.2.2.2.2.2.1
theorem dL_law_890 : decode cL_law 890 = .ok (.iconst 2, 1) := dch_dL_law_864.2.2.2.2.2.2.2.2.2.2.2.2.2.2.2.2.2.2.2.2.1
theorem dL_law_891 : decode cL_law 891 = .ok (.iadd, 1) := dch_dL_law_864.2.2.2.2.2.2.2.2.2.2.2.2.2.2.2.2.2.2.2.2.2.1
theorem dL_law_892 : decode cL_law 892 = .ok (.iaload, 1) := dch_dL_law_864.2.2.2.2.2.2.2.2.2.2.2.2.2.2.2.2.2.2.2.2.2.2.1
theorem dL_law_893 : decode cL_law 893 = .ok (.invokevirtual 80, 3) := dch_dL_law_864.2.2.2.2.2.2.2.2.2.2.2.2.2.2.2.2.2.2.2.2.2.2.2
theorem dch_dL_law_896 : decode cL_law 896 = .ok (.pop, 1) ∧ decode cL_law 897 = .ok (.aload_n 2, 1) ∧ decode cL_law 898 = .ok (.aload_n 0, 1) ∧ decode cL_law 899 = .ok (.iload_n 3, 1) ∧ decode cL_law 900 = .ok (.iconst 1, 1) ∧ decode cL_law 901 = .ok (.iadd, 1) ∧ decode cL_law 902 = .ok (.iaload, 1) ∧ decode cL_law 903 = .ok (.aload_n 0, 1) ∧ decode cL_law 904 = .ok (.iload_n 3, 1) ∧ decode cL_law 905 = .ok (.iconst 2, 1) ∧ decode cL_law 906 = .ok (.iadd, 1) ∧ decode cL_law 907 = .ok (.iaload, 1) ∧ decode cL_law 908 = .ok (.invokevirtual 83, 3) ∧ decode cL_law 911 = .ok (.pop, 1) ∧ decode cL_law 912 = .ok (.goto 589, 3) ∧ decode cL_law 915 = .ok (.aload_n 1, 1) ∧ decode cL_law 916 = .ok (.aload_n 0, 1) ∧ decode cL_law 917 = .ok (.iload_n 3, 1) ∧ decode cL_law 918 = .ok (.iconst 1, 1) ∧ decode cL_law 919 = .ok (.iadd, 1) ∧ decode cL_law 920 = .ok (.iaload, 1) ∧ decode cL_law 921 = .ok (.aload_n 0, 1) ∧ decode cL_law 922 = .ok (.iload_n 3, 1) ∧ decode cL_law 923 = .ok (.iconst 2, 1) := by decide +kernel
theorem dL_law_896 : decode cL_law 896 = .ok (.pop, 1) := dch_dL_law_896.1
theorem dL_law_897 : decode cL_law 897 = .ok (.aload_n 2, 1) := dch_dL_law_896.2.1
theorem dL_law_898 : decode cL_law 898 = .ok (.aload_n 0, 1) := dch_dL_law_896.2.2.1
theorem dL_law_899 : decode cL_law 899 = .ok (.iload_n 3, 1) := dch_dL_law_896.2.2.2.1
theorem dL_law_900 : decode cL_law 900 = .ok (.iconst 1, 1) := dch_dL_law_896.2.2.2.2.1
theorem dL_law_901 : decode cL_law 901 = .ok (.iadd, 1) := dch_dL_law_896.2.2.2.2.2.1
theorem dL_law_902 : decode cL_law 902 = .ok (.iaload, 1) := dch_dL_law_896.2.2.2.2.2.2.1
theorem dL_law_903 : decode cL_law 903 = .ok (.aload_n 0, 1) := dch_dL_law_896.2.2.2.2.2.2.2.1
theorem dL_law_904 : decode cL_law 904 = .ok (.iload_n 3, 1) := dch_dL_law_896.2.2.2.2.2.2.2.2.1
theorem dL_law_905 : decode cL_law 905 = .ok (.iconst 2, 1) := dch_dL_law_896.2.2.2.2.2.2.2.2.2.1
theorem dL_law_906 : decode cL_law 906 = .ok (.iadd, 1) := dch_dL_law_896.2.2.2.2.2.2.2.2.2.2.1
theorem dL_law_907 : decode cL_law 907 = .ok (.iaload, 1) := dch_dL_law_896.2.2.2.2.2.2.2.2.2.2.2.1
theorem dL_law_908 : decode cL_law 908 = .ok (.invokevirtual 83, 3) := dch_dL_law_896.2.2.2.2.2.2.2.2.2.2.2.2.1
theorem dL_law_911 : decode cL_law 911 = .ok (.pop, 1) := dch_dL_law_896.2.2.2.2.2.2.2.2.2.2.2.2.2.1
theorem dL_law_912 : decode cL_law 912 = .ok (.goto 589, 3) := dch_dL_law_896.2.2.2.2.2.2.2.2.2.2.2.2.2.2.1
theorem dL_law_915 : decode cL_law 915 = .ok (.aload_n 1, 1) := dch_dL_law_896.2.2.2.2.2.2.2.2.2.2.2.2.2.2.2.1
theorem dL_law_916 : decode cL_law 916 = .ok (.aload_n 0, 1) := dch_dL_law_896.2.2.2.2.2.2.2.2.2.2.2.2.2.2.2.2.1
theorem dL_law_917 : decode cL_law 917 = .ok (.iload_n 3, 1) := dch_dL_law_896.2.2.2.2.2.2.2.2.2.2.2.2.2.2.2.2.2.1
theorem dL_law_918 : decode cL_law 918 = .ok (.iconst 1, 1) := dch_dL_law_896.2.2.2.2.2.2.2.2.2.2.2.2.2.2.2.2.2.2.1
theorem dL_law_919 : decode cL_law 919 = .ok (.iadd, 1) := dch_dL_law_896.2.2.2.2.2.2.2.2.2.2.2.2.2.2.2.2.2.2.2.1
theorem dL_law_920 : decode cL_law 920 = .ok (.iaload, 1) := dch_dL_law_896.2.2.2.2.2.2.2.2.2.2.2.2.2.2.2.2.2.2.2.2.1
theorem dL_law_921 : decode cL_law 921 = .ok (.aload_n 0, 1) := dch_dL_law_896.2.2.2.2.2.2.2.2.2.2.2.2.2.2.2.2.2.2.2.2.2.1
theorem dL_law_922 : decode cL_law 922 = .ok (.iload_n 3, 1) := dch_dL_law_896.2.2.2.2.2.2.2.2.2.2.2.2.2.2.2.2.2.2.2.2.2.2.1
theorem dL_law_923 : decode cL_law 923 = .ok (.iconst 2, 1) := dch_dL_law_896.2.2.2.2.2.2.2.2.2.2.2.2.2.2.2.2.2.2.2.2.2.2.2
theorem dch_dL_law_924 : decode cL_law 924 = .ok (.iadd, 1) ∧ decode cL_law 925 = .ok (.iaload, 1) ∧ decode cL_law 926 = .ok (.ifCond .eq 7, 3) ∧ decode cL_law 929 = .ok (.iconst 1, 1) ∧ decode cL_law 930 = .ok (.goto 4, 3) ∧ decode cL_law 933 = .ok (.iconst 0, 1) ∧ decode cL_law 934 = .ok (.invokevirtual 84, 3) ∧ decode cL_law 937 = .ok (.pop, 1) ∧ decode cL_law 938 = .ok (.aload_n 2, 1) ∧ decode cL_law 939 = .ok (.aload_n 0, 1) ∧ decode cL_law 940 = .ok (.iload_n 3, 1) ∧ decode cL_law 941 = .ok (.iconst 1, 1) ∧ decode cL_law 942 = .ok (.iadd, 1) ∧ decode cL_law 943 = .ok (.iaload, 1) ∧ decode cL_law 944 = .ok (.aload_n 0, 1) ∧ decode cL_law 945 = .ok (.iload_n 3, 1) ∧ decode cL_law 946 = .ok (.iconst 2, 1) ∧ decode cL_law 947 = .ok (.iadd, 1) ∧ decode cL_law 948 = .ok (.iaload, 1) ∧ decode cL_law 949 = .ok (.ifCond .eq 7, 3) ∧ decode cL_law 952 = .ok (.iconst 1, 1) ∧ decode cL_law 953 = .ok (.goto 4, 3) ∧ decode cL_law 956 = .ok (.iconst 0, 1) ∧ decode cL_law 957 = .ok (.invokevirtual 88, 3) := by decide +kernel
theorem dL_law_924 : decode cL_law 924 = .ok (.iadd, 1) := dch_dL_law_924.1
theorem dL_law_925 : decode cL_law 925 = .ok (.iaload, 1) := dch_dL_law_924.2.1
theorem dL_law_926 : decode cL_law 926 = .ok (.ifCond .eq 7, 3) := dch_dL_law_924.2.2.1
theorem dL_law_929 : decode cL_law 929 = .ok (.iconst 1, 1) := dch_dL_law_924.2.2.2.1
theorem dL_law_930 : decode cL_law 930 = .ok (.goto 4, 3) := dch_dL_law_924.2.2.2.2.1
theorem dL_law_933 : decode cL_law 933 = .ok (.iconst 0, 1) := dch_dL_law_924.2.2.2.2.2.1
theorem dL_law_934 : decode cL_law 934 = .ok (.invokevirtual 84, 3) := dch_dL_law_924.2.2.2.2.2.2.1
theorem dL_law_937 : decode cL_law 937 = .ok (.pop, 1) := dch_dL_law_924.2.2.2.2.2.2.2.1
theorem dL_law_938 : decode cL_law 938 = .ok (.aload_n 2, 1) := dch_dL_law_924.2.2.2.2.2.2.2.2.1
theorem dL_law_939 : decode cL_law 939 = .ok (.aload_n 0, 1) := dch_dL_law_924.2.2.2.2.2.2.2.2.2.1
theorem dL_law_940 : decode cL_law 940 = .ok (.iload_n 3, 1) := dch_dL_law_924.2.2.2.2.2.2.2.2.2.2.1
theorem dL_law_941 : decode cL_law 941 = .ok (.iconst 1, 1) := dch_dL_law_924.2.2.2.2.2.2.2.2.2.2.2.1
theorem dL_law_942 : decode cL_law 942 = .ok (.iadd, 1) := dch_dL_law_924.2.2.2.2.2.2.2.2.2.2.2.2.1
theorem dL_law_943 : decode cL_law 943 = .ok (.iaload, 1) := dch_dL_law_924.2.2.2.2.2.2.2.2.2.2.2.2.2.1
theorem dL_law_944 : decode cL_law 944 = .ok (.aload_n 0, 1) := dch_dL_law_924.2.2.2.2.2.2.2.2.2.2.2.2.2.2.1
theorem dL_law_945 : decode cL_law 945 = .ok (.iload_n 3, 1) := dch_dL_law_924.2.2.2.2.2.2.2.2.2.2.2.2.2.2.2.1
theorem dL_law_946 : decode cL_law 946 = .ok (.iconst 2, 1) := dch_dL_law_924.2.2.2.2.2.2.2.2.2.2.2.2.2.2.2.2.1
theorem dL_law_947 : decode cL_law 947 = .ok (.iadd, 1) := dch_dL_law_924.2.2.2.2.2.2.2.2.2.2.2.2.2.2.2.2.2.1
theorem dL_law_948 : decode cL_law 948 = .ok (.iaload, 1) := dch_dL_law_924.2.2.2.2.2.2.2.2.2.2.2.2.2.2.2.2.2.2.1
theorem dL_law_949 : decode cL_law 949 = .ok (.ifCond .eq 7, 3) := dch_dL_law_924.2.2.2.2.2.2.2.2.2.2.2.2.2.2.2.2.2.2.2.1
theorem dL_law_952 : decode cL_law 952 = .ok (.iconst 1, 1) := dch_dL_law_924.2.2.2.2.2.2.2.2.2.2.2.2.2.2.2.2.2.2.2.2.1
theorem dL_law_953 : decode cL_law 953 = .ok (.goto 4, 3) := dch_dL_law_924.2.2.2.2.2.2.2.2.2.2.2.2.2.2.2.2.2.2.2.2.2.1
theorem dL_law_956 : decode cL_law 956 = .ok (.iconst 0, 1) := dch_dL_law_924.2.2.2.2.2.2.2.2.2.2.2.2.2.2.2.2.2.2.2.2.2.2.1
theorem dL_law_957 : decode cL_law 957 = .ok (.invokevirtual 88, 3) := dch_dL_law_924.2.2.2.2.2.2.2.2.2.2.2.2.2.2.2.2.2.2.2.2.2.2.2
theorem dch_dL_law_960 : decode cL_law 960 = .ok (.pop, 1) ∧ decode cL_law 961 = .ok (.goto 540, 3) ∧ decode cL_law 964 = .ok (.aload_n 1, 1) ∧ decode cL_law 965 = .ok (.aload_n 0, 1) ∧ decode cL_law 966 = .ok (.iload_n 3, 1) ∧ decode cL_law 967 = .ok (.iconst 1, 1) ∧ decode cL_law 968 = .ok (.iadd, 1) ∧ decode cL_law 969 = .ok (.iaload, 1) ∧ decode cL_law 970 = .ok (.invokevirtual 89, 3) ∧ decode cL_law 973 = .ok (.pop, 1) ∧ decode cL_law 974 = .ok (.aload_n 2, 1) ∧ decode cL_law 975 = .ok (.aload_n 0, 1) ∧ decode cL_law 976 = .ok (.iload_n 3, 1) ∧ decode cL_law 977 = .ok (.iconst 1, 1) ∧ decode cL_law 978 = .ok (.iadd, 1) ∧ decode cL_law 979 = .ok (.iaload, 1) ∧ decode cL_law 980 = .ok (.invokevirtual 92, 3) ∧ decode cL_law 983 = .ok (.pop, 1) ∧ decode cL_law 984 = .ok (.goto 517, 3) ∧ decode cL_law 987 = .ok (.aload_n 1, 1) ∧ decode cL_law 988 = .ok (.aload_n 0, 1) ∧ decode cL_law 989 = .ok (.iload_n 3, 1) ∧ decode cL_law 990 = .ok (.iconst 1, 1) ∧ decode cL_law 991 = .ok (.iadd, 1) := by decide +kernel
theorem dL_law_960 : decode cL_law 960 = .ok (.pop, 1) := dch_dL_law_960.1
theorem dL_law_961 : decode cL_law 961 = .ok (.goto 540, 3) := dch_dL_law_960.2.1
theorem dL_law_964 : decode cL_law 964 = .ok (.aload_n 1, 1) := dch_dL_law_960.2.2.1
theorem dL_law_965 : decode cL_law 965 = .ok (.aload_n 0, 1) := dch_dL_law_960.2.2.2.1
theorem dL_law_966 : decode cL_law 966 = .ok (.iload_n 3, 1) := dch_dL_law_960.2.2.2.2.1
theorem dL_law_967 : decode cL_law 967 = .ok (.iconst 1, 1) := dch_dL_law_960.2.2.2.2.2.1
theorem dL_law_968 : decode cL_law 968 = .ok (.iadd, 1) := dch_dL_law_960.2.2.2.2.2.2.1
theorem dL_law_969 : decode cL_law 969 = .ok (.iaload, 1) := dch_dL_law_960.2.2.2.2.2.2.2.1
theorem dL_law_970 : decode cL_law 970 = .ok (.invokevirtual 89, 3) := dch_dL_law_960.2.2.2.2.2.2.2.2.1
theorem dL_law_973 : decode cL_law 973 = .ok (.pop, 1) := dch_dL_law_960.2.2.2.2.2.2.2.2.2.1
theorem dL_law_974 : decode cL_law 974 = .ok (.aload_n 2, 1) := dch_dL_law_960.2.2.2.2.2.2.2.2.2.2.1
theorem dL_law_975 : decode cL_law 975 = .ok (.aload_n 0, 1) := dch_dL_law_960.2.2.2.2.2.2.2.2.2.2.2.1
theorem dL_law_976 : decode cL_law 976 = .ok (.iload_n 3, 1) := dch_dL_law_960.2.2.2.2.2.2.2.2.2.2.2.2.1
theorem dL_law_977 : decode cL_law 977 = .ok (.iconst 1, 1) := dch_dL_law_960.2.2.2.2.2.2.2.2.2.2.2.2.2.1
theorem dL_law_978 : decode cL_law 978 = .ok (.iadd, 1) := dch_dL_law_960.2.2.2.2.2.2.2.2.2.2.2.2.2.2.1
theorem dL_law_979 : decode cL_law 979 = .ok (.iaload, 1) := dch_dL_law_960.2.2.2.2.2.2.2.2.2.2.2.2.2.2.2.1
theorem dL_law_980 : decode cL_law 980 = .ok (.invokevirtual 92, 3) := dch_dL_law_960.2.2.2.2.2.2.2.2.2.2.2.2.2.2.2.2.1
theorem dL_law_983 : decode cL_law 983 = .ok (.pop, 1) := dch_dL_law_960.2.2.2.2.2.2.2.2.2.2.2.2.2.2.2.2.2.1
theorem dL_law_984 : decode cL_law 984 = .ok (.goto 517, 3) := dch_dL_law_960.2.2.2.2.2.2.2.2.2.2.2.2.2.2.2.2.2.2.1
theorem dL_law_987 : decode cL_law 987 = .ok (.aload_n 1, 1) := dch_dL_law_960.2.2.2.2.2.2.2.2.2.2.2.2.2.2.2.2.2.2.2.1
theorem dL_law_988 : decode cL_law 988 = .ok (.aload_n 0, 1) := dch_dL_law_960.2.2.2.2.2.2.2.2.2.2.2.2.2.2.2.2.2.2.2.2.1
theorem dL_law_989 : decode cL_law 989 = .ok (.iload_n 3, 1) := dch_dL_law_960.2.2.2.2.2.2.2.2.2.2.2.2.2.2.2.2.2.2.2.2.2.1
theorem dL_law_990 : decode cL_law 990 = .ok (.iconst 1, 1) := dch_dL_law_960.2.2.2.2.2.2.2.2.2.2.2.2.2.2.2.2.2.2.2.2.2.2.1
theorem dL_law_991 : decode cL_law 991 = .ok (.iadd, 1) := dch_dL_law_960.2.2.2.2.2.2.2.2.2.2.2.2.2.2.2.2.2.2.2.2.2.2.2
theorem dch_dL_law_992 : decode cL_law 992 = .ok (.iaload, 1) ∧ decode cL_law 993 = .ok (.invokevirtual 93, 3) ∧ decode cL_law 996 = .ok (.pop, 1) ∧ decode cL_law 997 = .ok (.aload_n 2, 1) ∧ decode cL_law 998 = .ok (.aload_n 0, 1) ∧ decode cL_law 999 = .ok (.iload_n 3, 1) ∧ decode cL_law 1000 = .ok (.iconst 1, 1) ∧ decode cL_law 1001 = .ok (.iadd, 1) ∧ decode cL_law 1002 = .ok (.iaload, 1) ∧ decode cL_law 1003 = .ok (.invokevirtual 96, 3) ∧ decode cL_law 1006 = .ok (.pop, 1) ∧ decode cL_law 1007 = .ok (.goto 494, 3) ∧ decode cL_law 1010 = .ok (.aload_n 1, 1) ∧ decode cL_law 1011 = .ok (.aload_n 0, 1) ∧ decode cL_law 1012 = .ok (.iload_n 3, 1) ∧ decode cL_law 1013 = .ok (.iconst 1, 1) ∧ decode cL_law 1014 = .ok (.iadd, 1) ∧ decode cL_law 1015 = .ok (.iaload, 1) ∧ decode cL_law 1016 = .ok (.invokevirtual 97, 3) ∧ decode cL_law 1019 = .ok (.pop, 1) ∧ decode cL_law 1020 = .ok (.aload_n 2, 1) ∧ decode cL_law 1021 = .ok (.aload_n 0, 1) ∧ decode cL_law 1022 = .ok (.iload_n 3, 1) ∧ decode cL_law 1023 = .ok (.iconst 1, 1) := by decide +kernel
theorem dL_law_992 : decode cL_law 992 = .ok (.iaload, 1) := dch_dL_law_992.1
theorem dL_law_993 : decode cL_law 993 = .ok (.invokevirtual 93, 3) := dch_dL_law_992.2.1
theorem dL_law_996 : decode cL_law 996 = .ok (.pop, 1) := dch_dL_law_992.2.2.1
theorem dL_law_997 : decode cL_law 997 = .ok (.aload_n 2, 1) := dch_dL_law_992.2.2.2.1
theorem dL_law_998 : decode cL_law 998 = .ok (.aload_n 0, 1) := dch_dL_law_992.2.2.2.2.1
theorem dL_law_999 : decode cL_law 999 = .ok (.iload_n 3, 1) := dch_dL_law_992.2.2.2.2.2.1
theorem dL_law_1000 : decode cL_law 1000 = .ok (.iconst 1, 1) := dch_dL_law_992.2.2.2.2.2.2.1
theorem dL_law_1001 : decode cL_law 1001 = .ok (.iadd, 1) := dch_dL_law_992.2.2.2.2.2.2.2.1
theorem dL_law_1002 : decode cL_law 1002 = .ok (.iaload, 1) := dch_dL_law_992.2.2.2.2.2.2.2.2.1
theorem dL_law_1003 : decode cL_law 1003 = .ok (.invokevirtual 96, 3) := dch_dL_law_992.2.2.2.2.2.2.2.2.2.1
theorem dL_law_1006 : decode cL_law 1006 = .ok (.pop, 1) := dch_dL_law_992.2.2.2.2.2.2.2.2.2.2.1
theorem dL_law_1007 : decode cL_law 1007 = .ok (.goto 494, 3) := dch_dL_law_992.2.2.2.2.2.2.2.2.2.2.2.1
theorem dL_law_1010 : decode cL_law 1010 = .ok (.aload_n 1, 1) := dch_dL_law_992.2.2.2.2.2.2.2.2.2.2.2.2.1
theorem dL_law_1011 : decode cL_law 1011 = .ok (.aload_n 0, 1) := dch_dL_law_992.2.2.2.2.2.2.2.2.2.2.2.2.2.1
theorem dL_law_1012 : decode cL_law 1012 = .ok (.iload_n 3, 1) := dch_dL_law_992.2.2.2.2.2.2.2.2.2.2.2.2.2.2.1
theorem dL_law_1013 : decode cL_law 1013 = .ok (.iconst 1, 1) := dch_dL_law_992.2.2.2.2.2.2.2.2.2.2.2.2.2.2.2.1
theorem dL_law_1014 : decode cL_law 1014 = .ok (.iadd, 1) := dch_dL_law_992.2.2.2.2.2.2.2.2.2.2.2.2.2.2.2.2.1
theorem dL_law_1015 : decode cL_law 1015 = .ok (.iaload, 1) := dch_dL_law_992.2.2.2.2.2.2.2.2.2.2.2.2.2.2.2.2.2.1
theorem dL_law_1016 : decode cL_law 1016 = .ok (.invokevirtual 97, 3) := dch_dL_law_992.2.2.2.2.2.2.2.2.2.2.2.2.2.2.2.2.2.2.1
theorem dL_law_1019 : decode cL_law 1019 = .ok (.pop, 1) := dch_dL_law_992.2.2.2.2.2.2.2.2.2.2.2.2.2.2.2.2.2.2.2.1
theorem dL_law_1020 : decode cL_law 1020 = .ok (.aload_n 2, 1) := dch_dL_law_992.2.2.2.2.2.2.2.2.2.2.2.2.2.2.2.2.2.2.2.2.1
theorem dL_law_1021 : decode cL_law 1021 = .ok (.aload_n 0, 1) := dch_dL_law_992.2.2.2.2.2.2.2.2.2.2.2.2.2.2.2.2.2.2.2.2.2.1
theorem dL_law_1022 : decode cL_law 1022 = .ok (.iload_n 3, 1) := dch_dL_law_992.2.2.2.2.2.2.2.2.2.2.2.2.2.2.2.2.2.2.2.2.2.2.1
theorem dL_law_1023 : decode cL_law 1023 = .ok (.iconst 1, 1) := dch_dL_law_992.2.2.2.2.2.2.2.2.2.2.2.2.2.2.2.2.2.2.2.2.2.2.2
theorem dch_dL_law_1024 : decode cL_law 1024 = .ok (.iadd, 1) ∧ decode cL_law 1025 = .ok (.iaload, 1) ∧ decode cL_law 1026 = .ok (.invokevirtual 100, 3) ∧ decode cL_law 1029 = .ok (.pop, 1) ∧ decode cL_law 1030 = .ok (.goto 471, 3) ∧ decode cL_law 1033 = .ok (.aload_n 1, 1) ∧ decode cL_law 1034 = .ok (.aload_n 0, 1) ∧ decode cL_law 1035 = .ok (.iload_n 3, 1) ∧ decode cL_law 1036 = .ok (.iconst 1, 1) ∧ decode cL_law 1037 = .ok (.iadd, 1) ∧ decode cL_law 1038 = .ok (.iaload, 1) ∧ decode cL_law 1039 = .ok (.aload_n 0, 1) ∧ decode cL_law 1040 = .ok (.iload_n 3, 1) ∧ decode cL_law 1041 = .ok (.iconst 2, 1) ∧ decode cL_law 1042 = .ok (.iadd, 1) ∧ decode cL_law 1043 = .ok (.iaload, 1) ∧ decode cL_law 1044 = .ok (.invokevirtual 101, 3) ∧ decode cL_law 1047 = .ok (.pop, 1) ∧ decode cL_law 1048 = .ok (.aload_n 2, 1) ∧ decode cL_law 1049 = .ok (.aload_n 0, 1) ∧ decode cL_law 1050 = .ok (.iload_n 3, 1) ∧ decode cL_law 1051 = .ok (.iconst 1, 1) ∧ decode cL_law 1052 = .ok (.iadd, 1) ∧ decode cL_law 1053 = .ok (.iaload, 1) := by decide +kernel
theorem dL_law_1024 : decode cL_law 1024 = .ok (.iadd, 1) := dch_dL_law_1024.1
theorem dL_law_1025 : decode cL_law 1025 = .ok (.iaload, 1) := dch_dL_law_1024.2.1
theorem dL_law_1026 : decode cL_law 1026 = .ok (.invokevirtual 100, 3) := dch_dL_law_1024.2.2.1
theorem dL_law_1029 : decode cL_law 1029 = .ok (.pop, 1) := dch_dL_law_1024.2.2.2.1
theorem dL_law_1030 : decode cL_law 1030 = .ok (.goto 471, 3) := dch_dL_law_1024.2.2.2.2.1
theorem dL_law_1033 : decode cL_law 1033 = .ok (.aload_n 1, 1) := dch_dL_law_1024.2.2.2.2.2.1
theorem dL_law_1034 : decode cL_law 1034 = .ok (.aload_n 0, 1) := dch_dL_law_1024.2.2.2.2.2.2.1
theorem dL_law_1035 : decode cL_law 1035 = .ok (.iload_n 3, 1) := dch_dL_law_1024.2.2.2.2.2.2.2.1
theorem dL_law_1036 : decode cL_law 1036 = .ok (.iconst 1, 1) := dch_dL_law_1024.2.2.2.2.2.2.2.2.1
theorem dL_law_1037 : decode cL_law 1037 = .ok (.iadd, 1) := dch_dL_law_1024.2.2.2.2.2.2.2.2.2.1
theorem dL_law_1038 : decode cL_law 1038 = .ok (.iaload, 1) := dch_dL_law_1024.2.2.2.2.2.2.2.2.2.2.1
theorem dL_law_1039 : decode cL_law 1039 = .ok (.aload_n 0, 1) := dch_dL_law_1024.2.2.2.2.2.2.2.2.2.2.2.1
theorem dL_law_1040 : decode cL_law 1040 = .ok (.iload_n 3, 1) := dch_dL_law_1024.2.2.2.2.2.2.2.2.2.2.2.2.1
theorem dL_law_1041 : decode cL_law 1041 = .ok (.iconst 2, 1) := dch_dL_law_1024.2.2.2.2.2.2.2.2.2.2.2.2.2.1
theorem dL_law_1042 : decode cL_law 1042 = .ok (.iadd, 1) := dch_dL_law_1024.2.2.2.2.2.2.2.2.2.2.2.2.2.2.1
theorem dL_law_1043 : decode cL_law 1043 = .ok (.iaload, 1) := dch_dL_law_1024.2.2.2.2.2.2.2.2.2.2.2.2.2.2.2.1
theorem dL_law_1044 : decode cL_law 1044 = .ok (.invokevirtual 101, 3) := dch_dL_law_1024.2.2.2.2.2.2.2.2.2.2.2.2.2.2.2.2.1
theorem dL_law_1047 : decode cL_law 1047 = .ok (.pop, 1) := dch_dL_law_1024.2.2.2.2.2.2.2.2.2.2.2.2.2.2.2.2.2.1
theorem dL_law_1048 : decode cL_law 1048 = .ok (.aload_n 2, 1) := dch_dL_law_1024.2.2.2.2.2.2.2.2.2.2.2.2.2.2.2.2.2.2.1
theorem dL_law_1049 : decode cL_law 1049 = .ok (.aload_n 0, 1) := dch_dL_law_1024.2.2.2.2.2.2.2.2.2.2.2.2.2.2.2.2.2.2.2.1
theorem dL_law_1050 : decode cL_law 1050 = .ok (.iload_n 3, 1) := dch_dL_law_1024.2.2.2.2.2.2.2.2.2.2.2.2.2.2.2.2.2.2.2.2.1
theorem dL_law_1051 : decode cL_law 1051 = .ok (.iconst 1, 1) := dch_dL_law_1024.2.2.2.2.2.2.2.2.2.2.2.2.2.2.2.2.2.2.2.2.2.1
theorem dL_law_1052 : decode cL_law 1052 = .ok (.iadd, 1) := dch_dL_law_1024.2.2.2.2.2.2.2.2.2.2.2.2.2.2.2.2.2.2.2.2.2.2.1
theorem dL_law_1053 : decode cL_law 1053 = .ok (.iaload, 1) := dch_dL_law_1024.2.2.2.2.2.2.2.2.2.2.2.2.2.2.2.2.2.2.2.2.2.2.2
theorem dch_dL_law_1054 : decode cL_law 1054 = .ok (.aload_n 0, 1) ∧ decode cL_law 1055 = .ok (.iload_n 3, 1) ∧ decode cL_law 1056 = .ok (.iconst 2, 1) ∧ decode cL_law 1057 = .ok (.iadd, 1) ∧ decode cL_law 1058 = .ok (.iaload, 1) ∧ decode cL_law 1059 = .ok (.invokevirtual 104, 3) ∧ decode cL_law 1062 = .ok (.pop, 1) ∧ decode cL_law 1063 = .ok (.goto 438, 3) ∧ decode cL_law 1066 = .ok (.aload_n 1, 1) ∧ decode cL_law 1067 = .ok (.aload_n 0, 1) ∧ decode cL_law 1068 = .ok (.iload_n 3, 1) ∧ decode cL_law 1069 = .ok (.iconst 1, 1) ∧ decode cL_law 1070 = .ok (.iadd, 1) ∧ decode cL_law 1071 = .ok (.iaload, 1) ∧ decode cL_law 1072 = .ok (.invokevirtual 105, 3) ∧ decode cL_law 1075 = .ok (.pop, 1) ∧ decode cL_law 1076 = .ok (.aload_n 2, 1) ∧ decode cL_law 1077 = .ok (.aload_n 0, 1) ∧ decode cL_law 1078 = .ok (.iload_n 3, 1) ∧ decode cL_law 1079 = .ok (.iconst 1, 1) ∧ decode cL_law 1080 = .ok (.iadd, 1) ∧ decode cL_law 1081 = .ok (.iaload, 1) ∧ decode cL_law 1082 = .ok (.invokevirtual 108, 3) ∧ decode cL_law 1085 = .ok (.pop, 1) := by decide +kernel
theorem dL_law_1054 : decode cL_law 1054 = .ok (.aload_n 0, 1) := dch_dL_law_1054.1
theorem dL_law_1055 : decode cL_law 1055 = .ok (.iload_n 3, 1) := dch_dL_law_1054.2.1
theorem dL_law_1056 : decode cL_law 1056 = .ok (.iconst 2, 1) := dch_dL_law_1054.2.2.1
theorem dL_law_1057 : decode cL_law 1057 = .ok (.iadd, 1) := dch_dL_law_1054.2.2.2.1
theorem dL_law_1058 : decode cL_law 1058 = .ok (.iaload, 1) := dch_dL_law_1054.2.2.2.2.1
theorem dL_law_1059 : decode cL_law 1059 = .ok (.invokevirtual 104, 3) := dch_dL_law_1054.2.2.2.2.2.1
theorem dL_law_1062 : decode cL_law 1062 = .ok (.pop, 1) := dch_dL_law_1054.2.2.2.2.2.2.1
theorem dL_law_1063 : decode cL_law 1063 = .ok (.goto 438, 3) := dch_dL_law_1054.2.2.2.2.2.2.2.1
theorem dL_law_1066 : decode cL_law 1066 = .ok (.aload_n 1, 1) := dch_dL_law_1054.2.2.2.2.2.2.2.2.1
theorem dL_law_1067 : decode cL_law 1067 = .ok (.aload_n 0, 1) := dch_dL_law_1054.2.2.2.2.2.2.2.2.2.1
theorem dL_law_1068 : decode cL_law 1068 = .ok (.iload_n 3, 1) := dch_dL_law_1054.2.2.2.2.2.2.2.2.2.2.1
theorem dL_law_1069 : decode cL_law 1069 = .ok (.iconst 1, 1) := dch_dL_law_1054.2.2.2.2.2.2.2.2.2.2.2.1
theorem dL_law_1070 : decode cL_law 1070 = .ok (.iadd, 1) := dch_dL_law_1054.2.2.2.2.2.2.2.2.2.2.2.2.1
theorem dL_law_1071 : decode cL_law 1071 = .ok (.iaload, 1) := dch_dL_law_1054.2.2.2.2.2.2.2.2.2.2.2.2.2.1
theorem dL_law_1072 : decode cL_law 1072 = .ok (.invokevirtual 105, 3) := dch_dL_law_1054.2.2.2.2.2.2.2.2.2.2.2.2.2.2.1
theorem dL_law_1075 : decode cL_law 1075 = .ok (.pop, 1) := dch_dL_law_1054.2.2.2.2.2.2.2.2.2.2.2.2.2.2.2.1
theorem dL_law_1076 : decode cL_law 1076 = .ok (.aload_n 2, 1) := dch_dL_law_1054.2.2.2.2.2.2.2.2.2.2.2.2.2.2.2.2.1
theorem dL_law_1077 : decode cL_law 1077 = .ok (.aload_n 0, 1) := dch_dL_law_1054.2.2.2.2.2.2.2.2.2.2.2.2.2.2.2.2.2.1
theorem dL_law_1078 : decode cL_law 1078 = .ok (.iload_n 3, 1) := dch_dL_law_1054.2.2.2.2.2.2.2.2.2.2.2.2.2.2.2.2.2.2.1
theorem dL_law_1079 : decode cL_law 1079 = .ok (.iconst 1, 1) := dch_dL_law_1054.2.2.2.2.2.2.2.2.2.2.2.2.2.2.2.2.2.2.2.1
theorem dL_law_1080 : decode cL_law 1080 = .ok (.iadd, 1) := dch_dL_law_1054.2.2.2.2.2.2.2.2.2.2.2.2.2.2.2.2.2.2.2.2.1
theorem dL_law_1081 : decode cL_law 1081 = .ok (.iaload, 1) := dch_dL_law_1054.2.2.2.2.2.2.2.2.2.2.2.2.2.2.2.2.2.2.2.2.2.1
theorem dL_law_1082 : decode cL_law 1082 = .ok (.invokevirtual 108, 3) := dch_dL_law_1054.2.2.2.2.2.2.2.2.2.2.2.2.2.2.2.2.2.2.2.2.2.2.1
theorem dL_law_1085 : decode cL_law 1085 = .ok (.pop, 1) := dch_dL_law_1054.2.2.2.2.2.2.2.2.2.2.2.2.2.2.2.2.2.2.2.2.2.2.2
theorem dch_dL_law_1086 : decode cL_law 1086 = .ok (.goto 415, 3) ∧ decode cL_law 1089 = .ok (.aload_n 1, 1) ∧ decode cL_law 1090 = .ok (.invokevirtual 109, 3) ∧ decode cL_law 1093 = .ok (.pop, 1) ∧ decode cL_law 1094 = .ok (.aload_n 2, 1) ∧ decode cL_law 1095 = .ok (.invokevirtual 112, 3) ∧ decode cL_law 1098 = .ok (.pop, 1) ∧ decode cL_law 1099 = .ok (.goto 402, 3) ∧ decode cL_law 1102 = .ok (.aload_n 1, 1) ∧ decode cL_law 1103 = .ok (.aload_n 0, 1) ∧ decode cL_law 1104 = .ok (.iload_n 3, 1) ∧ decode cL_law 1105 = .ok (.iconst 1, 1) ∧ decode cL_law 1106 = .ok (.iadd, 1) ∧ decode cL_law 1107 = .ok (.iaload, 1) ∧ decode cL_law 1108 = .ok (.aload_n 0, 1) ∧ decode cL_law 1109 = .ok (.iload_n 3, 1) ∧ decode cL_law 1110 = .ok (.iconst 2, 1) ∧ decode cL_law 1111 = .ok (.iadd, 1) ∧ decode cL_law 1112 = .ok (.iaload, 1) ∧ decode cL_law 1113 = .ok (.aload_n 0, 1) ∧ decode cL_law 1114 = .ok (.iload_n 3, 1) ∧ decode cL_law 1115 = .ok (.iconst 3, 1) ∧ decode cL_law 1116 = .ok (.iadd, 1) ∧ decode cL_law 1117 = .ok (.iaload, 1) := by decide +kernel
theorem dL_law_1086 : decode cL_law 1086 = .ok (.goto 415, 3) := dch_dL_law_1086.1
theorem dL_law_1089 : decode cL_law 1089 = .ok (.aload_n 1, 1) := dch_dL_law_1086.2.1
theorem dL_law_1090 : decode cL_law 1090 = .ok (.invokevirtual 109, 3) := dch_dL_law_1086.2.2.1
theorem dL_law_1093 : decode cL_law 1093 = .ok (.pop, 1) := dch_dL_law_1086.2.2.2.1
theorem dL_law_1094 : decode cL_law 1094 = .ok (.aload_n 2, 1) := dch_dL_law_1086.2.2.2.2.1
theorem dL_law_1095 : decode cL_law 1095 = .ok (.invokevirtual 112, 3) := dch_dL_law_1086.2.2.2.2.2.1
theorem dL_law_1098 : decode cL_law 1098 = .ok (.pop, 1) := dch_dL_law_1086.2.2.2.2.2.2.1
theorem dL_law_1099 : decode cL_law 1099 = .ok (.goto 402, 3) := dch_dL_law_1086.2.2.2.2.2.2.2.1
theorem dL_law_1102 : decode cL_law 1102 = .ok (.aload_n 1, 1) := dch_dL_law_1086.2.2.2.2.2.2.2.2.1
theorem dL_law_1103 : decode cL_law 1103 = .ok (.aload_n 0, 1) := dch_dL_law_1086.2.2.2.2.2.2.2.2.2.1
theorem dL_law_1104 : decode cL_law 1104 = .ok (.iload_n 3, 1) := dch_dL_law_1086.2.2.2.2.2.2.2.2.2.2.1
theorem dL_law_1105 : decode cL_law 1105 = .ok (.iconst 1, 1) := dch_dL_law_1086.2.2.2.2.2.2.2.2.2.2.2.1
theorem dL_law_1106 : decode cL_law 1106 = .ok (.iadd, 1) := dch_dL_law_1086.2.2.2.2.2.2.2.2.2.2.2.2.1
theorem dL_law_1107 : decode cL_law 1107 = .ok (.iaload, 1) := dch_dL_law_1086.2.2.2.2.2.2.2.2.2.2.2.2.2.1
theorem dL_law_1108 : decode cL_law 1108 = .ok (.aload_n 0, 1) := dch_dL_law_1086.2.2.2.2.2.2.2.2.2.2.2.2.2.2.1
theorem dL_law_1109 : decode cL_law 1109 = .ok (.iload_n 3, 1) := dch_dL_law_1086.2.2.2.2.2.2.2.2.2.2.2.2.2.2.2.1
theorem dL_law_1110 : decode cL_law 1110 = .ok (.iconst 2, 1) := dch_dL_law_1086.2.2.2.2.2.2.2.2.2.2.2.2.2.2.2.2.1
theorem dL_law_1111 : decode cL_law 1111 = .ok (.iadd, 1) := dch_dL_law_1086.2.2.2.2.2.2.2.2.2.2.2.2.2.2.2.2.2.1
theorem dL_law_1112 : decode cL_law 1112 = .ok (.iaload, 1) := dch_dL_law_1086.2.2.2.2.2.2.2.2.2.2.2.2.2.2.2.2.2.2.1
theorem dL_law_1113 : decode cL_law 1113 = .ok (.aload_n 0, 1) := dch_dL_law_1086.2.2.2.2.2.2.2.2.2.2.2.2.2.2.2.2.2.2.2.1
theorem dL_law_1114 : decode cL_law 1114 = .ok (.iload_n 3, 1) := dch_dL_law_1086.2.2.2.2.2.2.2.2.2.2.2.2.2.2.2.2.2.2.2.2.1
theorem dL_law_1115 : decode cL_law 1115 = .ok (.iconst 3, 1) := dch_dL_law_1086.2.2.2.2.2.2.2.2.2.2.2.2.2.2.2.2.2.2.2.2.2.1
theorem dL_law_1116 : decode cL_law 1116 = .ok (.iadd, 1) := dch_dL_law_1086.2.2.2.2.2.2.2.2.2.2.2.2.2.2.2.2.2.2.2.2.2.2.1
theorem dL_law_1117 : decode cL_law 1117 = .ok (.iaload, 1) := dch_dL_law_1086.2.2.2.2.2.2.2.2.2.2.2.2.2.2.2.2.2.2.2.2.2.2.2
theorem dch_dL_law_1118 : decode cL_law 1118 = .ok (.invokevirtual 113, 3) ∧ decode cL_law 1121 = .ok (.pop, 1) ∧ decode cL_law 1122 = .ok (.aload_n 2, 1) ∧ decode cL_law 1123 = .ok (.aload_n 0, 1) ∧ decode cL_law 1124 = .ok (.iload_n 3, 1) ∧ decode cL_law 1125 = .ok (.iconst 1, 1) ∧ decode cL_law 1126 = .ok (.iadd, 1) ∧ decode cL_law 1127 = .ok (.iaload, 1) ∧ decode cL_law 1128 = .ok (.aload_n 0, 1) ∧ decode cL_law 1129 = .ok (.iload_n 3, 1) ∧ decode cL_law 1130 = .ok (.iconst 2, 1) ∧ decode cL_law 1131 = .ok (.iadd, 1) ∧ decode cL_law 1132 = .ok (.iaload, 1) ∧ decode cL_law 1133 = .ok (.aload_n 0, 1) ∧ decode cL_law 1134 = .ok (.iload_n 3, 1) ∧ decode cL_law 1135 = .ok (.iconst 3, 1) ∧ decode cL_law 1136 = .ok (.iadd, 1) ∧ decode cL_law 1137 = .ok (.iaload, 1) ∧ decode cL_law 1138 = .ok (.invokevirtual 116, 3) ∧ decode cL_law 1141 = .ok (.pop, 1) ∧ decode cL_law 1142 = .ok (.goto 359, 3) ∧ decode cL_law 1145 = .ok (.aload_n 1, 1) ∧ decode cL_law 1146 = .ok (.invokevirtual 117, 3) ∧ decode cL_law 1149 = .ok (.pop, 1) := by decide +kernel
theorem dL_law_1118 : decode cL_law 1118 = .ok (.invokevirtual 113, 3) := dch_dL_law_1118.1
theorem dL_law_1121 : decode cL_law 1121 = .ok (.pop, 1) := dch_dL_law_1118.2.1
theorem dL_law_1122 : decode cL_law 1122 = .ok (.aload_n 2, 1) := dch_dL_law_1118.2.2.1
theorem dL_law_1123 : decode cL_law 1123 = .ok (.aload_n 0, 1) := dch_dL_law_1118.2.2.2.1
theorem dL_law_1124 : decode cL_law 1124 = .ok (.iload_n 3, 1) := dch_dL_law_1118.2.2.2.2.1
theorem dL_law_1125 : decode cL_law 1125 = .ok (.iconst 1, 1) := dch_dL_law_1118.2.2.2.2.2.1
theorem dL_law_1126 : decode cL_law 1126 = .ok (.iadd, 1) := dch_dL_law_1118.2.2.2.2.2.2.1
theorem dL_law_1127 : decode cL_law 1127 = .ok (.iaload, 1) := dch_dL_law_1118.2.2.2.2.2.2.2.1
theorem dL_law_1128 : decode cL_law 1128 = .ok (.aload_n 0, 1) := dch_dL_law_1118.2.2.2.2.2.2.2.2.1
theorem dL_law_1129 : decode cL_law 1129 = .ok (.iload_n 3, 1) := dch_dL_law_1118.2.2.2.2.2.2.2.2.2.1
theorem dL_law_1130 : decode cL_law 1130 = .ok (.iconst 2, 1) := dch_dL_law_1118.2.2.2.2.2.2.2.2.2.2.1
theorem dL_law_1131 : decode cL_law 1131 = .ok (.iadd, 1) := dch_dL_law_1118.2.2.2.2.2.2.2.2.2.2.2.1
theorem dL_law_1132 : decode cL_law 1132 = .ok (.iaload, 1) := dch_dL_law_1118.2.2.2.2.2.2.2.2.2.2.2.2.1
theorem dL_law_1133 : decode cL_law 1133 = .ok (.aload_n 0, 1) := dch_dL_law_1118.2.2.2.2.2.2.2.2.2.2.2.2.2.1
theorem dL_law_1134 : decode cL_law 1134 = .ok (.iload_n 3, 1) := dch_dL_law_1118.2.2.2.2.2.2.2.2.2.2.2.2.2.2.1
theorem dL_law_1135 : decode cL_law 1135 = .ok (.iconst 3, 1) := dch_dL_law_1118.2.2.2.2.2.2.2.2.2.2.2.2.2.2.2.1
theorem dL_law_1136 : decode cL_law 1136 = .ok (.iadd, 1) := dch_dL_law_1118.2.2.2.2.2.2.2.2.2.2.2.2.2.2.2.2.1
theorem dL_law_1137 : decode cL_law 1137 = .ok (.iaload, 1) := dch_dL_law_1118.2.2.2.2.2.2.2.2.2.2.2.2.2.2.2.2.2.1
theorem dL_law_1138 : decode cL_law 1138 = .ok (.invokevirtual 116, 3) := dch_dL_law_1118.2.2.2.2.2.2.2.2.2.2.2.2.2.2.2.2.2.2.1
theorem dL_law_1141 : decode cL_law 1141 = .ok (.pop, 1) := dch_dL_law_1118.2.2.2.2.2.2.2.2.2.2.2.2.2.2.2.2.2.2.2.1
theorem dL_law_1142 : decode cL_law 1142 = .ok (.goto 359, 3) := dch_dL_law_1118.2.2.2.2.2.2.2.2.2.2.2.2.2.2.2.2.2.2.2.2.1
theorem dL_law_1145 : decode cL_law 1145 = .ok (.aload_n 1, 1) := dch_dL_law_1118.2.2.2.2.2.2.2.2.2.2.2.2.2.2.2.2.2.2.2.2.2.1
theorem dL_law_1146 : decode cL_law 1146 = .ok (.invokevirtual 117, 3) := dch_dL_law_1118.2.2.2.2.2.2.2.2.2.2.2.2.2.2.2.2.2.2.2.2.2.2.1
theorem dL_law_1149 : decode cL_law 1149 = .ok (.pop, 1) := dch_dL_law_1118.2.2.2.2.2.2.2.2.2.2.2.2.2.2.2.2.2.2.2.2.2.2.2
theorem dch_dL_law_1150 : decode cL_law 1150 = .ok (.aload_n 2, 1) ∧ decode cL_law 1151 = .ok (.invokevirtual 120, 3) ∧ decode cL_law 1154 = .ok (.pop, 1) ∧ decode cL_law 1155 = .ok (.goto 346, 3) ∧ decode cL_law 1158 = .ok (.aload_n 1, 1) ∧ decode cL_law 1159 = .ok (.aload_n 0, 1) ∧ decode cL_law 1160 = .ok (.iload_n 3, 1) ∧ decode cL_law 1161 = .ok (.iconst 1, 1) ∧ decode cL_law 1162 = .ok (.iadd, 1) ∧ decode cL_law 1163 = .ok (.iaload, 1) ∧ decode cL_law 1164 = .ok (.invokevirtual 121, 3) ∧ decode cL_law 1167 = .ok (.pop, 1) ∧ decode cL_law 1168 = .ok (.aload_n 2, 1) ∧ decode cL_law 1169 = .ok (.aload_n 0, 1) ∧ decode cL_law 1170 = .ok (.iload_n 3, 1) ∧ decode cL_law 1171 = .ok (.iconst 1, 1) ∧ decode cL_law 1172 = .ok (.iadd, 1) ∧ decode cL_law 1173 = .ok (.iaload, 1) ∧ decode cL_law 1174 = .ok (.invokevirtual 124, 3) ∧ decode cL_law 1177 = .ok (.pop, 1) ∧ decode cL_law 1178 = .ok (.goto 323, 3) ∧ decode cL_law 1181 = .ok (.aload_n 1, 1) ∧ decode cL_law 1182 = .ok (.aload_n 0, 1) ∧ decode cL_law 1183 = .ok (.iload_n 3, 1) := by decide +kernel
theorem dL_law_1150 : decode cL_law 1150 = .ok (.aload_n 2, 1) := dch_dL_law_1150.1
theorem dL_law_1151 : decode cL_law 1151 = .ok (.invokevirtual 120, 3) := dch_dL_law_1150.2.1
theorem dL_law_1154 : decode cL_law 1154 = .ok (.pop, 1) := dch_dL_law_1150.2.2.1
theorem dL_law_1155 : decode cL_law 1155 = .ok (.goto 346, 3) := dch_dL_law_1150.2.2.2.1
theorem dL_law_1158 : decode cL_law 1158 = .ok (.aload_n 1, 1) := dch_dL_law_1150.2.2.2.2.1
theorem dL_law_1159 : decode cL_law 1159 = .ok (.aload_n 0, 1) := dch_dL_law_1150.2.2.2.2.2.1
theorem dL_law_1160 : decode cL_law 1160 = .ok (.iload_n 3, 1) := dch_dL_law_1150.2.2.2.2.2.2.1
theorem dL_law_1161 : decode cL_law 1161 = .ok (.iconst 1, 1) := dch_dL_law_1150.2.2.2.2.2.2.2.1
theorem dL_law_1162 : decode cL_law 1162 = .ok (.iadd, 1) := dch_dL_law_1150.2.2.2.2.2.2.2.2.1
theorem dL_law_1163 : decode cL_law 1163 = .ok (.iaload, 1) := dch_dL_law_1150.2.2.2.2.2.2.2.2.2.1
theorem dL_law_1164 : decode cL_law 1164 = .ok (.invokevirtual 121, 3) := dch_dL_law_1150.2.2.2.2.2.2.2.2.2.2.1
theorem dL_law_1167 : decode cL_law 1167 = .ok (.pop, 1) := dch_dL_law_1150.2.2.2.2.2.2.2.2.2.2.2.1
theorem dL_law_1168 : decode cL_law 1168 = .ok (.aload_n 2, 1) := dch_dL_law_1150.2.2.2.2.2.2.2.2.2.2.2.2.1
theorem dL_law_1169 : decode cL_law 1169 = .ok (.aload_n 0, 1) := dch_dL_law_1150.2.2.2.2.2.2.2.2.2.2.2.2.2.1
theorem dL_law_1170 : decode cL_law 1170 = .ok (.iload_n 3, 1) := dch_dL_law_1150.2.2.2.2.2.2.2.2.2.2.2.2.2.2.1
theorem dL_law_1171 : decode cL_law 1171 = .ok (.iconst 1, 1) := dch_dL_law_1150.2.2.2.2.2.2.2.2.2.2.2.2.2.2.2.1
theorem dL_law_1172 : decode cL_law 1172 = .ok (.iadd, 1) := dch_dL_law_1150.2.2.2.2.2.2.2.2.2.2.2.2.2.2.2.2.1
theorem dL_law_1173 : decode cL_law 1173 = .ok (.iaload, 1) := dch_dL_law_1150.2.2.2.2.2.2.2.2.2.2.2.2.2.2.2.2.2.1
theorem dL_law_1174 : decode cL_law 1174 = .ok (.invokevirtual 124, 3) := dch_dL_law_1150.2.2.2.2.2.2.2.2.2.2.2.2.2.2.2.2.2.2.1
theorem dL_law_1177 : decode cL_law 1177 = .ok (.pop, 1) := dch_dL_law_1150.2.2.2.2.2.2.2.2.2.2.2.2.2.2.2.2.2.2.2.1
theorem dL_law_1178 : decode cL_law 1178 = .ok (.goto 323, 3) := dch_dL_law_1150.2.2.2.2.2.2.2.2.2.2.2.2.2.2.2.2.2.2.2.2.1
theorem dL_law_1181 : decode cL_law 1181 = .ok (.aload_n 1, 1) := dch_dL_law_1150.2.2.2.2.2.2.2.2.2.2.2.2.2.2.2.2.2.2.2.2.2.1
theorem dL_law_1182 : decode cL_law 1182 = .ok (.aload_n 0, 1) := dch_dL_law_1150.2.2.2.2.2.2.2.2.2.2.2.2.2.2.2.2.2.2.2.2.2.2.1
theorem dL_law_1183 : decode cL_law 1183 = .ok (.iload_n 3, 1) := dch_dL_law_1150.2.2.2.2.2.2.2.2.2.2.2.2.2.2.2.2.2.2.2.2.2.2.2
theorem dch_dL_law_1184 : decode cL_law 1184 = .ok (.iconst 1, 1) ∧ decode cL_law 1185 = .ok (.iadd, 1) ∧ decode cL_law 1186 = .ok (.iaload, 1) ∧ decode cL_law 1187 = .ok (.aload_n 0, 1) ∧ decode cL_law 1188 = .ok (.iload_n 3, 1) ∧ decode cL_law 1189 = .ok (.iconst 2, 1) ∧ decode cL_law 1190 = .ok (.iadd, 1) ∧ decode cL_law 1191 = .ok (.iaload, 1) ∧ decode cL_law 1192 = .ok (.aload_n 0, 1) ∧ decode cL_law 1193 = .ok (.iload_n 3, 1) ∧ decode cL_law 1194 = .ok (.iconst 3, 1) ∧ decode cL_law 1195 = .ok (.iadd, 1) ∧ decode cL_law 1196 = .ok (.iaload, 1) ∧ decode cL_law 1197 = .ok (.invokevirtual 125, 3) ∧ decode cL_law 1200 = .ok (.pop, 1) ∧ decode cL_law 1201 = .ok (.aload_n 2, 1) ∧ decode cL_law 1202 = .ok (.aload_n 0, 1) ∧ decode cL_law 1203 = .ok (.iload_n 3, 1) ∧ decode cL_law 1204 = .ok (.iconst 1, 1) ∧ decode cL_law 1205 = .ok (.iadd, 1) ∧ decode cL_law 1206 = .ok (.iaload, 1) ∧ decode cL_law 1207 = .ok (.aload_n 0, 1) ∧ decode cL_law 1208 = .ok (.iload_n 3, 1) ∧ decode cL_law 1209 = .ok (.iconst 2, 1) := by decide +kernel
theorem dL_law_1184 : decode cL_law 1184 = .ok (.iconst 1, 1) := dch_dL_law_1184.1
theorem dL_law_1185 : decode cL_law 1185 = .ok (.iadd, 1) := dch_dL_law_1184.2.1
theorem dL_law_1186 : decode cL_law 1186 = .ok (.iaload, 1) := dch_dL_law_1184.2.2.1
theorem dL_law_1187 : decode cL_law 1187 = .ok (.aload_n 0, 1) := dch_dL_law_1184.2.2.2.1
theorem dL_law_1188 : decode cL_law 1188 = .ok (.iload_n 3, 1) := dch_dL_law_1184.2.2.2.2.1
theorem dL_law_1189 : decode cL_law 1189 = .ok (.iconst 2, 1) := dch_dL_law_1184.2.2.2.2.2.1
theorem dL_law_1190 : decode cL_law 1190 = .ok (.iadd, 1) := dch_dL_law_1184.2.2.2.2.2.2.1
theorem dL_law_1191 : decode cL_law 1191 = .ok (.iaload, 1) := dch_dL_law_1184.2.2.2.2.2.2.2.1
theorem dL_law_1192 : decode cL_law 1192 = .ok (.aload_n 0, 1) := dch_dL_law_1184.2.2.2.2.2.2.2.2.1
theorem dL_law_1193 : decode cL_law 1193 = .ok (.iload_n 3, 1) := dch_dL_law_1184.2.2.2.2.2.2.2.2.2.1
theorem dL_law_1194 : decode cL_law 1194 = .ok (.iconst 3, 1) := dch_dL_law_1184.2.2.2.2.2.2.2.2.2.2.1
theorem dL_law_1195 : decode cL_law 1195 = .ok (.iadd, 1) := dch_dL_law_1184.2.2.2.2.2.2.2.2.2.2.2.1
theorem dL_law_1196 : decode cL_law 1196 = .ok (.iaload, 1) := dch_dL_law_1184.2.2.2.2.2.2.2.2.2.2.2.2.1
theorem dL_law_1197 : decode cL_law 1197 = .ok (.invokevirtual 125, 3) := dch_dL_law_1184.2.2.2.2.2.2.2.2.2.2.2.2.2.1
theorem dL_law_1200 : decode cL_law 1200 = .ok (.pop, 1) := dch_dL_law_1184.2.2.2.2.2.2.2.2.2.2.2.2.2.2.1
theorem dL_law_1201 : decode cL_law 1201 = .ok (.aload_n 2, 1) := dch_dL_law_1184.2.2.2.2.2.2.2.2.2.2.2.2.2.2.2.1
theorem dL_law_1202 : decode cL_law 1202 = .ok (.aload_n 0, 1) := dch_dL_law_1184.2.2.2.2.2.2.2.2.2.2.2.2.2.2.2.2.1
theorem dL_law_1203 : decode cL_law 1203 = .ok (.iload_n 3, 1) := dch_dL_law_1184.2.2.2.2.2.2.2.2.2.2.2.2.2.2.2.2.2.1
theorem dL_law_1204 : decode cL_law 1204 = .ok (.iconst 1, 1) := dch_dL_law_1184.2.2.2.2.2.2.2.2.2.2.2.2.2.2.2.2.2.2.1
theorem dL_law_1205 : decode cL_law 1205 = .ok (.iadd, 1) := dch_dL_law_1184.2.2.2.2.2.2.2.2.2.2.2.2.2.2.2.2.2.2.2.1
theorem dL_law_1206 : decode cL_law 1206 = .ok (.iaload, 1) := dch_dL_law_1184.2.2.2.2.2.2.2.2.2.2.2.2.2.2.2.2.2.2.2.2.1
theorem dL_law_1207 : decode cL_law 1207 = .ok (.aload_n 0, 1) := dch_dL_law_1184.2.2.2.2.2.2.2.2.2.2.2.2.2.2.2.2.2.2.2.2.2.1
theorem dL_law_1208 : decode cL_law 1208 = .ok (.iload_n 3, 1) := dch_dL_law_1184.2.2.2.2.2.2.2.2.2.2.2.2.2.2.2.2.2.2.2.2.2.2.1
theorem dL_law_1209 : decode cL_law 1209 = .ok (.iconst 2, 1) := dch_dL_law_1184.2.2.2.2.2.2.2.2.2.2.2.2.2.2.2.2.2.2.2.2.2.2.2
theorem dch_dL_law_1210 : decode cL_law 1210 = .ok (.iadd, 1) ∧ decode cL_law 1211 = .ok (.iaload, 1) ∧ decode cL_law 1212 = .ok (.aload_n 0, 1) ∧ decode cL_law 1213 = .ok (.iload_n 3, 1) ∧ decode cL_law 1214 = .ok (.iconst 3, 1) ∧ decode cL_law 1215 = .ok (.iadd, 1) ∧ decode cL_law 1216 = .ok (.iaload, 1) ∧ decode cL_law 1217 = .ok (.invokevirtual 128, 3) ∧ decode cL_law 1220 = .ok (.pop, 1) ∧ decode cL_law 1221 = .ok (.goto 280, 3) ∧ decode cL_law 1224 = .ok (.aload_n 1, 1) ∧ decode cL_law 1225 = .ok (.aload_n 0, 1) ∧ decode cL_law 1226 = .ok (.iload_n 3, 1) ∧ decode cL_law 1227 = .ok (.iconst 1, 1) ∧ decode cL_law 1228 = .ok (.iadd, 1) ∧ decode cL_law 1229 = .ok (.iaload, 1) ∧ decode cL_law 1230 = .ok (.invokevirtual 129, 3) ∧ decode cL_law 1233 = .ok (.pop, 1) ∧ decode cL_law 1234 = .ok (.aload_n 2, 1) ∧ decode cL_law 1235 = .ok (.aload_n 0, 1) ∧ decode cL_law 1236 = .ok (.iload_n 3, 1) ∧ decode cL_law 1237 = .ok (.iconst 1, 1) ∧ decode cL_law 1238 = .ok (.iadd, 1) ∧ decode cL_law 1239 = .ok (.iaload, 1) := by decide +kernel
theorem dL_law_1210 : decode cL_law 1210 = .ok (.iadd, 1) := dch_dL_law_1210.1
theorem dL_law_1211 : decode cL_law 1211 = .ok (.iaload, 1) := dch_dL_law_1210.2.1
theorem dL_law_1212 : decode cL_law 1212 = .ok (.aload_n 0, 1) := dch_dL_law_1210.2.2.1
theorem dL_law_1213 : decode cL_law 1213 = .ok (.iload_n 3, 1) := dch_dL_law_1210.2.2.2.1
theorem dL_law_1214 : decode cL_law 1214 = .ok (.iconst 3, 1) := dch_dL_law_1210.2.2.2.2.1
theorem dL_law_1215 : decode cL_law 1215 = .ok (.iadd, 1) := dch_dL_law_1210.2.2.2.2.2.1
theorem dL_law_1216 : decode cL_law 1216 = .ok (.iaload, 1) := dch_dL_law_1210.2.2.2.2.2.2.1
theorem dL_law_1217 : decode cL_law 1217 = .ok (.invokevirtual 128, 3) := dch_dL_law_1210.2.2.2.2.2.2.2.1
theorem dL_law_1220 : decode cL_law 1220 = .ok (.pop, 1) := dch_dL_law_1210.2.2.2.2.2.2.2.2.1
theorem dL_law_1221 : decode cL_law 1221 = .ok (.goto 280, 3) := dch_dL_law_1210.2.2.2.2.2.2.2.2.2.1
theorem dL_law_1224 : decode cL_law 1224 = .ok (.aload_n 1, 1) := dch_dL_law_1210.2.2.2.2.2.2.2.2.2.2.1
theorem dL_law_1225 : decode cL_law 1225 = .ok (.aload_n 0, 1) := dch_dL_law_1210.2.2.2.2.2.2.2.2.2.2.2.1
theorem dL_law_1226 : decode cL_law 1226 = .ok (.iload_n 3, 1) := dch_dL_law_1210.2.2.2.2.2.2.2.2.2.2.2.2.1
theorem dL_law_1227 : decode cL_law 1227 = .ok (.iconst 1, 1) := dch_dL_law_1210.2.2.2.2.2.2.2.2.2.2.2.2.2.1
theorem dL_law_1228 : decode cL_law 1228 = .ok (.iadd, 1) := dch_dL_law_1210.2.2.2.2.2.2.2.2.2.2.2.2.2.2.1
theorem dL_law_1229 : decode cL_law 1229 = .ok (.iaload, 1) := dch_dL_law_1210.2.2.2.2.2.2.2.2.2.2.2.2.2.2.2.1
theorem dL_law_1230 : decode cL_law 1230 = .ok (.invokevirtual 129, 3) := dch_dL_law_1210.2.2.2.2.2.2.2.2.2.2.2.2.2.2.2.2.1
theorem dL_law_1233 : decode cL_law 1233 = .ok (.pop, 1) := dch_dL_law_1210.2.2.2.2.2.2.2.2.2.2.2.2.2.2.2.2.2.1
theorem dL_law_1234 : decode cL_law 1234 = .ok (.aload_n 2, 1) := dch_dL_law_1210.2.2.2.2.2.2.2.2.2.2.2.2.2.2.2.2.2.2.1
theorem dL_law_1235 : decode cL_law 1235 = .ok (.aload_n 0, 1) := dch_dL_law_1210.2.2.2.2.2.2.2.2.2.2.2.2.2.2.2.2.2.2.2.1
theorem dL_law_1236 : decode cL_law 1236 = .ok (.iload_n 3, 1) := dch_dL_law_1210.2.2.2.2.2.2.2.2.2.2.2.2.2.2.2.2.2.2.2.2.1
theorem dL_law_1237 : decode cL_law 1237 = .ok (.iconst 1, 1) := dch_dL_law_1210.2.2.2.2.2.2.2.2.2.2.2.2.2.2.2.2.2.2.2.2.2.1
theorem dL_law_1238 : decode cL_law 1238 = .ok (.iadd, 1) := dch_dL_law_1210.2.2.2.2.2.2.2.2.2.2.2.2.2.2.2.2.2.2.2.2.2.2.1
theorem dL_law_1239 : decode cL_law 1239 = .ok (.iaload, 1) := dch_dL_law_1210.2.2.2.2.2.2.2.2.2.2.2.2.2.2.2.2.2.2.2.2.2.2.2
theorem dch_dL_law_1240 : decode cL_law 1240 = .ok (.invokevirtual 132, 3) ∧ decode cL_law 1243 = .ok (.pop, 1) ∧ decode cL_law 1244 = .ok (.goto 257, 3) ∧ decode cL_law 1247 = .ok (.aload_n 1, 1) ∧ decode cL_law 1248 = .ok (.aload_n 0, 1) ∧ decode cL_law 1249 = .ok (.iload_n 3, 1) ∧ decode cL_law 1250 = .ok (.iconst 1, 1) ∧ decode cL_law 1251 = .ok (.iadd, 1) ∧ decode cL_law 1252 = .ok (.iaload, 1) ∧ decode cL_law 1253 = .ok (.aload_n 0, 1) ∧ decode cL_law 1254 = .ok (.iload_n 3, 1) ∧ decode cL_law 1255 = .ok (.iconst 2, 1) ∧ decode cL_law 1256 = .ok (.iadd, 1) ∧ decode cL_law 1257 = .ok (.iaload, 1) ∧ decode cL_law 1258 = .ok (.invokevirtual 133, 3) ∧ decode cL_law 1261 = .ok (.pop, 1) ∧ decode cL_law 1262 = .ok (.aload_n 2, 1) ∧ decode cL_law 1263 = .ok (.aload_n 0, 1) ∧ decode cL_law 1264 = .ok (.iload_n 3, 1) ∧ decode cL_law 1265 = .ok (.iconst 1, 1) ∧ decode cL_law 1266 = .ok (.iadd, 1) ∧ decode cL_law 1267 = .ok (.iaload, 1) ∧ decode cL_law 1268 = .ok (.aload_n 0, 1) ∧ decode cL_law 1269 = .ok (.iload_n 3, 1) := by decide +kernel
theorem dL_law_1240 : decode cL_law 1240 = .ok (.invokevirtual 132, 3) := dch_dL_law_1240.1
theorem dL_law_1243 : decode cL_law 1243 = .ok (.pop, 1) := dch_dL_law_1240.2.1
theorem dL_law_1244 : decode cL_law 1244 = .ok (.goto 257, 3) := dch_dL_law_1240.2.2.1
theorem dL_law_1247 : decode cL_law 1247 = .ok (.aload_n 1, 1) := dch_dL_law_1240.2.2.2.1
theorem dL_law_1248 : decode cL_law 1248 = .ok (.aload_n 0, 1) := dch_dL_law_1240.2.2.2.2.1
theorem dL_law_1249 : decode cL_law 1249 = .ok (.iload_n 3, 1) := dch_dL_law_1240.2.2.2.2.2.1
theorem dL_law_1250 : decode cL_law 1250 = .ok (.iconst 1, 1) := dch_dL_law_1240.2.2.2.2.2.2.1
theorem dL_law_1251 : decode cL_law 1251 = .ok (.iadd, 1) := dch_dL_law_1240.2.2.2.2.2.2.2.1
theorem dL_law_1252 : decode cL_law 1252 = .ok (.iaload, 1) := dch_dL_law_1240.2.2.2.2.2.2.2.2.1
theorem dL_law_1253 : decode cL_law 1253 = .ok (.aload_n 0, 1) := dch_dL_law_1240.2.2.2.2.2.2.2.2.2.1
theorem dL_law_1254 : decode cL_law 1254 = .ok (.iload_n 3, 1) := dch_dL_law_1240.2.2.2.2.2.2.2.2.2.2.1
theorem dL_law_1255 : decode cL_law 1255 = .ok (.iconst 2, 1) := dch_dL_law_1240.2.2.2.2.2.2.2.2.2.2.2.1
theorem dL_law_1256 : decode cL_law 1256 = .ok (.iadd, 1) := dch_dL_law_1240.2.2.2.2.2.2.2.2.2.2.2.2.1
theorem dL_law_1257 : decode cL_law 1257 = .ok (.iaload, 1) := dch_dL_law_1240.2.2.2.2.2.2.2.2.2.2.2.2.2.1
theorem dL_law_1258 : decode cL_law 1258 = .ok (.invokevirtual 133, 3) := dch_dL_law_1240.2.2.2.2.2.2.2.2.2.2.2.2.2.2.1
theorem dL_law_1261 : decode cL_law 1261 = .ok (.pop, 1) := dch_dL_law_1240.2.2.2.2.2.2.2.2.2.2.2.2.2.2.2.1
theorem dL_law_1262 : decode cL_law 1262 = .ok (.aload_n 2, 1) := dch_dL_law_1240.2.2.2.2.2.2.2.2.2.2.2.2.2.2.2.2.1
theorem dL_law_1263 : decode cL_law 1263 = .ok (.aload_n 0, 1) := dch_dL_law_1240.2.2.2.2.2.2.2.2.2.2.2.2.2.2.2.2.2.1
theorem dL_law_1264 : decode cL_law 1264 = .ok (.iload_n 3, 1) := dch_dL_law_1240.2.2.2.2.2.2.2.2.2.2.2.2.2.2.2.2.2.2.1
theorem dL_law_1265 : decode cL_law 1265 = .ok (.iconst 1, 1) := dch_dL_law_1240.2.2.2.2.2.2.2.2.2.2.2.2.2.2.2.2.2.2.2.1
theorem dL_law_1266 : decode cL_law 1266 = .ok (.iadd, 1) := dch_dL_law_1240.2.2.2.2.2.2.2.2.2.2.2.2.2.2.2.2.2.2.2.2.1
theorem dL_law_1267 : decode cL_law 1267 = .ok (.iaload, 1) := dch_dL_law_1240.2.2.2.2.2.2.2.2.2.2.2.2.2.2.2.2.2.2.2.2.2.1
theorem dL_law_1268 : decode cL_law 1268 = .ok (.aload_n 0, 1) := dch_dL_law_1240.2.2.2.2.2.2.2.2.2.2.2.2.2.2.2.2.2.2.2.2.2.2.1
theorem dL_law_1269 : decode cL_law 1269 = .ok (.iload_n 3, 1) := dch_dL_law_1240.2.2.2.2.2.2.2.2.2.2.2.2.2.2.2.2.2.2.2.2.2.2.2
theorem dch_dL_law_1270 : decode cL_law 1270 = .ok (.iconst 2, 1) ∧ decode cL_law 1271 = .ok (.iadd, 1) ∧ decode cL_law 1272 = .ok (.iaload, 1) ∧ decode cL_law 1273 = .ok (.invokevirtual 136, 3) ∧ decode cL_law 1276 = .ok (.pop, 1) ∧ decode cL_law 1277 = .ok (.goto 224, 3) ∧ decode cL_law 1280 = .ok (.aload_n 1, 1) ∧ decode cL_law 1281 = .ok (.aload_n 0, 1) ∧ decode cL_law 1282 = .ok (.iload_n 3, 1) ∧ decode cL_law 1283 = .ok (.iconst 1, 1) ∧ decode cL_law 1284 = .ok (.iadd, 1) ∧ decode cL_law 1285 = .ok (.iaload, 1) ∧ decode cL_law 1286 = .ok (.aload_n 0, 1) ∧ decode cL_law 1287 = .ok (.iload_n 3, 1) ∧ decode cL_law 1288 = .ok (.iconst 2, 1) ∧ decode cL_law 1289 = .ok (.iadd, 1) ∧ decode cL_law 1290 = .ok (.iaload, 1) ∧ decode cL_law 1291 = .ok (.invokevirtual 137, 3) ∧ decode cL_law 1294 = .ok (.pop, 1) ∧ decode cL_law 1295 = .ok (.aload_n 2, 1) ∧ decode cL_law 1296 = .ok (.aload_n 0, 1) ∧ decode cL_law 1297 = .ok (.iload_n 3, 1) ∧ decode cL_law 1298 = .ok (.iconst 1, 1) ∧ decode cL_law 1299 = .ok (.iadd, 1) := by decide +kernel
theorem dL_law_1270 : decode cL_law 1270 = .ok (.iconst 2, 1) := dch_dL_law_1270.1
theorem dL_law_1271 : decode cL_law 1271 = .ok (.iadd, 1) := dch_dL_law_1270.2.1
theorem dL_law_1272 : decode cL_law 1272 = .ok (.iaload, 1) := dch_dL_law_1270.2.2.1
theorem dL_law_1273 : decode cL_law 1273 = .ok (.invokevirtual 136, 3) := dch_dL_law_1270.2.2.2.1
theorem dL_law_1276 : decode cL_law 1276 = .ok (.pop, 1) := dch_dL_law_1270.2.2.2.2.1
theorem dL_law_1277 : decode cL_law 1277 = .ok (.goto 224, 3) := dch_dL_law_1270.2.2.2.2.2.1
theorem dL_law_1280 : decode cL_law 1280 = .ok (.aload_n 1, 1) := dch_dL_law_1270.2.2.2.2.2.2.1
theorem dL_law_1281 : decode cL_law 1281 = .ok (.aload_n 0, 1) := dch_dL_law_1270.2.2.2.2.2.2.2.1
theorem dL_law_1282 : decode cL_law 1282 = .ok (.iload_n 3, 1) := dch_dL_law_1270.2.2.2.2.2.2.2.2.1
theorem dL_law_1283 : decode cL_law 1283 = .ok (.iconst 1, 1) := dch_dL_law_1270.2.2.2.2.2.2.2.2.2.1
theorem dL_law_1284 : decode cL_law 1284 = .ok (.iadd, 1) := dch_dL_law_1270.2.2.2.2.2.2.2.2.2.2.1
theorem dL_law_1285 : decode cL_law 1285 = .ok (.iaload, 1) := dch_dL_law_1270.2.2.2.2.2.2.2.2.2.2.2.1
theorem dL_law_1286 : decode cL_law 1286 = .ok (.aload_n 0, 1) := dch_dL_law_1270.2.2.2.2.2.2.2.2.2.2.2.2.1
theorem dL_law_1287 : decode cL_law 1287 = .ok (.iload_n 3, 1) := dch_dL_law_1270.2.2.2.2.2.2.2.2.2.2.2.2.2.1
theorem dL_law_1288 : decode cL_law 1288 = .ok (.iconst 2, 1) := dch_dL_law_1270.2.2.2.2.2.2.2.2.2.2.2.2.2.2.1
theorem dL_law_1289 : decode cL_law 1289 = .ok (.iadd, 1) := dch_dL_law_1270.2.2.2.2.2.2.2.2.2.2.2.2.2.2.2.1
theorem dL_law_1290 : decode cL_law 1290 = .ok (.iaload, 1) := dch_dL_law_1270.2.2.2.2.2.2.2.2.2.2.2.2.2.2.2.2.1
theorem dL_law_1291 : decode cL_law 1291 = .ok (.invokevirtual 137, 3) := dch_dL_law_1270.2.2.2.2.2.2.2.2.2.2.2.2.2.2.2.2.2.1
theorem dL_law_1294 : decode cL_law 1294 = .ok (.pop, 1) := dch_dL_law_1270.2.2.2.2.2.2.2.2.2.2.2.2.2.2.2.2.2.2.1
theorem dL_law_1295 : decode cL_law 1295 = .ok (.aload_n 2, 1) := dch_dL_law_1270.2.2.2.2.2.2.2.2.2.2.2.2.2.2.2.2.2.2.2.1
theorem dL_law_1296 : decode cL_law 1296 = .ok (.aload_n 0, 1) := dch_dL_law_1270.2.2.2.2.2.2.2.2.2.2.2.2.2.2.2.2.2.2.2.2.1
theorem dL_law_1297 : decode cL_law 1297 = .ok (.iload_n 3, 1) := dch_dL_law_1270.2.2.2.2.2.2.2.2.2.2.2.2.2.2.2.2.2.2.2.2.2.1
theorem dL_law_1298 : decode cL_law 1298 = .ok (.iconst 1, 1) := dch_dL_law_1270.2.2.2.2.2.2.2.2.2.2.2.2.2.2.2.2.2.2.2.2.2.2.1
theorem dL_law_1299 : decode cL_law 1299 = .ok (.iadd, 1) := dch_dL_law_1270.2.2.2.2.2.2.2.2.2.2.2.2.2.2.2.2.2.2.2.2.2.2.2
theorem dch_dL_law_1300 : decode cL_law 1300 = .ok (.iaload, 1) ∧ decode cL_law 1301 = .ok (.aload_n 0, 1) ∧ decode cL_law 1302 = .ok (.iload_n 3, 1) ∧ decode cL_law 1303 = .ok (.iconst 2, 1) ∧ decode cL_law 1304 = .ok (.iadd, 1) ∧ decode cL_law 1305 = .ok (.iaload, 1) ∧ decode cL_law 1306 = .ok (.invokevirtual 140, 3) ∧ decode cL_law 1309 = .ok (.pop, 1) ∧ decode cL_law 1310 = .ok (.goto 191, 3) ∧ decode cL_law 1313 = .ok (.aload_n 1, 1) ∧ decode cL_law 1314 = .ok (.aload_n 0, 1) ∧ decode cL_law 1315 = .ok (.iload_n 3, 1) ∧ decode cL_law 1316 = .ok (.iconst 1, 1) ∧ decode cL_law 1317 = .ok (.iadd, 1) ∧ decode cL_law 1318 = .ok (.iaload, 1) ∧ decode cL_law 1319 = .ok (.aload_n 0, 1) ∧ decode cL_law 1320 = .ok (.iload_n 3, 1) ∧ decode cL_law 1321 = .ok (.iconst 2, 1) ∧ decode cL_law 1322 = .ok (.iadd, 1) ∧ decode cL_law 1323 = .ok (.iaload, 1) ∧ decode cL_law 1324 = .ok (.aload_n 0, 1) ∧ decode cL_law 1325 = .ok (.iload_n 3, 1) ∧ decode cL_law 1326 = .ok (.iconst 3, 1) ∧ decode cL_law 1327 = .ok (.iadd, 1) := by decide +kernel
theorem dL_law_1300 : decode cL_law 1300 = .ok (.iaload, 1) := dch_dL_law_1300.1
theorem dL_law_1301 : decode cL_law 1301 = .ok (.aload_n 0, 1) := dch_dL_law_1300.2.1
theorem dL_law_1302 : decode cL_law 1302 = .ok (.iload_n 3, 1) := dch_dL_law_1300.2.2.1
theorem dL_law_1303 : decode cL_law 1303 = .ok (.iconst 2, 1) := dch_dL_law_1300.2.2.2.1
theorem dL_law_1304 : decode cL_law 1304 = .ok (.iadd, 1) := dch_dL_law_1300.2.2.2.2.1
theorem dL_law_1305 : decode cL_law 1305 = .ok (.iaload, 1) := dch_dL_law_1300.2.2.2.2.2.1
theorem dL_law_1306 : decode cL_law 1306 = .ok (.invokevirtual 140, 3) := dch_dL_law_1300.2.2.2.2.2.2.1
theorem dL_law_1309 : decode cL_law 1309 = .ok (.pop, 1) := dch_dL_law_1300.2.2.2.2.2.2.2.1
theorem dL_law_1310 : decode cL_law 1310 = .ok (.goto 191, 3) := dch_dL_law_1300.2.2.2.2.2.2.2.2.1
theorem dL_law_1313 : decode cL_law 1313 = .ok (.aload_n 1, 1) := dch_dL_law_1300.2.2.2.2.2.2.2.2.2.1
theorem dL_law_1314 : decode cL_law 1314 = .ok (.aload_n 0, 1) := dch_dL_law_1300.2.2.2.2.2.2.2.2.2.2.1
theorem dL_law_1315 : decode cL_law 1315 = .ok (.iload_n 3, 1) := dch_dL_law_1300.2.2.2.2.2.2.2.2.2.2.2.1
theorem dL_law_1316 : decode cL_law 1316 = .ok (.iconst 1, 1) := dch_dL_law_1300.2.2.2.2.2.2.2.2.2.2.2.2.1
theorem dL_law_1317 : decode cL_law 1317 = .ok (.iadd, 1) := dch_dL_law_1300.2.2.2.2.2.2.2.2.2.2.2.2.2.1
theorem dL_law_1318 : decode cL_law 1318 = .ok (.iaload, 1) := dch_dL_law_1300.2.2.2.2.2.2.2.2.2.2.2.2.2.2.1
theorem dL_law_1319 : decode cL_law 1319 = .ok (.aload_n 0, 1) := dch_dL_law_1300.2.2.2.2.2.2.2.2.2.2.2.2.2.2.2.1
theorem dL_law_1320 : decode cL_law 1320 = .ok (.iload_n 3, 1) := dch_dL_law_1300.2.2.2.2.2.2.2.2.2.2.2.2.2.2.2.2.1
theorem dL_law_1321 : decode cL_law 1321 = .ok (.iconst 2, 1) := dch_dL_law_1300.2.2.2.2.2.2.2.2.2.2.2.2.2.2.2.2.2.1
theorem dL_law_1322 : decode cL_law 1322 = .ok (.iadd, 1) := dch_dL_law_1300.2.2.2.2.2.2.2.2.2.2.2.2.2.2.2.2.2.2.1
theorem dL_law_1323 : decode cL_law 1323 = .ok (.iaload, 1) := dch_dL_law_1300.2.2.2.2.2.2.2.2.2.2.2.2.2.2.2.2.2.2.2.1
theorem dL_law_1324 : decode cL_law 1324 = .ok (.aload_n 0, 1) := dch_dL_law_1300.2.2.2.2.2.2.2.2.2.2.2.2.2.2.2.2.2.2.2.2.1
theorem dL_law_1325 : decode cL_law 1325 = .ok (.iload_n 3, 1) := dch_dL_law_1300.2.2.2.2.2.2.2.2.2.2.2.2.2.2.2.2.2.2.2.2.2.1
theorem dL_law_1326 : decode cL_law 1326 = .ok (.iconst 3, 1) := dch_dL_law_1300.2.2.2.2.2.2.2.2.2.2.2.2.2.2.2.2.2.2.2.2.2.2.1
theorem dL_law_1327 : decode cL_law 1327 = .ok (.iadd, 1) := dch_dL_law_1300.2.2.2.2.2.2.2.2.2.2.2.2.2.2.2.2.2.2.2.2.2.2.2
theorem dch_dL_law_1328 : decode cL_law 1328 = .ok (.iaload, 1) ∧ decode cL_law 1329 = .ok (.invokevirtual 141, 3) ∧ decode cL_law 1332 = .ok (.pop, 1) ∧ decode cL_law 1333 = .ok (.aload_n 2, 1) ∧ decode cL_law 1334 = .ok (.aload_n 0, 1) ∧ decode cL_law 1335 = .ok (.iload_n 3, 1) ∧ decode cL_law 1336 = .ok (.iconst 1, 1) ∧ decode cL_law 1337 = .ok (.iadd, 1) ∧ decode cL_law 1338 = .ok (.iaload, 1) ∧ decode cL_law 1339 = .ok (.aload_n 0, 1) ∧ decode cL_law 1340 = .ok (.iload_n 3, 1) ∧ decode cL_law 1341 = .ok (.iconst 2, 1) ∧ decode cL_law 1342 = .ok (.iadd, 1) ∧ decode cL_law 1343 = .ok (.iaload, 1) ∧ decode cL_law 1344 = .ok (.aload_n 0, 1) ∧ decode cL_law 1345 = .ok (.iload_n 3, 1) ∧ decode cL_law 1346 = .ok (.iconst 3, 1) ∧ decode cL_law 1347 = .ok (.iadd, 1) ∧ decode cL_law 1348 = .ok (.iaload, 1) ∧ decode cL_law 1349 = .ok (.invokevirtual 144, 3) ∧ decode cL_law 1352 = .ok (.pop, 1) ∧ decode cL_law 1353 = .ok (.goto 148, 3) ∧ decode cL_law 1356 = .ok (.aload_n 1, 1) ∧ decode cL_law 1357 = .ok (.invokevirtual 145, 3) := by decide +kernel
theorem dL_law_1328 : decode cL_law 1328 = .ok (.iaload, 1) := dch_dL_law_1328.1
theorem dL_law_1329 : decode cL_law 1329 = .ok (.invokevirtual 141, 3) := dch_dL_law_1328.2.1
theorem dL_law_1332 : decode cL_law 1332 = .ok (.pop, 1) := dch_dL_law_1328.2.2.1
theorem dL_law_1333 : decode cL_law 1333 = .ok (.aload_n 2, 1) := dch_dL_law_1328.2.2.2.1
theorem dL_law_1334 : decode cL_law 1334 = .ok (.aload_n 0, 1) := dch_dL_law_1328.2.2.2.2.1
theorem dL_law_1335 : decode cL_law 1335 = .ok (.iload_n 3, 1) := dch_dL_law_1328.2.2.2.2.2.1
theorem dL_law_1336 : decode cL_law 1336 = .ok (.iconst 1, 1) := dch_dL_law_1328.2.2.2.2.2.2.1
theorem dL_law_1337 : decode cL_law 1337 = .ok (.iadd, 1) := dch_dL_law_1328.2.2.2.2.2.2.2.1
theorem dL_law_1338 : decode cL_law 1338 = .ok (.iaload, 1) := dch_dL_law_1328.2.2.2.2.2.2.2.2.1
theorem dL_law_1339 : decode cL_law 1339 = .ok (.aload_n 0, 1) := dch_dL_law_1328.2.2.2.2.2.2.2.2.2.1
theorem dL_law_1340 : decode cL_law 1340 = .ok (.iload_n 3, 1) := dch_dL_law_1328.2.2.2.2.2.2.2.2.2.2.1
theorem dL_law_1341 : decode cL_law 1341 = .ok (.iconst 2, 1) := dch_dL_law_1328.2.2.2.2.2.2.2.2.2.2.2.1
theorem dL_law_1342 : decode cL_law 1342 = .ok (.iadd, 1) := dch_dL_law_1328.2.2.2.2.2.2.2.2.2.2.2.2.1
theorem dL_law_1343 : decode cL_law 1343 = .ok (.iaload, 1) := dch_dL_law_1328.2.2.2.2.2.2.2.2.2.2.2.2.2.1
theorem dL_law_1344 : decode cL_law 1344 = .ok (.aload_n 0, 1) := dch_dL_law_1328.2.2.2.2.2.2.2.2.2.2.2.2.2.2.1
theorem dL_law_1345 : decode cL_law 1345 = .ok (.iload_n 3, 1) := dch_dL_law_1328.2.2.2.2.2.2.2.2.2.2.2.2.2.2.2.1
theorem dL_law_1346 : decode cL_law 1346 = .ok (.iconst 3, 1) := dch_dL_law_1328.2.2.2.2.2.2.2.2.2.2.2.2.2.2.2.2.1
theorem dL_law_1347 : decode cL_law 1347 = .ok (.iadd, 1) := dch_dL_law_1328.2.2.2.2.2.2.2.2.2.2.2.2.2.2.2.2.2.1
theorem dL_law_1348 : decode cL_law 1348 = .ok (.iaload, 1) := dch_dL_law_1328.2.2.2.2.2.2.2.2.2.2.2.2.2.2.2.2.2.2.1
theorem dL_law_1349 : decode cL_law 1349 = .ok (.invokevirtual 144, 3) := dch_dL_law_1328.2.2.2.2.2.2.2.2.2.2.2.2.2.2.2.2.2.2.2.1
theorem dL_law_1352 : decode cL_law 1352 = .ok (.pop, 1) := dch_dL_law_1328.2.2.2.2.2.2.2.2.2.2.2.2.2.2.2.2.2.2.2.2.1
theorem dL_law_1353 : decode cL_law 1353 = .ok (.goto 148, 3) := dch_dL_law_1328.2.2.2.2.2.2.2.2.2.2.2.2.2.2.2.2.2.2.2.2.2.1
theorem dL_law_1356 : decode cL_law 1356 = .ok (.aload_n 1, 1) := dch_dL_law_1328.2.2.2.2.2.2.2.2.2.2.2.2.2.2.2.2.2.2.2.2.2.2.1
theorem dL_law_1357 : decode cL_law 1357 = .ok (.invokevirtual 145, 3) := dch_dL_law_1328.2.2.2.2.2.2.2.2.2.2.2.2.2.2.2.2.2.2.2.2.2.2.2
theorem dch_dL_law_1360 : decode cL_law 1360 = .ok (.pop, 1) ∧ decode cL_law 1361 = .ok (.aload_n 2, 1) ∧ decode cL_law 1362 = .ok (.invokevirtual 148, 3) ∧ decode cL_law 1365 = .ok (.pop, 1) ∧ decode cL_law 1366 = .ok (.goto 135, 3) ∧ decode cL_law 1369 = .ok (.aload_n 1, 1) ∧ decode cL_law 1370 = .ok (.invokevirtual 149, 3) ∧ decode cL_law 1373 = .ok (.pop, 1) ∧ decode cL_law 1374 = .ok (.aload_n 2, 1) ∧ decode cL_law 1375 = .ok (.invokevirtual 152, 3) ∧ decode cL_law 1378 = .ok (.pop, 1) ∧ decode cL_law 1379 = .ok (.goto 122, 3) ∧ decode cL_law 1382 = .ok (.aload_n 1, 1) ∧ decode cL_law 1383 = .ok (.aload_n 0, 1) ∧ decode cL_law 1384 = .ok (.iload_n 3, 1) ∧ decode cL_law 1385 = .ok (.iconst 1, 1) ∧ decode cL_law 1386 = .ok (.iadd, 1) ∧ decode cL_law 1387 = .ok (.iaload, 1) ∧ decode cL_law 1388 = .ok (.aload_n 0, 1) ∧ decode cL_law 1389 = .ok (.iload_n 3, 1) ∧ decode cL_law 1390 = .ok (.iconst 2, 1) ∧ decode cL_law 1391 = .ok (.iadd, 1) ∧ decode cL_law 1392 = .ok (.iaload, 1) ∧ decode cL_law 1393 = .ok (.aload_n 0, 1) := by decide +kernel
theorem dL_law_1360 : decode cL_law 1360 = .ok (.pop, 1) := dch_dL_law_1360.1
theorem dL_law_1361 : decode cL_law 1361 = .ok (.aload_n 2, 1) := dch_dL_law_1360.2.1
theorem dL_law_1362 : decode cL_law 1362 = .ok (.invokevirtual 148, 3) := dch_dL_law_1360.2.2.1
theorem dL_law_1365 : decode cL_law 1365 = .ok (.pop, 1) := dch_dL_law_1360.2.2.2.1
theorem dL_law_1366 : decode cL_law 1366 = .ok (.goto 135, 3) := dch_dL_law_1360.2.2.2.2.1
theorem dL_law_1369 : decode cL_law 1369 = .ok (.aload_n 1, 1) := dch_dL_law_1360.2.2.2.2.2.1
theorem dL_law_1370 : decode cL_law 1370 = .ok (.invokevirtual 149, 3) := dch_dL_law_1360.2.2.2.2.2.2.1
theorem dL_law_1373 : decode cL_law 1373 = .ok (.pop, 1) := dch_dL_law_1360.2.2.2.2.2.2.2.1
theorem dL_law_1374 : decode cL_law 1374 = .ok (.aload_n 2, 1) := dch_dL_law_1360.2.2.2.2.2.2.2.2.1
theorem dL_law_1375 : decode cL_law 1375 = .ok (.invokevirtual 152, 3) := dch_dL_law_1360.2.2.2.2.2.2.2.2.2.1
theorem dL_law_1378 : decode cL_law 1378 = .ok (.pop, 1) := dch_dL_law_1360.2.2.2.2.2.2.2.2.2.2.1
theorem dL_law_1379 : decode cL_law 1379 = .ok (.goto 122, 3) := dch_dL_law_1360.2.2.2.2.2.2.2.2.2.2.2.1
theorem dL_law_1382 : decode cL_law 1382 = .ok (.aload_n 1, 1) := dch_dL_law_1360.2.2.2.2.2.2.2.2.2.2.2.2.1
theorem dL_law_1383 : decode cL_law 1383 = .ok (.aload_n 0, 1) := dch_dL_law_1360.2.2.2.2.2.2.2.2.2.2.2.2.2.1
theorem dL_law_1384 : decode cL_law 1384 = .ok (.iload_n 3, 1) := dch_dL_law_1360.2.2.2.2.2.2.2.2.2.2.2.2.2.2.1
theorem dL_law_1385 : decode cL_law 1385 = .ok (.iconst 1, 1) := dch_dL_law_1360.2.2.2.2.2.2.2.2.2.2.2.2.2.2.2.1
theorem dL_law_1386 : decode cL_law 1386 = .ok (.iadd, 1) := dch_dL_law_1360.2.2.2.2.2.2.2.2.2.2.2.2.2.2.2.2.1
theorem dL_law_1387 : decode cL_law 1387 = .ok (.iaload, 1) := dch_dL_law_1360.2.2.2.2.2.2.2.2.2.2.2.2.2.2.2.2.2.1
theorem dL_law_1388 : decode cL_law 1388 = .ok (.aload_n 0, 1) := dch_dL_law_1360.2.2.2.2.2.2.2.2.2.2.2.2.2.2.2.2.2.2.1
theorem dL_law_1389 : decode cL_law 1389 = .ok (.iload_n 3, 1) := dch_dL_law_1360.2.2.2.2.2.2.2.2.2.2.2.2.2.2.2.2.2.2.2.1
theorem dL_law_1390 : decode cL_law 1390 = .ok (.iconst 2, 1) := dch_dL_law_1360.2.2.2.2.2.2.2.2.2.2.2.2.2.2.2.2.2.2.2.2.1
theorem dL_law_1391 : decode cL_law 1391 = .ok (.iadd, 1) := dch_dL_law_1360.2.2.2.2.2.2.2.2.2.2.2.2.2.2.2.2.2.2.2.2.2.1
theorem dL_law_1392 : decode cL_law 1392 = .ok (.iaload, 1) := dch_dL_law_1360.2.2.2.2.2.2.2.2.2.2.2.2.2.2.2.2.2.2.2.2.2.2.1
theorem dL_law_1393 : decode cL_law 1393 = .ok (.aload_n 0, 1) := dch_dL_law_1360.2.2.2.2.2.2.2.2.2.2.2.2.2.2.2.2.2.2.2.2.2.2.2
theorem dch_dL_law_1394 : decode cL_law 1394 = .ok (.iload_n 3, 1) ∧ decode cL_law 1395 = .ok (.iconst 3, 1) ∧ decode cL_law 1396 = .ok (.iadd, 1) ∧ decode cL_law 1397 = .ok (.iaload, 1) ∧ decode cL_law 1398 = .ok (.invokevirtual 153, 3) ∧ decode cL_law 1401 = .ok (.pop, 1) ∧ decode cL_law 1402 = .ok (.aload_n 2, 1) ∧ decode cL_law 1403 = .ok (.aload_n 0, 1) ∧ decode cL_law 1404 = .ok (.iload_n 3, 1) ∧ decode cL_law 1405 = .ok (.iconst 1, 1) ∧ decode cL_law 1406 = .ok (.iadd, 1) ∧ decode cL_law 1407 = .ok (.iaload, 1) ∧ decode cL_law 1408 = .ok (.aload_n 0, 1) ∧ decode cL_law 1409 = .ok (.iload_n 3, 1) ∧ decode cL_law 1410 = .ok (.iconst 2, 1) ∧ decode cL_law 1411 = .ok (.iadd, 1) ∧ decode cL_law 1412 = .ok (.iaload, 1) ∧ decode cL_law 1413 = .ok (.aload_n 0, 1) ∧ decode cL_law 1414 = .ok (.iload_n 3, 1) ∧ decode cL_law 1415 = .ok (.iconst 3, 1) ∧ decode cL_law 1416 = .ok (.iadd, 1) ∧ decode cL_law 1417 = .ok (.iaload, 1) ∧ decode cL_law 1418 = .ok (.invokevirtual 156, 3) ∧ decode cL_law 1421 = .ok (.pop, 1) := by decide +kernel
theorem dL_law_1394 : decode cL_law 1394 = .ok (.iload_n 3, 1) := dch_dL_law_1394.1
theorem dL_law_1395 : decode cL_law 1395 = .ok (.iconst 3, 1) := dch_dL_law_1394.2.1
theorem dL_law_1396 : decode cL_law 1396 = .ok (.iadd, 1) := dch_dL_law_1394.2.2.1
theorem dL_law_1397 : decode cL_law 1397 = .ok (.iaload, 1) := dch_dL_law_1394.2.2.2.1
theorem dL_law_1398 : decode cL_law 1398 = .ok (.invokevirtual 153, 3) := dch_dL_law_1394.2.2.2.2.1
theorem dL_law_1401 : decode cL_law 1401 = .ok (.pop, 1) := dch_dL_law_1394.2.2.2.2.2.1
theorem dL_law_1402 : decode cL_law 1402 = .ok (.aload_n 2, 1) := dch_dL_law_1394.2.2.2.2.2.2.1
theorem dL_law_1403 : decode cL_law 1403 = .ok (.aload_n 0, 1) := dch_dL_law_1394.2.2.2.2.2.2.2.1
theorem dL_law_1404 : decode cL_law 1404 = .ok (.iload_n 3, 1) := dch_dL_law_1394.2.2.2.2.2.2.2.2.1
theorem dL_law_1405 : decode cL_law 1405 = .ok (.iconst 1, 1) := dch_dL_law_1394.2.2.2.2.2.2.2.2.2.1
theorem dL_law_1406 : decode cL_law 1406 = .ok (.iadd, 1) := dch_dL_law_1394.2.2.2.2.2.2.2.2.2.2.1
theorem dL_law_1407 : decode cL_law 1407 = .ok (.iaload, 1) := dch_dL_law_1394.2.2.2.2.2.2.2.2.2.2.2.1
theorem dL_law_1408 : decode cL_law 1408 = .ok (.aload_n 0, 1) := dch_dL_law_1394.2.2.2.2.2.2.2.2.2.2.2.2.1
theorem dL_law_1409 : decode cL_law 1409 = .ok (.iload_n 3, 1) := dch_dL_law_1394.2.2.2.2.2.2.2.2.2.2.2.2.2.1
theorem dL_law_1410 : decode cL_law 1410 = .ok (.iconst 2, 1) := dch_dL_law_1394.2.2.2.2.2.2.2.2.2.2.2.2.2.2.1
theorem dL_law_1411 : decode cL_law 1411 = .ok (.iadd, 1) := dch_dL_law_1394.2.2.2.2.2.2.2.2.2.2.2.2.2.2.2.1
theorem dL_law_1412 : decode cL_law 1412 = .ok (.iaload, 1) := dch_dL_law_1394.2.2.2.2.2.2.2.2.2.2.2.2.2.2.2.2.1
theorem dL_law_1413 : decode cL_law 1413 = .ok (.aload_n 0, 1) := dch_dL_law_1394.2.2.2.2.2.2.2.2.2.2.2.2.2.2.2.2.2.1
theorem dL_law_1414 : decode cL_law 1414 = .ok (.iload_n 3, 1) := dch_dL_law_1394.2.2.2.2.2.2.2.2.2.2.2.2.2.2.2.2.2.2.1
theorem dL_law_1415 : decode cL_law 1415 = .ok (.iconst 3, 1) := dch_dL_law_1394.2.2.2.2.2.2.2.2.2.2.2.2.2.2.2.2.2.2.2.1
theorem dL_law_1416 : decode cL_law 1416 = .ok (.iadd, 1) := dch_dL_law_1394.2.2.2.2.2.2.2.2.2.2.2.2.2.2.2.2.2.2.2.2.1
theorem dL_law_1417 : decode cL_law 1417 = .ok (.iaload, 1) := dch_dL_law_1394.2.2.2.2.2.2.2.2.2.2.2.2.2.2.2.2.2.2.2.2.2.1
theorem dL_law_1418 : decode cL_law 1418 = .ok (.invokevirtual 156, 3) := dch_dL_law_1394.2.2.2.2.2.2.2.2.2.2.2.2.2.2.2.2.2.2.2.2.2.2.1
theorem dL_law_1421 : decode cL_law 1421 = .ok (.pop, 1) := dch_dL_law_1394.2.2.2.2.2.2.2.2.2.2.2.2.2.2.2.2.2.2.2.2.2.2.2
theorem dch_dL_law_1422 : decode cL_law 1422 = .ok (.goto 79, 3) ∧ decode cL_law 1425 = .ok (.aload_n 1, 1) ∧ decode cL_law 1426 = .ok (.aload_n 0, 1) ∧ decode cL_law 1427 = .ok (.iload_n 3, 1) ∧ decode cL_law 1428 = .ok (.iconst 1, 1) ∧ decode cL_law 1429 = .ok (.iadd, 1) ∧ decode cL_law 1430 = .ok (.iaload, 1) ∧ decode cL_law 1431 = .ok (.invokevirtual 157, 3) ∧ decode cL_law 1434 = .ok (.pop, 1) ∧ decode cL_law 1435 = .ok (.aload_n 2, 1) ∧ decode cL_law 1436 = .ok (.aload_n 0, 1) ∧ decode cL_law 1437 = .ok (.iload_n 3, 1) ∧ decode cL_law 1438 = .ok (.iconst 1, 1) ∧ decode cL_law 1439 = .ok (.iadd, 1) ∧ decode cL_law 1440 = .ok (.iaload, 1) ∧ decode cL_law 1441 = .ok (.invokevirtual 160, 3) ∧ decode cL_law 1444 = .ok (.pop, 1) ∧ decode cL_law 1445 = .ok (.goto 56, 3) ∧ decode cL_law 1448 = .ok (.aload_n 1, 1) ∧ decode cL_law 1449 = .ok (.aload_n 0, 1) ∧ decode cL_law 1450 = .ok (.iload_n 3, 1) ∧ decode cL_law 1451 = .ok (.iconst 1, 1) ∧ decode cL_law 1452 = .ok (.iadd, 1) ∧ decode cL_law 1453 = .ok (.iaload, 1) := by decide +kernel
theorem dL_law_1422 : decode cL_law 1422 = .ok (.goto 79, 3) := dch_dL_law_1422.1
theorem dL_law_1425 : decode cL_law 1425 = .ok (.aload_n 1, 1) := dch_dL_law_1422.2.1
theorem dL_law_1426 : decode cL_law 1426 = .ok (.aload_n 0, 1) := dch_dL_law_1422.2.2.1
theorem dL_law_1427 : decode cL_law 1427 = .ok (.iload_n 3, 1) := dch_dL_law_1422.2.2.2.1
theorem dL_law_1428 : decode cL_law 1428 = .ok (.iconst 1, 1) := dch_dL_law_1422.2.2.2.2.1
theorem dL_law_1429 : decode cL_law 1429 = .ok (.iadd, 1) := dch_dL_law_1422.2.2.2.2.2.1
theorem dL_law_1430 : decode cL_law 1430 = .ok (.iaload, 1) := dch_dL_law_1422.2.2.2.2.2.2.1
theorem dL_law_1431 : decode cL_law 1431 = .ok (.invokevirtual 157, 3) := dch_dL_law_1422.2.2.2.2.2.2.2.1
theorem dL_law_1434 : decode cL_law 1434 = .ok (.pop, 1) := dch_dL_law_1422.2.2.2.2.2.2.2.2.1
theorem dL_law_1435 : decode cL_law 1435 = .ok (.aload_n 2, 1) := dch_dL_law_1422.2.2.2.2.2.2.2.2.2.1
theorem dL_law_1436 : decode cL_law 1436 = .ok (.aload_n 0, 1) := dch_dL_law_1422.2.2.2.2.2.2.2.2.2.2.1
theorem dL_law_1437 : decode cL_law 1437 = .ok (.iload_n 3, 1) := dch_dL_law_1422.2.2.2.2.2.2.2.2.2.2.2.1
theorem dL_law_1438 : decode cL_law 1438 = .ok (.iconst 1, 1) := dch_dL_law_1422.2.2.2.2.2.2.2.2.2.2.2.2.1
theorem dL_law_1439 : decode cL_law 1439 = .ok (.iadd, 1) := dch_dL_law_1422.2.2.2.2.2.2.2.2.2.2.2.2.2.1
theorem dL_law_1440 : decode cL_law 1440 = .ok (.iaload, 1) := dch_dL_law_1422.2.2.2.2.2.2.2.2.2.2.2.2.2.2.1
theorem dL_law_1441 : decode cL_law 1441 = .ok (.invokevirtual 160, 3) := dch_dL_law_1422.2.2.2.2.2.2.2.2.2.2.2.2.2.2.2.1
theorem dL_law_1444 : decode cL_law 1444 = .ok (.pop, 1) := dch_dL_law_1422.2.2.2.2.2.2.2.2.2.2.2.2.2.2.2.2.1
theorem dL_law_1445 : decode cL_law 1445 = .ok (.goto 56, 3) := dch_dL_law_1422.2.2.2.2.2.2.2.2.2.2.2.2.2.2.2.2.2.1
theorem dL_law_1448 : decode cL_law 1448 = .ok (.aload_n 1, 1) := dch_dL_law_1422.2.2.2.2.2.2.2.2.2.2.2.2.2.2.2.2.2.2.1
theorem dL_law_1449 : decode cL_law 1449 = .ok (.aload_n 0, 1) := dch_dL_law_1422.2.2.2.2.2.2.2.2.2.2.2.2.2.2.2.2.2.2.2.1
theorem dL_law_1450 : decode cL_law 1450 = .ok (.iload_n 3, 1) := dch_dL_law_1422.2.2.2.2.2.2.2.2.2.2.2.2.2.2.2.2.2.2.2.2.1
theorem dL_law_1451 : decode cL_law 1451 = .ok (.iconst 1, 1) := dch_dL_law_1422.2.2.2.2.2.2.2.2.2.2.2.2.2.2.2.2.2.2.2.2.2.1
theorem dL_law_1452 : decode cL_law 1452 = .ok (.iadd, 1) := dch_dL_law_1422.2.2.2.2.2.2.2.2.2.2.2.2.2.2.2.2.2.2.2.2.2.2.1
theorem dL_law_1453 : decode cL_law 1453 = .ok (.iaload, 1) := dch_dL_law_1422.2.2.2.2.2.2.2.2.2.2.2.2.2.2.2.2.2.2.2.2.2.2.2
theorem dch_dL_law_1454 : decode cL_law 1454 = .ok (.aload_n 0, 1) ∧ decode cL_law 1455 = .ok (.iload_n 3, 1) ∧ decode cL_law 1456 = .ok (.iconst 2, 1) ∧ decode cL_law 1457 = .ok (.iadd, 1) ∧ decode cL_law 1458 = .ok (.iaload, 1) ∧ decode cL_law 1459 = .ok (.aload_n 0, 1) ∧ decode cL_law 1460 = .ok (.iload_n 3, 1) ∧ decode cL_law 1461 = .ok (.iconst 3, 1) ∧ decode cL_law 1462 = .ok (.iadd, 1) ∧ decode cL_law 1463 = .ok (.iaload, 1) ∧ decode cL_law 1464 = .ok (.aload_n 0, 1) ∧ decode cL_law 1465 = .ok (.iload_n 3, 1) ∧ decode cL_law 1466 = .ok (.iconst 4, 1) ∧ decode cL_law 1467 = .ok (.iadd, 1) ∧ decode cL_law 1468 = .ok (.iaload, 1) ∧ decode cL_law 1469 = .ok (.invokevirtual 161, 3) ∧ decode cL_law 1472 = .ok (.pop, 1) ∧ decode cL_law 1473 = .ok (.aload_n 2, 1) ∧ decode cL_law 1474 = .ok (.aload_n 0, 1) ∧ decode cL_law 1475 = .ok (.iload_n 3, 1) ∧ decode cL_law 1476 = .ok (.iconst 1, 1) ∧ decode cL_law 1477 = .ok (.iadd, 1) ∧ decode cL_law 1478 = .ok (.iaload, 1) ∧ decode cL_law 1479 = .ok (.aload_n 0, 1) := by decide +kernel
theorem dL_law_1454 : decode cL_law 1454 = .ok (.aload_n 0, 1) := dch_dL_law_1454.1
theorem dL_law_1455 : decode cL_law 1455 = .ok (.iload_n 3, 1) := dch_dL_law_1454.2.1
theorem dL_law_1456 : decode cL_law 1456 = .ok (.iconst 2, 1) := dch_dL_law_1454.2.2.1
theorem dL_law_1457 : decode cL_law 1457 = .ok (.iadd, 1) := dch_dL_law_1454.2.2.2.1
theorem dL_law_1458 : decode cL_law 1458 = .ok (.iaload, 1) := dch_dL_law_1454.2.2.2.2.1
theorem dL_law_1459 : decode cL_law 1459 = .ok (.aload_n 0, 1) := dch_dL_law_1454.2.2.2.2.2.1
theorem dL_law_1460 : decode cL_law 1460 = .ok (.iload_n 3, 1) := dch_dL_law_1454.2.2.2.2.2.2.1
theorem dL_law_1461 : decode cL_law 1461 = .ok (.iconst 3, 1) := dch_dL_law_1454.2.2.2.2.2.2.2.1
theorem dL_law_1462 : decode cL_law 1462 = .ok (.iadd, 1) := dch_dL_law_1454.2.2.2.2.2.2.2.2.1
theorem dL_law_1463 : decode cL_law 1463 = .ok (.iaload, 1) := dch_dL_law_1454.2.2.2.2.2.2.2.2.2.1
theorem dL_law_1464 : decode cL_law 1464 = .ok (.aload_n 0, 1) := dch_dL_law_1454.2.2.2.2.2.2.2.2.2.2.1
theorem dL_law_1465 : decode cL_law 1465 = .ok (.iload_n 3, 1) := dch_dL_law_1454.2.2.2.2.2.2.2.2.2.2.2.1
theorem dL_law_1466 : decode cL_law 1466 = .ok (.iconst 4, 1) := dch_dL_law_1454.2.2.2.2.2.2.2.2.2.2.2.2.1
theorem dL_law_1467 : decode cL_law 1467 = .ok (.iadd, 1) := dch_dL_law_1454.2.2.2.2.2.2.2.2.2.2.2.2.2.1
theorem dL_law_1468 : decode cL_law 1468 = .ok (.iaload, 1) := dch_dL_law_1454.2.2.2.2.2.2.2.2.2.2.2.2.2.2.1
theorem dL_law_1469 : decode cL_law 1469 = .ok (.invokevirtual 161, 3) := dch_dL_law_1454.2.2.2.2.2.2.2.2.2.2.2.2.2.2.2.1
theorem dL_law_1472 : decode cL_law 1472 = .ok (.pop, 1) := dch_dL_law_1454.2.2.2.2.2.2.2.2.2.2.2.2.2.2.2.2.1
theorem dL_law_1473 : decode cL_law 1473 = .ok (.aload_n 2, 1) := dch_dL_law_1454.2.2.2.2.2.2.2.2.2.2.2.2.2.2.2.2.2.1
theorem dL_law_1474 : decode cL_law 1474 = .ok (.aload_n 0, 1) := dch_dL_law_1454.2.2.2.2.2.2.2.2.2.2.2.2.2.2.2.2.2.2.1
theorem dL_law_1475 : decode cL_law 1475 = .ok (.iload_n 3, 1) := dch_dL_law_1454.2.2.2.2.2.2.2.2.2.2.2.2.2.2.2.2.2.2.2.1
theorem dL_law_1476 : decode cL_law 1476 = .ok (.iconst 1, 1) := dch_dL_law_1454.2.2.2.2.2.2.2.2.2.2.2.2.2.2.2.2.2.2.2.2.1
theorem dL_law_1477 : decode cL_law 1477 = .ok (.iadd, 1) := dch_dL_law_1454.2.2.2.2.2.2.2.2.2.2.2.2.2.2.2.2.2.2.2.2.2.1
theorem dL_law_1478 : decode cL_law 1478 = .ok (.iaload, 1) := dch_dL_law_1454.2.2.2.2.2.2.2.2.2.2.2.2.2.2.2.2.2.2.2.2.2.2.1
theorem dL_law_1479 : decode cL_law 1479 = .ok (.aload_n 0, 1) := dch_dL_law_1454.2.2.2.2.2.2.2.2.2.2.2.2.2.2.2.2.2.2.2.2.2.2.2
theorem dch_dL_law_1480 : decode cL_law 1480 = .ok (.iload_n 3, 1) ∧ decode cL_law 1481 = .ok (.iconst 2, 1) ∧ decode cL_law 1482 = .ok (.iadd, 1) ∧ decode cL_law 1483 = .ok (.iaload, 1) ∧ decode cL_law 1484 = .ok (.aload_n 0, 1) ∧ decode cL_law 1485 = .ok (.iload_n 3, 1) ∧ decode cL_law 1486 = .ok (.iconst 3, 1) ∧ decode cL_law 1487 = .ok (.iadd, 1) ∧ decode cL_law 1488 = .ok (.iaload, 1) ∧ decode cL_law 1489 = .ok (.aload_n 0, 1) ∧ decode cL_law 1490 = .ok (.iload_n 3, 1) ∧ decode cL_law 1491 = .ok (.iconst 4, 1) ∧ decode cL_law 1492 = .ok (.iadd, 1) ∧ decode cL_law 1493 = .ok (.iaload, 1) ∧ decode cL_law 1494 = .ok (.invokevirtual 164, 3) ∧ decode cL_law 1497 = .ok (.pop, 1) ∧ decode cL_law 1498 = .ok (.goto 3, 3) ∧ decode cL_law 1501 = .ok (.iinc 3 7, 3) ∧ decode cL_law 1504 = .ok (.goto (-1486), 3) ∧ decode cL_law 1507 = .ok (.iconst 1, 1) ∧ decode cL_law 1508 = .ok (.ireturn, 1) := by decide +kernel
theorem dL_law_1480 : decode cL_law 1480 = .ok (.iload_n 3, 1) := dch_dL_law_1480.1
theorem dL_law_1481 : decode cL_law 1481 = .ok (.iconst 2, 1) := dch_dL_law_1480.2.1
theorem dL_law_1482 : decode cL_law 1482 = .ok (.iadd, 1) := dch_dL_law_1480.2.2.1
theorem dL_law_1483 : decode cL_law 1483 = .ok (.iaload, 1) := dch_dL_law_1480.2.2.2.1
theorem dL_law_1484 : decode cL_law 1484 = .ok (.aload_n 0, 1) := dch_dL_law_1480.2.2.2.2.1
theorem dL_law_1485 : decode cL_law 1485 = .ok (.iload_n 3, 1) := dch_dL_law_1480.2.2.2.2.2.1
theorem dL_law_1486 : decode cL_law 1486 = .ok (.iconst 3, 1) := dch_dL_law_1480.2.2.2.2.2.2.1
theorem dL_law_1487 : decode cL_law 1487 = .ok (.iadd, 1) := dch_dL_law_1480.2.2.2.2.2.2.2.1
theorem dL_law_1488 : decode cL_law 1488 = .ok (.iaload, 1) := dch_dL_law_1480.2.2.2.2.2.2.2.2.1
theorem dL_law_1489 : decode cL_law 1489 = .ok (.aload_n 0, 1) := dch_dL_law_1480.2.2.2.2.2.2.2.2.2.1
theorem dL_law_1490 : decode cL_law 1490 = .ok (.iload_n 3, 1) := dch_dL_law_1480.2.2.2.2.2.2.2.2.2.2.1
theorem dL_law_1491 : decode cL_law 1491 = .ok (.iconst 4, 1) := dch_dL_law_1480.2.2.2.2.2.2.2.2.2.2.2.1
theorem dL_law_1492 : decode cL_law 1492 = .ok (.iadd, 1) := dch_dL_law_1480.2.2.2.2.2.2.2.2.2.2.2.2.1
theorem dL_law_1493 : decode cL_law 1493 = .ok (.iaload, 1) := dch_dL_law_1480.2.2.2.2.2.2.2.2.2.2.2.2.2.1
theorem dL_law_1494 : decode cL_law 1494 = .ok (.invokevirtual 164, 3) := dch_dL_law_1480.2.2.2.2.2.2.2.2.2.2.2.2.2.2.1
theorem dL_law_1497 : decode cL_law 1497 = .ok (.pop, 1) := dch_dL_law_1480.2.2.2.2.2.2.2.2.2.2.2.2.2.2.2.1
theorem dL_law_1498 : decode cL_law 1498 = .ok (.goto 3, 3) := dch_dL_law_1480.2.2.2.2.2.2.2.2.2.2.2.2.2.2.2.2.1
theorem dL_law_1501 : decode cL_law 1501 = .ok (.iinc 3 7, 3) := dch_dL_law_1480.2.2.2.2.2.2.2.2.2.2.2.2.2.2.2.2.2.1
theorem dL_law_1504 : decode cL_law 1504 = .ok (.goto (-1486), 3) := dch_dL_law_1480.2.2.2.2.2.2.2.2.2.2.2.2.2.2.2.2.2.2.1
theorem dL_law_1507 : decode cL_law 1507 = .ok (.iconst 1, 1) := dch_dL_law_1480.2.2.2.2.2.2.2.2.2.2.2.2.2.2.2.2.2.2.2.1
theorem dL_law_1508 : decode cL_law 1508 = .ok (.ireturn, 1) := dch_dL_law_1480.2.2.2.2.2.2.2.2.2.2.2.2.2.2.2.2.2.2.2.2
