theorem dch_decL {c : ByteArray} {l : List (Nat × (Instr × Nat))} (h : l.all (fun r => decide (decode c r.1 = .ok r.2)) = true) (n : Nat) (r : Nat × (Instr × Nat)) (hn : l[n]? = some r) : decode c r.1 = .ok r.2 := of_decide_eq_true (List.all_eq_true.mp h r (List.mem_of_getElem? hn))
theorem dch_dL_law_0 : ([(0, .new 7, 3), (3, .dup, 1), (4, .invokespecial 9, 3), (7, .astore_n 1, 1), (8, .new 10, 3), (11, .dup, 1), (12, .invokespecial 12, 3), (15, .astore_n 2, 1), (16, .iconst 0, 1), (17, .istore_n 3, 1), (18, .iload_n 3, 1), (19, .aload_n 0, 1), (20, .arraylength, 1), (21, .bipush 7, 2), (23, .isub, 1), (24, .if_icmp .gt 1483, 3), (27, .aload_n 0, 1), (28, .iload_n 3, 1), (29, .iaload, 1), (30, .bipush 63, 2), (32, .iand, 1), (33, .tableswitch 1468 0 34 #[155, 246, 299, 374, 449, 512, 575, 588, 621, 654, 687, 730, 773, 826, 849, 882, 931, 954, 977, 1000, 1033, 1056, 1069, 1112, 1125, 1148, 1191, 1214, 1247, 1280, 1323, 1336, 1349, 1392, 1415], 155), (188, .aload_n 1, 1), (189, .aload_n 0, 1), (190, .iload_n 3, 1), (191, .iconst 1, 1), (192, .iadd, 1), (193, .iaload, 1), (194, .aload_n 0, 1), (195, .iload_n 3, 1), (196, .iconst 2, 1), (197, .iadd, 1), (198, .iaload, 1), (199, .aload_n 0, 1), (200, .iload_n 3, 1), (201, .iconst 3, 1), (202, .iadd, 1), (203, .iaload, 1), (204, .aload_n 0, 1), (205, .iload_n 3, 1)] : List (Nat × (Instr × Nat))).all (fun r => decide (decode cL_law r.1 = .ok r.2)) = true := by decide +kernel
theorem dL_law_0 : decode cL_law 0 = .ok (.new 7, 3) := dch_decL dch_dL_law_0 0 (0, .new 7, 3) rfl
theorem dL_law_3 : decode cL_law 3 = .ok (.dup, 1) := dch_decL dch_dL_law_0 1 (3, .dup, 1) rfl
theorem dL_law_4 : decode cL_law 4 = .ok (.invokespecial 9, 3) := dch_decL dch_dL_law_0 2 (4, .invokespecial 9, 3) rfl
theorem dL_law_7 : decode cL_law 7 = .ok (.astore_n 1, 1) := dch_decL dch_dL_law_0 3 (7, .astore_n 1, 1) rfl
theorem dL_law_8 : decode cL_law 8 = .ok (.new 10, 3) := dch_decL dch_dL_law_0 4 (8, .new 10, 3) rfl
theorem dL_law_11 : decode cL_law 11 = .ok (.dup, 1) := dch_decL dch_dL_law_0 5 (11, .dup, 1) rfl
theorem dL_law_12 : decode cL_law 12 = .ok (.invokespecial 12, 3) := dch_decL dch_dL_law_0 6 (12, .invokespecial 12, 3) rfl
theorem dL_law_15 : decode cL_law 15 = .ok (.astore_n 2, 1) := dch_decL dch_dL_law_0 7 (15, .astore_n 2, 1) rfl
theorem dL_law_16 : decode cL_law 16 = .ok (.iconst 0, 1) := dch_decL dch_dL_law_0 8 (16, .iconst 0, 1) rfl
theorem dL_law_17 : decode cL_law 17 = .ok (.istore_n 3, 1) := dch_decL dch_dL_law_0 9 (17, .istore_n 3, 1) rfl
theorem dL_law_18 : decode cL_law 18 = .ok (.iload_n 3, 1) := dch_decL dch_dL_law_0 10 (18, .iload_n 3, 1) rfl
theorem dL_law_19 : decode cL_law 19 = .ok (.aload_n 0, 1) := dch_decL dch_dL_law_0 11 (19, .aload_n 0, 1) rfl
theorem dL_law_20 : decode cL_law 20 = .ok (.arraylength, 1) := dch_decL dch_dL_law_0 12 (20, .arraylength, 1) rfl
theorem dL_law_21 : decode cL_law 21 = .ok (.bipush 7, 2) := dch_decL dch_dL_law_0 13 (21, .bipush 7, 2) rfl
theorem dL_law_23 : decode cL_law 23 = .ok (.isub, 1) := dch_decL dch_dL_law_0 14 (23, .isub, 1) rfl
theorem dL_law_24 : decode cL_law 24 = .ok (.if_icmp .gt 1483, 3) := dch_decL dch_dL_law_0 15 (24, .if_icmp .gt 1483, 3) rfl
theorem dL_law_27 : decode cL_law 27 = .ok (.aload_n 0, 1) := dch_decL dch_dL_law_0 16 (27, .aload_n 0, 1) rfl
theorem dL_law_28 : decode cL_law 28 = .ok (.iload_n 3, 1) := dch_decL dch_dL_law_0 17 (28, .iload_n 3, 1) rfl
theorem dL_law_29 : decode cL_law 29 = .ok (.iaload, 1) := dch_decL dch_dL_law_0 18 (29, .iaload, 1) rfl
theorem dL_law_30 : decode cL_law 30 = .ok (.bipush 63, 2) := dch_decL dch_dL_law_0 19 (30, .bipush 63, 2) rfl
theorem dL_law_32 : decode cL_law 32 = .ok (.iand, 1) := dch_decL dch_dL_law_0 20 (32, .iand, 1) rfl
theorem dL_law_33 : decode cL_law 33 = .ok (.tableswitch 1468 0 34 #[155, 246, 299, 374, 449, 512, 575, 588, 621, 654, 687, 730, 773, 826, 849, 882, 931, 954, 977, 1000, 1033, 1056, 1069, 1112, 1125, 1148, 1191, 1214, 1247, 1280, 1323, 1336, 1349, 1392, 1415], 155) := dch_decL dch_dL_law_0 21 (33, .tableswitch 1468 0 34 #[155, 246, 299, 374, 449, 512, 575, 588, 621, 654, 687, 730, 773, 826, 849, 882, 931, 954, 977, 1000, 1033, 1056, 1069, 1112, 1125, 1148, 1191, 1214, 1247, 1280, 1323, 1336, 1349, 1392, 1415], 155) rfl
theorem dL_law_188 : decode cL_law 188 = .ok (.aload_n 1, 1) := dch_decL dch_dL_law_0 22 (188, .aload_n 1, 1) rfl
theorem dL_law_189 : decode cL_law 189 = .ok (.aload_n 0, 1) := dch_decL dch_dL_law_0 23 (189, .aload_n 0, 1) rfl
theorem dL_law_190 : decode cL_law 190 = .ok (.iload_n 3, 1) := dch_decL dch_dL_law_0 24 (190, .iload_n 3, 1) rfl
theorem dL_law_191 : decode cL_law 191 = .ok (.iconst 1, 1) := dch_decL dch_dL_law_0 25 (191, .iconst 1, 1) rfl
theorem dL_law_192 : decode cL_law 192 = .ok (.iadd, 1) := dch_decL dch_dL_law_0 26 (192, .iadd, 1) rfl
theorem dL_law_193 : decode cL_law 193 = .ok (.iaload, 1) := dch_decL dch_dL_law_0 27 (193, .iaload, 1) rfl
theorem dL_law_194 : decode cL_law 194 = .ok (.aload_n 0, 1) := dch_decL dch_dL_law_0 28 (194, .aload_n 0, 1) rfl
theorem dL_law_195 : decode cL_law 195 = .ok (.iload_n 3, 1) := dch_decL dch_dL_law_0 29 (195, .iload_n 3, 1) rfl
theorem dL_law_196 : decode cL_law 196 = .ok (.iconst 2, 1) := dch_decL dch_dL_law_0 30 (196, .iconst 2, 1) rfl
theorem dL_law_197 : decode cL_law 197 = .ok (.iadd, 1) := dch_decL dch_dL_law_0 31 (197, .iadd, 1) rfl
theorem dL_law_198 : decode cL_law 198 = .ok (.iaload, 1) := dch_decL dch_dL_law_0 32 (198, .iaload, 1) rfl
theorem dL_law_199 : decode cL_law 199 = .ok (.aload_n 0, 1) := dch_decL dch_dL_law_0 33 (199, .aload_n 0, 1) rfl
theorem dL_law_200 : decode cL_law 200 = .ok (.iload_n 3, 1) := dch_decL dch_dL_law_0 34 (200, .iload_n 3, 1) rfl
theorem dL_law_201 : decode cL_law 201 = .ok (.iconst 3, 1) := dch_decL dch_dL_law_0 35 (201, .iconst 3, 1) rfl
theorem dL_law_202 : decode cL_law 202 = .ok (.iadd, 1) := dch_decL dch_dL_law_0 36 (202, .iadd, 1) rfl
theorem dL_law_203 : decode cL_law 203 = .ok (.iaload, 1) := dch_decL dch_dL_law_0 37 (203, .iaload, 1) rfl
theorem dL_law_204 : decode cL_law 204 = .ok (.aload_n 0, 1) := dch_decL dch_dL_law_0 38 (204, .aload_n 0, 1) rfl
theorem dL_law_205 : decode cL_law 205 = .ok (.iload_n 3, 1) := dch_decL dch_dL_law_0 39 (205, .iload_n 3, 1) rfl
theorem dch_dL_law_206 : ([(206, .iconst 4, 1), (207, .iadd, 1), (208, .iaload, 1), (209, .aload_n 0, 1), (210, .iload_n 3, 1), (211, .iconst 5, 1), (212, .iadd, 1), (213, .iaload, 1), (214, .aload_n 0, 1), (215, .iload_n 3, 1), (216, .bipush 6, 2), (218, .iadd, 1), (219, .iaload, 1), (220, .ifCond .eq 7, 3), (223, .iconst 1, 1), (224, .goto 4, 3), (227, .iconst 0, 1), (228, .invokevirtual 13, 3), (231, .pop, 1), (232, .aload_n 2, 1), (233, .aload_n 0, 1), (234, .iload_n 3, 1), (235, .iconst 1, 1), (236, .iadd, 1), (237, .iaload, 1), (238, .aload_n 0, 1), (239, .iload_n 3, 1), (240, .iconst 2, 1), (241, .iadd, 1), (242, .iaload, 1), (243, .aload_n 0, 1), (244, .iload_n 3, 1), (245, .iconst 3, 1), (246, .iadd, 1), (247, .iaload, 1), (248, .aload_n 0, 1), (249, .iload_n 3, 1), (250, .iconst 4, 1), (251, .iadd, 1), (252, .iaload, 1)] : List (Nat × (Instr × Nat))).all (fun r => decide (decode cL_law r.1 = .ok r.2)) = true := by decide +kernel
theorem dL_law_206 : decode cL_law 206 = .ok (.iconst 4, 1) := dch_decL dch_dL_law_206 0 (206, .iconst 4, 1) rfl
theorem dL_law_207 : decode cL_law 207 = .ok (.iadd, 1) := dch_decL dch_dL_law_206 1 (207, .iadd, 1) rfl
theorem dL_law_208 : decode cL_law 208 = .ok (.iaload, 1) := dch_decL dch_dL_law_206 2 (208, .iaload, 1) rfl
theorem dL_law_209 : decode cL_law 209 = .ok (.aload_n 0, 1) := dch_decL dch_dL_law_206 3 (209, .aload_n 0, 1) rfl
theorem dL_law_210 : decode cL_law 210 = .ok (.iload_n 3, 1) := dch_decL dch_dL_law_206 4 (210, .iload_n 3, 1) rfl
theorem dL_law_211 : decode cL_law 211 = .ok (.iconst 5, 1) := dch_decL dch_dL_law_206 5 (211, .iconst 5, 1) rfl
theorem dL_law_212 : decode cL_law 212 = .ok (.iadd, 1) := dch_decL dch_dL_law_206 6 (212, .iadd, 1) rfl
theorem dL_law_213 : decode cL_law 213 = .ok (.iaload, 1) := dch_decL dch_dL_law_206 7 (213, .iaload, 1) rfl
theorem dL_law_214 : decode cL_law 214 = .ok (.aload_n 0, 1) := dch_decL dch_dL_law_206 8 (214, .aload_n 0, 1) rfl
theorem dL_law_215 : decode cL_law 215 = .ok (.iload_n 3, 1) := dch_decL dch_dL_law_206 9 (215, .iload_n 3, 1) rfl
theorem dL_law_216 : decode cL_law 216 = .ok (.bipush 6, 2) := dch_decL dch_dL_law_206 10 (216, .bipush 6, 2) rfl
theorem dL_law_218 : decode cL_law 218 = .ok (.iadd, 1) := dch_decL dch_dL_law_206 11 (218, .iadd, 1) rfl
theorem dL_law_219 : decode cL_law 219 = .ok (.iaload, 1) := dch_decL dch_dL_law_206 12 (219, .iaload, 1) rfl
theorem dL_law_220 : decode cL_law 220 = .ok (.ifCond .eq 7, 3) := dch_decL dch_dL_law_206 13 (220, .ifCond .eq 7, 3) rfl
theorem dL_law_223 : decode cL_law 223 = .ok (.iconst 1, 1) := dch_decL dch_dL_law_206 14 (223, .iconst 1, 1) rfl
theorem dL_law_224 : decode cL_law 224 = .ok (.goto 4, 3) := dch_decL dch_dL_law_206 15 (224, .goto 4, 3) rfl
theorem dL_law_227 : decode cL_law 227 = .ok (.iconst 0, 1) := dch_decL dch_dL_law_206 16 (227, .iconst 0, 1) rfl
theorem dL_law_228 : decode cL_law 228 = .ok (.invokevirtual 13, 3) := dch_decL dch_dL_law_206 17 (228, .invokevirtual 13, 3) rfl
theorem dL_law_231 : decode cL_law 231 = .ok (.pop, 1) := dch_decL dch_dL_law_206 18 (231, .pop, 1) rfl
theorem dL_law_232 : decode cL_law 232 = .ok (.aload_n 2, 1) := dch_decL dch_dL_law_206 19 (232, .aload_n 2, 1) rfl
theorem dL_law_233 : decode cL_law 233 = .ok (.aload_n 0, 1) := dch_decL dch_dL_law_206 20 (233, .aload_n 0, 1) rfl
theorem dL_law_234 : decode cL_law 234 = .ok (.iload_n 3, 1) := dch_decL dch_dL_law_206 21 (234, .iload_n 3, 1) rfl
theorem dL_law_235 : decode cL_law 235 = .ok (.iconst 1, 1) := dch_decL dch_dL_law_206 22 (235, .iconst 1, 1) rfl
theorem dL_law_236 : decode cL_law 236 = .ok (.iadd, 1) := dch_decL dch_dL_law_206 23 (236, .iadd, 1) rfl
theorem dL_law_237 : decode cL_law 237 = .ok (.iaload, 1) := dch_decL dch_dL_law_206 24 (237, .iaload, 1) rfl
theorem dL_law_238 : decode cL_law 238 = .ok (.aload_n 0, 1) := dch_decL dch_dL_law_206 25 (238, .aload_n 0, 1) rfl
theorem dL_law_239 : decode cL_law 239 = .ok (.iload_n 3, 1) := dch_decL dch_dL_law_206 26 (239, .iload_n 3, 1) rfl
theorem dL_law_240 : decode cL_law 240 = .ok (.iconst 2, 1) := dch_decL dch_dL_law_206 27 (240, .iconst 2, 1) rfl
theorem dL_law_241 : decode cL_law 241 = .ok (.iadd, 1) := dch_decL dch_dL_law_206 28 (241, .iadd, 1) rfl
theorem dL_law_242 : decode cL_law 242 = .ok (.iaload, 1) := dch_decL dch_dL_law_206 29 (242, .iaload, 1) rfl
theorem dL_law_243 : decode cL_law 243 = .ok (.aload_n 0, 1) := dch_decL dch_dL_law_206 30 (243, .aload_n 0, 1) rfl
theorem dL_law_244 : decode cL_law 244 = .ok (.iload_n 3, 1) := dch_decL dch_dL_law_206 31 (244, .iload_n 3, 1) rfl
theorem dL_law_245 : decode cL_law 245 = .ok (.iconst 3, 1) := dch_decL dch_dL_law_206 32 (245, .iconst 3, 1) rfl
theorem dL_law_246 : decode cL_law 246 = .ok (.iadd, 1) := dch_decL dch_dL_law_206 33 (246, .iadd, 1) rfl
theorem dL_law_247 : decode cL_law 247 = .ok (.iaload, 1) := dch_decL dch_dL_law_206 34 (247, .iaload, 1) rfl
theorem dL_law_248 : decode cL_law 248 = .ok (.aload_n 0, 1) := dch_decL dch_dL_law_206 35 (248, .aload_n 0, 1) rfl
theorem dL_law_249 : decode cL_law 249 = .ok (.iload_n 3, 1) := dch_decL dch_dL_law_206 36 (249, .iload_n 3, 1) rfl
theorem dL_law_250 : decode cL_law 250 = .ok (.iconst 4, 1) := dch_decL dch_dL_law_206 37 (250, .iconst 4, 1) rfl
theorem dL_law_251 : decode cL_law 251 = .ok (.iadd, 1) := dch_decL dch_dL_law_206 38 (251, .iadd, 1) rfl
theorem dL_law_252 : decode cL_law 252 = .ok (.iaload, 1) := dch_decL dch_dL_law_206 39 (252, .iaload, 1) rfl
theorem dch_dL_law_253 : ([(253, .aload_n 0, 1), (254, .iload_n 3, 1), (255, .iconst 5, 1), (256, .iadd, 1), (257, .iaload, 1), (258, .aload_n 0, 1), (259, .iload_n 3, 1), (260, .bipush 6, 2), (262, .iadd, 1), (263, .iaload, 1), (264, .ifCond .eq 7, 3), (267, .iconst 1, 1), (268, .goto 4, 3), (271, .iconst 0, 1), (272, .invokevirtual 17, 3), (275, .pop, 1), (276, .goto 1225, 3), (279, .aload_n 1, 1), (280, .aload_n 0, 1), (281, .iload_n 3, 1), (282, .iconst 1, 1), (283, .iadd, 1), (284, .iaload, 1), (285, .aload_n 0, 1), (286, .iload_n 3, 1), (287, .iconst 2, 1), (288, .iadd, 1), (289, .iaload, 1), (290, .aload_n 0, 1), (291, .iload_n 3, 1), (292, .iconst 3, 1), (293, .iadd, 1), (294, .iaload, 1), (295, .aload_n 0, 1), (296, .iload_n 3, 1), (297, .iconst 4, 1), (298, .iadd, 1), (299, .iaload, 1), (300, .invokevirtual 18, 3), (303, .pop, 1)] : List (Nat × (Instr × Nat))).all (fun r => decide (decode cL_law r.1 = .ok r.2)) = true := by decide +kernel
theorem dL_law_253 : decode cL_law 253 = .ok (.aload_n 0, 1) := dch_decL dch_dL_law_253 0 (253, .aload_n 0, 1) rfl
theorem dL_law_254 : decode cL_law 254 = .ok (.iload_n 3, 1) := dch_decL dch_dL_law_253 1 (254, .iload_n 3, 1) rfl
theorem dL_law_255 : decode cL_law 255 = .ok (.iconst 5, 1) := dch_decL dch_dL_law_253 2 (255, .iconst 5, 1) rfl
theorem dL_law_256 : decode cL_law 256 = .ok (.iadd, 1) := dch_decL dch_dL_law_253 3 (256, .iadd, 1) rfl
theorem dL_law_257 : decode cL_law 257 = .ok (.iaload, 1) := dch_decL dch_dL_law_253 4 (257, .iaload, 1) rfl
theorem dL_law_258 : decode cL_law 258 = .ok (.aload_n 0, 1) := dch_decL dch_dL_law_253 5 (258, .aload_n 0, 1) rfl
theorem dL_law_259 : decode cL_law 259 = .ok (.iload_n 3, 1) := dch_decL dch_dL_law_253 6 (259, .iload_n 3, 1) rfl
theorem dL_law_260 : decode cL_law 260 = .ok (.bipush 6, 2) := dch_decL dch_dL_law_253 7 (260, .bipush 6, 2) rfl
theorem dL_law_262 : decode cL_law 262 = .ok (.iadd, 1) := dch_decL dch_dL_law_253 8 (262, .iadd, 1) rfl
theorem dL_law_263 : decode cL_law 263 = .ok (.iaload, 1) := dch_decL dch_dL_law_253 9 (263, .iaload, 1) rfl
theorem dL_law_264 : decode cL_law 264 = .ok (.ifCond .eq 7, 3) := dch_decL dch_dL_law_253 10 (264, .ifCond .eq 7, 3) rfl
theorem dL_law_267 : decode cL_law 267 = .ok (.iconst 1, 1) := dch_decL dch_dL_law_253 11 (267, .iconst 1, 1) rfl
theorem dL_law_268 : decode cL_law 268 = .ok (.goto 4, 3) := dch_decL dch_dL_law_253 12 (268, .goto 4, 3) rfl
theorem dL_law_271 : decode cL_law 271 = .ok (.iconst 0, 1) := dch_decL dch_dL_law_253 13 (271, .iconst 0, 1) rfl
theorem dL_law_272 : decode cL_law 272 = .ok (.invokevirtual 17, 3) := dch_decL dch_dL_law_253 14 (272, .invokevirtual 17, 3) rfl
theorem dL_law_275 : decode cL_law 275 = .ok (.pop, 1) := dch_decL dch_dL_law_253 15 (275, .pop, 1) rfl
theorem dL_law_276 : decode cL_law 276 = .ok (.goto 1225, 3) := dch_decL dch_dL_law_253 16 (276, .goto 1225, 3) rfl
theorem dL_law_279 : decode cL_law 279 = .ok (.aload_n 1, 1) := dch_decL dch_dL_law_253 17 (279, .aload_n 1, 1) rfl
theorem dL_law_280 : decode cL_law 280 = .ok (.aload_n 0, 1) := dch_decL dch_dL_law_253 18 (280, .aload_n 0, 1) rfl
theorem dL_law_281 : decode cL_law 281 = .ok (.iload_n 3, 1) := dch_decL dch_dL_law_253 19 (281, .iload_n 3, 1) rfl
theorem dL_law_282 : decode cL_law 282 = .ok (.iconst 1, 1) := dch_decL dch_dL_law_253 20 (282, .iconst 1, 1) rfl
theorem dL_law_283 : decode cL_law 283 = .ok (.iadd, 1) := dch_decL dch_dL_law_253 21 (283, .iadd, 1) rfl
theorem dL_law_284 : decode cL_law 284 = .ok (.iaload, 1) := dch_decL dch_dL_law_253 22 (284, .iaload, 1) rfl
theorem dL_law_285 : decode cL_law 285 = .ok (.aload_n 0, 1) := dch_decL dch_dL_law_253 23 (285, .aload_n 0, 1) rfl
theorem dL_law_286 : decode cL_law 286 = .ok (.iload_n 3, 1) := dch_decL dch_dL_law_253 24 (286, .iload_n 3, 1) rfl
theorem dL_law_287 : decode cL_law 287 = .ok (.iconst 2, 1) := dch_decL dch_dL_law_253 25 (287, .iconst 2, 1) rfl
theorem dL_law_288 : decode cL_law 288 = .ok (.iadd, 1) := dch_decL dch_dL_law_253 26 (288, .iadd, 1) rfl
theorem dL_law_289 : decode cL_law 289 = .ok (.iaload, 1) := dch_decL dch_dL_law_253 27 (289, .iaload, 1) rfl
theorem dL_law_290 : decode cL_law 290 = .ok (.aload_n 0, 1) := dch_decL dch_dL_law_253 28 (290, .aload_n 0, 1) rfl
theorem dL_law_291 : decode cL_law 291 = .ok (.iload_n 3, 1) := dch_decL dch_dL_law_253 29 (291, .iload_n 3, 1) rfl
theorem dL_law_292 : decode cL_law 292 = .ok (.iconst 3, 1) := dch_decL dch_dL_law_253 30 (292, .iconst 3, 1) rfl
theorem dL_law_293 : decode cL_law 293 = .ok (.iadd, 1) := dch_decL dch_dL_law_253 31 (293, .iadd, 1) rfl
theorem dL_law_294 : decode cL_law 294 = .ok (.iaload, 1) := dch_decL dch_dL_law_253 32 (294, .iaload, 1) rfl
theorem dL_law_295 : decode cL_law 295 = .ok (.aload_n 0, 1) := dch_decL dch_dL_law_253 33 (295, .aload_n 0, 1) rfl
theorem dL_law_296 : decode cL_law 296 = .ok (.iload_n 3, 1) := dch_decL dch_dL_law_253 34 (296, .iload_n 3, 1) rfl
theorem dL_law_297 : decode cL_law 297 = .ok (.iconst 4, 1) := dch_decL dch_dL_law_253 35 (297, .iconst 4, 1) rfl
theorem dL_law_298 : decode cL_law 298 = .ok (.iadd, 1) := dch_decL dch_dL_law_253 36 (298, .iadd, 1) rfl
theorem dL_law_299 : decode cL_law 299 = .ok (.iaload, 1) := dch_decL dch_dL_law_253 37 (299, .iaload, 1) rfl
theorem dL_law_300 : decode cL_law 300 = .ok (.invokevirtual 18, 3) := dch_decL dch_dL_law_253 38 (300, .invokevirtual 18, 3) rfl
theorem dL_law_303 : decode cL_law 303 = .ok (.pop, 1) := dch_decL dch_dL_law_253 39 (303, .pop, 1) rfl
theorem dch_dL_law_304 : ([(304, .aload_n 2, 1), (305, .aload_n 0, 1), (306, .iload_n 3, 1), (307, .iconst 1, 1), (308, .iadd, 1), (309, .iaload, 1), (310, .aload_n 0, 1), (311, .iload_n 3, 1), (312, .iconst 2, 1), (313, .iadd, 1), (314, .iaload, 1), (315, .aload_n 0, 1), (316, .iload_n 3, 1), (317, .iconst 3, 1), (318, .iadd, 1), (319, .iaload, 1), (320, .aload_n 0, 1), (321, .iload_n 3, 1), (322, .iconst 4, 1), (323, .iadd, 1), (324, .iaload, 1), (325, .invokevirtual 22, 3), (328, .pop, 1), (329, .goto 1172, 3), (332, .aload_n 1, 1), (333, .aload_n 0, 1), (334, .iload_n 3, 1), (335, .iconst 1, 1), (336, .iadd, 1), (337, .iaload, 1), (338, .aload_n 0, 1), (339, .iload_n 3, 1), (340, .iconst 2, 1), (341, .iadd, 1), (342, .iaload, 1), (343, .aload_n 0, 1), (344, .iload_n 3, 1), (345, .iconst 3, 1), (346, .iadd, 1), (347, .iaload, 1)] : List (Nat × (Instr × Nat))).all (fun r => decide (decode cL_law r.1 = .ok r.2)) = true := by decide +kernel
theorem dL_law_304 : decode cL_law 304 = .ok (.aload_n 2, 1) := dch_decL dch_dL_law_304 0 (304, .aload_n 2, 1) rfl
theorem dL_law_305 : decode cL_law 305 = .ok (.aload_n 0, 1) := dch_decL dch_dL_law_304 1 (305, .aload_n 0, 1) rfl
theorem dL_law_306 : decode cL_law 306 = .ok (.iload_n 3, 1) := dch_decL dch_dL_law_304 2 (306, .iload_n 3, 1) rfl
theorem dL_law_307 : decode cL_law 307 = .ok (.iconst 1, 1) := dch_decL dch_dL_law_304 3 (307, .iconst 1, 1) rfl
theorem dL_law_308 : decode cL_law 308 = .ok (.iadd, 1) := dch_decL dch_dL_law_304 4 (308, .iadd, 1) rfl
theorem dL_law_309 : decode cL_law 309 = .ok (.iaload, 1) := dch_decL dch_dL_law_304 5 (309, .iaload, 1) rfl
theorem dL_law_310 : decode cL_law 310 = .ok (.aload_n 0, 1) := dch_decL dch_dL_law_304 6 (310, .aload_n 0, 1) rfl
theorem dL_law_311 : decode cL_law 311 = .ok (.iload_n 3, 1) := dch_decL dch_dL_law_304 7 (311, .iload_n 3, 1) rfl
theorem dL_law_312 : decode cL_law 312 = .ok (.iconst 2, 1) := dch_decL dch_dL_law_304 8 (312, .iconst 2, 1) rfl
theorem dL_law_313 : decode cL_law 313 = .ok (.iadd, 1) := dch_decL dch_dL_law_304 9 (313, .iadd, 1) rfl
theorem dL_law_314 : decode cL_law 314 = .ok (.iaload, 1) := dch_decL dch_dL_law_304 10 (314, .iaload, 1) rfl
theorem dL_law_315 : decode cL_law 315 = .ok (.aload_n 0, 1) := dch_decL dch_dL_law_304 11 (315, .aload_n 0, 1) rfl
theorem dL_law_316 : decode cL_law 316 = .ok (.iload_n 3, 1) := dch_decL dch_dL_law_304 12 (316, .iload_n 3, 1) rfl
theorem dL_law_317 : decode cL_law 317 = .ok (.iconst 3, 1) := dch_decL dch_dL_law_304 13 (317, .iconst 3, 1) rfl
theorem dL_law_318 : decode cL_law 318 = .ok (.iadd, 1) := dch_decL dch_dL_law_304 14 (318, .iadd, 1) rfl
theorem dL_law_319 : decode cL_law 319 = .ok (.iaload, 1) := dch_decL dch_dL_law_304 15 (319, .iaload, 1) rfl
theorem dL_law_320 : decode cL_law 320 = .ok (.aload_n 0, 1) := dch_decL dch_dL_law_304 16 (320, .aload_n 0, 1) rfl
theorem dL_law_321 : decode cL_law 321 = .ok (.iload_n 3, 1) := dch_decL dch_dL_law_304 17 (321, .iload_n 3, 1) rfl
theorem dL_law_322 : decode cL_law 322 = .ok (.iconst 4, 1) := dch_decL dch_dL_law_304 18 (322, .iconst 4, 1) rfl
theorem dL_law_323 : decode cL_law 323 = .ok (.iadd, 1) := dch_decL dch_dL_law_304 19 (323, .iadd, 1) rfl
theorem dL_law_324 : decode cL_law 324 = .ok (.iaload, 1) := dch_decL dch_dL_law_304 20 (324, .iaload, 1) rfl
theorem dL_law_325 : decode cL_law 325 = .ok (.invokevirtual 22, 3) := dch_decL dch_dL_law_304 21 (325, .invokevirtual 22, 3) rfl
theorem dL_law_328 : decode cL_law 328 = .ok (.pop, 1) := dch_decL dch_dL_law_304 22 (328, .pop, 1) rfl
theorem dL_law_329 : decode cL_law 329 = .ok (.goto 1172, 3) := dch_decL dch_dL_law_304 23 (329, .goto 1172, 3) rfl
theorem dL_law_332 : decode cL_law 332 = .ok (.aload_n 1, 1) := dch_decL dch_dL_law_304 24 (332, .aload_n 1, 1) rfl
theorem dL_law_333 : decode cL_law 333 = .ok (.aload_n 0, 1) := dch_decL dch_dL_law_304 25 (333, .aload_n 0, 1) rfl
theorem dL_law_334 : decode cL_law 334 = .ok (.iload_n 3, 1) := dch_decL dch_dL_law_304 26 (334, .iload_n 3, 1) rfl
theorem dL_law_335 : decode cL_law 335 = .ok (.iconst 1, 1) := dch_decL dch_dL_law_304 27 (335, .iconst 1, 1) rfl
theorem dL_law_336 : decode cL_law 336 = .ok (.iadd, 1) := dch_decL dch_dL_law_304 28 (336, .iadd, 1) rfl
theorem dL_law_337 : decode cL_law 337 = .ok (.iaload, 1) := dch_decL dch_dL_law_304 29 (337, .iaload, 1) rfl
theorem dL_law_338 : decode cL_law 338 = .ok (.aload_n 0, 1) := dch_decL dch_dL_law_304 30 (338, .aload_n 0, 1) rfl
theorem dL_law_339 : decode cL_law 339 = .ok (.iload_n 3, 1) := dch_decL dch_dL_law_304 31 (339, .iload_n 3, 1) rfl
theorem dL_law_340 : decode cL_law 340 = .ok (.iconst 2, 1) := dch_decL dch_dL_law_304 32 (340, .iconst 2, 1) rfl
theorem dL_law_341 : decode cL_law 341 = .ok (.iadd, 1) := dch_decL dch_dL_law_304 33 (341, .iadd, 1) rfl
theorem dL_law_342 : decode cL_law 342 = .ok (.iaload, 1) := dch_decL dch_dL_law_304 34 (342, .iaload, 1) rfl
theorem dL_law_343 : decode cL_law 343 = .ok (.aload_n 0, 1) := dch_decL dch_dL_law_304 35 (343, .aload_n 0, 1) rfl
theorem dL_law_344 : decode cL_law 344 = .ok (.iload_n 3, 1) := dch_decL dch_dL_law_304 36 (344, .iload_n 3, 1) rfl
theorem dL_law_345 : decode cL_law 345 = .ok (.iconst 3, 1) := dch_decL dch_dL_law_304 37 (345, .iconst 3, 1) rfl
theorem dL_law_346 : decode cL_law 346 = .ok (.iadd, 1) := dch_decL dch_dL_law_304 38 (346, .iadd, 1) rfl
theorem dL_law_347 : decode cL_law 347 = .ok (.iaload, 1) := dch_decL dch_dL_law_304 39 (347, .iaload, 1) rfl
theorem dch_dL_law_348 : ([(348, .aload_n 0, 1), (349, .iload_n 3, 1), (350, .iconst 4, 1), (351, .iadd, 1), (352, .iaload, 1), (353, .aload_n 0, 1), (354, .iload_n 3, 1), (355, .iconst 5, 1), (356, .iadd, 1), (357, .iaload, 1), (358, .aload_n 0, 1), (359, .iload_n 3, 1), (360, .bipush 6, 2), (362, .iadd, 1), (363, .iaload, 1), (364, .invokevirtual 23, 3), (367, .aload_n 2, 1), (368, .aload_n 0, 1), (369, .iload_n 3, 1), (370, .iconst 1, 1), (371, .iadd, 1), (372, .iaload, 1), (373, .aload_n 0, 1), (374, .iload_n 3, 1), (375, .iconst 2, 1), (376, .iadd, 1), (377, .iaload, 1), (378, .aload_n 0, 1), (379, .iload_n 3, 1), (380, .iconst 3, 1), (381, .iadd, 1), (382, .iaload, 1), (383, .aload_n 0, 1), (384, .iload_n 3, 1), (385, .iconst 4, 1), (386, .iadd, 1), (387, .iaload, 1), (388, .aload_n 0, 1), (389, .iload_n 3, 1), (390, .iconst 5, 1)] : List (Nat × (Instr × Nat))).all (fun r => decide (decode cL_law r.1 = .ok r.2)) = true := by decide +kernel
theorem dL_law_348 : decode cL_law 348 = .ok (.aload_n 0, 1) := dch_decL dch_dL_law_348 0 (348, .aload_n 0, 1) rfl
theorem dL_law_349 : decode cL_law 349 = .ok (.iload_n 3, 1) := dch_decL dch_dL_law_348 1 (349, .iload_n 3, 1) rfl
theorem dL_law_350 : decode cL_law 350 = .ok (.iconst 4, 1) := dch_decL dch_dL_law_348 2 (350, .iconst 4, 1) rfl
theorem dL_law_351 : decode cL_law 351 = .ok (.iadd, 1) := dch_decL dch_dL_law_348 3 (351, .iadd, 1) rfl
theorem dL_law_352 : decode cL_law 352 = .ok (.iaload, 1) := dch_decL dch_dL_law_348 4 (352, .iaload, 1) rfl
theorem dL_law_353 : decode cL_law 353 = .ok (.aload_n 0, 1) := dch_decL dch_dL_law_348 5 (353, .aload_n 0, 1) rfl
theorem dL_law_354 : decode cL_law 354 = .ok (.iload_n 3, 1) := dch_decL dch_dL_law_348 6 (354, .iload_n 3, 1) rfl
theorem dL_law_355 : decode cL_law 355 = .ok (.iconst 5, 1) := dch_decL dch_dL_law_348 7 (355, .iconst 5, 1) rfl
theorem dL_law_356 : decode cL_law 356 = .ok (.iadd, 1) := dch_decL dch_dL_law_348 8 (356, .iadd, 1) rfl
theorem dL_law_357 : decode cL_law 357 = .ok (.iaload, 1) := dch_decL dch_dL_law_348 9 (357, .iaload, 1) rfl
theorem dL_law_358 : decode cL_law 358 = .ok (.aload_n 0, 1) := dch_decL dch_dL_law_348 10 (358, .aload_n 0, 1) rfl
theorem dL_law_359 : decode cL_law 359 = .ok (.iload_n 3, 1) := dch_decL dch_dL_law_348 11 (359, .iload_n 3, 1) rfl
theorem dL_law_360 : decode cL_law 360 = .ok (.bipush 6, 2) := dch_decL dch_dL_law_348 12 (360, .bipush 6, 2) rfl
theorem dL_law_362 : decode cL_law 362 = .ok (.iadd, 1) := dch_decL dch_dL_law_348 13 (362, .iadd, 1) rfl
theorem dL_law_363 : decode cL_law 363 = .ok (.iaload, 1) := dch_decL dch_dL_law_348 14 (363, .iaload, 1) rfl
theorem dL_law_364 : decode cL_law 364 = .ok (.invokevirtual 23, 3) := dch_decL dch_dL_law_348 15 (364, .invokevirtual 23, 3) rfl
theorem dL_law_367 : decode cL_law 367 = .ok (.aload_n 2, 1) := dch_decL dch_dL_law_348 16 (367, .aload_n 2, 1) rfl
theorem dL_law_368 : decode cL_law 368 = .ok (.aload_n 0, 1) := dch_decL dch_dL_law_348 17 (368, .aload_n 0, 1) rfl
theorem dL_law_369 : decode cL_law 369 = .ok (.iload_n 3, 1) := dch_decL dch_dL_law_348 18 (369, .iload_n 3, 1) rfl
theorem dL_law_370 : decode cL_law 370 = .ok (.iconst 1, 1) := dch_decL dch_dL_law_348 19 (370, .iconst 1, 1) rfl
theorem dL_law_371 : decode cL_law 371 = .ok (.iadd, 1) := dch_decL dch_dL_law_348 20 (371, .iadd, 1) rfl
theorem dL_law_372 : decode cL_law 372 = .ok (.iaload, 1) := dch_decL dch_dL_law_348 21 (372, .iaload, 1) rfl
theorem dL_law_373 : decode cL_law 373 = .ok (.aload_n 0, 1) := dch_decL dch_dL_law_348 22 (373, .aload_n 0, 1) rfl
theorem dL_law_374 : decode cL_law 374 = .ok (.iload_n 3, 1) := dch_decL dch_dL_law_348 23 (374, .iload_n 3, 1) rfl
theorem dL_law_375 : decode cL_law 375 = .ok (.iconst 2, 1) := dch_decL dch_dL_law_348 24 (375, .iconst 2, 1) rfl
theorem dL_law_376 : decode cL_law 376 = .ok (.iadd, 1) := dch_decL dch_dL_law_348 25 (376, .iadd, 1) rfl
theorem dL_law_377 : decode cL_law 377 = .ok (.iaload, 1) := dch_decL dch_dL_law_348 26 (377, .iaload, 1) rfl
theorem dL_law_378 : decode cL_law 378 = .ok (.aload_n 0, 1) := dch_decL dch_dL_law_348 27 (378, .aload_n 0, 1) rfl
theorem dL_law_379 : decode cL_law 379 = .ok (.iload_n 3, 1) := dch_decL dch_dL_law_348 28 (379, .iload_n 3, 1) rfl
theorem dL_law_380 : decode cL_law 380 = .ok (.iconst 3, 1) := dch_decL dch_dL_law_348 29 (380, .iconst 3, 1) rfl
theorem dL_law_381 : decode cL_law 381 = .ok (.iadd, 1) := dch_decL dch_dL_law_348 30 (381, .iadd, 1) rfl
theorem dL_law_382 : decode cL_law 382 = .ok (.iaload, 1) := dch_decL dch_dL_law_348 31 (382, .iaload, 1) rfl
theorem dL_law_383 : decode cL_law 383 = .ok (.aload_n 0, 1) := dch_decL dch_dL_law_348 32 (383, .aload_n 0, 1) rfl
theorem dL_law_384 : decode cL_law 384 = .ok (.iload_n 3, 1) := dch_decL dch_dL_law_348 33 (384, .iload_n 3, 1) rfl
theorem dL_law_385 : decode cL_law 385 = .ok (.iconst 4, 1) := dch_decL dch_dL_law_348 34 (385, .iconst 4, 1) rfl
theorem dL_law_386 : decode cL_law 386 = .ok (.iadd, 1) := dch_decL dch_dL_law_348 35 (386, .iadd, 1) rfl
theorem dL_law_387 : decode cL_law 387 = .ok (.iaload, 1) := dch_decL dch_dL_law_348 36 (387, .iaload, 1) rfl
theorem dL_law_388 : decode cL_law 388 = .ok (.aload_n 0, 1) := dch_decL dch_dL_law_348 37 (388, .aload_n 0, 1) rfl
theorem dL_law_389 : decode cL_law 389 = .ok (.iload_n 3, 1) := dch_decL dch_dL_law_348 38 (389, .iload_n 3, 1) rfl
theorem dL_law_390 : decode cL_law 390 = .ok (.iconst 5, 1) := dch_decL dch_dL_law_348 39 (390, .iconst 5, 1) rfl
theorem dch_dL_law_391 : ([(391, .iadd, 1), (392, .iaload, 1), (393, .aload_n 0, 1), (394, .iload_n 3, 1), (395, .bipush 6, 2), (397, .iadd, 1), (398, .iaload, 1), (399, .invokevirtual 27, 3), (402, .if_icmp .eq 1099, 3), (405, .iconst 0, 1), (406, .ireturn, 1), (407, .aload_n 1, 1), (408, .aload_n 0, 1), (409, .iload_n 3, 1), (410, .iconst 1, 1), (411, .iadd, 1), (412, .iaload, 1), (413, .aload_n 0, 1), (414, .iload_n 3, 1), (415, .iconst 2, 1), (416, .iadd, 1), (417, .iaload, 1), (418, .aload_n 0, 1), (419, .iload_n 3, 1), (420, .iconst 3, 1), (421, .iadd, 1), (422, .iaload, 1), (423, .aload_n 0, 1), (424, .iload_n 3, 1), (425, .iconst 4, 1), (426, .iadd, 1), (427, .iaload, 1), (428, .aload_n 0, 1), (429, .iload_n 3, 1), (430, .iconst 5, 1), (431, .iadd, 1), (432, .iaload, 1), (433, .aload_n 0, 1), (434, .iload_n 3, 1), (435, .bipush 6, 2)] : List (Nat × (Instr × Nat))).all (fun r => decide (decode cL_law r.1 = .ok r.2)) = true := by decide +kernel
theorem dL_law_391 : decode cL_law 391 = .ok (.iadd, 1) := dch_decL dch_dL_law_391 0 (391, .iadd, 1) rfl
theorem dL_law_392 : decode cL_law 392 = .ok (.iaload, 1) := dch_decL dch_dL_law_391 1 (392, .iaload, 1) rfl
theorem dL_law_393 : decode cL_law 393 = .ok (.aload_n 0, 1) := dch_decL dch_dL_law_391 2 (393, .aload_n 0, 1) rfl
theorem dL_law_394 : decode cL_law 394 = .ok (.iload_n 3, 1) := dch_decL dch_dL_law_391 3 (394, .iload_n 3, 1) rfl
theorem dL_law_395 : decode cL_law 395 = .ok (.bipush 6, 2) := dch_decL dch_dL_law_391 4 (395, .bipush 6, 2) rfl
theorem dL_law_397 : decode cL_law 397 = .ok (.iadd, 1) := dch_decL dch_dL_law_391 5 (397, .iadd, 1) rfl
theorem dL_law_398 : decode cL_law 398 = .ok (.iaload, 1) := dch_decL dch_dL_law_391 6 (398, .iaload, 1) rfl
theorem dL_law_399 : decode cL_law 399 = .ok (.invokevirtual 27, 3) := dch_decL dch_dL_law_391 7 (399, .invokevirtual 27, 3) rfl
theorem dL_law_402 : decode cL_law 402 = .ok (.if_icmp .eq 1099, 3) := dch_decL dch_dL_law_391 8 (402, .if_icmp .eq 1099, 3) rfl
theorem dL_law_407 : decode cL_law 407 = .ok (.aload_n 1, 1) := dch_decL dch_dL_law_391 11 (407, .aload_n 1, 1) rfl
theorem dL_law_408 : decode cL_law 408 = .ok (.aload_n 0, 1) := dch_decL dch_dL_law_391 12 (408, .aload_n 0, 1) rfl
theorem dL_law_409 : decode cL_law 409 = .ok (.iload_n 3, 1) := dch_decL dch_dL_law_391 13 (409, .iload_n 3, 1) rfl
theorem dL_law_410 : decode cL_law 410 = .ok (.iconst 1, 1) := dch_decL dch_dL_law_391 14 (410, .iconst 1, 1) rfl
theorem dL_law_411 : decode cL_law 411 = .ok (.iadd, 1) := dch_decL dch_dL_law_391 15 (411, .iadd, 1) rfl
theorem dL_law_412 : decode cL_law 412 = .ok (.iaload, 1) := dch_decL dch_dL_law_391 16 (412, .iaload, 1) rfl
theorem dL_law_413 : decode cL_law 413 = .ok (.aload_n 0, 1) := dch_decL dch_dL_law_391 17 (413, .aload_n 0, 1) rfl
theorem dL_law_414 : decode cL_law 414 = .ok (.iload_n 3, 1) := dch_decL dch_dL_law_391 18 (414, .iload_n 3, 1) rfl
theorem dL_law_415 : decode cL_law 415 = .ok (.iconst 2, 1) := dch_decL dch_dL_law_391 19 (415, .iconst 2, 1) rfl
theorem dL_law_416 : decode cL_law 416 = .ok (.iadd, 1) := dch_decL dch_dL_law_391 20 (416, .iadd, 1) rfl
theorem dL_law_417 : decode cL_law 417 = .ok (.iaload, 1) := dch_decL dch_dL_law_391 21 (417, .iaload, 1) rfl
theorem dL_law_418 : decode cL_law 418 = .ok (.aload_n 0, 1) := dch_decL dch_dL_law_391 22 (418, .aload_n 0, 1) rfl
theorem dL_law_419 : decode cL_law 419 = .ok (.iload_n 3, 1) := dch_decL dch_dL_law_391 23 (419, .iload_n 3, 1) rfl
theorem dL_law_420 : decode cL_law 420 = .ok (.iconst 3, 1) := dch_decL dch_dL_law_391 24 (420, .iconst 3, 1) rfl
theorem dL_law_421 : decode cL_law 421 = .ok (.iadd, 1) := dch_decL dch_dL_law_391 25 (421, .iadd, 1) rfl
theorem dL_law_422 : decode cL_law 422 = .ok (.iaload, 1) := dch_decL dch_dL_law_391 26 (422, .iaload, 1) rfl
theorem dL_law_423 : decode cL_law 423 = .ok (.aload_n 0, 1) := dch_decL dch_dL_law_391 27 (423, .aload_n 0, 1) rfl
theorem dL_law_424 : decode cL_law 424 = .ok (.iload_n 3, 1) := dch_decL dch_dL_law_391 28 (424, .iload_n 3, 1) rfl
theorem dL_law_425 : decode cL_law 425 = .ok (.iconst 4, 1) := dch_decL dch_dL_law_391 29 (425, .iconst 4, 1) rfl
theorem dL_law_426 : decode cL_law 426 = .ok (.iadd, 1) := dch_decL dch_dL_law_391 30 (426, .iadd, 1) rfl
theorem dL_law_427 : decode cL_law 427 = .ok (.iaload, 1) := dch_decL dch_dL_law_391 31 (427, .iaload, 1) rfl
theorem dL_law_428 : decode cL_law 428 = .ok (.aload_n 0, 1) := dch_decL dch_dL_law_391 32 (428, .aload_n 0, 1) rfl
theorem dL_law_429 : decode cL_law 429 = .ok (.iload_n 3, 1) := dch_decL dch_dL_law_391 33 (429, .iload_n 3, 1) rfl
theorem dL_law_430 : decode cL_law 430 = .ok (.iconst 5, 1) := dch_decL dch_dL_law_391 34 (430, .iconst 5, 1) rfl
theorem dL_law_431 : decode cL_law 431 = .ok (.iadd, 1) := dch_decL dch_dL_law_391 35 (431, .iadd, 1) rfl
theorem dL_law_432 : decode cL_law 432 = .ok (.iaload, 1) := dch_decL dch_dL_law_391 36 (432, .iaload, 1) rfl
theorem dL_law_433 : decode cL_law 433 = .ok (.aload_n 0, 1) := dch_decL dch_dL_law_391 37 (433, .aload_n 0, 1) rfl
theorem dL_law_434 : decode cL_law 434 = .ok (.iload_n 3, 1) := dch_decL dch_dL_law_391 38 (434, .iload_n 3, 1) rfl
theorem dL_law_435 : decode cL_law 435 = .ok (.bipush 6, 2) := dch_decL dch_dL_law_391 39 (435, .bipush 6, 2) rfl
theorem dch_dL_law_437 : ([(437, .iadd, 1), (438, .iaload, 1), (439, .invokevirtual 28, 3), (442, .pop, 1), (443, .aload_n 2, 1), (444, .aload_n 0, 1), (445, .iload_n 3, 1), (446, .iconst 1, 1), (447, .iadd, 1), (448, .iaload, 1), (449, .aload_n 0, 1), (450, .iload_n 3, 1), (451, .iconst 2, 1), (452, .iadd, 1), (453, .iaload, 1), (454, .aload_n 0, 1), (455, .iload_n 3, 1), (456, .iconst 3, 1), (457, .iadd, 1), (458, .iaload, 1), (459, .aload_n 0, 1), (460, .iload_n 3, 1), (461, .iconst 4, 1), (462, .iadd, 1), (463, .iaload, 1), (464, .aload_n 0, 1), (465, .iload_n 3, 1), (466, .iconst 5, 1), (467, .iadd, 1), (468, .iaload, 1), (469, .aload_n 0, 1), (470, .iload_n 3, 1), (471, .bipush 6, 2), (473, .iadd, 1), (474, .iaload, 1), (475, .invokevirtual 31, 3), (478, .pop, 1), (479, .goto 1022, 3), (482, .aload_n 1, 1), (483, .aload_n 0, 1)] : List (Nat × (Instr × Nat))).all (fun r => decide (decode cL_law r.1 = .ok r.2)) = true := by decide +kernel
theorem dL_law_437 : decode cL_law 437 = .ok (.iadd, 1) := dch_decL dch_dL_law_437 0 (437, .iadd, 1) rfl
theorem dL_law_438 : decode cL_law 438 = .ok (.iaload, 1) := dch_decL dch_dL_law_437 1 (438, .iaload, 1) rfl
theorem dL_law_439 : decode cL_law 439 = .ok (.invokevirtual 28, 3) := dch_decL dch_dL_law_437 2 (439, .invokevirtual 28, 3) rfl
theorem dL_law_442 : decode cL_law 442 = .ok (.pop, 1) := dch_decL dch_dL_law_437 3 (442, .pop, 1) rfl
theorem dL_law_443 : decode cL_law 443 = .ok (.aload_n 2, 1) := dch_decL dch_dL_law_437 4 (443, .aload_n 2, 1) rfl
theorem dL_law_444 : decode cL_law 444 = .ok (.aload_n 0, 1) := dch_decL dch_dL_law_437 5 (444, .aload_n 0, 1) rfl
theorem dL_law_445 : decode cL_law 445 = .ok (.iload_n 3, 1) := dch_decL dch_dL_law_437 6 (445, .iload_n 3, 1) rfl
theorem dL_law_446 : decode cL_law 446 = .ok (.iconst 1, 1) := dch_decL dch_dL_law_437 7 (446, .iconst 1, 1) rfl
theorem dL_law_447 : decode cL_law 447 = .ok (.iadd, 1) := dch_decL dch_dL_law_437 8 (447, .iadd, 1) rfl
theorem dL_law_448 : decode cL_law 448 = .ok (.iaload, 1) := dch_decL dch_dL_law_437 9 (448, .iaload, 1) rfl
theorem dL_law_449 : decode cL_law 449 = .ok (.aload_n 0, 1) := dch_decL dch_dL_law_437 10 (449, .aload_n 0, 1) rfl
theorem dL_law_450 : decode cL_law 450 = .ok (.iload_n 3, 1) := dch_decL dch_dL_law_437 11 (450, .iload_n 3, 1) rfl
theorem dL_law_451 : decode cL_law 451 = .ok (.iconst 2, 1) := dch_decL dch_dL_law_437 12 (451, .iconst 2, 1) rfl
theorem dL_law_452 : decode cL_law 452 = .ok (.iadd, 1) := dch_decL dch_dL_law_437 13 (452, .iadd, 1) rfl
theorem dL_law_453 : decode cL_law 453 = .ok (.iaload, 1) := dch_decL dch_dL_law_437 14 (453, .iaload, 1) rfl
theorem dL_law_454 : decode cL_law 454 = .ok (.aload_n 0, 1) := dch_decL dch_dL_law_437 15 (454, .aload_n 0, 1) rfl
theorem dL_law_455 : decode cL_law 455 = .ok (.iload_n 3, 1) := dch_decL dch_dL_law_437 16 (455, .iload_n 3, 1) rfl
theorem dL_law_456 : decode cL_law 456 = .ok (.iconst 3, 1) := dch_decL dch_dL_law_437 17 (456, .iconst 3, 1) rfl
theorem dL_law_457 : decode cL_law 457 = .ok (.iadd, 1) := dch_decL dch_dL_law_437 18 (457, .iadd, 1) rfl
theorem dL_law_458 : decode cL_law 458 = .ok (.iaload, 1) := dch_decL dch_dL_law_437 19 (458, .iaload, 1) rfl
theorem dL_law_459 : decode cL_law 459 = .ok (.aload_n 0, 1) := dch_decL dch_dL_law_437 20 (459, .aload_n 0, 1) rfl
theorem dL_law_460 : decode cL_law 460 = .ok (.iload_n 3, 1) := dch_decL dch_dL_law_437 21 (460, .iload_n 3, 1) rfl
theorem dL_law_461 : decode cL_law 461 = .ok (.iconst 4, 1) := dch_decL dch_dL_law_437 22 (461, .iconst 4, 1) rfl
theorem dL_law_462 : decode cL_law 462 = .ok (.iadd, 1) := dch_decL dch_dL_law_437 23 (462, .iadd, 1) rfl
theorem dL_law_463 : decode cL_law 463 = .ok (.iaload, 1) := dch_decL dch_dL_law_437 24 (463, .iaload, 1) rfl
theorem dL_law_464 : decode cL_law 464 = .ok (.aload_n 0, 1) := dch_decL dch_dL_law_437 25 (464, .aload_n 0, 1) rfl
theorem dL_law_465 : decode cL_law 465 = .ok (.iload_n 3, 1) := dch_decL dch_dL_law_437 26 (465, .iload_n 3, 1) rfl
theorem dL_law_466 : decode cL_law 466 = .ok (.iconst 5, 1) := dch_decL dch_dL_law_437 27 (466, .iconst 5, 1) rfl
theorem dL_law_467 : decode cL_law 467 = .ok (.iadd, 1) := dch_decL dch_dL_law_437 28 (467, .iadd, 1) rfl
theorem dL_law_468 : decode cL_law 468 = .ok (.iaload, 1) := dch_decL dch_dL_law_437 29 (468, .iaload, 1) rfl
theorem dL_law_469 : decode cL_law 469 = .ok (.aload_n 0, 1) := dch_decL dch_dL_law_437 30 (469, .aload_n 0, 1) rfl
theorem dL_law_470 : decode cL_law 470 = .ok (.iload_n 3, 1) := dch_decL dch_dL_law_437 31 (470, .iload_n 3, 1) rfl
theorem dL_law_471 : decode cL_law 471 = .ok (.bipush 6, 2) := dch_decL dch_dL_law_437 32 (471, .bipush 6, 2) rfl
theorem dL_law_473 : decode cL_law 473 = .ok (.iadd, 1) := dch_decL dch_dL_law_437 33 (473, .iadd, 1) rfl
theorem dL_law_474 : decode cL_law 474 = .ok (.iaload, 1) := dch_decL dch_dL_law_437 34 (474, .iaload, 1) rfl
theorem dL_law_475 : decode cL_law 475 = .ok (.invokevirtual 31, 3) := dch_decL dch_dL_law_437 35 (475, .invokevirtual 31, 3) rfl
theorem dL_law_478 : decode cL_law 478 = .ok (.pop, 1) := dch_decL dch_dL_law_437 36 (478, .pop, 1) rfl
theorem dL_law_479 : decode cL_law 479 = .ok (.goto 1022, 3) := dch_decL dch_dL_law_437 37 (479, .goto 1022, 3) rfl
theorem dL_law_482 : decode cL_law 482 = .ok (.aload_n 1, 1) := dch_decL dch_dL_law_437 38 (482, .aload_n 1, 1) rfl
theorem dL_law_483 : decode cL_law 483 = .ok (.aload_n 0, 1) := dch_decL dch_dL_law_437 39 (483, .aload_n 0, 1) rfl
theorem dch_dL_law_484 : ([(484, .iload_n 3, 1), (485, .iconst 1, 1), (486, .iadd, 1), (487, .iaload, 1), (488, .aload_n 0, 1), (489, .iload_n 3, 1), (490, .iconst 2, 1), (491, .iadd, 1), (492, .iaload, 1), (493, .aload_n 0, 1), (494, .iload_n 3, 1), (495, .iconst 3, 1), (496, .iadd, 1), (497, .iaload, 1), (498, .aload_n 0, 1), (499, .iload_n 3, 1), (500, .iconst 4, 1), (501, .iadd, 1), (502, .iaload, 1), (503, .aload_n 0, 1), (504, .iload_n 3, 1), (505, .iconst 5, 1), (506, .iadd, 1), (507, .iaload, 1), (508, .invokevirtual 32, 3), (511, .pop, 1), (512, .aload_n 2, 1), (513, .aload_n 0, 1), (514, .iload_n 3, 1), (515, .iconst 1, 1), (516, .iadd, 1), (517, .iaload, 1), (518, .aload_n 0, 1), (519, .iload_n 3, 1), (520, .iconst 2, 1), (521, .iadd, 1), (522, .iaload, 1), (523, .aload_n 0, 1), (524, .iload_n 3, 1), (525, .iconst 3, 1)] : List (Nat × (Instr × Nat))).all (fun r => decide (decode cL_law r.1 = .ok r.2)) = true := by decide +kernel
theorem dL_law_484 : decode cL_law 484 = .ok (.iload_n 3, 1) := dch_decL dch_dL_law_484 0 (484, .iload_n 3, 1) rfl
theorem dL_law_485 : decode cL_law 485 = .ok (.iconst 1, 1) := dch_decL dch_dL_law_484 1 (485, .iconst 1, 1) rfl
theorem dL_law_486 : decode cL_law 486 = .ok (.iadd, 1) := dch_decL dch_dL_law_484 2 (486, .iadd, 1) rfl
theorem dL_law_487 : decode cL_law 487 = .ok (.iaload, 1) := dch_decL dch_dL_law_484 3 (487, .iaload, 1) rfl
theorem dL_law_488 : decode cL_law 488 = .ok (.aload_n 0, 1) := dch_decL dch_dL_law_484 4 (488, .aload_n 0, 1) rfl
theorem dL_law_489 : decode cL_law 489 = .ok (.iload_n 3, 1) := dch_decL dch_dL_law_484 5 (489, .iload_n 3, 1) rfl
theorem dL_law_490 : decode cL_law 490 = .ok (.iconst 2, 1) := dch_decL dch_dL_law_484 6 (490, .iconst 2, 1) rfl
theorem dL_law_491 : decode cL_law 491 = .ok (.iadd, 1) := dch_decL dch_dL_law_484 7 (491, .iadd, 1) rfl
theorem dL_law_492 : decode cL_law 492 = .ok (.iaload, 1) := dch_decL dch_dL_law_484 8 (492, .iaload, 1) rfl
theorem dL_law_493 : decode cL_law 493 = .ok (.aload_n 0, 1) := dch_decL dch_dL_law_484 9 (493, .aload_n 0, 1) rfl
theorem dL_law_494 : decode cL_law 494 = .ok (.iload_n 3, 1) := dch_decL dch_dL_law_484 10 (494, .iload_n 3, 1) rfl
theorem dL_law_495 : decode cL_law 495 = .ok (.iconst 3, 1) := dch_decL dch_dL_law_484 11 (495, .iconst 3, 1) rfl
theorem dL_law_496 : decode cL_law 496 = .ok (.iadd, 1) := dch_decL dch_dL_law_484 12 (496, .iadd, 1) rfl
theorem dL_law_497 : decode cL_law 497 = .ok (.iaload, 1) := dch_decL dch_dL_law_484 13 (497, .iaload, 1) rfl
theorem dL_law_498 : decode cL_law 498 = .ok (.aload_n 0, 1) := dch_decL dch_dL_law_484 14 (498, .aload_n 0, 1) rfl
theorem dL_law_499 : decode cL_law 499 = .ok (.iload_n 3, 1) := dch_decL dch_dL_law_484 15 (499, .iload_n 3, 1) rfl
theorem dL_law_500 : decode cL_law 500 = .ok (.iconst 4, 1) := dch_decL dch_dL_law_484 16 (500, .iconst 4, 1) rfl
theorem dL_law_501 : decode cL_law 501 = .ok (.iadd, 1) := dch_decL dch_dL_law_484 17 (501, .iadd, 1) rfl
theorem dL_law_502 : decode cL_law 502 = .ok (.iaload, 1) := dch_decL dch_dL_law_484 18 (502, .iaload, 1) rfl
theorem dL_law_503 : decode cL_law 503 = .ok (.aload_n 0, 1) := dch_decL dch_dL_law_484 19 (503, .aload_n 0, 1) rfl
theorem dL_law_504 : decode cL_law 504 = .ok (.iload_n 3, 1) := dch_decL dch_dL_law_484 20 (504, .iload_n 3, 1) rfl
theorem dL_law_505 : decode cL_law 505 = .ok (.iconst 5, 1) := dch_decL dch_dL_law_484 21 (505, .iconst 5, 1) rfl
theorem dL_law_506 : decode cL_law 506 = .ok (.iadd, 1) := dch_decL dch_dL_law_484 22 (506, .iadd, 1) rfl
theorem dL_law_507 : decode cL_law 507 = .ok (.iaload, 1) := dch_decL dch_dL_law_484 23 (507, .iaload, 1) rfl
theorem dL_law_508 : decode cL_law 508 = .ok (.invokevirtual 32, 3) := dch_decL dch_dL_law_484 24 (508, .invokevirtual 32, 3) rfl
theorem dL_law_511 : decode cL_law 511 = .ok (.pop, 1) := dch_decL dch_dL_law_484 25 (511, .pop, 1) rfl
theorem dL_law_512 : decode cL_law 512 = .ok (.aload_n 2, 1) := dch_decL dch_dL_law_484 26 (512, .aload_n 2, 1) rfl
theorem dL_law_513 : decode cL_law 513 = .ok (.aload_n 0, 1) := dch_decL dch_dL_law_484 27 (513, .aload_n 0, 1) rfl
theorem dL_law_514 : decode cL_law 514 = .ok (.iload_n 3, 1) := dch_decL dch_dL_law_484 28 (514, .iload_n 3, 1) rfl
theorem dL_law_515 : decode cL_law 515 = .ok (.iconst 1, 1) := dch_decL dch_dL_law_484 29 (515, .iconst 1, 1) rfl
theorem dL_law_516 : decode cL_law 516 = .ok (.iadd, 1) := dch_decL dch_dL_law_484 30 (516, .iadd, 1) rfl
theorem dL_law_517 : decode cL_law 517 = .ok (.iaload, 1) := dch_decL dch_dL_law_484 31 (517, .iaload, 1) rfl
theorem dL_law_518 : decode cL_law 518 = .ok (.aload_n 0, 1) := dch_decL dch_dL_law_484 32 (518, .aload_n 0, 1) rfl
theorem dL_law_519 : decode cL_law 519 = .ok (.iload_n 3, 1) := dch_decL dch_dL_law_484 33 (519, .iload_n 3, 1) rfl
theorem dL_law_520 : decode cL_law 520 = .ok (.iconst 2, 1) := dch_decL dch_dL_law_484 34 (520, .iconst 2, 1) rfl
theorem dL_law_521 : decode cL_law 521 = .ok (.iadd, 1) := dch_decL dch_dL_law_484 35 (521, .iadd, 1) rfl
theorem dL_law_522 : decode cL_law 522 = .ok (.iaload, 1) := dch_decL dch_dL_law_484 36 (522, .iaload, 1) rfl
theorem dL_law_523 : decode cL_law 523 = .ok (.aload_n 0, 1) := dch_decL dch_dL_law_484 37 (523, .aload_n 0, 1) rfl
theorem dL_law_524 : decode cL_law 524 = .ok (.iload_n 3, 1) := dch_decL dch_dL_law_484 38 (524, .iload_n 3, 1) rfl
theorem dL_law_525 : decode cL_law 525 = .ok (.iconst 3, 1) := dch_decL dch_dL_law_484 39 (525, .iconst 3, 1) rfl
theorem dch_dL_law_526 : ([(526, .iadd, 1), (527, .iaload, 1), (528, .aload_n 0, 1), (529, .iload_n 3, 1), (530, .iconst 4, 1), (531, .iadd, 1), (532, .iaload, 1), (533, .aload_n 0, 1), (534, .iload_n 3, 1), (535, .iconst 5, 1), (536, .iadd, 1), (537, .iaload, 1), (538, .invokevirtual 36, 3), (541, .pop, 1), (542, .goto 959, 3), (545, .aload_n 1, 1), (546, .aload_n 0, 1), (547, .iload_n 3, 1), (548, .iconst 1, 1), (549, .iadd, 1), (550, .iaload, 1), (551, .i2l, 1), (552, .bipush 32, 2), (554, .lshl, 1), (555, .aload_n 0, 1), (556, .iload_n 3, 1), (557, .iconst 2, 1), (558, .iadd, 1), (559, .iaload, 1), (560, .i2l, 1), (561, .ldc2_w 37, 3), (564, .land, 1), (565, .lor, 1), (566, .aload_n 0, 1), (567, .iload_n 3, 1), (568, .iconst 3, 1), (569, .iadd, 1), (570, .iaload, 1), (571, .invokevirtual 39, 3), (574, .pop, 1)] : List (Nat × (Instr × Nat))).all (fun r => decide (decode cL_law r.1 = .ok r.2)) = true := by decide +kernel
theorem dL_law_526 : decode cL_law 526 = .ok (.iadd, 1) := dch_decL dch_dL_law_526 0 (526, .iadd, 1) rfl
theorem dL_law_527 : decode cL_law 527 = .ok (.iaload, 1) := dch_decL dch_dL_law_526 1 (527, .iaload, 1) rfl
theorem dL_law_528 : decode cL_law 528 = .ok (.aload_n 0, 1) := dch_decL dch_dL_law_526 2 (528, .aload_n 0, 1) rfl
theorem dL_law_529 : decode cL_law 529 = .ok (.iload_n 3, 1) := dch_decL dch_dL_law_526 3 (529, .iload_n 3, 1) rfl
theorem dL_law_530 : decode cL_law 530 = .ok (.iconst 4, 1) := dch_decL dch_dL_law_526 4 (530, .iconst 4, 1) rfl
theorem dL_law_531 : decode cL_law 531 = .ok (.iadd, 1) := dch_decL dch_dL_law_526 5 (531, .iadd, 1) rfl
theorem dL_law_532 : decode cL_law 532 = .ok (.iaload, 1) := dch_decL dch_dL_law_526 6 (532, .iaload, 1) rfl
theorem dL_law_533 : decode cL_law 533 = .ok (.aload_n 0, 1) := dch_decL dch_dL_law_526 7 (533, .aload_n 0, 1) rfl
theorem dL_law_534 : decode cL_law 534 = .ok (.iload_n 3, 1) := dch_decL dch_dL_law_526 8 (534, .iload_n 3, 1) rfl
theorem dL_law_535 : decode cL_law 535 = .ok (.iconst 5, 1) := dch_decL dch_dL_law_526 9 (535, .iconst 5, 1) rfl
theorem dL_law_536 : decode cL_law 536 = .ok (.iadd, 1) := dch_decL dch_dL_law_526 10 (536, .iadd, 1) rfl
theorem dL_law_537 : decode cL_law 537 = .ok (.iaload, 1) := dch_decL dch_dL_law_526 11 (537, .iaload, 1) rfl
theorem dL_law_538 : decode cL_law 538 = .ok (.invokevirtual 36, 3) := dch_decL dch_dL_law_526 12 (538, .invokevirtual 36, 3) rfl
theorem dL_law_541 : decode cL_law 541 = .ok (.pop, 1) := dch_decL dch_dL_law_526 13 (541, .pop, 1) rfl
theorem dL_law_542 : decode cL_law 542 = .ok (.goto 959, 3) := dch_decL dch_dL_law_526 14 (542, .goto 959, 3) rfl
theorem dL_law_545 : decode cL_law 545 = .ok (.aload_n 1, 1) := dch_decL dch_dL_law_526 15 (545, .aload_n 1, 1) rfl
theorem dL_law_546 : decode cL_law 546 = .ok (.aload_n 0, 1) := dch_decL dch_dL_law_526 16 (546, .aload_n 0, 1) rfl
theorem dL_law_547 : decode cL_law 547 = .ok (.iload_n 3, 1) := dch_decL dch_dL_law_526 17 (547, .iload_n 3, 1) rfl
theorem dL_law_548 : decode cL_law 548 = .ok (.iconst 1, 1) := dch_decL dch_dL_law_526 18 (548, .iconst 1, 1) rfl
theorem dL_law_549 : decode cL_law 549 = .ok (.iadd, 1) := dch_decL dch_dL_law_526 19 (549, .iadd, 1) rfl
theorem dL_law_550 : decode cL_law 550 = .ok (.iaload, 1) := dch_decL dch_dL_law_526 20 (550, .iaload, 1) rfl
theorem dL_law_551 : decode cL_law 551 = .ok (.i2l, 1) := dch_decL dch_dL_law_526 21 (551, .i2l, 1) rfl
theorem dL_law_552 : decode cL_law 552 = .ok (.bipush 32, 2) := dch_decL dch_dL_law_526 22 (552, .bipush 32, 2) rfl
theorem dL_law_554 : decode cL_law 554 = .ok (.lshl, 1) := dch_decL dch_dL_law_526 23 (554, .lshl, 1) rfl
theorem dL_law_555 : decode cL_law 555 = .ok (.aload_n 0, 1) := dch_decL dch_dL_law_526 24 (555, .aload_n 0, 1) rfl
theorem dL_law_556 : decode cL_law 556 = .ok (.iload_n 3, 1) := dch_decL dch_dL_law_526 25 (556, .iload_n 3, 1) rfl
theorem dL_law_557 : decode cL_law 557 = .ok (.iconst 2, 1) := dch_decL dch_dL_law_526 26 (557, .iconst 2, 1) rfl
theorem dL_law_558 : decode cL_law 558 = .ok (.iadd, 1) := dch_decL dch_dL_law_526 27 (558, .iadd, 1) rfl
theorem dL_law_559 : decode cL_law 559 = .ok (.iaload, 1) := dch_decL dch_dL_law_526 28 (559, .iaload, 1) rfl
theorem dL_law_560 : decode cL_law 560 = .ok (.i2l, 1) := dch_decL dch_dL_law_526 29 (560, .i2l, 1) rfl
theorem dL_law_561 : decode cL_law 561 = .ok (.ldc2_w 37, 3) := dch_decL dch_dL_law_526 30 (561, .ldc2_w 37, 3) rfl
theorem dL_law_564 : decode cL_law 564 = .ok (.land, 1) := dch_decL dch_dL_law_526 31 (564, .land, 1) rfl
theorem dL_law_565 : decode cL_law 565 = .ok (.lor, 1) := dch_decL dch_dL_law_526 32 (565, .lor, 1) rfl
theorem dL_law_566 : decode cL_law 566 = .ok (.aload_n 0, 1) := dch_decL dch_dL_law_526 33 (566, .aload_n 0, 1) rfl
theorem dL_law_567 : decode cL_law 567 = .ok (.iload_n 3, 1) := dch_decL dch_dL_law_526 34 (567, .iload_n 3, 1) rfl
theorem dL_law_568 : decode cL_law 568 = .ok (.iconst 3, 1) := dch_decL dch_dL_law_526 35 (568, .iconst 3, 1) rfl
theorem dL_law_569 : decode cL_law 569 = .ok (.iadd, 1) := dch_decL dch_dL_law_526 36 (569, .iadd, 1) rfl
theorem dL_law_570 : decode cL_law 570 = .ok (.iaload, 1) := dch_decL dch_dL_law_526 37 (570, .iaload, 1) rfl
theorem dL_law_571 : decode cL_law 571 = .ok (.invokevirtual 39, 3) := dch_decL dch_dL_law_526 38 (571, .invokevirtual 39, 3) rfl
theorem dL_law_574 : decode cL_law 574 = .ok (.pop, 1) := dch_decL dch_dL_law_526 39 (574, .pop, 1) rfl
theorem dch_dL_law_575 : ([(575, .aload_n 2, 1), (576, .aload_n 0, 1), (577, .iload_n 3, 1), (578, .iconst 1, 1), (579, .iadd, 1), (580, .iaload, 1), (581, .i2l, 1), (582, .bipush 32, 2), (584, .lshl, 1), (585, .aload_n 0, 1), (586, .iload_n 3, 1), (587, .iconst 2, 1), (588, .iadd, 1), (589, .iaload, 1), (590, .i2l, 1), (591, .ldc2_w 37, 3), (594, .land, 1), (595, .lor, 1), (596, .aload_n 0, 1), (597, .iload_n 3, 1), (598, .iconst 3, 1), (599, .iadd, 1), (600, .iaload, 1), (601, .invokevirtual 43, 3), (604, .pop, 1), (605, .goto 896, 3), (608, .aload_n 1, 1), (609, .invokevirtual 44, 3), (612, .pop, 1), (613, .aload_n 2, 1), (614, .invokevirtual 48, 3), (617, .pop, 1), (618, .goto 883, 3), (621, .aload_n 1, 1), (622, .aload_n 0, 1), (623, .iload_n 3, 1), (624, .iconst 1, 1), (625, .iadd, 1), (626, .iaload, 1), (627, .aload_n 0, 1)] : List (Nat × (Instr × Nat))).all (fun r => decide (decode cL_law r.1 = .ok r.2)) = true := by decide +kernel
theorem dL_law_575 : decode cL_law 575 = .ok (.aload_n 2, 1) := dch_decL dch_dL_law_575 0 (575, .aload_n 2, 1) rfl
theorem dL_law_576 : decode cL_law 576 = .ok (.aload_n 0, 1) := dch_decL dch_dL_law_575 1 (576, .aload_n 0, 1) rfl
theorem dL_law_577 : decode cL_law 577 = .ok (.iload_n 3, 1) := dch_decL dch_dL_law_575 2 (577, .iload_n 3, 1) rfl
theorem dL_law_578 : decode cL_law 578 = .ok (.iconst 1, 1) := dch_decL dch_dL_law_575 3 (578, .iconst 1, 1) rfl
theorem dL_law_579 : decode cL_law 579 = .ok (.iadd, 1) := dch_decL dch_dL_law_575 4 (579, .iadd, 1) rfl
theorem dL_law_580 : decode cL_law 580 = .ok (.iaload, 1) := dch_decL dch_dL_law_575 5 (580, .iaload, 1) rfl
theorem dL_law_581 : decode cL_law 581 = .ok (.i2l, 1) := dch_decL dch_dL_law_575 6 (581, .i2l, 1) rfl
theorem dL_law_582 : decode cL_law 582 = .ok (.bipush 32, 2) := dch_decL dch_dL_law_575 7 (582, .bipush 32, 2) rfl
theorem dL_law_584 : decode cL_law 584 = .ok (.lshl, 1) := dch_decL dch_dL_law_575 8 (584, .lshl, 1) rfl
theorem dL_law_585 : decode cL_law 585 = .ok (.aload_n 0, 1) := dch_decL dch_dL_law_575 9 (585, .aload_n 0, 1) rfl
theorem dL_law_586 : decode cL_law 586 = .ok (.iload_n 3, 1) := dch_decL dch_dL_law_575 10 (586, .iload_n 3, 1) rfl
theorem dL_law_587 : decode cL_law 587 = .ok (.iconst 2, 1) := dch_decL dch_dL_law_575 11 (587, .iconst 2, 1) rfl
theorem dL_law_588 : decode cL_law 588 = .ok (.iadd, 1) := dch_decL dch_dL_law_575 12 (588, .iadd, 1) rfl
theorem dL_law_589 : decode cL_law 589 = .ok (.iaload, 1) := dch_decL dch_dL_law_575 13 (589, .iaload, 1) rfl
theorem dL_law_590 : decode cL_law 590 = .ok (.i2l, 1) := dch_decL dch_dL_law_575 14 (590, .i2l, 1) rfl
theorem dL_law_591 : decode cL_law 591 = .ok (.ldc2_w 37, 3) := dch_decL dch_dL_law_575 15 (591, .ldc2_w 37, 3) rfl
theorem dL_law_594 : decode cL_law 594 = .ok (.land, 1) := dch_decL dch_dL_law_575 16 (594, .land, 1) rfl
theorem dL_law_595 : decode cL_law 595 = .ok (.lor, 1) := dch_decL dch_dL_law_575 17 (595, .lor, 1) rfl
theorem dL_law_596 : decode cL_law 596 = .ok (.aload_n 0, 1) := dch_decL dch_dL_law_575 18 (596, .aload_n 0, 1) rfl
theorem dL_law_597 : decode cL_law 597 = .ok (.iload_n 3, 1) := dch_decL dch_dL_law_575 19 (597, .iload_n 3, 1) rfl
theorem dL_law_598 : decode cL_law 598 = .ok (.iconst 3, 1) := dch_decL dch_dL_law_575 20 (598, .iconst 3, 1) rfl
theorem dL_law_599 : decode cL_law 599 = .ok (.iadd, 1) := dch_decL dch_dL_law_575 21 (599, .iadd, 1) rfl
theorem dL_law_600 : decode cL_law 600 = .ok (.iaload, 1) := dch_decL dch_dL_law_575 22 (600, .iaload, 1) rfl
theorem dL_law_601 : decode cL_law 601 = .ok (.invokevirtual 43, 3) := dch_decL dch_dL_law_575 23 (601, .invokevirtual 43, 3) rfl
theorem dL_law_604 : decode cL_law 604 = .ok (.pop, 1) := dch_decL dch_dL_law_575 24 (604, .pop, 1) rfl
theorem dL_law_605 : decode cL_law 605 = .ok (.goto 896, 3) := dch_decL dch_dL_law_575 25 (605, .goto 896, 3) rfl
theorem dL_law_608 : decode cL_law 608 = .ok (.aload_n 1, 1) := dch_decL dch_dL_law_575 26 (608, .aload_n 1, 1) rfl
theorem dL_law_609 : decode cL_law 609 = .ok (.invokevirtual 44, 3) := dch_decL dch_dL_law_575 27 (609, .invokevirtual 44, 3) rfl
theorem dL_law_612 : decode cL_law 612 = .ok (.pop, 1) := dch_decL dch_dL_law_575 28 (612, .pop, 1) rfl
theorem dL_law_613 : decode cL_law 613 = .ok (.aload_n 2, 1) := dch_decL dch_dL_law_575 29 (613, .aload_n 2, 1) rfl
theorem dL_law_614 : decode cL_law 614 = .ok (.invokevirtual 48, 3) := dch_decL dch_dL_law_575 30 (614, .invokevirtual 48, 3) rfl
theorem dL_law_617 : decode cL_law 617 = .ok (.pop, 1) := dch_decL dch_dL_law_575 31 (617, .pop, 1) rfl
theorem dL_law_618 : decode cL_law 618 = .ok (.goto 883, 3) := dch_decL dch_dL_law_575 32 (618, .goto 883, 3) rfl
theorem dL_law_621 : decode cL_law 621 = .ok (.aload_n 1, 1) := dch_decL dch_dL_law_575 33 (621, .aload_n 1, 1) rfl
theorem dL_law_622 : decode cL_law 622 = .ok (.aload_n 0, 1) := dch_decL dch_dL_law_575 34 (622, .aload_n 0, 1) rfl
theorem dL_law_623 : decode cL_law 623 = .ok (.iload_n 3, 1) := dch_decL dch_dL_law_575 35 (623, .iload_n 3, 1) rfl
theorem dL_law_624 : decode cL_law 624 = .ok (.iconst 1, 1) := dch_decL dch_dL_law_575 36 (624, .iconst 1, 1) rfl
theorem dL_law_625 : decode cL_law 625 = .ok (.iadd, 1) := dch_decL dch_dL_law_575 37 (625, .iadd, 1) rfl
theorem dL_law_626 : decode cL_law 626 = .ok (.iaload, 1) := dch_decL dch_dL_law_575 38 (626, .iaload, 1) rfl
theorem dL_law_627 : decode cL_law 627 = .ok (.aload_n 0, 1) := dch_decL dch_dL_law_575 39 (627, .aload_n 0, 1) rfl
theorem dch_dL_law_628 : ([(628, .iload_n 3, 1), (629, .iconst 2, 1), (630, .iadd, 1), (631, .iaload, 1), (632, .invokevirtual 49, 3), (635, .pop, 1), (636, .aload_n 2, 1), (637, .aload_n 0, 1), (638, .iload_n 3, 1), (639, .iconst 1, 1), (640, .iadd, 1), (641, .iaload, 1), (642, .aload_n 0, 1), (643, .iload_n 3, 1), (644, .iconst 2, 1), (645, .iadd, 1), (646, .iaload, 1), (647, .invokevirtual 53, 3), (650, .pop, 1), (651, .goto 850, 3), (654, .aload_n 1, 1), (655, .aload_n 0, 1), (656, .iload_n 3, 1), (657, .iconst 1, 1), (658, .iadd, 1), (659, .iaload, 1), (660, .aload_n 0, 1), (661, .iload_n 3, 1), (662, .iconst 2, 1), (663, .iadd, 1), (664, .iaload, 1), (665, .invokevirtual 54, 3), (668, .pop, 1), (669, .aload_n 2, 1), (670, .aload_n 0, 1), (671, .iload_n 3, 1), (672, .iconst 1, 1), (673, .iadd, 1), (674, .iaload, 1), (675, .aload_n 0, 1)] : List (Nat × (Instr × Nat))).all (fun r => decide (decode cL_law r.1 = .ok r.2)) = true := by decide +kernel
theorem dL_law_628 : decode cL_law 628 = .ok (.iload_n 3, 1) := dch_decL dch_dL_law_628 0 (628, .iload_n 3, 1) rfl
theorem dL_law_629 : decode cL_law 629 = .ok (.iconst 2, 1) := dch_decL dch_dL_law_628 1 (629, .iconst 2, 1) rfl
theorem dL_law_630 : decode cL_law 630 = .ok (.iadd, 1) := dch_decL dch_dL_law_628 2 (630, .iadd, 1) rfl
theorem dL_law_631 : decode cL_law 631 = .ok (.iaload, 1) := dch_decL dch_dL_law_628 3 (631, .iaload, 1) rfl
theorem dL_law_632 : decode cL_law 632 = .ok (.invokevirtual 49, 3) := dch_decL dch_dL_law_628 4 (632, .invokevirtual 49, 3) rfl
theorem dL_law_635 : decode cL_law 635 = .ok (.pop, 1) := dch_decL dch_dL_law_628 5 (635, .pop, 1) rfl
theorem dL_law_636 : decode cL_law 636 = .ok (.aload_n 2, 1) := dch_decL dch_dL_law_628 6 (636, .aload_n 2, 1) rfl
theorem dL_law_637 : decode cL_law 637 = .ok (.aload_n 0, 1) := dch_decL dch_dL_law_628 7 (637, .aload_n 0, 1) rfl
theorem dL_law_638 : decode cL_law 638 = .ok (.iload_n 3, 1) := dch_decL dch_dL_law_628 8 (638, .iload_n 3, 1) rfl
theorem dL_law_639 : decode cL_law 639 = .ok (.iconst 1, 1) := dch_decL dch_dL_law_628 9 (639, .iconst 1, 1) rfl
theorem dL_law_640 : decode cL_law 640 = .ok (.iadd, 1) := dch_decL dch_dL_law_628 10 (640, .iadd, 1) rfl
theorem dL_law_641 : decode cL_law 641 = .ok (.iaload, 1) := dch_decL dch_dL_law_628 11 (641, .iaload, 1) rfl
theorem dL_law_642 : decode cL_law 642 = .ok (.aload_n 0, 1) := dch_decL dch_dL_law_628 12 (642, .aload_n 0, 1) rfl
theorem dL_law_643 : decode cL_law 643 = .ok (.iload_n 3, 1) := dch_decL dch_dL_law_628 13 (643, .iload_n 3, 1) rfl
theorem dL_law_644 : decode cL_law 644 = .ok (.iconst 2, 1) := dch_decL dch_dL_law_628 14 (644, .iconst 2, 1) rfl
theorem dL_law_645 : decode cL_law 645 = .ok (.iadd, 1) := dch_decL dch_dL_law_628 15 (645, .iadd, 1) rfl
theorem dL_law_646 : decode cL_law 646 = .ok (.iaload, 1) := dch_decL dch_dL_law_628 16 (646, .iaload, 1) rfl
theorem dL_law_647 : decode cL_law 647 = .ok (.invokevirtual 53, 3) := dch_decL dch_dL_law_628 17 (647, .invokevirtual 53, 3) rfl
theorem dL_law_650 : decode cL_law 650 = .ok (.pop, 1) := dch_decL dch_dL_law_628 18 (650, .pop, 1) rfl
theorem dL_law_651 : decode cL_law 651 = .ok (.goto 850, 3) := dch_decL dch_dL_law_628 19 (651, .goto 850, 3) rfl
theorem dL_law_654 : decode cL_law 654 = .ok (.aload_n 1, 1) := dch_decL dch_dL_law_628 20 (654, .aload_n 1, 1) rfl
theorem dL_law_655 : decode cL_law 655 = .ok (.aload_n 0, 1) := dch_decL dch_dL_law_628 21 (655, .aload_n 0, 1) rfl
theorem dL_law_656 : decode cL_law 656 = .ok (.iload_n 3, 1) := dch_decL dch_dL_law_628 22 (656, .iload_n 3, 1) rfl
theorem dL_law_657 : decode cL_law 657 = .ok (.iconst 1, 1) := dch_decL dch_dL_law_628 23 (657, .iconst 1, 1) rfl
theorem dL_law_658 : decode cL_law 658 = .ok (.iadd, 1) := dch_decL dch_dL_law_628 24 (658, .iadd, 1) rfl
theorem dL_law_659 : decode cL_law 659 = .ok (.iaload, 1) := dch_decL dch_dL_law_628 25 (659, .iaload, 1) rfl
theorem dL_law_660 : decode cL_law 660 = .ok (.aload_n 0, 1) := dch_decL dch_dL_law_628 26 (660, .aload_n 0, 1) rfl
theorem dL_law_661 : decode cL_law 661 = .ok (.iload_n 3, 1) := dch_decL dch_dL_law_628 27 (661, .iload_n 3, 1) rfl
theorem dL_law_662 : decode cL_law 662 = .ok (.iconst 2, 1) := dch_decL dch_dL_law_628 28 (662, .iconst 2, 1) rfl
theorem dL_law_663 : decode cL_law 663 = .ok (.iadd, 1) := dch_decL dch_dL_law_628 29 (663, .iadd, 1) rfl
theorem dL_law_664 : decode cL_law 664 = .ok (.iaload, 1) := dch_decL dch_dL_law_628 30 (664, .iaload, 1) rfl
theorem dL_law_665 : decode cL_law 665 = .ok (.invokevirtual 54, 3) := dch_decL dch_dL_law_628 31 (665, .invokevirtual 54, 3) rfl
theorem dL_law_668 : decode cL_law 668 = .ok (.pop, 1) := dch_decL dch_dL_law_628 32 (668, .pop, 1) rfl
theorem dL_law_669 : decode cL_law 669 = .ok (.aload_n 2, 1) := dch_decL dch_dL_law_628 33 (669, .aload_n 2, 1) rfl
theorem dL_law_670 : decode cL_law 670 = .ok (.aload_n 0, 1) := dch_decL dch_dL_law_628 34 (670, .aload_n 0, 1) rfl
theorem dL_law_671 : decode cL_law 671 = .ok (.iload_n 3, 1) := dch_decL dch_dL_law_628 35 (671, .iload_n 3, 1) rfl
theorem dL_law_672 : decode cL_law 672 = .ok (.iconst 1, 1) := dch_decL dch_dL_law_628 36 (672, .iconst 1, 1) rfl
theorem dL_law_673 : decode cL_law 673 = .ok (.iadd, 1) := dch_decL dch_dL_law_628 37 (673, .iadd, 1) rfl
theorem dL_law_674 : decode cL_law 674 = .ok (.iaload, 1) := dch_decL dch_dL_law_628 38 (674, .iaload, 1) rfl
theorem dL_law_675 : decode cL_law 675 = .ok (.aload_n 0, 1) := dch_decL dch_dL_law_628 39 (675, .aload_n 0, 1) rfl
theorem dch_dL_law_676 : ([(676, .iload_n 3, 1), (677, .iconst 2, 1), (678, .iadd, 1), (679, .iaload, 1), (680, .invokevirtual 57, 3), (683, .pop, 1), (684, .goto 817, 3), (687, .aload_n 1, 1), (688, .aload_n 0, 1), (689, .iload_n 3, 1), (690, .iconst 1, 1), (691, .iadd, 1), (692, .iaload, 1), (693, .aload_n 0, 1), (694, .iload_n 3, 1), (695, .iconst 2, 1), (696, .iadd, 1), (697, .iaload, 1), (698, .invokevirtual 58, 3), (701, .pop, 1), (702, .aload_n 2, 1), (703, .aload_n 0, 1), (704, .iload_n 3, 1), (705, .iconst 1, 1), (706, .iadd, 1), (707, .iaload, 1), (708, .aload_n 0, 1), (709, .iload_n 3, 1), (710, .iconst 2, 1), (711, .iadd, 1), (712, .iaload, 1), (713, .invokevirtual 61, 3), (716, .pop, 1), (717, .goto 784, 3), (720, .aload_n 1, 1), (721, .aload_n 0, 1), (722, .iload_n 3, 1), (723, .iconst 1, 1), (724, .iadd, 1), (725, .iaload, 1)] : List (Nat × (Instr × Nat))).all (fun r => decide (decode cL_law r.1 = .ok r.2)) = true := by decide +kernel
theorem dL_law_676 : decode cL_law 676 = .ok (.iload_n 3, 1) := dch_decL dch_dL_law_676 0 (676, .iload_n 3, 1) rfl
theorem dL_law_677 : decode cL_law 677 = .ok (.iconst 2, 1) := dch_decL dch_dL_law_676 1 (677, .iconst 2, 1) rfl
theorem dL_law_678 : decode cL_law 678 = .ok (.iadd, 1) := dch_decL dch_dL_law_676 2 (678, .iadd, 1) rfl
theorem dL_law_679 : decode cL_law 679 = .ok (.iaload, 1) := dch_decL dch_dL_law_676 3 (679, .iaload, 1) rfl
theorem dL_law_680 : decode cL_law 680 = .ok (.invokevirtual 57, 3) := dch_decL dch_dL_law_676 4 (680, .invokevirtual 57, 3) rfl
theorem dL_law_683 : decode cL_law 683 = .ok (.pop, 1) := dch_decL dch_dL_law_676 5 (683, .pop, 1) rfl
theorem dL_law_684 : decode cL_law 684 = .ok (.goto 817, 3) := dch_decL dch_dL_law_676 6 (684, .goto 817, 3) rfl
theorem dL_law_687 : decode cL_law 687 = .ok (.aload_n 1, 1) := dch_decL dch_dL_law_676 7 (687, .aload_n 1, 1) rfl
theorem dL_law_688 : decode cL_law 688 = .ok (.aload_n 0, 1) := dch_decL dch_dL_law_676 8 (688, .aload_n 0, 1) rfl
theorem dL_law_689 : decode cL_law 689 = .ok (.iload_n 3, 1) := dch_decL dch_dL_law_676 9 (689, .iload_n 3, 1) rfl
theorem dL_law_690 : decode cL_law 690 = .ok (.iconst 1, 1) := dch_decL dch_dL_law_676 10 (690, .iconst 1, 1) rfl
theorem dL_law_691 : decode cL_law 691 = .ok (.iadd, 1) := dch_decL dch_dL_law_676 11 (691, .iadd, 1) rfl
theorem dL_law_692 : decode cL_law 692 = .ok (.iaload, 1) := dch_decL dch_dL_law_676 12 (692, .iaload, 1) rfl
theorem dL_law_693 : decode cL_law 693 = .ok (.aload_n 0, 1) := dch_decL dch_dL_law_676 13 (693, .aload_n 0, 1) rfl
theorem dL_law_694 : decode cL_law 694 = .ok (.iload_n 3, 1) := dch_decL dch_dL_law_676 14 (694, .iload_n 3, 1) rfl
theorem dL_law_695 : decode cL_law 695 = .ok (.iconst 2, 1) := dch_decL dch_dL_law_676 15 (695, .iconst 2, 1) rfl
theorem dL_law_696 : decode cL_law 696 = .ok (.iadd, 1) := dch_decL dch_dL_law_676 16 (696, .iadd, 1) rfl
theorem dL_law_697 : decode cL_law 697 = .ok (.iaload, 1) := dch_decL dch_dL_law_676 17 (697, .iaload, 1) rfl
theorem dL_law_698 : decode cL_law 698 = .ok (.invokevirtual 58, 3) := dch_decL dch_dL_law_676 18 (698, .invokevirtual 58, 3) rfl
theorem dL_law_701 : decode cL_law 701 = .ok (.pop, 1) := dch_decL dch_dL_law_676 19 (701, .pop, 1) rfl
theorem dL_law_702 : decode cL_law 702 = .ok (.aload_n 2, 1) := dch_decL dch_dL_law_676 20 (702, .aload_n 2, 1) rfl
theorem dL_law_703 : decode cL_law 703 = .ok (.aload_n 0, 1) := dch_decL dch_dL_law_676 21 (703, .aload_n 0, 1) rfl
theorem dL_law_704 : decode cL_law 704 = .ok (.iload_n 3, 1) := dch_decL dch_dL_law_676 22 (704, .iload_n 3, 1) rfl
theorem dL_law_705 : decode cL_law 705 = .ok (.iconst 1, 1) := dch_decL dch_dL_law_676 23 (705, .iconst 1, 1) rfl
theorem dL_law_706 : decode cL_law 706 = .ok (.iadd, 1) := dch_decL dch_dL_law_676 24 (706, .iadd, 1) rfl
theorem dL_law_707 : decode cL_law 707 = .ok (.iaload, 1) := dch_decL dch_dL_law_676 25 (707, .iaload, 1) rfl
theorem dL_law_708 : decode cL_law 708 = .ok (.aload_n 0, 1) := dch_decL dch_dL_law_676 26 (708, .aload_n 0, 1) rfl
theorem dL_law_709 : decode cL_law 709 = .ok (.iload_n 3, 1) := dch_decL dch_dL_law_676 27 (709, .iload_n 3, 1) rfl
theorem dL_law_710 : decode cL_law 710 = .ok (.iconst 2, 1) := dch_decL dch_dL_law_676 28 (710, .iconst 2, 1) rfl
theorem dL_law_711 : decode cL_law 711 = .ok (.iadd, 1) := dch_decL dch_dL_law_676 29 (711, .iadd, 1) rfl
theorem dL_law_712 : decode cL_law 712 = .ok (.iaload, 1) := dch_decL dch_dL_law_676 30 (712, .iaload, 1) rfl
theorem dL_law_713 : decode cL_law 713 = .ok (.invokevirtual 61, 3) := dch_decL dch_dL_law_676 31 (713, .invokevirtual 61, 3) rfl
theorem dL_law_716 : decode cL_law 716 = .ok (.pop, 1) := dch_decL dch_dL_law_676 32 (716, .pop, 1) rfl
theorem dL_law_717 : decode cL_law 717 = .ok (.goto 784, 3) := dch_decL dch_dL_law_676 33 (717, .goto 784, 3) rfl
theorem dL_law_720 : decode cL_law 720 = .ok (.aload_n 1, 1) := dch_decL dch_dL_law_676 34 (720, .aload_n 1, 1) rfl
theorem dL_law_721 : decode cL_law 721 = .ok (.aload_n 0, 1) := dch_decL dch_dL_law_676 35 (721, .aload_n 0, 1) rfl
theorem dL_law_722 : decode cL_law 722 = .ok (.iload_n 3, 1) := dch_decL dch_dL_law_676 36 (722, .iload_n 3, 1) rfl
theorem dL_law_723 : decode cL_law 723 = .ok (.iconst 1, 1) := dch_decL dch_dL_law_676 37 (723, .iconst 1, 1) rfl
theorem dL_law_724 : decode cL_law 724 = .ok (.iadd, 1) := dch_decL dch_dL_law_676 38 (724, .iadd, 1) rfl
theorem dL_law_725 : decode cL_law 725 = .ok (.iaload, 1) := dch_decL dch_dL_law_676 39 (725, .iaload, 1) rfl
theorem dch_dL_law_726 : ([(726, .aload_n 0, 1), (727, .iload_n 3, 1), (728, .iconst 2, 1), (729, .iadd, 1), (730, .iaload, 1), (731, .aload_n 0, 1), (732, .iload_n 3, 1), (733, .iconst 3, 1), (734, .iadd, 1), (735, .iaload, 1), (736, .invokevirtual 62, 3), (739, .pop, 1), (740, .aload_n 2, 1), (741, .aload_n 0, 1), (742, .iload_n 3, 1), (743, .iconst 1, 1), (744, .iadd, 1), (745, .iaload, 1), (746, .aload_n 0, 1), (747, .iload_n 3, 1), (748, .iconst 2, 1), (749, .iadd, 1), (750, .iaload, 1), (751, .aload_n 0, 1), (752, .iload_n 3, 1), (753, .iconst 3, 1), (754, .iadd, 1), (755, .iaload, 1), (756, .invokevirtual 66, 3), (759, .pop, 1), (760, .goto 741, 3), (763, .aload_n 1, 1), (764, .aload_n 0, 1), (765, .iload_n 3, 1), (766, .iconst 1, 1), (767, .iadd, 1), (768, .iaload, 1), (769, .aload_n 0, 1), (770, .iload_n 3, 1), (771, .iconst 2, 1)] : List (Nat × (Instr × Nat))).all (fun r => decide (decode cL_law r.1 = .ok r.2)) = true := by decide +kernel
theorem dL_law_726 : decode cL_law 726 = .ok (.aload_n 0, 1) := dch_decL dch_dL_law_726 0 (726, .aload_n 0, 1) rfl
theorem dL_law_727 : decode cL_law 727 = .ok (.iload_n 3, 1) := dch_decL dch_dL_law_726 1 (727, .iload_n 3, 1) rfl
theorem dL_law_728 : decode cL_law 728 = .ok (.iconst 2, 1) := dch_decL dch_dL_law_726 2 (728, .iconst 2, 1) rfl
theorem dL_law_729 : decode cL_law 729 = .ok (.iadd, 1) := dch_decL dch_dL_law_726 3 (729, .iadd, 1) rfl
theorem dL_law_730 : decode cL_law 730 = .ok (.iaload, 1) := dch_decL dch_dL_law_726 4 (730, .iaload, 1) rfl
theorem dL_law_731 : decode cL_law 731 = .ok (.aload_n 0, 1) := dch_decL dch_dL_law_726 5 (731, .aload_n 0, 1) rfl
theorem dL_law_732 : decode cL_law 732 = .ok (.iload_n 3, 1) := dch_decL dch_dL_law_726 6 (732, .iload_n 3, 1) rfl
theorem dL_law_733 : decode cL_law 733 = .ok (.iconst 3, 1) := dch_decL dch_dL_law_726 7 (733, .iconst 3, 1) rfl
theorem dL_law_734 : decode cL_law 734 = .ok (.iadd, 1) := dch_decL dch_dL_law_726 8 (734, .iadd, 1) rfl
theorem dL_law_735 : decode cL_law 735 = .ok (.iaload, 1) := dch_decL dch_dL_law_726 9 (735, .iaload, 1) rfl
theorem dL_law_736 : decode cL_law 736 = .ok (.invokevirtual 62, 3) := dch_decL dch_dL_law_726 10 (736, .invokevirtual 62, 3) rfl
theorem dL_law_739 : decode cL_law 739 = .ok (.pop, 1) := dch_decL dch_dL_law_726 11 (739, .pop, 1) rfl
theorem dL_law_740 : decode cL_law 740 = .ok (.aload_n 2, 1) := dch_decL dch_dL_law_726 12 (740, .aload_n 2, 1) rfl
theorem dL_law_741 : decode cL_law 741 = .ok (.aload_n 0, 1) := dch_decL dch_dL_law_726 13 (741, .aload_n 0, 1) rfl
theorem dL_law_742 : decode cL_law 742 = .ok (.iload_n 3, 1) := dch_decL dch_dL_law_726 14 (742, .iload_n 3, 1) rfl
theorem dL_law_743 : decode cL_law 743 = .ok (.iconst 1, 1) := dch_decL dch_dL_law_726 15 (743, .iconst 1, 1) rfl
theorem dL_law_744 : decode cL_law 744 = .ok (.iadd, 1) := dch_decL dch_dL_law_726 16 (744, .iadd, 1) rfl
theorem dL_law_745 : decode cL_law 745 = .ok (.iaload, 1) := dch_decL dch_dL_law_726 17 (745, .iaload, 1) rfl
theorem dL_law_746 : decode cL_law 746 = .ok (.aload_n 0, 1) := dch_decL dch_dL_law_726 18 (746, .aload_n 0, 1) rfl
theorem dL_law_747 : decode cL_law 747 = .ok (.iload_n 3, 1) := dch_decL dch_dL_law_726 19 (747, .iload_n 3, 1) rfl
theorem dL_law_748 : decode cL_law 748 = .ok (.iconst 2, 1) := dch_decL dch_dL_law_726 20 (748, .iconst 2, 1) rfl
theorem dL_law_749 : decode cL_law 749 = .ok (.iadd, 1) := dch_decL dch_dL_law_726 21 (749, .iadd, 1) rfl
theorem dL_law_750 : decode cL_law 750 = .ok (.iaload, 1) := dch_decL dch_dL_law_726 22 (750, .iaload, 1) rfl
theorem dL_law_751 : decode cL_law 751 = .ok (.aload_n 0, 1) := dch_decL dch_dL_law_726 23 (751, .aload_n 0, 1) rfl
theorem dL_law_752 : decode cL_law 752 = .ok (.iload_n 3, 1) := dch_decL dch_dL_law_726 24 (752, .iload_n 3, 1) rfl
theorem dL_law_753 : decode cL_law 753 = .ok (.iconst 3, 1) := dch_decL dch_dL_law_726 25 (753, .iconst 3, 1) rfl
theorem dL_law_754 : decode cL_law 754 = .ok (.iadd, 1) := dch_decL dch_dL_law_726 26 (754, .iadd, 1) rfl
theorem dL_law_755 : decode cL_law 755 = .ok (.iaload, 1) := dch_decL dch_dL_law_726 27 (755, .iaload, 1) rfl
theorem dL_law_756 : decode cL_law 756 = .ok (.invokevirtual 66, 3) := dch_decL dch_dL_law_726 28 (756, .invokevirtual 66, 3) rfl
theorem dL_law_759 : decode cL_law 759 = .ok (.pop, 1) := dch_decL dch_dL_law_726 29 (759, .pop, 1) rfl
theorem dL_law_760 : decode cL_law 760 = .ok (.goto 741, 3) := dch_decL dch_dL_law_726 30 (760, .goto 741, 3) rfl
theorem dL_law_763 : decode cL_law 763 = .ok (.aload_n 1, 1) := dch_decL dch_dL_law_726 31 (763, .aload_n 1, 1) rfl
theorem dL_law_764 : decode cL_law 764 = .ok (.aload_n 0, 1) := dch_decL dch_dL_law_726 32 (764, .aload_n 0, 1) rfl
theorem dL_law_765 : decode cL_law 765 = .ok (.iload_n 3, 1) := dch_decL dch_dL_law_726 33 (765, .iload_n 3, 1) rfl
theorem dL_law_766 : decode cL_law 766 = .ok (.iconst 1, 1) := dch_decL dch_dL_law_726 34 (766, .iconst 1, 1) rfl
theorem dL_law_767 : decode cL_law 767 = .ok (.iadd, 1) := dch_decL dch_dL_law_726 35 (767, .iadd, 1) rfl
theorem dL_law_768 : decode cL_law 768 = .ok (.iaload, 1) := dch_decL dch_dL_law_726 36 (768, .iaload, 1) rfl
theorem dL_law_769 : decode cL_law 769 = .ok (.aload_n 0, 1) := dch_decL dch_dL_law_726 37 (769, .aload_n 0, 1) rfl
theorem dL_law_770 : decode cL_law 770 = .ok (.iload_n 3, 1) := dch_decL dch_dL_law_726 38 (770, .iload_n 3, 1) rfl
theorem dL_law_771 : decode cL_law 771 = .ok (.iconst 2, 1) := dch_decL dch_dL_law_726 39 (771, .iconst 2, 1) rfl
theorem dch_dL_law_772 : ([(772, .iadd, 1), (773, .iaload, 1), (774, .aload_n 0, 1), (775, .iload_n 3, 1), (776, .iconst 3, 1), (777, .iadd, 1), (778, .iaload, 1), (779, .invokevirtual 67, 3), (782, .pop, 1), (783, .aload_n 2, 1), (784, .aload_n 0, 1), (785, .iload_n 3, 1), (786, .iconst 1, 1), (787, .iadd, 1), (788, .iaload, 1), (789, .aload_n 0, 1), (790, .iload_n 3, 1), (791, .iconst 2, 1), (792, .iadd, 1), (793, .iaload, 1), (794, .aload_n 0, 1), (795, .iload_n 3, 1), (796, .iconst 3, 1), (797, .iadd, 1), (798, .iaload, 1), (799, .invokevirtual 70, 3), (802, .pop, 1), (803, .goto 698, 3), (806, .aload_n 1, 1), (807, .aload_n 0, 1), (808, .iload_n 3, 1), (809, .iconst 1, 1), (810, .iadd, 1), (811, .iaload, 1), (812, .aload_n 0, 1), (813, .iload_n 3, 1), (814, .iconst 2, 1), (815, .iadd, 1), (816, .iaload, 1), (817, .aload_n 0, 1)] : List (Nat × (Instr × Nat))).all (fun r => decide (decode cL_law r.1 = .ok r.2)) = true := by decide +kernel
theorem dL_law_772 : decode cL_law 772 = .ok (.iadd, 1) := dch_decL dch_dL_law_772 0 (772, .iadd, 1) rfl
theorem dL_law_773 : decode cL_law 773 = .ok (.iaload, 1) := dch_decL dch_dL_law_772 1 (773, .iaload, 1) rfl
theorem dL_law_774 : decode cL_law 774 = .ok (.aload_n 0, 1) := dch_decL dch_dL_law_772 2 (774, .aload_n 0, 1) rfl
theorem dL_law_775 : decode cL_law 775 = .ok (.iload_n 3, 1) := dch_decL dch_dL_law_772 3 (775, .iload_n 3, 1) rfl
theorem dL_law_776 : decode cL_law 776 = .ok (.iconst 3, 1) := dch_decL dch_dL_law_772 4 (776, .iconst 3, 1) rfl
theorem dL_law_777 : decode cL_law 777 = .ok (.iadd, 1) := dch_decL dch_dL_law_772 5 (777, .iadd, 1) rfl
theorem dL_law_778 : decode cL_law 778 = .ok (.iaload, 1) := dch_decL dch_dL_law_772 6 (778, .iaload, 1) rfl
theorem dL_law_779 : decode cL_law 779 = .ok (.invokevirtual 67, 3) := dch_decL dch_dL_law_772 7 (779, .invokevirtual 67, 3) rfl
theorem dL_law_782 : decode cL_law 782 = .ok (.pop, 1) := dch_decL dch_dL_law_772 8 (782, .pop, 1) rfl
theorem dL_law_783 : decode cL_law 783 = .ok (.aload_n 2, 1) := dch_decL dch_dL_law_772 9 (783, .aload_n 2, 1) rfl
theorem dL_law_784 : decode cL_law 784 = .ok (.aload_n 0, 1) := dch_decL dch_dL_law_772 10 (784, .aload_n 0, 1) rfl
theorem dL_law_785 : decode cL_law 785 = .ok (.iload_n 3, 1) := dch_decL dch_dL_law_772 11 (785, .iload_n 3, 1) rfl
theorem dL_law_786 : decode cL_law 786 = .ok (.iconst 1, 1) := dch_decL dch_dL_law_772 12 (786, .iconst 1, 1) rfl
theorem dL_law_787 : decode cL_law 787 = .ok (.iadd, 1) := dch_decL dch_dL_law_772 13 (787, .iadd, 1) rfl
theorem dL_law_788 : decode cL_law 788 = .ok (.iaload, 1) := dch_decL dch_dL_law_772 14 (788, .iaload, 1) rfl
theorem dL_law_789 : decode cL_law 789 = .ok (.aload_n 0, 1) := dch_decL dch_dL_law_772 15 (789, .aload_n 0, 1) rfl
theorem dL_law_790 : decode cL_law 790 = .ok (.iload_n 3, 1) := dch_decL dch_dL_law_772 16 (790, .iload_n 3, 1) rfl
theorem dL_law_791 : decode cL_law 791 = .ok (.iconst 2, 1) := dch_decL dch_dL_law_772 17 (791, .iconst 2, 1) rfl
theorem dL_law_792 : decode cL_law 792 = .ok (.iadd, 1) := dch_decL dch_dL_law_772 18 (792, .iadd, 1) rfl
theorem dL_law_793 : decode cL_law 793 = .ok (.iaload, 1) := dch_decL dch_dL_law_772 19 (793, .iaload, 1) rfl
theorem dL_law_794 : decode cL_law 794 = .ok (.aload_n 0, 1) := dch_decL dch_dL_law_772 20 (794, .aload_n 0, 1) rfl
theorem dL_law_795 : decode cL_law 795 = .ok (.iload_n 3, 1) := dch_decL dch_dL_law_772 21 (795, .iload_n 3, 1) rfl
theorem dL_law_796 : decode cL_law 796 = .ok (.iconst 3, 1) := dch_decL dch_dL_law_772 22 (796, .iconst 3, 1) rfl
theorem dL_law_797 : decode cL_law 797 = .ok (.iadd, 1) := dch_decL dch_dL_law_772 23 (797, .iadd, 1) rfl
theorem dL_law_798 : decode cL_law 798 = .ok (.iaload, 1) := dch_decL dch_dL_law_772 24 (798, .iaload, 1) rfl
theorem dL_law_799 : decode cL_law 799 = .ok (.invokevirtual 70, 3) := dch_decL dch_dL_law_772 25 (799, .invokevirtual 70, 3) rfl
theorem dL_law_802 : decode cL_law 802 = .ok (.pop, 1) := dch_decL dch_dL_law_772 26 (802, .pop, 1) rfl
theorem dL_law_803 : decode cL_law 803 = .ok (.goto 698, 3) := dch_decL dch_dL_law_772 27 (803, .goto 698, 3) rfl
theorem dL_law_806 : decode cL_law 806 = .ok (.aload_n 1, 1) := dch_decL dch_dL_law_772 28 (806, .aload_n 1, 1) rfl
theorem dL_law_807 : decode cL_law 807 = .ok (.aload_n 0, 1) := dch_decL dch_dL_law_772 29 (807, .aload_n 0, 1) rfl
theorem dL_law_808 : decode cL_law 808 = .ok (.iload_n 3, 1) := dch_decL dch_dL_law_772 30 (808, .iload_n 3, 1) rfl
theorem dL_law_809 : decode cL_law 809 = .ok (.iconst 1, 1) := dch_decL dch_dL_law_772 31 (809, .iconst 1, 1) rfl
theorem dL_law_810 : decode cL_law 810 = .ok (.iadd, 1) := dch_decL dch_dL_law_772 32 (810, .iadd, 1) rfl
theorem dL_law_811 : decode cL_law 811 = .ok (.iaload, 1) := dch_decL dch_dL_law_772 33 (811, .iaload, 1) rfl
theorem dL_law_812 : decode cL_law 812 = .ok (.aload_n 0, 1) := dch_decL dch_dL_law_772 34 (812, .aload_n 0, 1) rfl
theorem dL_law_813 : decode cL_law 813 = .ok (.iload_n 3, 1) := dch_decL dch_dL_law_772 35 (813, .iload_n 3, 1) rfl
theorem dL_law_814 : decode cL_law 814 = .ok (.iconst 2, 1) := dch_decL dch_dL_law_772 36 (814, .iconst 2, 1) rfl
theorem dL_law_815 : decode cL_law 815 = .ok (.iadd, 1) := dch_decL dch_dL_law_772 37 (815, .iadd, 1) rfl
theorem dL_law_816 : decode cL_law 816 = .ok (.iaload, 1) := dch_decL dch_dL_law_772 38 (816, .iaload, 1) rfl
theorem dL_law_817 : decode cL_law 817 = .ok (.aload_n 0, 1) := dch_decL dch_dL_law_772 39 (817, .aload_n 0, 1) rfl
theorem dch_dL_law_818 : ([(818, .iload_n 3, 1), (819, .iconst 3, 1), (820, .iadd, 1), (821, .iaload, 1), (822, .aload_n 0, 1), (823, .iload_n 3, 1), (824, .iconst 4, 1), (825, .iadd, 1), (826, .iaload, 1), (827, .invokevirtual 71, 3), (830, .pop, 1), (831, .aload_n 2, 1), (832, .aload_n 0, 1), (833, .iload_n 3, 1), (834, .iconst 1, 1), (835, .iadd, 1), (836, .iaload, 1), (837, .aload_n 0, 1), (838, .iload_n 3, 1), (839, .iconst 2, 1), (840, .iadd, 1), (841, .iaload, 1), (842, .aload_n 0, 1), (843, .iload_n 3, 1), (844, .iconst 3, 1), (845, .iadd, 1), (846, .iaload, 1), (847, .aload_n 0, 1), (848, .iload_n 3, 1), (849, .iconst 4, 1), (850, .iadd, 1), (851, .iaload, 1), (852, .invokevirtual 74, 3), (855, .pop, 1), (856, .goto 645, 3), (859, .aload_n 1, 1), (860, .aload_n 0, 1), (861, .iload_n 3, 1), (862, .iconst 1, 1), (863, .iadd, 1)] : List (Nat × (Instr × Nat))).all (fun r => decide (decode cL_law r.1 = .ok r.2)) = true := by decide +kernel
theorem dL_law_818 : decode cL_law 818 = .ok (.iload_n 3, 1) := dch_decL dch_dL_law_818 0 (818, .iload_n 3, 1) rfl
theorem dL_law_819 : decode cL_law 819 = .ok (.iconst 3, 1) := dch_decL dch_dL_law_818 1 (819, .iconst 3, 1) rfl
theorem dL_law_820 : decode cL_law 820 = .ok (.iadd, 1) := dch_decL dch_dL_law_818 2 (820, .iadd, 1) rfl
theorem dL_law_821 : decode cL_law 821 = .ok (.iaload, 1) := dch_decL dch_dL_law_818 3 (821, .iaload, 1) rfl
theorem dL_law_822 : decode cL_law 822 = .ok (.aload_n 0, 1) := dch_decL dch_dL_law_818 4 (822, .aload_n 0, 1) rfl
theorem dL_law_823 : decode cL_law 823 = .ok (.iload_n 3, 1) := dch_decL dch_dL_law_818 5 (823, .iload_n 3, 1) rfl
theorem dL_law_824 : decode cL_law 824 = .ok (.iconst 4, 1) := dch_decL dch_dL_law_818 6 (824, .iconst 4, 1) rfl
theorem dL_law_825 : decode cL_law 825 = .ok (.iadd, 1) := dch_decL dch_dL_law_818 7 (825, .iadd, 1) rfl
theorem dL_law_826 : decode cL_law 826 = .ok (.iaload, 1) := dch_decL dch_dL_law_818 8 (826, .iaload, 1) rfl
theorem dL_law_827 : decode cL_law 827 = .ok (.invokevirtual 71, 3) := dch_decL dch_dL_law_818 9 (827, .invokevirtual 71, 3) rfl
theorem dL_law_830 : decode cL_law 830 = .ok (.pop, 1) := dch_decL dch_dL_law_818 10 (830, .pop, 1) rfl
theorem dL_law_831 : decode cL_law 831 = .ok (.aload_n 2, 1) := dch_decL dch_dL_law_818 11 (831, .aload_n 2, 1) rfl
theorem dL_law_832 : decode cL_law 832 = .ok (.aload_n 0, 1) := dch_decL dch_dL_law_818 12 (832, .aload_n 0, 1) rfl
theorem dL_law_833 : decode cL_law 833 = .ok (.iload_n 3, 1) := dch_decL dch_dL_law_818 13 (833, .iload_n 3, 1) rfl
theorem dL_law_834 : decode cL_law 834 = .ok (.iconst 1, 1) := dch_decL dch_dL_law_818 14 (834, .iconst 1, 1) rfl
theorem dL_law_835 : decode cL_law 835 = .ok (.iadd, 1) := dch_decL dch_dL_law_818 15 (835, .iadd, 1) rfl
theorem dL_law_836 : decode cL_law 836 = .ok (.iaload, 1) := dch_decL dch_dL_law_818 16 (836, .iaload, 1) rfl
theorem dL_law_837 : decode cL_law 837 = .ok (.aload_n 0, 1) := dch_decL dch_dL_law_818 17 (837, .aload_n 0, 1) rfl
theorem dL_law_838 : decode cL_law 838 = .ok (.iload_n 3, 1) := dch_decL dch_dL_law_818 18 (838, .iload_n 3, 1) rfl
theorem dL_law_839 : decode cL_law 839 = .ok (.iconst 2, 1) := dch_decL dch_dL_law_818 19 (839, .iconst 2, 1) rfl
theorem dL_law_840 : decode cL_law 840 = .ok (.iadd, 1) := dch_decL dch_dL_law_818 20 (840, .iadd, 1) rfl
theorem dL_law_841 : decode cL_law 841 = .ok (.iaload, 1) := dch_decL dch_dL_law_818 21 (841, .iaload, 1) rfl
theorem dL_law_842 : decode cL_law 842 = .ok (.aload_n 0, 1) := dch_decL dch_dL_law_818 22 (842, .aload_n 0, 1) rfl
theorem dL_law_843 : decode cL_law 843 = .ok (.iload_n 3, 1) := dch_decL dch_dL_law_818 23 (843, .iload_n 3, 1) rfl
theorem dL_law_844 : decode cL_law 844 = .ok (.iconst 3, 1) := dch_decL dch_dL_law_818 24 (844, .iconst 3, 1) rfl
theorem dL_law_845 : decode cL_law 845 = .ok (.iadd, 1) := dch_decL dch_dL_law_818 25 (845, .iadd, 1) rfl
theorem dL_law_846 : decode cL_law 846 = .ok (.iaload, 1) := dch_decL dch_dL_law_818 26 (846, .iaload, 1) rfl
theorem dL_law_847 : decode cL_law 847 = .ok (.aload_n 0, 1) := dch_decL dch_dL_law_818 27 (847, .aload_n 0, 1) rfl
theorem dL_law_848 : decode cL_law 848 = .ok (.iload_n 3, 1) := dch_decL dch_dL_law_818 28 (848, .iload_n 3, 1) rfl
theorem dL_law_849 : decode cL_law 849 = .ok (.iconst 4, 1) := dch_decL dch_dL_law_818 29 (849, .iconst 4, 1) rfl
theorem dL_law_850 : decode cL_law 850 = .ok (.iadd, 1) := dch_decL dch_dL_law_818 30 (850, .iadd, 1) rfl
theorem dL_law_851 : decode cL_law 851 = .ok (.iaload, 1) := dch_decL dch_dL_law_818 31 (851, .iaload, 1) rfl
theorem dL_law_852 : decode cL_law 852 = .ok (.invokevirtual 74, 3) := dch_decL dch_dL_law_818 32 (852, .invokevirtual 74, 3) rfl
theorem dL_law_855 : decode cL_law 855 = .ok (.pop, 1) := dch_decL dch_dL_law_818 33 (855, .pop, 1) rfl
theorem dL_law_856 : decode cL_law 856 = .ok (.goto 645, 3) := dch_decL dch_dL_law_818 34 (856, .goto 645, 3) rfl
theorem dL_law_859 : decode cL_law 859 = .ok (.aload_n 1, 1) := dch_decL dch_dL_law_818 35 (859, .aload_n 1, 1) rfl
theorem dL_law_860 : decode cL_law 860 = .ok (.aload_n 0, 1) := dch_decL dch_dL_law_818 36 (860, .aload_n 0, 1) rfl
theorem dL_law_861 : decode cL_law 861 = .ok (.iload_n 3, 1) := dch_decL dch_dL_law_818 37 (861, .iload_n 3, 1) rfl
theorem dL_law_862 : decode cL_law 862 = .ok (.iconst 1, 1) := dch_decL dch_dL_law_818 38 (862, .iconst 1, 1) rfl
theorem dL_law_863 : decode cL_law 863 = .ok (.iadd, 1) := dch_decL dch_dL_law_818 39 (863, .iadd, 1) rfl
theorem dch_dL_law_864 : ([(864, .iaload, 1), (865, .invokevirtual 75, 3), (868, .pop, 1), (869, .aload_n 2, 1), (870, .aload_n 0, 1), (871, .iload_n 3, 1), (872, .iconst 1, 1), (873, .iadd, 1), (874, .iaload, 1), (875, .invokevirtual 79, 3), (878, .pop, 1), (879, .goto 622, 3), (882, .aload_n 1, 1), (883, .aload_n 0, 1), (884, .iload_n 3, 1), (885, .iconst 1, 1), (886, .iadd, 1), (887, .iaload, 1), (888, .aload_n 0, 1), (889, .iload_n 3, 1), (890, .iconst 2, 1), (891, .iadd, 1), (892, .iaload, 1), (893, .invokevirtual 80, 3), (896, .pop, 1), (897, .aload_n 2, 1), (898, .aload_n 0, 1), (899, .iload_n 3, 1), (900, .iconst 1, 1), (901, .iadd, 1), (902, .iaload, 1), (903, .aload_n 0, 1), (904, .iload_n 3, 1), (905, .iconst 2, 1), (906, .iadd, 1), (907, .iaload, 1), (908, .invokevirtual 83, 3), (911, .pop, 1), (912, .goto 589, 3), (915, .aload_n 1, 1)] : List (Nat × (Instr × Nat))).all (fun r => decide (decode cL_law r.1 = .ok r.2)) = true := by decide +kernel
theorem dL_law_864 : decode cL_law 864 = .ok (.iaload, 1) := dch_decL dch_dL_law_864 0 (864, .iaload, 1) rfl
theorem dL_law_865 : decode cL_law 865 = .ok (.invokevirtual 75, 3) := dch_decL dch_dL_law_864 1 (865, .invokevirtual 75, 3) rfl
theorem dL_law_868 : decode cL_law 868 = .ok (.pop, 1) := dch_decL dch_dL_law_864 2 (868, .pop, 1) rfl
theorem dL_law_869 : decode cL_law 869 = .ok (.aload_n 2, 1) := dch_decL dch_dL_law_864 3 (869, .aload_n 2, 1) rfl
theorem dL_law_870 : decode cL_law 870 = .ok (.aload_n 0, 1) := dch_decL dch_dL_law_864 4 (870, .aload_n 0, 1) rfl
theorem dL_law_871 : decode cL_law 871 = .ok (.iload_n 3, 1) := dch_decL dch_dL_law_864 5 (871, .iload_n 3, 1) rfl
theorem dL_law_872 : decode cL_law 872 = .ok (.iconst 1, 1) := dch_decL dch_dL_law_864 6 (872, .iconst 1, 1) rfl
theorem dL_law_873 : decode cL_law 873 = .ok (.iadd, 1) := dch_decL dch_dL_law_864 7 (873, .iadd, 1) rfl
theorem dL_law_874 : decode cL_law 874 = .ok (.iaload, 1) := dch_decL dch_dL_law_864 8 (874, .iaload, 1) rfl
theorem dL_law_875 : decode cL_law 875 = .ok (.invokevirtual 79, 3) := dch_decL dch_dL_law_864 9 (875, .invokevirtual 79, 3) rfl
theorem dL_law_878 : decode cL_law 878 = .ok (.pop, 1) := dch_decL dch_dL_law_864 10 (878, .pop, 1) rfl
theorem dL_law_879 : decode cL_law 879 = .ok (.goto 622, 3) := dch_decL dch_dL_law_864 11 (879, .goto 622, 3) rfl
theorem dL_law_882 : decode cL_law 882 = .ok (.aload_n 1, 1) := dch_decL dch_dL_law_864 12 (882, .aload_n 1, 1) rfl
theorem dL_law_883 : decode cL_law 883 = .ok (.aload_n 0, 1) := dch_decL dch_dL_law_864 13 (883, .aload_n 0, 1) rfl
theorem dL_law_884 : decode cL_law 884 = .ok (.iload_n 3, 1) := dch_decL dch_dL_law_864 14 (884, .iload_n 3, 1) rfl
theorem dL_law_885 : decode cL_law 885 = .ok (.iconst 1, 1) := dch_decL dch_dL_law_864 15 (885, .iconst 1, 1) rfl
theorem dL_law_886 : decode cL_law 886 = .ok (.iadd, 1) := dch_decL dch_dL_law_864 16 (886, .iadd, 1) rfl
theorem dL_law_887 : decode cL_law 887 = .ok (.iaload, 1) := dch_decL dch_dL_law_864 17 (887, .iaload, 1) rfl
theorem dL_law_888 : decode cL_law 888 = .ok (.aload_n 0, 1) := dch_decL dch_dL_law_864 18 (888, .aload_n 0, 1) rfl
theorem dL_law_889 : decode cL_law 889 = .ok (.iload_n 3, 1) := dch_decL dch_dL_law_864 19 (889, .iload_n 3, 1) rfl
theorem dL_law_890 : decode cL_law 890 = .ok (.iconst 2, 1) := dch_decL dch_dL_law_864 20 (890, .iconst 2, 1) rfl
theorem dL_law_891 : decode cL_law 891 = .ok (.iadd, 1) := dch_decL dch_dL_law_864 21 (891, .iadd, 1) rfl
theorem dL_law_892 : decode cL_law 892 = .ok (.iaload, 1) := dch_decL dch_dL_law_864 22 (892, .iaload, 1) rfl
theorem dL_law_893 : decode cL_law 893 = .ok (.invokevirtual 80, 3) := dch_decL dch_dL_law_864 23 (893, .invokevirtual 80, 3) rfl
theorem dL_law_896 : decode cL_law 896 = .ok (.pop, 1) := dch_decL dch_dL_law_864 24 (896, .pop, 1) rfl
theorem dL_law_897 : decode cL_law 897 = .ok (.aload_n 2, 1) := dch_decL dch_dL_law_864 25 (897, .aload_n 2, 1) rfl
theorem dL_law_898 : decode cL_law 898 = .ok (.aload_n 0, 1) := dch_decL dch_dL_law_864 26 (898, .aload_n 0, 1) rfl
theorem dL_law_899 : decode cL_law 899 = .ok (.iload_n 3, 1) := dch_decL dch_dL_law_864 27 (899, .iload_n 3, 1) rfl
theorem dL_law_900 : decode cL_law 900 = .ok (.iconst 1, 1) := dch_decL dch_dL_law_864 28 (900, .iconst 1, 1) rfl
theorem dL_law_901 : decode cL_law 901 = .ok (.iadd, 1) := dch_decL dch_dL_law_864 29 (901, .iadd, 1) rfl
theorem dL_law_902 : decode cL_law 902 = .ok (.iaload, 1) := dch_decL dch_dL_law_864 30 (902, .iaload, 1) rfl
theorem dL_law_903 : decode cL_law 903 = .ok (.aload_n 0, 1) := dch_decL dch_dL_law_864 31 (903, .aload_n 0, 1) rfl
theorem dL_law_904 : decode cL_law 904 = .ok (.iload_n 3, 1) := dch_decL dch_dL_law_864 32 (904, .iload_n 3, 1) rfl
theorem dL_law_905 : decode cL_law 905 = .ok (.iconst 2, 1) := dch_decL dch_dL_law_864 33 (905, .iconst 2, 1) rfl
theorem dL_law_906 : decode cL_law 906 = .ok (.iadd, 1) := dch_decL dch_dL_law_864 34 (906, .iadd, 1) rfl
theorem dL_law_907 : decode cL_law 907 = .ok (.iaload, 1) := dch_decL dch_dL_law_864 35 (907, .iaload, 1) rfl
theorem dL_law_908 : decode cL_law 908 = .ok (.invokevirtual 83, 3) := dch_decL dch_dL_law_864 36 (908, .invokevirtual 83, 3) rfl
theorem dL_law_911 : decode cL_law 911 = .ok (.pop, 1) := dch_decL dch_dL_law_864 37 (911, .pop, 1) rfl
theorem dL_law_912 : decode cL_law 912 = .ok (.goto 589, 3) := dch_decL dch_dL_law_864 38 (912, .goto 589, 3) rfl
theorem dL_law_915 : decode cL_law 915 = .ok (.aload_n 1, 1) := dch_decL dch_dL_law_864 39 (915, .aload_n 1, 1) rfl
theorem dch_dL_law_916 : ([(916, .aload_n 0, 1), (917, .iload_n 3, 1), (918, .iconst 1, 1), (919, .iadd, 1), (920, .iaload, 1), (921, .aload_n 0, 1), (922, .iload_n 3, 1), (923, .iconst 2, 1), (924, .iadd, 1), (925, .iaload, 1), (926, .ifCond .eq 7, 3), (929, .iconst 1, 1), (930, .goto 4, 3), (933, .iconst 0, 1), (934, .invokevirtual 84, 3), (937, .pop, 1), (938, .aload_n 2, 1), (939, .aload_n 0, 1), (940, .iload_n 3, 1), (941, .iconst 1, 1), (942, .iadd, 1), (943, .iaload, 1), (944, .aload_n 0, 1), (945, .iload_n 3, 1), (946, .iconst 2, 1), (947, .iadd, 1), (948, .iaload, 1), (949, .ifCond .eq 7, 3), (952, .iconst 1, 1), (953, .goto 4, 3), (956, .iconst 0, 1), (957, .invokevirtual 88, 3), (960, .pop, 1), (961, .goto 540, 3), (964, .aload_n 1, 1), (965, .aload_n 0, 1), (966, .iload_n 3, 1), (967, .iconst 1, 1), (968, .iadd, 1), (969, .iaload, 1)] : List (Nat × (Instr × Nat))).all (fun r => decide (decode cL_law r.1 = .ok r.2)) = true := by decide +kernel
theorem dL_law_916 : decode cL_law 916 = .ok (.aload_n 0, 1) := dch_decL dch_dL_law_916 0 (916, .aload_n 0, 1) rfl
theorem dL_law_917 : decode cL_law 917 = .ok (.iload_n 3, 1) := dch_decL dch_dL_law_916 1 (917, .iload_n 3, 1) rfl
theorem dL_law_918 : decode cL_law 918 = .ok (.iconst 1, 1) := dch_decL dch_dL_law_916 2 (918, .iconst 1, 1) rfl
theorem dL_law_919 : decode cL_law 919 = .ok (.iadd, 1) := dch_decL dch_dL_law_916 3 (919, .iadd, 1) rfl
theorem dL_law_920 : decode cL_law 920 = .ok (.iaload, 1) := dch_decL dch_dL_law_916 4 (920, .iaload, 1) rfl
theorem dL_law_921 : decode cL_law 921 = .ok (.aload_n 0, 1) := dch_decL dch_dL_law_916 5 (921, .aload_n 0, 1) rfl
theorem dL_law_922 : decode cL_law 922 = .ok (.iload_n 3, 1) := dch_decL dch_dL_law_916 6 (922, .iload_n 3, 1) rfl
theorem dL_law_923 : decode cL_law 923 = .ok (.iconst 2, 1) := dch_decL dch_dL_law_916 7 (923, .iconst 2, 1) rfl
theorem dL_law_924 : decode cL_law 924 = .ok (.iadd, 1) := dch_decL dch_dL_law_916 8 (924, .iadd, 1) rfl
theorem dL_law_925 : decode cL_law 925 = .ok (.iaload, 1) := dch_decL dch_dL_law_916 9 (925, .iaload, 1) rfl
theorem dL_law_926 : decode cL_law 926 = .ok (.ifCond .eq 7, 3) := dch_decL dch_dL_law_916 10 (926, .ifCond .eq 7, 3) rfl
theorem dL_law_929 : decode cL_law 929 = .ok (.iconst 1, 1) := dch_decL dch_dL_law_916 11 (929, .iconst 1, 1) rfl
theorem dL_law_930 : decode cL_law 930 = .ok (.goto 4, 3) := dch_decL dch_dL_law_916 12 (930, .goto 4, 3) rfl
theorem dL_law_933 : decode cL_law 933 = .ok (.iconst 0, 1) := dch_decL dch_dL_law_916 13 (933, .iconst 0, 1) rfl
theorem dL_law_934 : decode cL_law 934 = .ok (.invokevirtual 84, 3) := dch_decL dch_dL_law_916 14 (934, .invokevirtual 84, 3) rfl
theorem dL_law_937 : decode cL_law 937 = .ok (.pop, 1) := dch_decL dch_dL_law_916 15 (937, .pop, 1) rfl
theorem dL_law_938 : decode cL_law 938 = .ok (.aload_n 2, 1) := dch_decL dch_dL_law_916 16 (938, .aload_n 2, 1) rfl
theorem dL_law_939 : decode cL_law 939 = .ok (.aload_n 0, 1) := dch_decL dch_dL_law_916 17 (939, .aload_n 0, 1) rfl
theorem dL_law_940 : decode cL_law 940 = .ok (.iload_n 3, 1) := dch_decL dch_dL_law_916 18 (940, .iload_n 3, 1) rfl
theorem dL_law_941 : decode cL_law 941 = .ok (.iconst 1, 1) := dch_decL dch_dL_law_916 19 (941, .iconst 1, 1) rfl
theorem dL_law_942 : decode cL_law 942 = .ok (.iadd, 1) := dch_decL dch_dL_law_916 20 (942, .iadd, 1) rfl
theorem dL_law_943 : decode cL_law 943 = .ok (.iaload, 1) := dch_decL dch_dL_law_916 21 (943, .iaload, 1) rfl
theorem dL_law_944 : decode cL_law 944 = .ok (.aload_n 0, 1) := dch_decL dch_dL_law_916 22 (944, .aload_n 0, 1) rfl
theorem dL_law_945 : decode cL_law 945 = .ok (.iload_n 3, 1) := dch_decL dch_dL_law_916 23 (945, .iload_n 3, 1) rfl
theorem dL_law_946 : decode cL_law 946 = .ok (.iconst 2, 1) := dch_decL dch_dL_law_916 24 (946, .iconst 2, 1) rfl
theorem dL_law_947 : decode cL_law 947 = .ok (.iadd, 1) := dch_decL dch_dL_law_916 25 (947, .iadd, 1) rfl
theorem dL_law_948 : decode cL_law 948 = .ok (.iaload, 1) := dch_decL dch_dL_law_916 26 (948, .iaload, 1) rfl
theorem dL_law_949 : decode cL_law 949 = .ok (.ifCond .eq 7, 3) := dch_decL dch_dL_law_916 27 (949, .ifCond .eq 7, 3) rfl
theorem dL_law_952 : decode cL_law 952 = .ok (.iconst 1, 1) := dch_decL dch_dL_law_916 28 (952, .iconst 1, 1) rfl
theorem dL_law_953 : decode cL_law 953 = .ok (.goto 4, 3) := dch_decL dch_dL_law_916 29 (953, .goto 4, 3) rfl
theorem dL_law_956 : decode cL_law 956 = .ok (.iconst 0, 1) := dch_decL dch_dL_law_916 30 (956, .iconst 0, 1) rfl
theorem dL_law_957 : decode cL_law 957 = .ok (.invokevirtual 88, 3) := dch_decL dch_dL_law_916 31 (957, .invokevirtual 88, 3) rfl
theorem dL_law_960 : decode cL_law 960 = .ok (.pop, 1) := dch_decL dch_dL_law_916 32 (960, .pop, 1) rfl
theorem dL_law_961 : decode cL_law 961 = .ok (.goto 540, 3) := dch_decL dch_dL_law_916 33 (961, .goto 540, 3) rfl
theorem dL_law_964 : decode cL_law 964 = .ok (.aload_n 1, 1) := dch_decL dch_dL_law_916 34 (964, .aload_n 1, 1) rfl
theorem dL_law_965 : decode cL_law 965 = .ok (.aload_n 0, 1) := dch_decL dch_dL_law_916 35 (965, .aload_n 0, 1) rfl
theorem dL_law_966 : decode cL_law 966 = .ok (.iload_n 3, 1) := dch_decL dch_dL_law_916 36 (966, .iload_n 3, 1) rfl
theorem dL_law_967 : decode cL_law 967 = .ok (.iconst 1, 1) := dch_decL dch_dL_law_916 37 (967, .iconst 1, 1) rfl
theorem dL_law_968 : decode cL_law 968 = .ok (.iadd, 1) := dch_decL dch_dL_law_916 38 (968, .iadd, 1) rfl
theorem dL_law_969 : decode cL_law 969 = .ok (.iaload, 1) := dch_decL dch_dL_law_916 39 (969, .iaload, 1) rfl
theorem dch_dL_law_970 : ([(970, .invokevirtual 89, 3), (973, .pop, 1), (974, .aload_n 2, 1), (975, .aload_n 0, 1), (976, .iload_n 3, 1), (977, .iconst 1, 1), (978, .iadd, 1), (979, .iaload, 1), (980, .invokevirtual 92, 3), (983, .pop, 1), (984, .goto 517, 3), (987, .aload_n 1, 1), (988, .aload_n 0, 1), (989, .iload_n 3, 1), (990, .iconst 1, 1), (991, .iadd, 1), (992, .iaload, 1), (993, .invokevirtual 93, 3), (996, .pop, 1), (997, .aload_n 2, 1), (998, .aload_n 0, 1), (999, .iload_n 3, 1), (1000, .iconst 1, 1), (1001, .iadd, 1), (1002, .iaload, 1), (1003, .invokevirtual 96, 3), (1006, .pop, 1), (1007, .goto 494, 3), (1010, .aload_n 1, 1), (1011, .aload_n 0, 1), (1012, .iload_n 3, 1), (1013, .iconst 1, 1), (1014, .iadd, 1), (1015, .iaload, 1), (1016, .invokevirtual 97, 3), (1019, .pop, 1), (1020, .aload_n 2, 1), (1021, .aload_n 0, 1), (1022, .iload_n 3, 1), (1023, .iconst 1, 1)] : List (Nat × (Instr × Nat))).all (fun r => decide (decode cL_law r.1 = .ok r.2)) = true := by decide +kernel
theorem dL_law_970 : decode cL_law 970 = .ok (.invokevirtual 89, 3) := dch_decL dch_dL_law_970 0 (970, .invokevirtual 89, 3) rfl
theorem dL_law_973 : decode cL_law 973 = .ok (.pop, 1) := dch_decL dch_dL_law_970 1 (973, .pop, 1) rfl
theorem dL_law_974 : decode cL_law 974 = .ok (.aload_n 2, 1) := dch_decL dch_dL_law_970 2 (974, .aload_n 2, 1) rfl
theorem dL_law_975 : decode cL_law 975 = .ok (.aload_n 0, 1) := dch_decL dch_dL_law_970 3 (975, .aload_n 0, 1) rfl
theorem dL_law_976 : decode cL_law 976 = .ok (.iload_n 3, 1) := dch_decL dch_dL_law_970 4 (976, .iload_n 3, 1) rfl
theorem dL_law_977 : decode cL_law 977 = .ok (.iconst 1, 1) := dch_decL dch_dL_law_970 5 (977, .iconst 1, 1) rfl
theorem dL_law_978 : decode cL_law 978 = .ok (.iadd, 1) := dch_decL dch_dL_law_970 6 (978, .iadd, 1) rfl
theorem dL_law_979 : decode cL_law 979 = .ok (.iaload, 1) := dch_decL dch_dL_law_970 7 (979, .iaload, 1) rfl
theorem dL_law_980 : decode cL_law 980 = .ok (.invokevirtual 92, 3) := dch_decL dch_dL_law_970 8 (980, .invokevirtual 92, 3) rfl
theorem dL_law_983 : decode cL_law 983 = .ok (.pop, 1) := dch_decL dch_dL_law_970 9 (983, .pop, 1) rfl
theorem dL_law_984 : decode cL_law 984 = .ok (.goto 517, 3) := dch_decL dch_dL_law_970 10 (984, .goto 517, 3) rfl
theorem dL_law_987 : decode cL_law 987 = .ok (.aload_n 1, 1) := dch_decL dch_dL_law_970 11 (987, .aload_n 1, 1) rfl
theorem dL_law_988 : decode cL_law 988 = .ok (.aload_n 0, 1) := dch_decL dch_dL_law_970 12 (988, .aload_n 0, 1) rfl
theorem dL_law_989 : decode cL_law 989 = .ok (.iload_n 3, 1) := dch_decL dch_dL_law_970 13 (989, .iload_n 3, 1) rfl
theorem dL_law_990 : decode cL_law 990 = .ok (.iconst 1, 1) := dch_decL dch_dL_law_970 14 (990, .iconst 1, 1) rfl
theorem dL_law_991 : decode cL_law 991 = .ok (.iadd, 1) := dch_decL dch_dL_law_970 15 (991, .iadd, 1) rfl
theorem dL_law_992 : decode cL_law 992 = .ok (.iaload, 1) := dch_decL dch_dL_law_970 16 (992, .iaload, 1) rfl
theorem dL_law_993 : decode cL_law 993 = .ok (.invokevirtual 93, 3) := dch_decL dch_dL_law_970 17 (993, .invokevirtual 93, 3) rfl
theorem dL_law_996 : decode cL_law 996 = .ok (.pop, 1) := dch_decL dch_dL_law_970 18 (996, .pop, 1) rfl
theorem dL_law_997 : decode cL_law 997 = .ok (.aload_n 2, 1) := dch_decL dch_dL_law_970 19 (997, .aload_n 2, 1) rfl
theorem dL_law_998 : decode cL_law 998 = .ok (.aload_n 0, 1) := dch_decL dch_dL_law_970 20 (998, .aload_n 0, 1) rfl
theorem dL_law_999 : decode cL_law 999 = .ok (.iload_n 3, 1) := dch_decL dch_dL_law_970 21 (999, .iload_n 3, 1) rfl
theorem dL_law_1000 : decode cL_law 1000 = .ok (.iconst 1, 1) := dch_decL dch_dL_law_970 22 (1000, .iconst 1, 1) rfl
theorem dL_law_1001 : decode cL_law 1001 = .ok (.iadd, 1) := dch_decL dch_dL_law_970 23 (1001, .iadd, 1) rfl
theorem dL_law_1002 : decode cL_law 1002 = .ok (.iaload, 1) := dch_decL dch_dL_law_970 24 (1002, .iaload, 1) rfl
theorem dL_law_1003 : decode cL_law 1003 = .ok (.invokevirtual 96, 3) := dch_decL dch_dL_law_970 25 (1003, .invokevirtual 96, 3) rfl
theorem dL_law_1006 : decode cL_law 1006 = .ok (.pop, 1) := dch_decL dch_dL_law_970 26 (1006, .pop, 1) rfl
theorem dL_law_1007 : decode cL_law 1007 = .ok (.goto 494, 3) := dch_decL dch_dL_law_970 27 (1007, .goto 494, 3) rfl
theorem dL_law_1010 : decode cL_law 1010 = .ok (.aload_n 1, 1) := dch_decL dch_dL_law_970 28 (1010, .aload_n 1, 1) rfl
theorem dL_law_1011 : decode cL_law 1011 = .ok (.aload_n 0, 1) := dch_decL dch_dL_law_970 29 (1011, .aload_n 0, 1) rfl
theorem dL_law_1012 : decode cL_law 1012 = .ok (.iload_n 3, 1) := dch_decL dch_dL_law_970 30 (1012, .iload_n 3, 1) rfl
theorem dL_law_1013 : decode cL_law 1013 = .ok (.iconst 1, 1) := dch_decL dch_dL_law_970 31 (1013, .iconst 1, 1) rfl
theorem dL_law_1014 : decode cL_law 1014 = .ok (.iadd, 1) := dch_decL dch_dL_law_970 32 (1014, .iadd, 1) rfl
theorem dL_law_1015 : decode cL_law 1015 = .ok (.iaload, 1) := dch_decL dch_dL_law_970 33 (1015, .iaload, 1) rfl
theorem dL_law_1016 : decode cL_law 1016 = .ok (.invokevirtual 97, 3) := dch_decL dch_dL_law_970 34 (1016, .invokevirtual 97, 3) rfl
theorem dL_law_1019 : decode cL_law 1019 = .ok (.pop, 1) := dch_decL dch_dL_law_970 35 (1019, .pop, 1) rfl
theorem dL_law_1020 : decode cL_law 1020 = .ok (.aload_n 2, 1) := dch_decL dch_dL_law_970 36 (1020, .aload_n 2, 1) rfl
theorem dL_law_1021 : decode cL_law 1021 = .ok (.aload_n 0, 1) := dch_decL dch_dL_law_970 37 (1021, .aload_n 0, 1) rfl
theorem dL_law_1022 : decode cL_law 1022 = .ok (.iload_n 3, 1) := dch_decL dch_dL_law_970 38 (1022, .iload_n 3, 1) rfl
theorem dL_law_1023 : decode cL_law 1023 = .ok (.iconst 1, 1) := dch_decL dch_dL_law_970 39 (1023, .iconst 1, 1) rfl
theorem dch_dL_law_1024 : ([(1024, .iadd, 1), (1025, .iaload, 1), (1026, .invokevirtual 100, 3), (1029, .pop, 1), (1030, .goto 471, 3), (1033, .aload_n 1, 1), (1034, .aload_n 0, 1), (1035, .iload_n 3, 1), (1036, .iconst 1, 1), (1037, .iadd, 1), (1038, .iaload, 1), (1039, .aload_n 0, 1), (1040, .iload_n 3, 1), (1041, .iconst 2, 1), (1042, .iadd, 1), (1043, .iaload, 1), (1044, .invokevirtual 101, 3), (1047, .pop, 1), (1048, .aload_n 2, 1), (1049, .aload_n 0, 1), (1050, .iload_n 3, 1), (1051, .iconst 1, 1), (1052, .iadd, 1), (1053, .iaload, 1), (1054, .aload_n 0, 1), (1055, .iload_n 3, 1), (1056, .iconst 2, 1), (1057, .iadd, 1), (1058, .iaload, 1), (1059, .invokevirtual 104, 3), (1062, .pop, 1), (1063, .goto 438, 3), (1066, .aload_n 1, 1), (1067, .aload_n 0, 1), (1068, .iload_n 3, 1), (1069, .iconst 1, 1), (1070, .iadd, 1), (1071, .iaload, 1), (1072, .invokevirtual 105, 3), (1075, .pop, 1)] : List (Nat × (Instr × Nat))).all (fun r => decide (decode cL_law r.1 = .ok r.2)) = true := by decide +kernel
theorem dL_law_1024 : decode cL_law 1024 = .ok (.iadd, 1) := dch_decL dch_dL_law_1024 0 (1024, .iadd, 1) rfl
theorem dL_law_1025 : decode cL_law 1025 = .ok (.iaload, 1) := dch_decL dch_dL_law_1024 1 (1025, .iaload, 1) rfl
theorem dL_law_1026 : decode cL_law 1026 = .ok (.invokevirtual 100, 3) := dch_decL dch_dL_law_1024 2 (1026, .invokevirtual 100, 3) rfl
theorem dL_law_1029 : decode cL_law 1029 = .ok (.pop, 1) := dch_decL dch_dL_law_1024 3 (1029, .pop, 1) rfl
theorem dL_law_1030 : decode cL_law 1030 = .ok (.goto 471, 3) := dch_decL dch_dL_law_1024 4 (1030, .goto 471, 3) rfl
theorem dL_law_1033 : decode cL_law 1033 = .ok (.aload_n 1, 1) := dch_decL dch_dL_law_1024 5 (1033, .aload_n 1, 1) rfl
theorem dL_law_1034 : decode cL_law 1034 = .ok (.aload_n 0, 1) := dch_decL dch_dL_law_1024 6 (1034, .aload_n 0, 1) rfl
theorem dL_law_1035 : decode cL_law 1035 = .ok (.iload_n 3, 1) := dch_decL dch_dL_law_1024 7 (1035, .iload_n 3, 1) rfl
theorem dL_law_1036 : decode cL_law 1036 = .ok (.iconst 1, 1) := dch_decL dch_dL_law_1024 8 (1036, .iconst 1, 1) rfl
theorem dL_law_1037 : decode cL_law 1037 = .ok (.iadd, 1) := dch_decL dch_dL_law_1024 9 (1037, .iadd, 1) rfl
theorem dL_law_1038 : decode cL_law 1038 = .ok (.iaload, 1) := dch_decL dch_dL_law_1024 10 (1038, .iaload, 1) rfl
theorem dL_law_1039 : decode cL_law 1039 = .ok (.aload_n 0, 1) := dch_decL dch_dL_law_1024 11 (1039, .aload_n 0, 1) rfl
theorem dL_law_1040 : decode cL_law 1040 = .ok (.iload_n 3, 1) := dch_decL dch_dL_law_1024 12 (1040, .iload_n 3, 1) rfl
theorem dL_law_1041 : decode cL_law 1041 = .ok (.iconst 2, 1) := dch_decL dch_dL_law_1024 13 (1041, .iconst 2, 1) rfl
theorem dL_law_1042 : decode cL_law 1042 = .ok (.iadd, 1) := dch_decL dch_dL_law_1024 14 (1042, .iadd, 1) rfl
theorem dL_law_1043 : decode cL_law 1043 = .ok (.iaload, 1) := dch_decL dch_dL_law_1024 15 (1043, .iaload, 1) rfl
theorem dL_law_1044 : decode cL_law 1044 = .ok (.invokevirtual 101, 3) := dch_decL dch_dL_law_1024 16 (1044, .invokevirtual 101, 3) rfl
theorem dL_law_1047 : decode cL_law 1047 = .ok (.pop, 1) := dch_decL dch_dL_law_1024 17 (1047, .pop, 1) rfl
theorem dL_law_1048 : decode cL_law 1048 = .ok (.aload_n 2, 1) := dch_decL dch_dL_law_1024 18 (1048, .aload_n 2, 1) rfl
theorem dL_law_1049 : decode cL_law 1049 = .ok (.aload_n 0, 1) := dch_decL dch_dL_law_1024 19 (1049, .aload_n 0, 1) rfl
theorem dL_law_1050 : decode cL_law 1050 = .ok (.iload_n 3, 1) := dch_decL dch_dL_law_1024 20 (1050, .iload_n 3, 1) rfl
theorem dL_law_1051 : decode cL_law 1051 = .ok (.iconst 1, 1) := dch_decL dch_dL_law_1024 21 (1051, .iconst 1, 1) rfl
theorem dL_law_1052 : decode cL_law 1052 = .ok (.iadd, 1) := dch_decL dch_dL_law_1024 22 (1052, .iadd, 1) rfl
theorem dL_law_1053 : decode cL_law 1053 = .ok (.iaload, 1) := dch_decL dch_dL_law_1024 23 (1053, .iaload, 1) rfl
theorem dL_law_1054 : decode cL_law 1054 = .ok (.aload_n 0, 1) := dch_decL dch_dL_law_1024 24 (1054, .aload_n 0, 1) rfl
theorem dL_law_1055 : decode cL_law 1055 = .ok (.iload_n 3, 1) := dch_decL dch_dL_law_1024 25 (1055, .iload_n 3, 1) rfl
theorem dL_law_1056 : decode cL_law 1056 = .ok (.iconst 2, 1) := dch_decL dch_dL_law_1024 26 (1056, .iconst 2, 1) rfl
theorem dL_law_1057 : decode cL_law 1057 = .ok (.iadd, 1) := dch_decL dch_dL_law_1024 27 (1057, .iadd, 1) rfl
theorem dL_law_1058 : decode cL_law 1058 = .ok (.iaload, 1) := dch_decL dch_dL_law_1024 28 (1058, .iaload, 1) rfl
theorem dL_law_1059 : decode cL_law 1059 = .ok (.invokevirtual 104, 3) := dch_decL dch_dL_law_1024 29 (1059, .invokevirtual 104, 3) rfl
theorem dL_law_1062 : decode cL_law 1062 = .ok (.pop, 1) := dch_decL dch_dL_law_1024 30 (1062, .pop, 1) rfl
theorem dL_law_1063 : decode cL_law 1063 = .ok (.goto 438, 3) := dch_decL dch_dL_law_1024 31 (1063, .goto 438, 3) rfl
theorem dL_law_1066 : decode cL_law 1066 = .ok (.aload_n 1, 1) := dch_decL dch_dL_law_1024 32 (1066, .aload_n 1, 1) rfl
theorem dL_law_1067 : decode cL_law 1067 = .ok (.aload_n 0, 1) := dch_decL dch_dL_law_1024 33 (1067, .aload_n 0, 1) rfl
theorem dL_law_1068 : decode cL_law 1068 = .ok (.iload_n 3, 1) := dch_decL dch_dL_law_1024 34 (1068, .iload_n 3, 1) rfl
theorem dL_law_1069 : decode cL_law 1069 = .ok (.iconst 1, 1) := dch_decL dch_dL_law_1024 35 (1069, .iconst 1, 1) rfl
theorem dL_law_1070 : decode cL_law 1070 = .ok (.iadd, 1) := dch_decL dch_dL_law_1024 36 (1070, .iadd, 1) rfl
theorem dL_law_1071 : decode cL_law 1071 = .ok (.iaload, 1) := dch_decL dch_dL_law_1024 37 (1071, .iaload, 1) rfl
theorem dL_law_1072 : decode cL_law 1072 = .ok (.invokevirtual 105, 3) := dch_decL dch_dL_law_1024 38 (1072, .invokevirtual 105, 3) rfl
theorem dL_law_1075 : decode cL_law 1075 = .ok (.pop, 1) := dch_decL dch_dL_law_1024 39 (1075, .pop, 1) rfl
theorem dch_dL_law_1076 : ([(1076, .aload_n 2, 1), (1077, .aload_n 0, 1), (1078, .iload_n 3, 1), (1079, .iconst 1, 1), (1080, .iadd, 1), (1081, .iaload, 1), (1082, .invokevirtual 108, 3), (1085, .pop, 1), (1086, .goto 415, 3), (1089, .aload_n 1, 1), (1090, .invokevirtual 109, 3), (1093, .pop, 1), (1094, .aload_n 2, 1), (1095, .invokevirtual 112, 3), (1098, .pop, 1), (1099, .goto 402, 3), (1102, .aload_n 1, 1), (1103, .aload_n 0, 1), (1104, .iload_n 3, 1), (1105, .iconst 1, 1), (1106, .iadd, 1), (1107, .iaload, 1), (1108, .aload_n 0, 1), (1109, .iload_n 3, 1), (1110, .iconst 2, 1), (1111, .iadd, 1), (1112, .iaload, 1), (1113, .aload_n 0, 1), (1114, .iload_n 3, 1), (1115, .iconst 3, 1), (1116, .iadd, 1), (1117, .iaload, 1), (1118, .invokevirtual 113, 3), (1121, .pop, 1), (1122, .aload_n 2, 1), (1123, .aload_n 0, 1), (1124, .iload_n 3, 1), (1125, .iconst 1, 1), (1126, .iadd, 1), (1127, .iaload, 1)] : List (Nat × (Instr × Nat))).all (fun r => decide (decode cL_law r.1 = .ok r.2)) = true := by decide +kernel
theorem dL_law_1076 : decode cL_law 1076 = .ok (.aload_n 2, 1) := dch_decL dch_dL_law_1076 0 (1076, .aload_n 2, 1) rfl
theorem dL_law_1077 : decode cL_law 1077 = .ok (.aload_n 0, 1) := dch_decL dch_dL_law_1076 1 (1077, .aload_n 0, 1) rfl
theorem dL_law_1078 : decode cL_law 1078 = .ok (.iload_n 3, 1) := dch_decL dch_dL_law_1076 2 (1078, .iload_n 3, 1) rfl
theorem dL_law_1079 : decode cL_law 1079 = .ok (.iconst 1, 1) := dch_decL dch_dL_law_1076 3 (1079, .iconst 1, 1) rfl
theorem dL_law_1080 : decode cL_law 1080 = .ok (.iadd, 1) := dch_decL dch_dL_law_1076 4 (1080, .iadd, 1) rfl
theorem dL_law_1081 : decode cL_law 1081 = .ok (.iaload, 1) := dch_decL dch_dL_law_1076 5 (1081, .iaload, 1) rfl
theorem dL_law_1082 : decode cL_law 1082 = .ok (.invokevirtual 108, 3) := dch_decL dch_dL_law_1076 6 (1082, .invokevirtual 108, 3) rfl
theorem dL_law_1085 : decode cL_law 1085 = .ok (.pop, 1) := dch_decL dch_dL_law_1076 7 (1085, .pop, 1) rfl
theorem dL_law_1086 : decode cL_law 1086 = .ok (.goto 415, 3) := dch_decL dch_dL_law_1076 8 (1086, .goto 415, 3) rfl
theorem dL_law_1089 : decode cL_law 1089 = .ok (.aload_n 1, 1) := dch_decL dch_dL_law_1076 9 (1089, .aload_n 1, 1) rfl
theorem dL_law_1090 : decode cL_law 1090 = .ok (.invokevirtual 109, 3) := dch_decL dch_dL_law_1076 10 (1090, .invokevirtual 109, 3) rfl
theorem dL_law_1093 : decode cL_law 1093 = .ok (.pop, 1) := dch_decL dch_dL_law_1076 11 (1093, .pop, 1) rfl
theorem dL_law_1094 : decode cL_law 1094 = .ok (.aload_n 2, 1) := dch_decL dch_dL_law_1076 12 (1094, .aload_n 2, 1) rfl
theorem dL_law_1095 : decode cL_law 1095 = .ok (.invokevirtual 112, 3) := dch_decL dch_dL_law_1076 13 (1095, .invokevirtual 112, 3) rfl
theorem dL_law_1098 : decode cL_law 1098 = .ok (.pop, 1) := dch_decL dch_dL_law_1076 14 (1098, .pop, 1) rfl
theorem dL_law_1099 : decode cL_law 1099 = .ok (.goto 402, 3) := dch_decL dch_dL_law_1076 15 (1099, .goto 402, 3) rfl
theorem dL_law_1102 : decode cL_law 1102 = .ok (.aload_n 1, 1) := dch_decL dch_dL_law_1076 16 (1102, .aload_n 1, 1) rfl
theorem dL_law_1103 : decode cL_law 1103 = .ok (.aload_n 0, 1) := dch_decL dch_dL_law_1076 17 (1103, .aload_n 0, 1) rfl
theorem dL_law_1104 : decode cL_law 1104 = .ok (.iload_n 3, 1) := dch_decL dch_dL_law_1076 18 (1104, .iload_n 3, 1) rfl
theorem dL_law_1105 : decode cL_law 1105 = .ok (.iconst 1, 1) := dch_decL dch_dL_law_1076 19 (1105, .iconst 1, 1) rfl
theorem dL_law_1106 : decode cL_law 1106 = .ok (.iadd, 1) := dch_decL dch_dL_law_1076 20 (1106, .iadd, 1) rfl
theorem dL_law_1107 : decode cL_law 1107 = .ok (.iaload, 1) := dch_decL dch_dL_law_1076 21 (1107, .iaload, 1) rfl
theorem dL_law_1108 : decode cL_law 1108 = .ok (.aload_n 0, 1) := dch_decL dch_dL_law_1076 22 (1108, .aload_n 0, 1) rfl
theorem dL_law_1109 : decode cL_law 1109 = .ok (.iload_n 3, 1) := dch_decL dch_dL_law_1076 23 (1109, .iload_n 3, 1) rfl
theorem dL_law_1110 : decode cL_law 1110 = .ok (.iconst 2, 1) := dch_decL dch_dL_law_1076 24 (1110, .iconst 2, 1) rfl
theorem dL_law_1111 : decode cL_law 1111 = .ok (.iadd, 1) := dch_decL dch_dL_law_1076 25 (1111, .iadd, 1) rfl
theorem dL_law_1112 : decode cL_law 1112 = .ok (.iaload, 1) := dch_decL dch_dL_law_1076 26 (1112, .iaload, 1) rfl
theorem dL_law_1113 : decode cL_law 1113 = .ok (.aload_n 0, 1) := dch_decL dch_dL_law_1076 27 (1113, .aload_n 0, 1) rfl
theorem dL_law_1114 : decode cL_law 1114 = .ok (.iload_n 3, 1) := dch_decL dch_dL_law_1076 28 (1114, .iload_n 3, 1) rfl
theorem dL_law_1115 : decode cL_law 1115 = .ok (.iconst 3, 1) := dch_decL dch_dL_law_1076 29 (1115, .iconst 3, 1) rfl
theorem dL_law_1116 : decode cL_law 1116 = .ok (.iadd, 1) := dch_decL dch_dL_law_1076 30 (1116, .iadd, 1) rfl
theorem dL_law_1117 : decode cL_law 1117 = .ok (.iaload, 1) := dch_decL dch_dL_law_1076 31 (1117, .iaload, 1) rfl
theorem dL_law_1118 : decode cL_law 1118 = .ok (.invokevirtual 113, 3) := dch_decL dch_dL_law_1076 32 (1118, .invokevirtual 113, 3) rfl
theorem dL_law_1121 : decode cL_law 1121 = .ok (.pop, 1) := dch_decL dch_dL_law_1076 33 (1121, .pop, 1) rfl
theorem dL_law_1122 : decode cL_law 1122 = .ok (.aload_n 2, 1) := dch_decL dch_dL_law_1076 34 (1122, .aload_n 2, 1) rfl
theorem dL_law_1123 : decode cL_law 1123 = .ok (.aload_n 0, 1) := dch_decL dch_dL_law_1076 35 (1123, .aload_n 0, 1) rfl
theorem dL_law_1124 : decode cL_law 1124 = .ok (.iload_n 3, 1) := dch_decL dch_dL_law_1076 36 (1124, .iload_n 3, 1) rfl
theorem dL_law_1125 : decode cL_law 1125 = .ok (.iconst 1, 1) := dch_decL dch_dL_law_1076 37 (1125, .iconst 1, 1) rfl
theorem dL_law_1126 : decode cL_law 1126 = .ok (.iadd, 1) := dch_decL dch_dL_law_1076 38 (1126, .iadd, 1) rfl
theorem dL_law_1127 : decode cL_law 1127 = .ok (.iaload, 1) := dch_decL dch_dL_law_1076 39 (1127, .iaload, 1) rfl
theorem dch_dL_law_1128 : ([(1128, .aload_n 0, 1), (1129, .iload_n 3, 1), (1130, .iconst 2, 1), (1131, .iadd, 1), (1132, .iaload, 1), (1133, .aload_n 0, 1), (1134, .iload_n 3, 1), (1135, .iconst 3, 1), (1136, .iadd, 1), (1137, .iaload, 1), (1138, .invokevirtual 116, 3), (1141, .pop, 1), (1142, .goto 359, 3), (1145, .aload_n 1, 1), (1146, .invokevirtual 117, 3), (1149, .pop, 1), (1150, .aload_n 2, 1), (1151, .invokevirtual 120, 3), (1154, .pop, 1), (1155, .goto 346, 3), (1158, .aload_n 1, 1), (1159, .aload_n 0, 1), (1160, .iload_n 3, 1), (1161, .iconst 1, 1), (1162, .iadd, 1), (1163, .iaload, 1), (1164, .invokevirtual 121, 3), (1167, .pop, 1), (1168, .aload_n 2, 1), (1169, .aload_n 0, 1), (1170, .iload_n 3, 1), (1171, .iconst 1, 1), (1172, .iadd, 1), (1173, .iaload, 1), (1174, .invokevirtual 124, 3), (1177, .pop, 1), (1178, .goto 323, 3), (1181, .aload_n 1, 1), (1182, .aload_n 0, 1), (1183, .iload_n 3, 1)] : List (Nat × (Instr × Nat))).all (fun r => decide (decode cL_law r.1 = .ok r.2)) = true := by decide +kernel
theorem dL_law_1128 : decode cL_law 1128 = .ok (.aload_n 0, 1) := dch_decL dch_dL_law_1128 0 (1128, .aload_n 0, 1) rfl
theorem dL_law_1129 : decode cL_law 1129 = .ok (.iload_n 3, 1) := dch_decL dch_dL_law_1128 1 (1129, .iload_n 3, 1) rfl
theorem dL_law_1130 : decode cL_law 1130 = .ok (.iconst 2, 1) := dch_decL dch_dL_law_1128 2 (1130, .iconst 2, 1) rfl
theorem dL_law_1131 : decode cL_law 1131 = .ok (.iadd, 1) := dch_decL dch_dL_law_1128 3 (1131, .iadd, 1) rfl
theorem dL_law_1132 : decode cL_law 1132 = .ok (.iaload, 1) := dch_decL dch_dL_law_1128 4 (1132, .iaload, 1) rfl
theorem dL_law_1133 : decode cL_law 1133 = .ok (.aload_n 0, 1) := dch_decL dch_dL_law_1128 5 (1133, .aload_n 0, 1) rfl
theorem dL_law_1134 : decode cL_law 1134 = .ok (.iload_n 3, 1) := dch_decL dch_dL_law_1128 6 (1134, .iload_n 3, 1) rfl
theorem dL_law_1135 : decode cL_law 1135 = .ok (.iconst 3, 1) := dch_decL dch_dL_law_1128 7 (1135, .iconst 3, 1) rfl
theorem dL_law_1136 : decode cL_law 1136 = .ok (.iadd, 1) := dch_decL dch_dL_law_1128 8 (1136, .iadd, 1) rfl
theorem dL_law_1137 : decode cL_law 1137 = .ok (.iaload, 1) := dch_decL dch_dL_law_1128 9 (1137, .iaload, 1) rfl
theorem dL_law_1138 : decode cL_law 1138 = .ok (.invokevirtual 116, 3) := dch_decL dch_dL_law_1128 10 (1138, .invokevirtual 116, 3) rfl
theorem dL_law_1141 : decode cL_law 1141 = .ok (.pop, 1) := dch_decL dch_dL_law_1128 11 (1141, .pop, 1) rfl
theorem dL_law_1142 : decode cL_law 1142 = .ok (.goto 359, 3) := dch_decL dch_dL_law_1128 12 (1142, .goto 359, 3) rfl
theorem dL_law_1145 : decode cL_law 1145 = .ok (.aload_n 1, 1) := dch_decL dch_dL_law_1128 13 (1145, .aload_n 1, 1) rfl
theorem dL_law_1146 : decode cL_law 1146 = .ok (.invokevirtual 117, 3) := dch_decL dch_dL_law_1128 14 (1146, .invokevirtual 117, 3) rfl
theorem dL_law_1149 : decode cL_law 1149 = .ok (.pop, 1) := dch_decL dch_dL_law_1128 15 (1149, .pop, 1) rfl
theorem dL_law_1150 : decode cL_law 1150 = .ok (.aload_n 2, 1) := dch_decL dch_dL_law_1128 16 (1150, .aload_n 2, 1) rfl
theorem dL_law_1151 : decode cL_law 1151 = .ok (.invokevirtual 120, 3) := dch_decL dch_dL_law_1128 17 (1151, .invokevirtual 120, 3) rfl
theorem dL_law_1154 : decode cL_law 1154 = .ok (.pop, 1) := dch_decL dch_dL_law_1128 18 (1154, .pop, 1) rfl
theorem dL_law_1155 : decode cL_law 1155 = .ok (.goto 346, 3) := dch_decL dch_dL_law_1128 19 (1155, .goto 346, 3) rfl
theorem dL_law_1158 : decode cL_law 1158 = .ok (.aload_n 1, 1) := dch_decL dch_dL_law_1128 20 (1158, .aload_n 1, 1) rfl
theorem dL_law_1159 : decode cL_law 1159 = .ok (.aload_n 0, 1) := dch_decL dch_dL_law_1128 21 (1159, .aload_n 0, 1) rfl
theorem dL_law_1160 : decode cL_law 1160 = .ok (.iload_n 3, 1) := dch_decL dch_dL_law_1128 22 (1160, .iload_n 3, 1) rfl
theorem dL_law_1161 : decode cL_law 1161 = .ok (.iconst 1, 1) := dch_decL dch_dL_law_1128 23 (1161, .iconst 1, 1) rfl
theorem dL_law_1162 : decode cL_law 1162 = .ok (.iadd, 1) := dch_decL dch_dL_law_1128 24 (1162, .iadd, 1) rfl
theorem dL_law_1163 : decode cL_law 1163 = .ok (.iaload, 1) := dch_decL dch_dL_law_1128 25 (1163, .iaload, 1) rfl
theorem dL_law_1164 : decode cL_law 1164 = .ok (.invokevirtual 121, 3) := dch_decL dch_dL_law_1128 26 (1164, .invokevirtual 121, 3) rfl
theorem dL_law_1167 : decode cL_law 1167 = .ok (.pop, 1) := dch_decL dch_dL_law_1128 27 (1167, .pop, 1) rfl
theorem dL_law_1168 : decode cL_law 1168 = .ok (.aload_n 2, 1) := dch_decL dch_dL_law_1128 28 (1168, .aload_n 2, 1) rfl
theorem dL_law_1169 : decode cL_law 1169 = .ok (.aload_n 0, 1) := dch_decL dch_dL_law_1128 29 (1169, .aload_n 0, 1) rfl
theorem dL_law_1170 : decode cL_law 1170 = .ok (.iload_n 3, 1) := dch_decL dch_dL_law_1128 30 (1170, .iload_n 3, 1) rfl
theorem dL_law_1171 : decode cL_law 1171 = .ok (.iconst 1, 1) := dch_decL dch_dL_law_1128 31 (1171, .iconst 1, 1) rfl
theorem dL_law_1172 : decode cL_law 1172 = .ok (.iadd, 1) := dch_decL dch_dL_law_1128 32 (1172, .iadd, 1) rfl
theorem dL_law_1173 : decode cL_law 1173 = .ok (.iaload, 1) := dch_decL dch_dL_law_1128 33 (1173, .iaload, 1) rfl
theorem dL_law_1174 : decode cL_law 1174 = .ok (.invokevirtual 124, 3) := dch_decL dch_dL_law_1128 34 (1174, .invokevirtual 124, 3) rfl
theorem dL_law_1177 : decode cL_law 1177 = .ok (.pop, 1) := dch_decL dch_dL_law_1128 35 (1177, .pop, 1) rfl
theorem dL_law_1178 : decode cL_law 1178 = .ok (.goto 323, 3) := dch_decL dch_dL_law_1128 36 (1178, .goto 323, 3) rfl
theorem dL_law_1181 : decode cL_law 1181 = .ok (.aload_n 1, 1) := dch_decL dch_dL_law_1128 37 (1181, .aload_n 1, 1) rfl
theorem dL_law_1182 : decode cL_law 1182 = .ok (.aload_n 0, 1) := dch_decL dch_dL_law_1128 38 (1182, .aload_n 0, 1) rfl
theorem dL_law_1183 : decode cL_law 1183 = .ok (.iload_n 3, 1) := dch_decL dch_dL_law_1128 39 (1183, .iload_n 3, 1) rfl
theorem dch_dL_law_1184 : ([(1184, .iconst 1, 1), (1185, .iadd, 1), (1186, .iaload, 1), (1187, .aload_n 0, 1), (1188, .iload_n 3, 1), (1189, .iconst 2, 1), (1190, .iadd, 1), (1191, .iaload, 1), (1192, .aload_n 0, 1), (1193, .iload_n 3, 1), (1194, .iconst 3, 1), (1195, .iadd, 1), (1196, .iaload, 1), (1197, .invokevirtual 125, 3), (1200, .pop, 1), (1201, .aload_n 2, 1), (1202, .aload_n 0, 1), (1203, .iload_n 3, 1), (1204, .iconst 1, 1), (1205, .iadd, 1), (1206, .iaload, 1), (1207, .aload_n 0, 1), (1208, .iload_n 3, 1), (1209, .iconst 2, 1), (1210, .iadd, 1), (1211, .iaload, 1), (1212, .aload_n 0, 1), (1213, .iload_n 3, 1), (1214, .iconst 3, 1), (1215, .iadd, 1), (1216, .iaload, 1), (1217, .invokevirtual 128, 3), (1220, .pop, 1), (1221, .goto 280, 3), (1224, .aload_n 1, 1), (1225, .aload_n 0, 1), (1226, .iload_n 3, 1), (1227, .iconst 1, 1), (1228, .iadd, 1), (1229, .iaload, 1)] : List (Nat × (Instr × Nat))).all (fun r => decide (decode cL_law r.1 = .ok r.2)) = true := by decide +kernel
theorem dL_law_1184 : decode cL_law 1184 = .ok (.iconst 1, 1) := dch_decL dch_dL_law_1184 0 (1184, .iconst 1, 1) rfl
theorem dL_law_1185 : decode cL_law 1185 = .ok (.iadd, 1) := dch_decL dch_dL_law_1184 1 (1185, .iadd, 1) rfl
theorem dL_law_1186 : decode cL_law 1186 = .ok (.iaload, 1) := dch_decL dch_dL_law_1184 2 (1186, .iaload, 1) rfl
theorem dL_law_1187 : decode cL_law 1187 = .ok (.aload_n 0, 1) := dch_decL dch_dL_law_1184 3 (1187, .aload_n 0, 1) rfl
theorem dL_law_1188 : decode cL_law 1188 = .ok (.iload_n 3, 1) := dch_decL dch_dL_law_1184 4 (1188, .iload_n 3, 1) rfl
theorem dL_law_1189 : decode cL_law 1189 = .ok (.iconst 2, 1) := dch_decL dch_dL_law_1184 5 (1189, .iconst 2, 1) rfl
theorem dL_law_1190 : decode cL_law 1190 = .ok (.iadd, 1) := dch_decL dch_dL_law_1184 6 (1190, .iadd, 1) rfl
theorem dL_law_1191 : decode cL_law 1191 = .ok (.iaload, 1) := dch_decL dch_dL_law_1184 7 (1191, .iaload, 1) rfl
theorem dL_law_1192 : decode cL_law 1192 = .ok (.aload_n 0, 1) := dch_decL dch_dL_law_1184 8 (1192, .aload_n 0, 1) rfl
theorem dL_law_1193 : decode cL_law 1193 = .ok (.iload_n 3, 1) := dch_decL dch_dL_law_1184 9 (1193, .iload_n 3, 1) rfl
theorem dL_law_1194 : decode cL_law 1194 = .ok (.iconst 3, 1) := dch_decL dch_dL_law_1184 10 (1194, .iconst 3, 1) rfl
theorem dL_law_1195 : decode cL_law 1195 = .ok (.iadd, 1) := dch_decL dch_dL_law_1184 11 (1195, .iadd, 1) rfl
theorem dL_law_1196 : decode cL_law 1196 = .ok (.iaload, 1) := dch_decL dch_dL_law_1184 12 (1196, .iaload, 1) rfl
theorem dL_law_1197 : decode cL_law 1197 = .ok (.invokevirtual 125, 3) := dch_decL dch_dL_law_1184 13 (1197, .invokevirtual 125, 3) rfl
theorem dL_law_1200 : decode cL_law 1200 = .ok (.pop, 1) := dch_decL dch_dL_law_1184 14 (1200, .pop, 1) rfl
theorem dL_law_1201 : decode cL_law 1201 = .ok (.aload_n 2, 1) := dch_decL dch_dL_law_1184 15 (1201, .aload_n 2, 1) rfl
theorem dL_law_1202 : decode cL_law 1202 = .ok (.aload_n 0, 1) := dch_decL dch_dL_law_1184 16 (1202, .aload_n 0, 1) rfl
theorem dL_law_1203 : decode cL_law 1203 = .ok (.iload_n 3, 1) := dch_decL dch_dL_law_1184 17 (1203, .iload_n 3, 1) rfl
theorem dL_law_1204 : decode cL_law 1204 = .ok (.iconst 1, 1) := dch_decL dch_dL_law_1184 18 (1204, .iconst 1, 1) rfl
theorem dL_law_1205 : decode cL_law 1205 = .ok (.iadd, 1) := dch_decL dch_dL_law_1184 19 (1205, .iadd, 1) rfl
theorem dL_law_1206 : decode cL_law 1206 = .ok (.iaload, 1) := dch_decL dch_dL_law_1184 20 (1206, .iaload, 1) rfl
theorem dL_law_1207 : decode cL_law 1207 = .ok (.aload_n 0, 1) := dch_decL dch_dL_law_1184 21 (1207, .aload_n 0, 1) rfl
theorem dL_law_1208 : decode cL_law 1208 = .ok (.iload_n 3, 1) := dch_decL dch_dL_law_1184 22 (1208, .iload_n 3, 1) rfl
theorem dL_law_1209 : decode cL_law 1209 = .ok (.iconst 2, 1) := dch_decL dch_dL_law_1184 23 (1209, .iconst 2, 1) rfl
theorem dL_law_1210 : decode cL_law 1210 = .ok (.iadd, 1) := dch_decL dch_dL_law_1184 24 (1210, .iadd, 1) rfl
theorem dL_law_1211 : decode cL_law 1211 = .ok (.iaload, 1) := dch_decL dch_dL_law_1184 25 (1211, .iaload, 1) rfl
theorem dL_law_1212 : decode cL_law 1212 = .ok (.aload_n 0, 1) := dch_decL dch_dL_law_1184 26 (1212, .aload_n 0, 1) rfl
theorem dL_law_1213 : decode cL_law 1213 = .ok (.iload_n 3, 1) := dch_decL dch_dL_law_1184 27 (1213, .iload_n 3, 1) rfl
theorem dL_law_1214 : decode cL_law 1214 = .ok (.iconst 3, 1) := dch_decL dch_dL_law_1184 28 (1214, .iconst 3, 1) rfl
theorem dL_law_1215 : decode cL_law 1215 = .ok (.iadd, 1) := dch_decL dch_dL_law_1184 29 (1215, .iadd, 1) rfl
theorem dL_law_1216 : decode cL_law 1216 = .ok (.iaload, 1) := dch_decL dch_dL_law_1184 30 (1216, .iaload, 1) rfl
theorem dL_law_1217 : decode cL_law 1217 = .ok (.invokevirtual 128, 3) := dch_decL dch_dL_law_1184 31 (1217, .invokevirtual 128, 3) rfl
theorem dL_law_1220 : decode cL_law 1220 = .ok (.pop, 1) := dch_decL dch_dL_law_1184 32 (1220, .pop, 1) rfl
theorem dL_law_1221 : decode cL_law 1221 = .ok (.goto 280, 3) := dch_decL dch_dL_law_1184 33 (1221, .goto 280, 3) rfl
theorem dL_law_1224 : decode cL_law 1224 = .ok (.aload_n 1, 1) := dch_decL dch_dL_law_1184 34 (1224, .aload_n 1, 1) rfl
theorem dL_law_1225 : decode cL_law 1225 = .ok (.aload_n 0, 1) := dch_decL dch_dL_law_1184 35 (1225, .aload_n 0, 1) rfl
theorem dL_law_1226 : decode cL_law 1226 = .ok (.iload_n 3, 1) := dch_decL dch_dL_law_1184 36 (1226, .iload_n 3, 1) rfl
theorem dL_law_1227 : decode cL_law 1227 = .ok (.iconst 1, 1) := dch_decL dch_dL_law_1184 37 (1227, .iconst 1, 1) rfl
theorem dL_law_1228 : decode cL_law 1228 = .ok (.iadd, 1) := dch_decL dch_dL_law_1184 38 (1228, .iadd, 1) rfl
theorem dL_law_1229 : decode cL_law 1229 = .ok (.iaload, 1) := dch_decL dch_dL_law_1184 39 (1229, .iaload, 1) rfl
theorem dch_dL_law_1230 : ([(1230, .invokevirtual 129, 3), (1233, .pop, 1), (1234, .aload_n 2, 1), (1235, .aload_n 0, 1), (1236, .iload_n 3, 1), (1237, .iconst 1, 1), (1238, .iadd, 1), (1239, .iaload, 1), (1240, .invokevirtual 132, 3), (1243, .pop, 1), (1244, .goto 257, 3), (1247, .aload_n 1, 1), (1248, .aload_n 0, 1), (1249, .iload_n 3, 1), (1250, .iconst 1, 1), (1251, .iadd, 1), (1252, .iaload, 1), (1253, .aload_n 0, 1), (1254, .iload_n 3, 1), (1255, .iconst 2, 1), (1256, .iadd, 1), (1257, .iaload, 1), (1258, .invokevirtual 133, 3), (1261, .pop, 1), (1262, .aload_n 2, 1), (1263, .aload_n 0, 1), (1264, .iload_n 3, 1), (1265, .iconst 1, 1), (1266, .iadd, 1), (1267, .iaload, 1), (1268, .aload_n 0, 1), (1269, .iload_n 3, 1), (1270, .iconst 2, 1), (1271, .iadd, 1), (1272, .iaload, 1), (1273, .invokevirtual 136, 3), (1276, .pop, 1), (1277, .goto 224, 3), (1280, .aload_n 1, 1), (1281, .aload_n 0, 1)] : List (Nat × (Instr × Nat))).all (fun r => decide (decode cL_law r.1 = .ok r.2)) = true := by decide +kernel
theorem dL_law_1230 : decode cL_law 1230 = .ok (.invokevirtual 129, 3) := dch_decL dch_dL_law_1230 0 (1230, .invokevirtual 129, 3) rfl
theorem dL_law_1233 : decode cL_law 1233 = .ok (.pop, 1) := dch_decL dch_dL_law_1230 1 (1233, .pop, 1) rfl
theorem dL_law_1234 : decode cL_law 1234 = .ok (.aload_n 2, 1) := dch_decL dch_dL_law_1230 2 (1234, .aload_n 2, 1) rfl
theorem dL_law_1235 : decode cL_law 1235 = .ok (.aload_n 0, 1) := dch_decL dch_dL_law_1230 3 (1235, .aload_n 0, 1) rfl
theorem dL_law_1236 : decode cL_law 1236 = .ok (.iload_n 3, 1) := dch_decL dch_dL_law_1230 4 (1236, .iload_n 3, 1) rfl
theorem dL_law_1237 : decode cL_law 1237 = .ok (.iconst 1, 1) := dch_decL dch_dL_law_1230 5 (1237, .iconst 1, 1) rfl
theorem dL_law_1238 : decode cL_law 1238 = .ok (.iadd, 1) := dch_decL dch_dL_law_1230 6 (1238, .iadd, 1) rfl
theorem dL_law_1239 : decode cL_law 1239 = .ok (.iaload, 1) := dch_decL dch_dL_law_1230 7 (1239, .iaload, 1) rfl
theorem dL_law_1240 : decode cL_law 1240 = .ok (.invokevirtual 132, 3) := dch_decL dch_dL_law_1230 8 (1240, .invokevirtual 132, 3) rfl
theorem dL_law_1243 : decode cL_law 1243 = .ok (.pop, 1) := dch_decL dch_dL_law_1230 9 (1243, .pop, 1) rfl
theorem dL_law_1244 : decode cL_law 1244 = .ok (.goto 257, 3) := dch_decL dch_dL_law_1230 10 (1244, .goto 257, 3) rfl
theorem dL_law_1247 : decode cL_law 1247 = .ok (.aload_n 1, 1) := dch_decL dch_dL_law_1230 11 (1247, .aload_n 1, 1) rfl
theorem dL_law_1248 : decode cL_law 1248 = .ok (.aload_n 0, 1) := dch_decL dch_dL_law_1230 12 (1248, .aload_n 0, 1) rfl
theorem dL_law_1249 : decode cL_law 1249 = .ok (.iload_n 3, 1) := dch_decL dch_dL_law_1230 13 (1249, .iload_n 3, 1) rfl
theorem dL_law_1250 : decode cL_law 1250 = .ok (.iconst 1, 1) := dch_decL dch_dL_law_1230 14 (1250, .iconst 1, 1) rfl
theorem dL_law_1251 : decode cL_law 1251 = .ok (.iadd, 1) := dch_decL dch_dL_law_1230 15 (1251, .iadd, 1) rfl
theorem dL_law_1252 : decode cL_law 1252 = .ok (.iaload, 1) := dch_decL dch_dL_law_1230 16 (1252, .iaload, 1) rfl
theorem dL_law_1253 : decode cL_law 1253 = .ok (.aload_n 0, 1) := dch_decL dch_dL_law_1230 17 (1253, .aload_n 0, 1) rfl
theorem dL_law_1254 : decode cL_law 1254 = .ok (.iload_n 3, 1) := dch_decL dch_dL_law_1230 18 (1254, .iload_n 3, 1) rfl
theorem dL_law_1255 : decode cL_law 1255 = .ok (.iconst 2, 1) := dch_decL dch_dL_law_1230 19 (1255, .iconst 2, 1) rfl
theorem dL_law_1256 : decode cL_law 1256 = .ok (.iadd, 1) := dch_decL dch_dL_law_1230 20 (1256, .iadd, 1) rfl
theorem dL_law_1257 : decode cL_law 1257 = .ok (.iaload, 1) := dch_decL dch_dL_law_1230 21 (1257, .iaload, 1) rfl
theorem dL_law_1258 : decode cL_law 1258 = .ok (.invokevirtual 133, 3) := dch_decL dch_dL_law_1230 22 (1258, .invokevirtual 133, 3) rfl
theorem dL_law_1261 : decode cL_law 1261 = .ok (.pop, 1) := dch_decL dch_dL_law_1230 23 (1261, .pop, 1) rfl
theorem dL_law_1262 : decode cL_law 1262 = .ok (.aload_n 2, 1) := dch_decL dch_dL_law_1230 24 (1262, .aload_n 2, 1) rfl
theorem dL_law_1263 : decode cL_law 1263 = .ok (.aload_n 0, 1) := dch_decL dch_dL_law_1230 25 (1263, .aload_n 0, 1) rfl
theorem dL_law_1264 : decode cL_law 1264 = .ok (.iload_n 3, 1) := dch_decL dch_dL_law_1230 26 (1264, .iload_n 3, 1) rfl
theorem dL_law_1265 : decode cL_law 1265 = .ok (.iconst 1, 1) := dch_decL dch_dL_law_1230 27 (1265, .iconst 1, 1) rfl
theorem dL_law_1266 : decode cL_law 1266 = .ok (.iadd, 1) := dch_decL dch_dL_law_1230 28 (1266, .iadd, 1) rfl
theorem dL_law_1267 : decode cL_law 1267 = .ok (.iaload, 1) := dch_decL dch_dL_law_1230 29 (1267, .iaload, 1) rfl
theorem dL_law_1268 : decode cL_law 1268 = .ok (.aload_n 0, 1) := dch_decL dch_dL_law_1230 30 (1268, .aload_n 0, 1) rfl
theorem dL_law_1269 : decode cL_law 1269 = .ok (.iload_n 3, 1) := dch_decL dch_dL_law_1230 31 (1269, .iload_n 3, 1) rfl
theorem dL_law_1270 : decode cL_law 1270 = .ok (.iconst 2, 1) := dch_decL dch_dL_law_1230 32 (1270, .iconst 2, 1) rfl
theorem dL_law_1271 : decode cL_law 1271 = .ok (.iadd, 1) := dch_decL dch_dL_law_1230 33 (1271, .iadd, 1) rfl
theorem dL_law_1272 : decode cL_law 1272 = .ok (.iaload, 1) := dch_decL dch_dL_law_1230 34 (1272, .iaload, 1) rfl
theorem dL_law_1273 : decode cL_law 1273 = .ok (.invokevirtual 136, 3) := dch_decL dch_dL_law_1230 35 (1273, .invokevirtual 136, 3) rfl
theorem dL_law_1276 : decode cL_law 1276 = .ok (.pop, 1) := dch_decL dch_dL_law_1230 36 (1276, .pop, 1) rfl
theorem dL_law_1277 : decode cL_law 1277 = .ok (.goto 224, 3) := dch_decL dch_dL_law_1230 37 (1277, .goto 224, 3) rfl
theorem dL_law_1280 : decode cL_law 1280 = .ok (.aload_n 1, 1) := dch_decL dch_dL_law_1230 38 (1280, .aload_n 1, 1) rfl
theorem dL_law_1281 : decode cL_law 1281 = .ok (.aload_n 0, 1) := dch_decL dch_dL_law_1230 39 (1281, .aload_n 0, 1) rfl
theorem dch_dL_law_1282 : ([(1282, .iload_n 3, 1), (1283, .iconst 1, 1), (1284, .iadd, 1), (1285, .iaload, 1), (1286, .aload_n 0, 1), (1287, .iload_n 3, 1), (1288, .iconst 2, 1), (1289, .iadd, 1), (1290, .iaload, 1), (1291, .invokevirtual 137, 3), (1294, .pop, 1), (1295, .aload_n 2, 1), (1296, .aload_n 0, 1), (1297, .iload_n 3, 1), (1298, .iconst 1, 1), (1299, .iadd, 1), (1300, .iaload, 1), (1301, .aload_n 0, 1), (1302, .iload_n 3, 1), (1303, .iconst 2, 1), (1304, .iadd, 1), (1305, .iaload, 1), (1306, .invokevirtual 140, 3), (1309, .pop, 1), (1310, .goto 191, 3), (1313, .aload_n 1, 1), (1314, .aload_n 0, 1), (1315, .iload_n 3, 1), (1316, .iconst 1, 1), (1317, .iadd, 1), (1318, .iaload, 1), (1319, .aload_n 0, 1), (1320, .iload_n 3, 1), (1321, .iconst 2, 1), (1322, .iadd, 1), (1323, .iaload, 1), (1324, .aload_n 0, 1), (1325, .iload_n 3, 1), (1326, .iconst 3, 1), (1327, .iadd, 1)] : List (Nat × (Instr × Nat))).all (fun r => decide (decode cL_law r.1 = .ok r.2)) = true := by decide +kernel
theorem dL_law_1282 : decode cL_law 1282 = .ok (.iload_n 3, 1) := dch_decL dch_dL_law_1282 0 (1282, .iload_n 3, 1) rfl
theorem dL_law_1283 : decode cL_law 1283 = .ok (.iconst 1, 1) := dch_decL dch_dL_law_1282 1 (1283, .iconst 1, 1) rfl
theorem dL_law_1284 : decode cL_law 1284 = .ok (.iadd, 1) := dch_decL dch_dL_law_1282 2 (1284, .iadd, 1) rfl
theorem dL_law_1285 : decode cL_law 1285 = .ok (.iaload, 1) := dch_decL dch_dL_law_1282 3 (1285, .iaload, 1) rfl
theorem dL_law_1286 : decode cL_law 1286 = .ok (.aload_n 0, 1) := dch_decL dch_dL_law_1282 4 (1286, .aload_n 0, 1) rfl
theorem dL_law_1287 : decode cL_law 1287 = .ok (.iload_n 3, 1) := dch_decL dch_dL_law_1282 5 (1287, .iload_n 3, 1) rfl
theorem dL_law_1288 : decode cL_law 1288 = .ok (.iconst 2, 1) := dch_decL dch_dL_law_1282 6 (1288, .iconst 2, 1) rfl
theorem dL_law_1289 : decode cL_law 1289 = .ok (.iadd, 1) := dch_decL dch_dL_law_1282 7 (1289, .iadd, 1) rfl
theorem dL_law_1290 : decode cL_law 1290 = .ok (.iaload, 1) := dch_decL dch_dL_law_1282 8 (1290, .iaload, 1) rfl
theorem dL_law_1291 : decode cL_law 1291 = .ok (.invokevirtual 137, 3) := dch_decL dch_dL_law_1282 9 (1291, .invokevirtual 137, 3) rfl
theorem dL_law_1294 : decode cL_law 1294 = .ok (.pop, 1) := dch_decL dch_dL_law_1282 10 (1294, .pop, 1) rfl
theorem dL_law_1295 : decode cL_law 1295 = .ok (.aload_n 2, 1) := dch_decL dch_dL_law_1282 11 (1295, .aload_n 2, 1) rfl
theorem dL_law_1296 : decode cL_law 1296 = .ok (.aload_n 0, 1) := dch_decL dch_dL_law_1282 12 (1296, .aload_n 0, 1) rfl
theorem dL_law_1297 : decode cL_law 1297 = .ok (.iload_n 3, 1) := dch_decL dch_dL_law_1282 13 (1297, .iload_n 3, 1) rfl
theorem dL_law_1298 : decode cL_law 1298 = .ok (.iconst 1, 1) := dch_decL dch_dL_law_1282 14 (1298, .iconst 1, 1) rfl
theorem dL_law_1299 : decode cL_law 1299 = .ok (.iadd, 1) := dch_decL dch_dL_law_1282 15 (1299, .iadd, 1) rfl
theorem dL_law_1300 : decode cL_law 1300 = .ok (.iaload, 1) := dch_decL dch_dL_law_1282 16 (1300, .iaload, 1) rfl
theorem dL_law_1301 : decode cL_law 1301 = .ok (.aload_n 0, 1) := dch_decL dch_dL_law_1282 17 (1301, .aload_n 0, 1) rfl
theorem dL_law_1302 : decode cL_law 1302 = .ok (.iload_n 3, 1) := dch_decL dch_dL_law_1282 18 (1302, .iload_n 3, 1) rfl
theorem dL_law_1303 : decode cL_law 1303 = .ok (.iconst 2, 1) := dch_decL dch_dL_law_1282 19 (1303, .iconst 2, 1) rfl
theorem dL_law_1304 : decode cL_law 1304 = .ok (.iadd, 1) := dch_decL dch_dL_law_1282 20 (1304, .iadd, 1) rfl
theorem dL_law_1305 : decode cL_law 1305 = .ok (.iaload, 1) := dch_decL dch_dL_law_1282 21 (1305, .iaload, 1) rfl
theorem dL_law_1306 : decode cL_law 1306 = .ok (.invokevirtual 140, 3) := dch_decL dch_dL_law_1282 22 (1306, .invokevirtual 140, 3) rfl
theorem dL_law_1309 : decode cL_law 1309 = .ok (.pop, 1) := dch_decL dch_dL_law_1282 23 (1309, .pop, 1) rfl
theorem dL_law_1310 : decode cL_law 1310 = .ok (.goto 191, 3) := dch_decL dch_dL_law_1282 24 (1310, .goto 191, 3) rfl
theorem dL_law_1313 : decode cL_law 1313 = .ok (.aload_n 1, 1) := dch_decL dch_dL_law_1282 25 (1313, .aload_n 1, 1) rfl
theorem dL_law_1314 : decode cL_law 1314 = .ok (.aload_n 0, 1) := dch_decL dch_dL_law_1282 26 (1314, .aload_n 0, 1) rfl
theorem dL_law_1315 : decode cL_law 1315 = .ok (.iload_n 3, 1) := dch_decL dch_dL_law_1282 27 (1315, .iload_n 3, 1) rfl
theorem dL_law_1316 : decode cL_law 1316 = .ok (.iconst 1, 1) := dch_decL dch_dL_law_1282 28 (1316, .iconst 1, 1) rfl
theorem dL_law_1317 : decode cL_law 1317 = .ok (.iadd, 1) := dch_decL dch_dL_law_1282 29 (1317, .iadd, 1) rfl
theorem dL_law_1318 : decode cL_law 1318 = .ok (.iaload, 1) := dch_decL dch_dL_law_1282 30 (1318, .iaload, 1) rfl
theorem dL_law_1319 : decode cL_law 1319 = .ok (.aload_n 0, 1) := dch_decL dch_dL_law_1282 31 (1319, .aload_n 0, 1) rfl
theorem dL_law_1320 : decode cL_law 1320 = .ok (.iload_n 3, 1) := dch_decL dch_dL_law_1282 32 (1320, .iload_n 3, 1) rfl
theorem dL_law_1321 : decode cL_law 1321 = .ok (.iconst 2, 1) := dch_decL dch_dL_law_1282 33 (1321, .iconst 2, 1) rfl
theorem dL_law_1322 : decode cL_law 1322 = .ok (.iadd, 1) := dch_decL dch_dL_law_1282 34 (1322, .iadd, 1) rfl
theorem dL_law_1323 : decode cL_law 1323 = .ok (.iaload, 1) := dch_decL dch_dL_law_1282 35 (1323, .iaload, 1) rfl
theorem dL_law_1324 : decode cL_law 1324 = .ok (.aload_n 0, 1) := dch_decL dch_dL_law_1282 36 (1324, .aload_n 0, 1) rfl
theorem dL_law_1325 : decode cL_law 1325 = .ok (.iload_n 3, 1) := dch_decL dch_dL_law_1282 37 (1325, .iload_n 3, 1) rfl
theorem dL_law_1326 : decode cL_law 1326 = .ok (.iconst 3, 1) := dch_decL dch_dL_law_1282 38 (1326, .iconst 3, 1) rfl
theorem dL_law_1327 : decode cL_law 1327 = .ok (.iadd, 1) := dch_decL dch_dL_law_1282 39 (1327, .iadd, 1) rfl
theorem dch_dL_law_1328 : ([(1328, .iaload, 1), (1329, .invokevirtual 141, 3), (1332, .pop, 1), (1333, .aload_n 2, 1), (1334, .aload_n 0, 1), (1335, .iload_n 3, 1), (1336, .iconst 1, 1), (1337, .iadd, 1), (1338, .iaload, 1), (1339, .aload_n 0, 1), (1340, .iload_n 3, 1), (1341, .iconst 2, 1), (1342, .iadd, 1), (1343, .iaload, 1), (1344, .aload_n 0, 1), (1345, .iload_n 3, 1), (1346, .iconst 3, 1), (1347, .iadd, 1), (1348, .iaload, 1), (1349, .invokevirtual 144, 3), (1352, .pop, 1), (1353, .goto 148, 3), (1356, .aload_n 1, 1), (1357, .invokevirtual 145, 3), (1360, .pop, 1), (1361, .aload_n 2, 1), (1362, .invokevirtual 148, 3), (1365, .pop, 1), (1366, .goto 135, 3), (1369, .aload_n 1, 1), (1370, .invokevirtual 149, 3), (1373, .pop, 1), (1374, .aload_n 2, 1), (1375, .invokevirtual 152, 3), (1378, .pop, 1), (1379, .goto 122, 3), (1382, .aload_n 1, 1), (1383, .aload_n 0, 1), (1384, .iload_n 3, 1), (1385, .iconst 1, 1)] : List (Nat × (Instr × Nat))).all (fun r => decide (decode cL_law r.1 = .ok r.2)) = true := by decide +kernel
theorem dL_law_1328 : decode cL_law 1328 = .ok (.iaload, 1) := dch_decL dch_dL_law_1328 0 (1328, .iaload, 1) rfl
theorem dL_law_1329 : decode cL_law 1329 = .ok (.invokevirtual 141, 3) := dch_decL dch_dL_law_1328 1 (1329, .invokevirtual 141, 3) rfl
theorem dL_law_1332 : decode cL_law 1332 = .ok (.pop, 1) := dch_decL dch_dL_law_1328 2 (1332, .pop, 1) rfl
theorem dL_law_1333 : decode cL_law 1333 = .ok (.aload_n 2, 1) := dch_decL dch_dL_law_1328 3 (1333, .aload_n 2, 1) rfl
theorem dL_law_1334 : decode cL_law 1334 = .ok (.aload_n 0, 1) := dch_decL dch_dL_law_1328 4 (1334, .aload_n 0, 1) rfl
theorem dL_law_1335 : decode cL_law 1335 = .ok (.iload_n 3, 1) := dch_decL dch_dL_law_1328 5 (1335, .iload_n 3, 1) rfl
theorem dL_law_1336 : decode cL_law 1336 = .ok (.iconst 1, 1) := dch_decL dch_dL_law_1328 6 (1336, .iconst 1, 1) rfl
theorem dL_law_1337 : decode cL_law 1337 = .ok (.iadd, 1) := dch_decL dch_dL_law_1328 7 (1337, .iadd, 1) rfl
theorem dL_law_1338 : decode cL_law 1338 = .ok (.iaload, 1) := dch_decL dch_dL_law_1328 8 (1338, .iaload, 1) rfl
theorem dL_law_1339 : decode cL_law 1339 = .ok (.aload_n 0, 1) := dch_decL dch_dL_law_1328 9 (1339, .aload_n 0, 1) rfl
theorem dL_law_1340 : decode cL_law 1340 = .ok (.iload_n 3, 1) := dch_decL dch_dL_law_1328 10 (1340, .iload_n 3, 1) rfl
theorem dL_law_1341 : decode cL_law 1341 = .ok (.iconst 2, 1) := dch_decL dch_dL_law_1328 11 (1341, .iconst 2, 1) rfl
theorem dL_law_1342 : decode cL_law 1342 = .ok (.iadd, 1) := dch_decL dch_dL_law_1328 12 (1342, .iadd, 1) rfl
theorem dL_law_1343 : decode cL_law 1343 = .ok (.iaload, 1) := dch_decL dch_dL_law_1328 13 (1343, .iaload, 1) rfl
theorem dL_law_1344 : decode cL_law 1344 = .ok (.aload_n 0, 1) := dch_decL dch_dL_law_1328 14 (1344, .aload_n 0, 1) rfl
theorem dL_law_1345 : decode cL_law 1345 = .ok (.iload_n 3, 1) := dch_decL dch_dL_law_1328 15 (1345, .iload_n 3, 1) rfl
theorem dL_law_1346 : decode cL_law 1346 = .ok (.iconst 3, 1) := dch_decL dch_dL_law_1328 16 (1346, .iconst 3, 1) rfl
theorem dL_law_1347 : decode cL_law 1347 = .ok (.iadd, 1) := dch_decL dch_dL_law_1328 17 (1347, .iadd, 1) rfl
theorem dL_law_1348 : decode cL_law 1348 = .ok (.iaload, 1) := dch_decL dch_dL_law_1328 18 (1348, .iaload, 1) rfl
theorem dL_law_1349 : decode cL_law 1349 = .ok (.invokevirtual 144, 3) := dch_decL dch_dL_law_1328 19 (1349, .invokevirtual 144, 3) rfl
theorem dL_law_1352 : decode cL_law 1352 = .ok (.pop, 1) := dch_decL dch_dL_law_1328 20 (1352, .pop, 1) rfl
theorem dL_law_1353 : decode cL_law 1353 = .ok (.goto 148, 3) := dch_decL dch_dL_law_1328 21 (1353, .goto 148, 3) rfl
theorem dL_law_1356 : decode cL_law 1356 = .ok (.aload_n 1, 1) := dch_decL dch_dL_law_1328 22 (1356, .aload_n 1, 1) rfl
theorem dL_law_1357 : decode cL_law 1357 = .ok (.invokevirtual 145, 3) := dch_decL dch_dL_law_1328 23 (1357, .invokevirtual 145, 3) rfl
theorem dL_law_1360 : decode cL_law 1360 = .ok (.pop, 1) := dch_decL dch_dL_law_1328 24 (1360, .pop, 1) rfl
theorem dL_law_1361 : decode cL_law 1361 = .ok (.aload_n 2, 1) := dch_decL dch_dL_law_1328 25 (1361, .aload_n 2, 1) rfl
theorem dL_law_1362 : decode cL_law 1362 = .ok (.invokevirtual 148, 3) := dch_decL dch_dL_law_1328 26 (1362, .invokevirtual 148, 3) rfl
theorem dL_law_1365 : decode cL_law 1365 = .ok (.pop, 1) := dch_decL dch_dL_law_1328 27 (1365, .pop, 1) rfl
theorem dL_law_1366 : decode cL_law 1366 = .ok (.goto 135, 3) := dch_decL dch_dL_law_1328 28 (1366, .goto 135, 3) rfl
theorem dL_law_1369 : decode cL_law 1369 = .ok (.aload_n 1, 1) := dch_decL dch_dL_law_1328 29 (1369, .aload_n 1, 1) rfl
theorem dL_law_1370 : decode cL_law 1370 = .ok (.invokevirtual 149, 3) := dch_decL dch_dL_law_1328 30 (1370, .invokevirtual 149, 3) rfl
theorem dL_law_1373 : decode cL_law 1373 = .ok (.pop, 1) := dch_decL dch_dL_law_1328 31 (1373, .pop, 1) rfl
theorem dL_law_1374 : decode cL_law 1374 = .ok (.aload_n 2, 1) := dch_decL dch_dL_law_1328 32 (1374, .aload_n 2, 1) rfl
theorem dL_law_1375 : decode cL_law 1375 = .ok (.invokevirtual 152, 3) := dch_decL dch_dL_law_1328 33 (1375, .invokevirtual 152, 3) rfl
theorem dL_law_1378 : decode cL_law 1378 = .ok (.pop, 1) := dch_decL dch_dL_law_1328 34 (1378, .pop, 1) rfl
theorem dL_law_1379 : decode cL_law 1379 = .ok (.goto 122, 3) := dch_decL dch_dL_law_1328 35 (1379, .goto 122, 3) rfl
theorem dL_law_1382 : decode cL_law 1382 = .ok (.aload_n 1, 1) := dch_decL dch_dL_law_1328 36 (1382, .aload_n 1, 1) rfl
theorem dL_law_1383 : decode cL_law 1383 = .ok (.aload_n 0, 1) := dch_decL dch_dL_law_1328 37 (1383, .aload_n 0, 1) rfl
theorem dL_law_1384 : decode cL_law 1384 = .ok (.iload_n 3, 1) := dch_decL dch_dL_law_1328 38 (1384, .iload_n 3, 1) rfl
theorem dL_law_1385 : decode cL_law 1385 = .ok (.iconst 1, 1) := dch_decL dch_dL_law_1328 39 (1385, .iconst 1, 1) rfl
theorem dch_dL_law_1386 : ([(1386, .iadd, 1), (1387, .iaload, 1), (1388, .aload_n 0, 1), (1389, .iload_n 3, 1), (1390, .iconst 2, 1), (1391, .iadd, 1), (1392, .iaload, 1), (1393, .aload_n 0, 1), (1394, .iload_n 3, 1), (1395, .iconst 3, 1), (1396, .iadd, 1), (1397, .iaload, 1), (1398, .invokevirtual 153, 3), (1401, .pop, 1), (1402, .aload_n 2, 1), (1403, .aload_n 0, 1), (1404, .iload_n 3, 1), (1405, .iconst 1, 1), (1406, .iadd, 1), (1407, .iaload, 1), (1408, .aload_n 0, 1), (1409, .iload_n 3, 1), (1410, .iconst 2, 1), (1411, .iadd, 1), (1412, .iaload, 1), (1413, .aload_n 0, 1), (1414, .iload_n 3, 1), (1415, .iconst 3, 1), (1416, .iadd, 1), (1417, .iaload, 1), (1418, .invokevirtual 156, 3), (1421, .pop, 1), (1422, .goto 79, 3), (1425, .aload_n 1, 1), (1426, .aload_n 0, 1), (1427, .iload_n 3, 1), (1428, .iconst 1, 1), (1429, .iadd, 1), (1430, .iaload, 1), (1431, .invokevirtual 157, 3)] : List (Nat × (Instr × Nat))).all (fun r => decide (decode cL_law r.1 = .ok r.2)) = true := by decide +kernel
theorem dL_law_1386 : decode cL_law 1386 = .ok (.iadd, 1) := dch_decL dch_dL_law_1386 0 (1386, .iadd, 1) rfl
theorem dL_law_1387 : decode cL_law 1387 = .ok (.iaload, 1) := dch_decL dch_dL_law_1386 1 (1387, .iaload, 1) rfl
theorem dL_law_1388 : decode cL_law 1388 = .ok (.aload_n 0, 1) := dch_decL dch_dL_law_1386 2 (1388, .aload_n 0, 1) rfl
theorem dL_law_1389 : decode cL_law 1389 = .ok (.iload_n 3, 1) := dch_decL dch_dL_law_1386 3 (1389, .iload_n 3, 1) rfl
theorem dL_law_1390 : decode cL_law 1390 = .ok (.iconst 2, 1) := dch_decL dch_dL_law_1386 4 (1390, .iconst 2, 1) rfl
theorem dL_law_1391 : decode cL_law 1391 = .ok (.iadd, 1) := dch_decL dch_dL_law_1386 5 (1391, .iadd, 1) rfl
theorem dL_law_1392 : decode cL_law 1392 = .ok (.iaload, 1) := dch_decL dch_dL_law_1386 6 (1392, .iaload, 1) rfl
theorem dL_law_1393 : decode cL_law 1393 = .ok (.aload_n 0, 1) := dch_decL dch_dL_law_1386 7 (1393, .aload_n 0, 1) rfl
theorem dL_law_1394 : decode cL_law 1394 = .ok (.iload_n 3, 1) := dch_decL dch_dL_law_1386 8 (1394, .iload_n 3, 1) rfl
theorem dL_law_1395 : decode cL_law 1395 = .ok (.iconst 3, 1) := dch_decL dch_dL_law_1386 9 (1395, .iconst 3, 1) rfl
theorem dL_law_1396 : decode cL_law 1396 = .ok (.iadd, 1) := dch_decL dch_dL_law_1386 10 (1396, .iadd, 1) rfl
theorem dL_law_1397 : decode cL_law 1397 = .ok (.iaload, 1) := dch_decL dch_dL_law_1386 11 (1397, .iaload, 1) rfl
theorem dL_law_1398 : decode cL_law 1398 = .ok (.invokevirtual 153, 3) := dch_decL dch_dL_law_1386 12 (1398, .invokevirtual 153, 3) rfl
theorem dL_law_1401 : decode cL_law 1401 = .ok (.pop, 1) := dch_decL dch_dL_law_1386 13 (1401, .pop, 1) rfl
theorem dL_law_1402 : decode cL_law 1402 = .ok (.aload_n 2, 1) := dch_decL dch_dL_law_1386 14 (1402, .aload_n 2, 1) rfl
theorem dL_law_1403 : decode cL_law 1403 = .ok (.aload_n 0, 1) := dch_decL dch_dL_law_1386 15 (1403, .aload_n 0, 1) rfl
theorem dL_law_1404 : decode cL_law 1404 = .ok (.iload_n 3, 1) := dch_decL dch_dL_law_1386 16 (1404, .iload_n 3, 1) rfl
theorem dL_law_1405 : decode cL_law 1405 = .ok (.iconst 1, 1) := dch_decL dch_dL_law_1386 17 (1405, .iconst 1, 1) rfl
theorem dL_law_1406 : decode cL_law 1406 = .ok (.iadd, 1) := dch_decL dch_dL_law_1386 18 (1406, .iadd, 1) rfl
theorem dL_law_1407 : decode cL_law 1407 = .ok (.iaload, 1) := dch_decL dch_dL_law_1386 19 (1407, .iaload, 1) rfl
theorem dL_law_1408 : decode cL_law 1408 = .ok (.aload_n 0, 1) := dch_decL dch_dL_law_1386 20 (1408, .aload_n 0, 1) rfl
theorem dL_law_1409 : decode cL_law 1409 = .ok (.iload_n 3, 1) := dch_decL dch_dL_law_1386 21 (1409, .iload_n 3, 1) rfl
theorem dL_law_1410 : decode cL_law 1410 = .ok (.iconst 2, 1) := dch_decL dch_dL_law_1386 22 (1410, .iconst 2, 1) rfl
theorem dL_law_1411 : decode cL_law 1411 = .ok (.iadd, 1) := dch_decL dch_dL_law_1386 23 (1411, .iadd, 1) rfl
theorem dL_law_1412 : decode cL_law 1412 = .ok (.iaload, 1) := dch_decL dch_dL_law_1386 24 (1412, .iaload, 1) rfl
theorem dL_law_1413 : decode cL_law 1413 = .ok (.aload_n 0, 1) := dch_decL dch_dL_law_1386 25 (1413, .aload_n 0, 1) rfl
theorem dL_law_1414 : decode cL_law 1414 = .ok (.iload_n 3, 1) := dch_decL dch_dL_law_1386 26 (1414, .iload_n 3, 1) rfl
theorem dL_law_1415 : decode cL_law 1415 = .ok (.iconst 3, 1) := dch_decL dch_dL_law_1386 27 (1415, .iconst 3, 1) rfl
theorem dL_law_1416 : decode cL_law 1416 = .ok (.iadd, 1) := dch_decL dch_dL_law_1386 28 (1416, .iadd, 1) rfl
theorem dL_law_1417 : decode cL_law 1417 = .ok (.iaload, 1) := dch_decL dch_dL_law_1386 29 (1417, .iaload, 1) rfl
theorem dL_law_1418 : decode cL_law 1418 = .ok (.invokevirtual 156, 3) := dch_decL dch_dL_law_1386 30 (1418, .invokevirtual 156, 3) rfl
theorem dL_law_1421 : decode cL_law 1421 = .ok (.pop, 1) := dch_decL dch_dL_law_1386 31 (1421, .pop, 1) rfl
theorem dL_law_1422 : decode cL_law 1422 = .ok (.goto 79, 3) := dch_decL dch_dL_law_1386 32 (1422, .goto 79, 3) rfl
theorem dL_law_1425 : decode cL_law 1425 = .ok (.aload_n 1, 1) := dch_decL dch_dL_law_1386 33 (1425, .aload_n 1, 1) rfl
theorem dL_law_1426 : decode cL_law 1426 = .ok (.aload_n 0, 1) := dch_decL dch_dL_law_1386 34 (1426, .aload_n 0, 1) rfl
theorem dL_law_1427 : decode cL_law 1427 = .ok (.iload_n 3, 1) := dch_decL dch_dL_law_1386 35 (1427, .iload_n 3, 1) rfl
theorem dL_law_1428 : decode cL_law 1428 = .ok (.iconst 1, 1) := dch_decL dch_dL_law_1386 36 (1428, .iconst 1, 1) rfl
theorem dL_law_1429 : decode cL_law 1429 = .ok (.iadd, 1) := dch_decL dch_dL_law_1386 37 (1429, .iadd, 1) rfl
theorem dL_law_1430 : decode cL_law 1430 = .ok (.iaload, 1) := dch_decL dch_dL_law_1386 38 (1430, .iaload, 1) rfl
theorem dL_law_1431 : decode cL_law 1431 = .ok (.invokevirtual 157, 3) := dch_decL dch_dL_law_1386 39 (1431, .invokevirtual 157, 3) rfl
theorem dch_dL_law_1434 : ([(1434, .pop, 1), (1435, .aload_n 2, 1), (1436, .aload_n 0, 1), (1437, .iload_n 3, 1), (1438, .iconst 1, 1), (1439, .iadd, 1), (1440, .iaload, 1), (1441, .invokevirtual 160, 3), (1444, .pop, 1), (1445, .goto 56, 3), (1448, .aload_n 1, 1), (1449, .aload_n 0, 1), (1450, .iload_n 3, 1), (1451, .iconst 1, 1), (1452, .iadd, 1), (1453, .iaload, 1), (1454, .aload_n 0, 1), (1455, .iload_n 3, 1), (1456, .iconst 2, 1), (1457, .iadd, 1), (1458, .iaload, 1), (1459, .aload_n 0, 1), (1460, .iload_n 3, 1), (1461, .iconst 3, 1), (1462, .iadd, 1), (1463, .iaload, 1), (1464, .aload_n 0, 1), (1465, .iload_n 3, 1), (1466, .iconst 4, 1), (1467, .iadd, 1), (1468, .iaload, 1), (1469, .invokevirtual 161, 3), (1472, .pop, 1), (1473, .aload_n 2, 1), (1474, .aload_n 0, 1), (1475, .iload_n 3, 1), (1476, .iconst 1, 1), (1477, .iadd, 1), (1478, .iaload, 1), (1479, .aload_n 0, 1)] : List (Nat × (Instr × Nat))).all (fun r => decide (decode cL_law r.1 = .ok r.2)) = true := by decide +kernel
theorem dL_law_1434 : decode cL_law 1434 = .ok (.pop, 1) := dch_decL dch_dL_law_1434 0 (1434, .pop, 1) rfl
theorem dL_law_1435 : decode cL_law 1435 = .ok (.aload_n 2, 1) := dch_decL dch_dL_law_1434 1 (1435, .aload_n 2, 1) rfl
theorem dL_law_1436 : decode cL_law 1436 = .ok (.aload_n 0, 1) := dch_decL dch_dL_law_1434 2 (1436, .aload_n 0, 1) rfl
theorem dL_law_1437 : decode cL_law 1437 = .ok (.iload_n 3, 1) := dch_decL dch_dL_law_1434 3 (1437, .iload_n 3, 1) rfl
theorem dL_law_1438 : decode cL_law 1438 = .ok (.iconst 1, 1) := dch_decL dch_dL_law_1434 4 (1438, .iconst 1, 1) rfl
theorem dL_law_1439 : decode cL_law 1439 = .ok (.iadd, 1) := dch_decL dch_dL_law_1434 5 (1439, .iadd, 1) rfl
theorem dL_law_1440 : decode cL_law 1440 = .ok (.iaload, 1) := dch_decL dch_dL_law_1434 6 (1440, .iaload, 1) rfl
theorem dL_law_1441 : decode cL_law 1441 = .ok (.invokevirtual 160, 3) := dch_decL dch_dL_law_1434 7 (1441, .invokevirtual 160, 3) rfl
theorem dL_law_1444 : decode cL_law 1444 = .ok (.pop, 1) := dch_decL dch_dL_law_1434 8 (1444, .pop, 1) rfl
theorem dL_law_1445 : decode cL_law 1445 = .ok (.goto 56, 3) := dch_decL dch_dL_law_1434 9 (1445, .goto 56, 3) rfl
theorem dL_law_1448 : decode cL_law 1448 = .ok (.aload_n 1, 1) := dch_decL dch_dL_law_1434 10 (1448, .aload_n 1, 1) rfl
theorem dL_law_1449 : decode cL_law 1449 = .ok (.aload_n 0, 1) := dch_decL dch_dL_law_1434 11 (1449, .aload_n 0, 1) rfl
theorem dL_law_1450 : decode cL_law 1450 = .ok (.iload_n 3, 1) := dch_decL dch_dL_law_1434 12 (1450, .iload_n 3, 1) rfl
theorem dL_law_1451 : decode cL_law 1451 = .ok (.iconst 1, 1) := dch_decL dch_dL_law_1434 13 (1451, .iconst 1, 1) rfl
theorem dL_law_1452 : decode cL_law 1452 = .ok (.iadd, 1) := dch_decL dch_dL_law_1434 14 (1452, .iadd, 1) rfl
theorem dL_law_1453 : decode cL_law 1453 = .ok (.iaload, 1) := dch_decL dch_dL_law_1434 15 (1453, .iaload, 1) rfl
theorem dL_law_1454 : decode cL_law 1454 = .ok (.aload_n 0, 1) := dch_decL dch_dL_law_1434 16 (1454, .aload_n 0, 1) rfl
theorem dL_law_1455 : decode cL_law 1455 = .ok (.iload_n 3, 1) := dch_decL dch_dL_law_1434 17 (1455, .iload_n 3, 1) rfl
theorem dL_law_1456 : decode cL_law 1456 = .ok (.iconst 2, 1) := dch_decL dch_dL_law_1434 18 (1456, .iconst 2, 1) rfl
theorem dL_law_1457 : decode cL_law 1457 = .ok (.iadd, 1) := dch_decL dch_dL_law_1434 19 (1457, .iadd, 1) rfl
theorem dL_law_1458 : decode cL_law 1458 = .ok (.iaload, 1) := dch_decL dch_dL_law_1434 20 (1458, .iaload, 1) rfl
theorem dL_law_1459 : decode cL_law 1459 = .ok (.aload_n 0, 1) := dch_decL dch_dL_law_1434 21 (1459, .aload_n 0, 1) rfl
theorem dL_law_1460 : decode cL_law 1460 = .ok (.iload_n 3, 1) := dch_decL dch_dL_law_1434 22 (1460, .iload_n 3, 1) rfl
theorem dL_law_1461 : decode cL_law 1461 = .ok (.iconst 3, 1) := dch_decL dch_dL_law_1434 23 (1461, .iconst 3, 1) rfl
theorem dL_law_1462 : decode cL_law 1462 = .ok (.iadd, 1) := dch_decL dch_dL_law_1434 24 (1462, .iadd, 1) rfl
theorem dL_law_1463 : decode cL_law 1463 = .ok (.iaload, 1) := dch_decL dch_dL_law_1434 25 (1463, .iaload, 1) rfl
theorem dL_law_1464 : decode cL_law 1464 = .ok (.aload_n 0, 1) := dch_decL dch_dL_law_1434 26 (1464, .aload_n 0, 1) rfl
theorem dL_law_1465 : decode cL_law 1465 = .ok (.iload_n 3, 1) := dch_decL dch_dL_law_1434 27 (1465, .iload_n 3, 1) rfl
theorem dL_law_1466 : decode cL_law 1466 = .ok (.iconst 4, 1) := dch_decL dch_dL_law_1434 28 (1466, .iconst 4, 1) rfl
theorem dL_law_1467 : decode cL_law 1467 = .ok (.iadd, 1) := dch_decL dch_dL_law_1434 29 (1467, .iadd, 1) rfl
theorem dL_law_1468 : decode cL_law 1468 = .ok (.iaload, 1) := dch_decL dch_dL_law_1434 30 (1468, .iaload, 1) rfl
theorem dL_law_1469 : decode cL_law 1469 = .ok (.invokevirtual 161, 3) := dch_decL dch_dL_law_1434 31 (1469, .invokevirtual 161, 3) rfl
theorem dL_law_1472 : decode cL_law 1472 = .ok (.pop, 1) := dch_decL dch_dL_law_1434 32 (1472, .pop, 1) rfl
theorem dL_law_1473 : decode cL_law 1473 = .ok (.aload_n 2, 1) := dch_decL dch_dL_law_1434 33 (1473, .aload_n 2, 1) rfl
theorem dL_law_1474 : decode cL_law 1474 = .ok (.aload_n 0, 1) := dch_decL dch_dL_law_1434 34 (1474, .aload_n 0, 1) rfl
theorem dL_law_1475 : decode cL_law 1475 = .ok (.iload_n 3, 1) := dch_decL dch_dL_law_1434 35 (1475, .iload_n 3, 1) rfl
theorem dL_law_1476 : decode cL_law 1476 = .ok (.iconst 1, 1) := dch_decL dch_dL_law_1434 36 (1476, .iconst 1, 1) rfl
theorem dL_law_1477 : decode cL_law 1477 = .ok (.iadd, 1) := dch_decL dch_dL_law_1434 37 (1477, .iadd, 1) rfl
theorem dL_law_1478 : decode cL_law 1478 = .ok (.iaload, 1) := dch_decL dch_dL_law_1434 38 (1478, .iaload, 1) rfl
theorem dL_law_1479 : decode cL_law 1479 = .ok (.aload_n 0, 1) := dch_decL dch_dL_law_1434 39 (1479, .aload_n 0, 1) rfl
theorem dch_dL_law_1480 : ([(1480, .iload_n 3, 1), (1481, .iconst 2, 1), (1482, .iadd, 1), (1483, .iaload, 1), (1484, .aload_n 0, 1), (1485, .iload_n 3, 1), (1486, .iconst 3, 1), (1487, .iadd, 1), (1488, .iaload, 1), (1489, .aload_n 0, 1), (1490, .iload_n 3, 1), (1491, .iconst 4, 1), (1492, .iadd, 1), (1493, .iaload, 1), (1494, .invokevirtual 164, 3), (1497, .pop, 1), (1498, .goto 3, 3), (1501, .iinc 3 7, 3), (1504, .goto (-1486), 3), (1507, .iconst 1, 1), (1508, .ireturn, 1)] : List (Nat × (Instr × Nat))).all (fun r => decide (decode cL_law r.1 = .ok r.2)) = true := by decide +kernel
theorem dL_law_1480 : decode cL_law 1480 = .ok (.iload_n 3, 1) := dch_decL dch_dL_law_1480 0 (1480, .iload_n 3, 1) rfl
theorem dL_law_1481 : decode cL_law 1481 = .ok (.iconst 2, 1) := dch_decL dch_dL_law_1480 1 (1481, .iconst 2, 1) rfl
theorem dL_law_1482 : decode cL_law 1482 = .ok (.iadd, 1) := dch_decL dch_dL_law_1480 2 (1482, .iadd, 1) rfl
theorem dL_law_1483 : decode cL_law 1483 = .ok (.iaload, 1) := dch_decL dch_dL_law_1480 3 (1483, .iaload, 1) rfl
theorem dL_law_1484 : decode cL_law 1484 = .ok (.aload_n 0, 1) := dch_decL dch_dL_law_1480 4 (1484, .aload_n 0, 1) rfl
theorem dL_law_1485 : decode cL_law 1485 = .ok (.iload_n 3, 1) := dch_decL dch_dL_law_1480 5 (1485, .iload_n 3, 1) rfl
theorem dL_law_1486 : decode cL_law 1486 = .ok (.iconst 3, 1) := dch_decL dch_dL_law_1480 6 (1486, .iconst 3, 1) rfl
theorem dL_law_1487 : decode cL_law 1487 = .ok (.iadd, 1) := dch_decL dch_dL_law_1480 7 (1487, .iadd, 1) rfl
theorem dL_law_1488 : decode cL_law 1488 = .ok (.iaload, 1) := dch_decL dch_dL_law_1480 8 (1488, .iaload, 1) rfl
theorem dL_law_1489 : decode cL_law 1489 = .ok (.aload_n 0, 1) := dch_decL dch_dL_law_1480 9 (1489, .aload_n 0, 1) rfl
theorem dL_law_1490 : decode cL_law 1490 = .ok (.iload_n 3, 1) := dch_decL dch_dL_law_1480 10 (1490, .iload_n 3, 1) rfl
theorem dL_law_1491 : decode cL_law 1491 = .ok (.iconst 4, 1) := dch_decL dch_dL_law_1480 11 (1491, .iconst 4, 1) rfl
theorem dL_law_1492 : decode cL_law 1492 = .ok (.iadd, 1) := dch_decL dch_dL_law_1480 12 (1492, .iadd, 1) rfl
theorem dL_law_1493 : decode cL_law 1493 = .ok (.iaload, 1) := dch_decL dch_dL_law_1480 13 (1493, .iaload, 1) rfl
theorem dL_law_1494 : decode cL_law 1494 = .ok (.invokevirtual 164, 3) := dch_decL dch_dL_law_1480 14 (1494, .invokevirtual 164, 3) rfl
theorem dL_law_1497 : decode cL_law 1497 = .ok (.pop, 1) := dch_decL dch_dL_law_1480 15 (1497, .pop, 1) rfl
theorem dL_law_1498 : decode cL_law 1498 = .ok (.goto 3, 3) := dch_decL dch_dL_law_1480 16 (1498, .goto 3, 3) rfl
theorem dL_law_1501 : decode cL_law 1501 = .ok (.iinc 3 7, 3) := dch_decL dch_dL_law_1480 17 (1501, .iinc 3 7, 3) rfl
theorem dL_law_1504 : decode cL_law 1504 = .ok (.goto (-1486), 3) := dch_decL dch_dL_law_1480 18 (1504, .goto (-1486), 3) rfl
theorem dL_law_1507 : decode cL_law 1507 = .ok (.iconst 1, 1) := dch_decL dch_dL_law_1480 19 (1507, .iconst 1, 1) rfl
theorem dL_law_1508 : decode cL_law 1508 = .ok (.ireturn, 1) := dch_decL dch_dL_law_1480 20 (1508, .ireturn, 1) rfl
