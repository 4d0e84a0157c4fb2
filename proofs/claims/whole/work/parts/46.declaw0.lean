/-! ===== the law's decode rows ===== -/
def dcl (f : Nat → Except DecodeError (Instr × Nat)) (L : List (Nat × Instr × Nat)) : Bool := L.all fun q => decide (f q.1 = .ok (q.2.1, q.2.2))
theorem dcl_at {f : Nat → Except DecodeError (Instr × Nat)} {L : List (Nat × Instr × Nat)} (h : dcl f L = true) (i : Nat) {a : Nat} {b : Instr} {c : Nat} (hi : L[i]? = some (a, b, c)) : f a = .ok (b, c) := of_decide_eq_true (List.all_eq_true.mp h (a, b, c) (List.mem_of_getElem? hi))
def dlb_0l : List (Nat × Instr × Nat) := [(0, .new 8, 3), (3, .dup, 1), (4, .invokespecial 115, 3), (7, .astore_n 1, 1), (8, .new 116, 3), (11, .dup, 1), (12, .invokespecial 118, 3), (15, .astore_n 2, 1), (16, .iconst 1, 1), (17, .newarray .long, 2), (19, .astore_n 3, 1), (20, .iconst 1, 1), (21, .newarray .double, 2), (23, .astore 4, 2), (25, .iconst 0, 1), (26, .istore 5, 2), (28, .iload 5, 2), (30, .aload_n 0, 1), (31, .arraylength, 1), (32, .iconst 4, 1), (33, .isub, 1), (34, .if_icmp .gt 2090, 3), (37, .aload_n 0, 1), (38, .iload 5, 2), (40, .iaload, 1), (41, .bipush 31, 2), (43, .iand, 1), (44, .tableswitch 2074 0 31 #[144, 200, 244, 324, 404, 484, 566, 634, 702, 772, 816, 829, 897, 965, 1021, 1084, 1098, 1112, 1180, 1250, 1318, 1386, 1454, 1522, 1590, 1658, 1726, 1794, 1862, 1930, 1943, 2009], 144), (188, .aload_n 1, 1), (189, .aload_n 0, 1), (190, .iload 5, 2), (192, .iconst 1, 1), (193, .iadd, 1), (194, .iaload, 1), (195, .aload_n 3, 1), (196, .invokestatic 119, 3), (199, .istore 6, 2), (201, .aload_n 2, 1), (202, .aload_n 0, 1), (203, .iload 5, 2), (205, .iconst 1, 1), (206, .iadd, 1), (207, .iaload, 1), (208, .invokevirtual 124, 3), (211, .istore 7, 2), (213, .aload_n 2, 1), (214, .invokevirtual 125, 3), (217, .iload 6, 2), (219, .if_icmp .eq 5, 3), (222, .iconst 0, 1), (223, .ireturn, 1), (224, .iload 6, 2), (226, .ifCond .ne 15, 3), (229, .aload_n 3, 1), (230, .iconst 0, 1), (231, .laload, 1), (232, .iload 7, 2), (234, .i2l, 1), (235, .lcmp, 1), (236, .ifCond .eq 5, 3), (239, .iconst 0, 1), (240, .ireturn, 1), (241, .goto 1877, 3), (244, .aload_n 1, 1), (245, .aload_n 3, 1), (246, .invokestatic 128, 3), (249, .istore 6, 2), (251, .aload_n 2, 1), (252, .invokevirtual 131, 3), (255, .istore 7, 2), (257, .aload_n 2, 1), (258, .invokevirtual 125, 3), (261, .iload 6, 2), (263, .if_icmp .eq 5, 3), (266, .iconst 0, 1), (267, .ireturn, 1), (268, .iload 6, 2), (270, .ifCond .ne 15, 3), (273, .aload_n 3, 1), (274, .iconst 0, 1), (275, .laload, 1), (276, .iload 7, 2), (278, .i2l, 1), (279, .lcmp, 1), (280, .ifCond .eq 5, 3), (283, .iconst 0, 1), (284, .ireturn, 1), (285, .goto 1833, 3), (288, .aload_n 1, 1), (289, .aload_n 0, 1), (290, .iload 5, 2), (292, .iconst 1, 1), (293, .iadd, 1), (294, .iaload, 1), (295, .aload_n 0, 1), (296, .iload 5, 2), (298, .iconst 2, 1), (299, .iadd, 1), (300, .iaload, 1), (301, .aload_n 0, 1), (302, .iload 5, 2), (304, .iconst 3, 1), (305, .iadd, 1), (306, .iaload, 1), (307, .aload_n 3, 1), (308, .invokestatic 132, 3), (311, .istore 6, 2)]
theorem dlb_0 : dcl (fun k => decode cL_law k) dlb_0l = true := by decide +kernel
theorem dL_law_0 : decode cL_law 0 = .ok (.new 8, 3) := dcl_at (f := fun k => decode cL_law k) dlb_0 0 rfl
theorem dL_law_3 : decode cL_law 3 = .ok (.dup, 1) := dcl_at (f := fun k => decode cL_law k) dlb_0 1 rfl
theorem dL_law_4 : decode cL_law 4 = .ok (.invokespecial 115, 3) := dcl_at (f := fun k => decode cL_law k) dlb_0 2 rfl
theorem dL_law_7 : decode cL_law 7 = .ok (.astore_n 1, 1) := dcl_at (f := fun k => decode cL_law k) dlb_0 3 rfl
theorem dL_law_8 : decode cL_law 8 = .ok (.new 116, 3) := dcl_at (f := fun k => decode cL_law k) dlb_0 4 rfl
theorem dL_law_11 : decode cL_law 11 = .ok (.dup, 1) := dcl_at (f := fun k => decode cL_law k) dlb_0 5 rfl
theorem dL_law_12 : decode cL_law 12 = .ok (.invokespecial 118, 3) := dcl_at (f := fun k => decode cL_law k) dlb_0 6 rfl
theorem dL_law_15 : decode cL_law 15 = .ok (.astore_n 2, 1) := dcl_at (f := fun k => decode cL_law k) dlb_0 7 rfl
theorem dL_law_16 : decode cL_law 16 = .ok (.iconst 1, 1) := dcl_at (f := fun k => decode cL_law k) dlb_0 8 rfl
theorem dL_law_17 : decode cL_law 17 = .ok (.newarray .long, 2) := dcl_at (f := fun k => decode cL_law k) dlb_0 9 rfl
theorem dL_law_19 : decode cL_law 19 = .ok (.astore_n 3, 1) := dcl_at (f := fun k => decode cL_law k) dlb_0 10 rfl
theorem dL_law_20 : decode cL_law 20 = .ok (.iconst 1, 1) := dcl_at (f := fun k => decode cL_law k) dlb_0 11 rfl
theorem dL_law_21 : decode cL_law 21 = .ok (.newarray .double, 2) := dcl_at (f := fun k => decode cL_law k) dlb_0 12 rfl
theorem dL_law_23 : decode cL_law 23 = .ok (.astore 4, 2) := dcl_at (f := fun k => decode cL_law k) dlb_0 13 rfl
theorem dL_law_25 : decode cL_law 25 = .ok (.iconst 0, 1) := dcl_at (f := fun k => decode cL_law k) dlb_0 14 rfl
theorem dL_law_26 : decode cL_law 26 = .ok (.istore 5, 2) := dcl_at (f := fun k => decode cL_law k) dlb_0 15 rfl
theorem dL_law_28 : decode cL_law 28 = .ok (.iload 5, 2) := dcl_at (f := fun k => decode cL_law k) dlb_0 16 rfl
theorem dL_law_30 : decode cL_law 30 = .ok (.aload_n 0, 1) := dcl_at (f := fun k => decode cL_law k) dlb_0 17 rfl
theorem dL_law_31 : decode cL_law 31 = .ok (.arraylength, 1) := dcl_at (f := fun k => decode cL_law k) dlb_0 18 rfl
theorem dL_law_32 : decode cL_law 32 = .ok (.iconst 4, 1) := dcl_at (f := fun k => decode cL_law k) dlb_0 19 rfl
theorem dL_law_33 : decode cL_law 33 = .ok (.isub, 1) := dcl_at (f := fun k => decode cL_law k) dlb_0 20 rfl
theorem dL_law_34 : decode cL_law 34 = .ok (.if_icmp .gt 2090, 3) := dcl_at (f := fun k => decode cL_law k) dlb_0 21 rfl
theorem dL_law_37 : decode cL_law 37 = .ok (.aload_n 0, 1) := dcl_at (f := fun k => decode cL_law k) dlb_0 22 rfl
theorem dL_law_38 : decode cL_law 38 = .ok (.iload 5, 2) := dcl_at (f := fun k => decode cL_law k) dlb_0 23 rfl
theorem dL_law_40 : decode cL_law 40 = .ok (.iaload, 1) := dcl_at (f := fun k => decode cL_law k) dlb_0 24 rfl
theorem dL_law_41 : decode cL_law 41 = .ok (.bipush 31, 2) := dcl_at (f := fun k => decode cL_law k) dlb_0 25 rfl
theorem dL_law_43 : decode cL_law 43 = .ok (.iand, 1) := dcl_at (f := fun k => decode cL_law k) dlb_0 26 rfl
theorem dL_law_44 : decode cL_law 44 = .ok (.tableswitch 2074 0 31 #[144, 200, 244, 324, 404, 484, 566, 634, 702, 772, 816, 829, 897, 965, 1021, 1084, 1098, 1112, 1180, 1250, 1318, 1386, 1454, 1522, 1590, 1658, 1726, 1794, 1862, 1930, 1943, 2009], 144) := dcl_at (f := fun k => decode cL_law k) dlb_0 27 rfl
theorem dL_law_188 : decode cL_law 188 = .ok (.aload_n 1, 1) := dcl_at (f := fun k => decode cL_law k) dlb_0 28 rfl
theorem dL_law_189 : decode cL_law 189 = .ok (.aload_n 0, 1) := dcl_at (f := fun k => decode cL_law k) dlb_0 29 rfl
theorem dL_law_190 : decode cL_law 190 = .ok (.iload 5, 2) := dcl_at (f := fun k => decode cL_law k) dlb_0 30 rfl
theorem dL_law_192 : decode cL_law 192 = .ok (.iconst 1, 1) := dcl_at (f := fun k => decode cL_law k) dlb_0 31 rfl
theorem dL_law_193 : decode cL_law 193 = .ok (.iadd, 1) := dcl_at (f := fun k => decode cL_law k) dlb_0 32 rfl
theorem dL_law_194 : decode cL_law 194 = .ok (.iaload, 1) := dcl_at (f := fun k => decode cL_law k) dlb_0 33 rfl
theorem dL_law_195 : decode cL_law 195 = .ok (.aload_n 3, 1) := dcl_at (f := fun k => decode cL_law k) dlb_0 34 rfl
theorem dL_law_196 : decode cL_law 196 = .ok (.invokestatic 119, 3) := dcl_at (f := fun k => decode cL_law k) dlb_0 35 rfl
theorem dL_law_199 : decode cL_law 199 = .ok (.istore 6, 2) := dcl_at (f := fun k => decode cL_law k) dlb_0 36 rfl
theorem dL_law_201 : decode cL_law 201 = .ok (.aload_n 2, 1) := dcl_at (f := fun k => decode cL_law k) dlb_0 37 rfl
theorem dL_law_202 : decode cL_law 202 = .ok (.aload_n 0, 1) := dcl_at (f := fun k => decode cL_law k) dlb_0 38 rfl
theorem dL_law_203 : decode cL_law 203 = .ok (.iload 5, 2) := dcl_at (f := fun k => decode cL_law k) dlb_0 39 rfl
theorem dL_law_205 : decode cL_law 205 = .ok (.iconst 1, 1) := dcl_at (f := fun k => decode cL_law k) dlb_0 40 rfl
theorem dL_law_206 : decode cL_law 206 = .ok (.iadd, 1) := dcl_at (f := fun k => decode cL_law k) dlb_0 41 rfl
theorem dL_law_207 : decode cL_law 207 = .ok (.iaload, 1) := dcl_at (f := fun k => decode cL_law k) dlb_0 42 rfl
theorem dL_law_208 : decode cL_law 208 = .ok (.invokevirtual 124, 3) := dcl_at (f := fun k => decode cL_law k) dlb_0 43 rfl
theorem dL_law_211 : decode cL_law 211 = .ok (.istore 7, 2) := dcl_at (f := fun k => decode cL_law k) dlb_0 44 rfl
theorem dL_law_213 : decode cL_law 213 = .ok (.aload_n 2, 1) := dcl_at (f := fun k => decode cL_law k) dlb_0 45 rfl
theorem dL_law_214 : decode cL_law 214 = .ok (.invokevirtual 125, 3) := dcl_at (f := fun k => decode cL_law k) dlb_0 46 rfl
theorem dL_law_217 : decode cL_law 217 = .ok (.iload 6, 2) := dcl_at (f := fun k => decode cL_law k) dlb_0 47 rfl
theorem dL_law_219 : decode cL_law 219 = .ok (.if_icmp .eq 5, 3) := dcl_at (f := fun k => decode cL_law k) dlb_0 48 rfl
theorem dL_law_222 : decode cL_law 222 = .ok (.iconst 0, 1) := dcl_at (f := fun k => decode cL_law k) dlb_0 49 rfl
theorem dL_law_223 : decode cL_law 223 = .ok (.ireturn, 1) := dcl_at (f := fun k => decode cL_law k) dlb_0 50 rfl
theorem dL_law_224 : decode cL_law 224 = .ok (.iload 6, 2) := dcl_at (f := fun k => decode cL_law k) dlb_0 51 rfl
theorem dL_law_226 : decode cL_law 226 = .ok (.ifCond .ne 15, 3) := dcl_at (f := fun k => decode cL_law k) dlb_0 52 rfl
theorem dL_law_229 : decode cL_law 229 = .ok (.aload_n 3, 1) := dcl_at (f := fun k => decode cL_law k) dlb_0 53 rfl
theorem dL_law_230 : decode cL_law 230 = .ok (.iconst 0, 1) := dcl_at (f := fun k => decode cL_law k) dlb_0 54 rfl
theorem dL_law_231 : decode cL_law 231 = .ok (.laload, 1) := dcl_at (f := fun k => decode cL_law k) dlb_0 55 rfl
theorem dL_law_232 : decode cL_law 232 = .ok (.iload 7, 2) := dcl_at (f := fun k => decode cL_law k) dlb_0 56 rfl
theorem dL_law_234 : decode cL_law 234 = .ok (.i2l, 1) := dcl_at (f := fun k => decode cL_law k) dlb_0 57 rfl
theorem dL_law_235 : decode cL_law 235 = .ok (.lcmp, 1) := dcl_at (f := fun k => decode cL_law k) dlb_0 58 rfl
theorem dL_law_236 : decode cL_law 236 = .ok (.ifCond .eq 5, 3) := dcl_at (f := fun k => decode cL_law k) dlb_0 59 rfl
theorem dL_law_239 : decode cL_law 239 = .ok (.iconst 0, 1) := dcl_at (f := fun k => decode cL_law k) dlb_0 60 rfl
theorem dL_law_240 : decode cL_law 240 = .ok (.ireturn, 1) := dcl_at (f := fun k => decode cL_law k) dlb_0 61 rfl
theorem dL_law_241 : decode cL_law 241 = .ok (.goto 1877, 3) := dcl_at (f := fun k => decode cL_law k) dlb_0 62 rfl
theorem dL_law_244 : decode cL_law 244 = .ok (.aload_n 1, 1) := dcl_at (f := fun k => decode cL_law k) dlb_0 63 rfl
theorem dL_law_245 : decode cL_law 245 = .ok (.aload_n 3, 1) := dcl_at (f := fun k => decode cL_law k) dlb_0 64 rfl
theorem dL_law_246 : decode cL_law 246 = .ok (.invokestatic 128, 3) := dcl_at (f := fun k => decode cL_law k) dlb_0 65 rfl
theorem dL_law_249 : decode cL_law 249 = .ok (.istore 6, 2) := dcl_at (f := fun k => decode cL_law k) dlb_0 66 rfl
theorem dL_law_251 : decode cL_law 251 = .ok (.aload_n 2, 1) := dcl_at (f := fun k => decode cL_law k) dlb_0 67 rfl
theorem dL_law_252 : decode cL_law 252 = .ok (.invokevirtual 131, 3) := dcl_at (f := fun k => decode cL_law k) dlb_0 68 rfl
theorem dL_law_255 : decode cL_law 255 = .ok (.istore 7, 2) := dcl_at (f := fun k => decode cL_law k) dlb_0 69 rfl
theorem dL_law_257 : decode cL_law 257 = .ok (.aload_n 2, 1) := dcl_at (f := fun k => decode cL_law k) dlb_0 70 rfl
theorem dL_law_258 : decode cL_law 258 = .ok (.invokevirtual 125, 3) := dcl_at (f := fun k => decode cL_law k) dlb_0 71 rfl
theorem dL_law_261 : decode cL_law 261 = .ok (.iload 6, 2) := dcl_at (f := fun k => decode cL_law k) dlb_0 72 rfl
theorem dL_law_263 : decode cL_law 263 = .ok (.if_icmp .eq 5, 3) := dcl_at (f := fun k => decode cL_law k) dlb_0 73 rfl
theorem dL_law_266 : decode cL_law 266 = .ok (.iconst 0, 1) := dcl_at (f := fun k => decode cL_law k) dlb_0 74 rfl
theorem dL_law_267 : decode cL_law 267 = .ok (.ireturn, 1) := dcl_at (f := fun k => decode cL_law k) dlb_0 75 rfl
theorem dL_law_268 : decode cL_law 268 = .ok (.iload 6, 2) := dcl_at (f := fun k => decode cL_law k) dlb_0 76 rfl
theorem dL_law_270 : decode cL_law 270 = .ok (.ifCond .ne 15, 3) := dcl_at (f := fun k => decode cL_law k) dlb_0 77 rfl
theorem dL_law_273 : decode cL_law 273 = .ok (.aload_n 3, 1) := dcl_at (f := fun k => decode cL_law k) dlb_0 78 rfl
theorem dL_law_274 : decode cL_law 274 = .ok (.iconst 0, 1) := dcl_at (f := fun k => decode cL_law k) dlb_0 79 rfl
theorem dL_law_275 : decode cL_law 275 = .ok (.laload, 1) := dcl_at (f := fun k => decode cL_law k) dlb_0 80 rfl
theorem dL_law_276 : decode cL_law 276 = .ok (.iload 7, 2) := dcl_at (f := fun k => decode cL_law k) dlb_0 81 rfl
theorem dL_law_278 : decode cL_law 278 = .ok (.i2l, 1) := dcl_at (f := fun k => decode cL_law k) dlb_0 82 rfl
theorem dL_law_279 : decode cL_law 279 = .ok (.lcmp, 1) := dcl_at (f := fun k => decode cL_law k) dlb_0 83 rfl
theorem dL_law_280 : decode cL_law 280 = .ok (.ifCond .eq 5, 3) := dcl_at (f := fun k => decode cL_law k) dlb_0 84 rfl
theorem dL_law_283 : decode cL_law 283 = .ok (.iconst 0, 1) := dcl_at (f := fun k => decode cL_law k) dlb_0 85 rfl
theorem dL_law_284 : decode cL_law 284 = .ok (.ireturn, 1) := dcl_at (f := fun k => decode cL_law k) dlb_0 86 rfl
theorem dL_law_285 : decode cL_law 285 = .ok (.goto 1833, 3) := dcl_at (f := fun k => decode cL_law k) dlb_0 87 rfl
theorem dL_law_288 : decode cL_law 288 = .ok (.aload_n 1, 1) := dcl_at (f := fun k => decode cL_law k) dlb_0 88 rfl
theorem dL_law_289 : decode cL_law 289 = .ok (.aload_n 0, 1) := dcl_at (f := fun k => decode cL_law k) dlb_0 89 rfl
theorem dL_law_290 : decode cL_law 290 = .ok (.iload 5, 2) := dcl_at (f := fun k => decode cL_law k) dlb_0 90 rfl
theorem dL_law_292 : decode cL_law 292 = .ok (.iconst 1, 1) := dcl_at (f := fun k => decode cL_law k) dlb_0 91 rfl
theorem dL_law_293 : decode cL_law 293 = .ok (.iadd, 1) := dcl_at (f := fun k => decode cL_law k) dlb_0 92 rfl
theorem dL_law_294 : decode cL_law 294 = .ok (.iaload, 1) := dcl_at (f := fun k => decode cL_law k) dlb_0 93 rfl
theorem dL_law_295 : decode cL_law 295 = .ok (.aload_n 0, 1) := dcl_at (f := fun k => decode cL_law k) dlb_0 94 rfl
theorem dL_law_296 : decode cL_law 296 = .ok (.iload 5, 2) := dcl_at (f := fun k => decode cL_law k) dlb_0 95 rfl
theorem dL_law_298 : decode cL_law 298 = .ok (.iconst 2, 1) := dcl_at (f := fun k => decode cL_law k) dlb_0 96 rfl
theorem dL_law_299 : decode cL_law 299 = .ok (.iadd, 1) := dcl_at (f := fun k => decode cL_law k) dlb_0 97 rfl
theorem dL_law_300 : decode cL_law 300 = .ok (.iaload, 1) := dcl_at (f := fun k => decode cL_law k) dlb_0 98 rfl
theorem dL_law_301 : decode cL_law 301 = .ok (.aload_n 0, 1) := dcl_at (f := fun k => decode cL_law k) dlb_0 99 rfl
theorem dL_law_302 : decode cL_law 302 = .ok (.iload 5, 2) := dcl_at (f := fun k => decode cL_law k) dlb_0 100 rfl
theorem dL_law_304 : decode cL_law 304 = .ok (.iconst 3, 1) := dcl_at (f := fun k => decode cL_law k) dlb_0 101 rfl
theorem dL_law_305 : decode cL_law 305 = .ok (.iadd, 1) := dcl_at (f := fun k => decode cL_law k) dlb_0 102 rfl
theorem dL_law_306 : decode cL_law 306 = .ok (.iaload, 1) := dcl_at (f := fun k => decode cL_law k) dlb_0 103 rfl
theorem dL_law_307 : decode cL_law 307 = .ok (.aload_n 3, 1) := dcl_at (f := fun k => decode cL_law k) dlb_0 104 rfl
theorem dL_law_308 : decode cL_law 308 = .ok (.invokestatic 132, 3) := dcl_at (f := fun k => decode cL_law k) dlb_0 105 rfl
theorem dL_law_311 : decode cL_law 311 = .ok (.istore 6, 2) := dcl_at (f := fun k => decode cL_law k) dlb_0 106 rfl
def dlb_1l : List (Nat × Instr × Nat) := [(313, .aload_n 2, 1), (314, .aload_n 0, 1), (315, .iload 5, 2), (317, .iconst 1, 1), (318, .iadd, 1), (319, .iaload, 1), (320, .aload_n 0, 1), (321, .iload 5, 2), (323, .iconst 2, 1), (324, .iadd, 1), (325, .iaload, 1), (326, .aload_n 0, 1), (327, .iload 5, 2), (329, .iconst 3, 1), (330, .iadd, 1), (331, .iaload, 1), (332, .invokevirtual 135, 3), (335, .istore 7, 2), (337, .aload_n 2, 1), (338, .invokevirtual 125, 3), (341, .iload 6, 2), (343, .if_icmp .eq 5, 3), (346, .iconst 0, 1), (347, .ireturn, 1), (348, .iload 6, 2), (350, .ifCond .ne 15, 3), (353, .aload_n 3, 1), (354, .iconst 0, 1), (355, .laload, 1), (356, .iload 7, 2), (358, .i2l, 1), (359, .lcmp, 1), (360, .ifCond .eq 5, 3), (363, .iconst 0, 1), (364, .ireturn, 1), (365, .goto 1753, 3), (368, .aload_n 1, 1), (369, .aload_n 0, 1), (370, .iload 5, 2), (372, .iconst 1, 1), (373, .iadd, 1), (374, .iaload, 1), (375, .aload_n 0, 1), (376, .iload 5, 2), (378, .iconst 2, 1), (379, .iadd, 1), (380, .iaload, 1), (381, .aload_n 0, 1), (382, .iload 5, 2), (384, .iconst 3, 1), (385, .iadd, 1), (386, .iaload, 1), (387, .aload_n 3, 1), (388, .invokestatic 136, 3), (391, .istore 6, 2), (393, .aload_n 2, 1), (394, .aload_n 0, 1), (395, .iload 5, 2), (397, .iconst 1, 1), (398, .iadd, 1), (399, .iaload, 1), (400, .aload_n 0, 1), (401, .iload 5, 2), (403, .iconst 2, 1), (404, .iadd, 1), (405, .iaload, 1), (406, .aload_n 0, 1), (407, .iload 5, 2), (409, .iconst 3, 1), (410, .iadd, 1), (411, .iaload, 1), (412, .invokevirtual 138, 3), (415, .istore 7, 2), (417, .aload_n 2, 1), (418, .invokevirtual 125, 3), (421, .iload 6, 2), (423, .if_icmp .eq 5, 3), (426, .iconst 0, 1), (427, .ireturn, 1), (428, .iload 6, 2), (430, .ifCond .ne 15, 3), (433, .aload_n 3, 1), (434, .iconst 0, 1), (435, .laload, 1), (436, .iload 7, 2), (438, .i2l, 1), (439, .lcmp, 1), (440, .ifCond .eq 5, 3), (443, .iconst 0, 1), (444, .ireturn, 1), (445, .goto 1673, 3), (448, .aload_n 1, 1), (449, .aload_n 0, 1), (450, .iload 5, 2), (452, .iconst 1, 1), (453, .iadd, 1), (454, .iaload, 1), (455, .aload_n 0, 1), (456, .iload 5, 2), (458, .iconst 2, 1), (459, .iadd, 1), (460, .iaload, 1), (461, .aload_n 0, 1), (462, .iload 5, 2), (464, .iconst 3, 1), (465, .iadd, 1), (466, .iaload, 1)]
theorem dlb_1 : dcl (fun k => decode cL_law k) dlb_1l = true := by decide +kernel
theorem dL_law_313 : decode cL_law 313 = .ok (.aload_n 2, 1) := dcl_at (f := fun k => decode cL_law k) dlb_1 0 rfl
theorem dL_law_314 : decode cL_law 314 = .ok (.aload_n 0, 1) := dcl_at (f := fun k => decode cL_law k) dlb_1 1 rfl
theorem dL_law_315 : decode cL_law 315 = .ok (.iload 5, 2) := dcl_at (f := fun k => decode cL_law k) dlb_1 2 rfl
theorem dL_law_317 : decode cL_law 317 = .ok (.iconst 1, 1) := dcl_at (f := fun k => decode cL_law k) dlb_1 3 rfl
theorem dL_law_318 : decode cL_law 318 = .ok (.iadd, 1) := dcl_at (f := fun k => decode cL_law k) dlb_1 4 rfl
theorem dL_law_319 : decode cL_law 319 = .ok (.iaload, 1) := dcl_at (f := fun k => decode cL_law k) dlb_1 5 rfl
theorem dL_law_320 : decode cL_law 320 = .ok (.aload_n 0, 1) := dcl_at (f := fun k => decode cL_law k) dlb_1 6 rfl
theorem dL_law_321 : decode cL_law 321 = .ok (.iload 5, 2) := dcl_at (f := fun k => decode cL_law k) dlb_1 7 rfl
theorem dL_law_323 : decode cL_law 323 = .ok (.iconst 2, 1) := dcl_at (f := fun k => decode cL_law k) dlb_1 8 rfl
theorem dL_law_324 : decode cL_law 324 = .ok (.iadd, 1) := dcl_at (f := fun k => decode cL_law k) dlb_1 9 rfl
theorem dL_law_325 : decode cL_law 325 = .ok (.iaload, 1) := dcl_at (f := fun k => decode cL_law k) dlb_1 10 rfl
theorem dL_law_326 : decode cL_law 326 = .ok (.aload_n 0, 1) := dcl_at (f := fun k => decode cL_law k) dlb_1 11 rfl
theorem dL_law_327 : decode cL_law 327 = .ok (.iload 5, 2) := dcl_at (f := fun k => decode cL_law k) dlb_1 12 rfl
theorem dL_law_329 : decode cL_law 329 = .ok (.iconst 3, 1) := dcl_at (f := fun k => decode cL_law k) dlb_1 13 rfl
theorem dL_law_330 : decode cL_law 330 = .ok (.iadd, 1) := dcl_at (f := fun k => decode cL_law k) dlb_1 14 rfl
theorem dL_law_331 : decode cL_law 331 = .ok (.iaload, 1) := dcl_at (f := fun k => decode cL_law k) dlb_1 15 rfl
theorem dL_law_332 : decode cL_law 332 = .ok (.invokevirtual 135, 3) := dcl_at (f := fun k => decode cL_law k) dlb_1 16 rfl
theorem dL_law_335 : decode cL_law 335 = .ok (.istore 7, 2) := dcl_at (f := fun k => decode cL_law k) dlb_1 17 rfl
theorem dL_law_337 : decode cL_law 337 = .ok (.aload_n 2, 1) := dcl_at (f := fun k => decode cL_law k) dlb_1 18 rfl
theorem dL_law_338 : decode cL_law 338 = .ok (.invokevirtual 125, 3) := dcl_at (f := fun k => decode cL_law k) dlb_1 19 rfl
theorem dL_law_341 : decode cL_law 341 = .ok (.iload 6, 2) := dcl_at (f := fun k => decode cL_law k) dlb_1 20 rfl
theorem dL_law_343 : decode cL_law 343 = .ok (.if_icmp .eq 5, 3) := dcl_at (f := fun k => decode cL_law k) dlb_1 21 rfl
theorem dL_law_346 : decode cL_law 346 = .ok (.iconst 0, 1) := dcl_at (f := fun k => decode cL_law k) dlb_1 22 rfl
theorem dL_law_347 : decode cL_law 347 = .ok (.ireturn, 1) := dcl_at (f := fun k => decode cL_law k) dlb_1 23 rfl
theorem dL_law_348 : decode cL_law 348 = .ok (.iload 6, 2) := dcl_at (f := fun k => decode cL_law k) dlb_1 24 rfl
theorem dL_law_350 : decode cL_law 350 = .ok (.ifCond .ne 15, 3) := dcl_at (f := fun k => decode cL_law k) dlb_1 25 rfl
theorem dL_law_353 : decode cL_law 353 = .ok (.aload_n 3, 1) := dcl_at (f := fun k => decode cL_law k) dlb_1 26 rfl
theorem dL_law_354 : decode cL_law 354 = .ok (.iconst 0, 1) := dcl_at (f := fun k => decode cL_law k) dlb_1 27 rfl
theorem dL_law_355 : decode cL_law 355 = .ok (.laload, 1) := dcl_at (f := fun k => decode cL_law k) dlb_1 28 rfl
theorem dL_law_356 : decode cL_law 356 = .ok (.iload 7, 2) := dcl_at (f := fun k => decode cL_law k) dlb_1 29 rfl
theorem dL_law_358 : decode cL_law 358 = .ok (.i2l, 1) := dcl_at (f := fun k => decode cL_law k) dlb_1 30 rfl
theorem dL_law_359 : decode cL_law 359 = .ok (.lcmp, 1) := dcl_at (f := fun k => decode cL_law k) dlb_1 31 rfl
theorem dL_law_360 : decode cL_law 360 = .ok (.ifCond .eq 5, 3) := dcl_at (f := fun k => decode cL_law k) dlb_1 32 rfl
theorem dL_law_363 : decode cL_law 363 = .ok (.iconst 0, 1) := dcl_at (f := fun k => decode cL_law k) dlb_1 33 rfl
theorem dL_law_364 : decode cL_law 364 = .ok (.ireturn, 1) := dcl_at (f := fun k => decode cL_law k) dlb_1 34 rfl
theorem dL_law_365 : decode cL_law 365 = .ok (.goto 1753, 3) := dcl_at (f := fun k => decode cL_law k) dlb_1 35 rfl
theorem dL_law_368 : decode cL_law 368 = .ok (.aload_n 1, 1) := dcl_at (f := fun k => decode cL_law k) dlb_1 36 rfl
theorem dL_law_369 : decode cL_law 369 = .ok (.aload_n 0, 1) := dcl_at (f := fun k => decode cL_law k) dlb_1 37 rfl
theorem dL_law_370 : decode cL_law 370 = .ok (.iload 5, 2) := dcl_at (f := fun k => decode cL_law k) dlb_1 38 rfl
theorem dL_law_372 : decode cL_law 372 = .ok (.iconst 1, 1) := dcl_at (f := fun k => decode cL_law k) dlb_1 39 rfl
theorem dL_law_373 : decode cL_law 373 = .ok (.iadd, 1) := dcl_at (f := fun k => decode cL_law k) dlb_1 40 rfl
theorem dL_law_374 : decode cL_law 374 = .ok (.iaload, 1) := dcl_at (f := fun k => decode cL_law k) dlb_1 41 rfl
theorem dL_law_375 : decode cL_law 375 = .ok (.aload_n 0, 1) := dcl_at (f := fun k => decode cL_law k) dlb_1 42 rfl
theorem dL_law_376 : decode cL_law 376 = .ok (.iload 5, 2) := dcl_at (f := fun k => decode cL_law k) dlb_1 43 rfl
theorem dL_law_378 : decode cL_law 378 = .ok (.iconst 2, 1) := dcl_at (f := fun k => decode cL_law k) dlb_1 44 rfl
theorem dL_law_379 : decode cL_law 379 = .ok (.iadd, 1) := dcl_at (f := fun k => decode cL_law k) dlb_1 45 rfl
theorem dL_law_380 : decode cL_law 380 = .ok (.iaload, 1) := dcl_at (f := fun k => decode cL_law k) dlb_1 46 rfl
theorem dL_law_381 : decode cL_law 381 = .ok (.aload_n 0, 1) := dcl_at (f := fun k => decode cL_law k) dlb_1 47 rfl
theorem dL_law_382 : decode cL_law 382 = .ok (.iload 5, 2) := dcl_at (f := fun k => decode cL_law k) dlb_1 48 rfl
theorem dL_law_384 : decode cL_law 384 = .ok (.iconst 3, 1) := dcl_at (f := fun k => decode cL_law k) dlb_1 49 rfl
theorem dL_law_385 : decode cL_law 385 = .ok (.iadd, 1) := dcl_at (f := fun k => decode cL_law k) dlb_1 50 rfl
theorem dL_law_386 : decode cL_law 386 = .ok (.iaload, 1) := dcl_at (f := fun k => decode cL_law k) dlb_1 51 rfl
theorem dL_law_387 : decode cL_law 387 = .ok (.aload_n 3, 1) := dcl_at (f := fun k => decode cL_law k) dlb_1 52 rfl
theorem dL_law_388 : decode cL_law 388 = .ok (.invokestatic 136, 3) := dcl_at (f := fun k => decode cL_law k) dlb_1 53 rfl
theorem dL_law_391 : decode cL_law 391 = .ok (.istore 6, 2) := dcl_at (f := fun k => decode cL_law k) dlb_1 54 rfl
theorem dL_law_393 : decode cL_law 393 = .ok (.aload_n 2, 1) := dcl_at (f := fun k => decode cL_law k) dlb_1 55 rfl
theorem dL_law_394 : decode cL_law 394 = .ok (.aload_n 0, 1) := dcl_at (f := fun k => decode cL_law k) dlb_1 56 rfl
theorem dL_law_395 : decode cL_law 395 = .ok (.iload 5, 2) := dcl_at (f := fun k => decode cL_law k) dlb_1 57 rfl
theorem dL_law_397 : decode cL_law 397 = .ok (.iconst 1, 1) := dcl_at (f := fun k => decode cL_law k) dlb_1 58 rfl
theorem dL_law_398 : decode cL_law 398 = .ok (.iadd, 1) := dcl_at (f := fun k => decode cL_law k) dlb_1 59 rfl
theorem dL_law_399 : decode cL_law 399 = .ok (.iaload, 1) := dcl_at (f := fun k => decode cL_law k) dlb_1 60 rfl
theorem dL_law_400 : decode cL_law 400 = .ok (.aload_n 0, 1) := dcl_at (f := fun k => decode cL_law k) dlb_1 61 rfl
theorem dL_law_401 : decode cL_law 401 = .ok (.iload 5, 2) := dcl_at (f := fun k => decode cL_law k) dlb_1 62 rfl
theorem dL_law_403 : decode cL_law 403 = .ok (.iconst 2, 1) := dcl_at (f := fun k => decode cL_law k) dlb_1 63 rfl
theorem dL_law_404 : decode cL_law 404 = .ok (.iadd, 1) := dcl_at (f := fun k => decode cL_law k) dlb_1 64 rfl
theorem dL_law_405 : decode cL_law 405 = .ok (.iaload, 1) := dcl_at (f := fun k => decode cL_law k) dlb_1 65 rfl
theorem dL_law_406 : decode cL_law 406 = .ok (.aload_n 0, 1) := dcl_at (f := fun k => decode cL_law k) dlb_1 66 rfl
theorem dL_law_407 : decode cL_law 407 = .ok (.iload 5, 2) := dcl_at (f := fun k => decode cL_law k) dlb_1 67 rfl
theorem dL_law_409 : decode cL_law 409 = .ok (.iconst 3, 1) := dcl_at (f := fun k => decode cL_law k) dlb_1 68 rfl
theorem dL_law_410 : decode cL_law 410 = .ok (.iadd, 1) := dcl_at (f := fun k => decode cL_law k) dlb_1 69 rfl
theorem dL_law_411 : decode cL_law 411 = .ok (.iaload, 1) := dcl_at (f := fun k => decode cL_law k) dlb_1 70 rfl
theorem dL_law_412 : decode cL_law 412 = .ok (.invokevirtual 138, 3) := dcl_at (f := fun k => decode cL_law k) dlb_1 71 rfl
theorem dL_law_415 : decode cL_law 415 = .ok (.istore 7, 2) := dcl_at (f := fun k => decode cL_law k) dlb_1 72 rfl
theorem dL_law_417 : decode cL_law 417 = .ok (.aload_n 2, 1) := dcl_at (f := fun k => decode cL_law k) dlb_1 73 rfl
theorem dL_law_418 : decode cL_law 418 = .ok (.invokevirtual 125, 3) := dcl_at (f := fun k => decode cL_law k) dlb_1 74 rfl
theorem dL_law_421 : decode cL_law 421 = .ok (.iload 6, 2) := dcl_at (f := fun k => decode cL_law k) dlb_1 75 rfl
theorem dL_law_423 : decode cL_law 423 = .ok (.if_icmp .eq 5, 3) := dcl_at (f := fun k => decode cL_law k) dlb_1 76 rfl
theorem dL_law_426 : decode cL_law 426 = .ok (.iconst 0, 1) := dcl_at (f := fun k => decode cL_law k) dlb_1 77 rfl
theorem dL_law_427 : decode cL_law 427 = .ok (.ireturn, 1) := dcl_at (f := fun k => decode cL_law k) dlb_1 78 rfl
theorem dL_law_428 : decode cL_law 428 = .ok (.iload 6, 2) := dcl_at (f := fun k => decode cL_law k) dlb_1 79 rfl
theorem dL_law_430 : decode cL_law 430 = .ok (.ifCond .ne 15, 3) := dcl_at (f := fun k => decode cL_law k) dlb_1 80 rfl
theorem dL_law_433 : decode cL_law 433 = .ok (.aload_n 3, 1) := dcl_at (f := fun k => decode cL_law k) dlb_1 81 rfl
theorem dL_law_434 : decode cL_law 434 = .ok (.iconst 0, 1) := dcl_at (f := fun k => decode cL_law k) dlb_1 82 rfl
theorem dL_law_435 : decode cL_law 435 = .ok (.laload, 1) := dcl_at (f := fun k => decode cL_law k) dlb_1 83 rfl
theorem dL_law_436 : decode cL_law 436 = .ok (.iload 7, 2) := dcl_at (f := fun k => decode cL_law k) dlb_1 84 rfl
theorem dL_law_438 : decode cL_law 438 = .ok (.i2l, 1) := dcl_at (f := fun k => decode cL_law k) dlb_1 85 rfl
theorem dL_law_439 : decode cL_law 439 = .ok (.lcmp, 1) := dcl_at (f := fun k => decode cL_law k) dlb_1 86 rfl
theorem dL_law_440 : decode cL_law 440 = .ok (.ifCond .eq 5, 3) := dcl_at (f := fun k => decode cL_law k) dlb_1 87 rfl
theorem dL_law_443 : decode cL_law 443 = .ok (.iconst 0, 1) := dcl_at (f := fun k => decode cL_law k) dlb_1 88 rfl
theorem dL_law_444 : decode cL_law 444 = .ok (.ireturn, 1) := dcl_at (f := fun k => decode cL_law k) dlb_1 89 rfl
theorem dL_law_445 : decode cL_law 445 = .ok (.goto 1673, 3) := dcl_at (f := fun k => decode cL_law k) dlb_1 90 rfl
theorem dL_law_448 : decode cL_law 448 = .ok (.aload_n 1, 1) := dcl_at (f := fun k => decode cL_law k) dlb_1 91 rfl
theorem dL_law_449 : decode cL_law 449 = .ok (.aload_n 0, 1) := dcl_at (f := fun k => decode cL_law k) dlb_1 92 rfl
theorem dL_law_450 : decode cL_law 450 = .ok (.iload 5, 2) := dcl_at (f := fun k => decode cL_law k) dlb_1 93 rfl
theorem dL_law_452 : decode cL_law 452 = .ok (.iconst 1, 1) := dcl_at (f := fun k => decode cL_law k) dlb_1 94 rfl
theorem dL_law_453 : decode cL_law 453 = .ok (.iadd, 1) := dcl_at (f := fun k => decode cL_law k) dlb_1 95 rfl
theorem dL_law_454 : decode cL_law 454 = .ok (.iaload, 1) := dcl_at (f := fun k => decode cL_law k) dlb_1 96 rfl
theorem dL_law_455 : decode cL_law 455 = .ok (.aload_n 0, 1) := dcl_at (f := fun k => decode cL_law k) dlb_1 97 rfl
theorem dL_law_456 : decode cL_law 456 = .ok (.iload 5, 2) := dcl_at (f := fun k => decode cL_law k) dlb_1 98 rfl
theorem dL_law_458 : decode cL_law 458 = .ok (.iconst 2, 1) := dcl_at (f := fun k => decode cL_law k) dlb_1 99 rfl
theorem dL_law_459 : decode cL_law 459 = .ok (.iadd, 1) := dcl_at (f := fun k => decode cL_law k) dlb_1 100 rfl
theorem dL_law_460 : decode cL_law 460 = .ok (.iaload, 1) := dcl_at (f := fun k => decode cL_law k) dlb_1 101 rfl
theorem dL_law_461 : decode cL_law 461 = .ok (.aload_n 0, 1) := dcl_at (f := fun k => decode cL_law k) dlb_1 102 rfl
theorem dL_law_462 : decode cL_law 462 = .ok (.iload 5, 2) := dcl_at (f := fun k => decode cL_law k) dlb_1 103 rfl
theorem dL_law_464 : decode cL_law 464 = .ok (.iconst 3, 1) := dcl_at (f := fun k => decode cL_law k) dlb_1 104 rfl
theorem dL_law_465 : decode cL_law 465 = .ok (.iadd, 1) := dcl_at (f := fun k => decode cL_law k) dlb_1 105 rfl
theorem dL_law_466 : decode cL_law 466 = .ok (.iaload, 1) := dcl_at (f := fun k => decode cL_law k) dlb_1 106 rfl
def dlb_2l : List (Nat × Instr × Nat) := [(467, .aload_n 3, 1), (468, .invokestatic 139, 3), (471, .istore 6, 2), (473, .aload_n 2, 1), (474, .aload_n 0, 1), (475, .iload 5, 2), (477, .iconst 1, 1), (478, .iadd, 1), (479, .iaload, 1), (480, .aload_n 0, 1), (481, .iload 5, 2), (483, .iconst 2, 1), (484, .iadd, 1), (485, .iaload, 1), (486, .aload_n 0, 1), (487, .iload 5, 2), (489, .iconst 3, 1), (490, .iadd, 1), (491, .iaload, 1), (492, .invokevirtual 141, 3), (495, .istore 7, 2), (497, .aload_n 2, 1), (498, .invokevirtual 125, 3), (501, .iload 6, 2), (503, .if_icmp .eq 5, 3), (506, .iconst 0, 1), (507, .ireturn, 1), (508, .iload 6, 2), (510, .ifCond .ne 15, 3), (513, .aload_n 3, 1), (514, .iconst 0, 1), (515, .laload, 1), (516, .iload 7, 2), (518, .i2l, 1), (519, .lcmp, 1), (520, .ifCond .eq 5, 3), (523, .iconst 0, 1), (524, .ireturn, 1), (525, .goto 1593, 3), (528, .aload_n 1, 1), (529, .aload_n 0, 1), (530, .iload 5, 2), (532, .iconst 1, 1), (533, .iadd, 1), (534, .iaload, 1), (535, .i2c, 1), (536, .aload_n 0, 1), (537, .iload 5, 2), (539, .iconst 2, 1), (540, .iadd, 1), (541, .iaload, 1), (542, .aload_n 0, 1), (543, .iload 5, 2), (545, .iconst 3, 1), (546, .iadd, 1), (547, .iaload, 1), (548, .aload_n 3, 1), (549, .invokestatic 142, 3), (552, .istore 6, 2), (554, .aload_n 2, 1), (555, .aload_n 0, 1), (556, .iload 5, 2), (558, .iconst 1, 1), (559, .iadd, 1), (560, .iaload, 1), (561, .i2c, 1), (562, .aload_n 0, 1), (563, .iload 5, 2), (565, .iconst 2, 1), (566, .iadd, 1), (567, .iaload, 1), (568, .aload_n 0, 1), (569, .iload 5, 2), (571, .iconst 3, 1), (572, .iadd, 1), (573, .iaload, 1), (574, .invokevirtual 145, 3), (577, .istore 7, 2), (579, .aload_n 2, 1), (580, .invokevirtual 125, 3), (583, .iload 6, 2), (585, .if_icmp .eq 5, 3), (588, .iconst 0, 1), (589, .ireturn, 1), (590, .iload 6, 2), (592, .ifCond .ne 15, 3), (595, .aload_n 3, 1), (596, .iconst 0, 1), (597, .laload, 1), (598, .iload 7, 2), (600, .i2l, 1), (601, .lcmp, 1), (602, .ifCond .eq 5, 3), (605, .iconst 0, 1), (606, .ireturn, 1), (607, .goto 1511, 3), (610, .aload_n 1, 1), (611, .aload_n 0, 1), (612, .iload 5, 2), (614, .iconst 1, 1), (615, .iadd, 1), (616, .iaload, 1), (617, .aload_n 0, 1), (618, .iload 5, 2), (620, .iconst 2, 1), (621, .iadd, 1), (622, .iaload, 1)]
theorem dlb_2 : dcl (fun k => decode cL_law k) dlb_2l = true := by decide +kernel
theorem dL_law_467 : decode cL_law 467 = .ok (.aload_n 3, 1) := dcl_at (f := fun k => decode cL_law k) dlb_2 0 rfl
theorem dL_law_468 : decode cL_law 468 = .ok (.invokestatic 139, 3) := dcl_at (f := fun k => decode cL_law k) dlb_2 1 rfl
theorem dL_law_471 : decode cL_law 471 = .ok (.istore 6, 2) := dcl_at (f := fun k => decode cL_law k) dlb_2 2 rfl
theorem dL_law_473 : decode cL_law 473 = .ok (.aload_n 2, 1) := dcl_at (f := fun k => decode cL_law k) dlb_2 3 rfl
theorem dL_law_474 : decode cL_law 474 = .ok (.aload_n 0, 1) := dcl_at (f := fun k => decode cL_law k) dlb_2 4 rfl
theorem dL_law_475 : decode cL_law 475 = .ok (.iload 5, 2) := dcl_at (f := fun k => decode cL_law k) dlb_2 5 rfl
theorem dL_law_477 : decode cL_law 477 = .ok (.iconst 1, 1) := dcl_at (f := fun k => decode cL_law k) dlb_2 6 rfl
theorem dL_law_478 : decode cL_law 478 = .ok (.iadd, 1) := dcl_at (f := fun k => decode cL_law k) dlb_2 7 rfl
theorem dL_law_479 : decode cL_law 479 = .ok (.iaload, 1) := dcl_at (f := fun k => decode cL_law k) dlb_2 8 rfl
theorem dL_law_480 : decode cL_law 480 = .ok (.aload_n 0, 1) := dcl_at (f := fun k => decode cL_law k) dlb_2 9 rfl
theorem dL_law_481 : decode cL_law 481 = .ok (.iload 5, 2) := dcl_at (f := fun k => decode cL_law k) dlb_2 10 rfl
theorem dL_law_483 : decode cL_law 483 = .ok (.iconst 2, 1) := dcl_at (f := fun k => decode cL_law k) dlb_2 11 rfl
theorem dL_law_484 : decode cL_law 484 = .ok (.iadd, 1) := dcl_at (f := fun k => decode cL_law k) dlb_2 12 rfl
theorem dL_law_485 : decode cL_law 485 = .ok (.iaload, 1) := dcl_at (f := fun k => decode cL_law k) dlb_2 13 rfl
theorem dL_law_486 : decode cL_law 486 = .ok (.aload_n 0, 1) := dcl_at (f := fun k => decode cL_law k) dlb_2 14 rfl
theorem dL_law_487 : decode cL_law 487 = .ok (.iload 5, 2) := dcl_at (f := fun k => decode cL_law k) dlb_2 15 rfl
theorem dL_law_489 : decode cL_law 489 = .ok (.iconst 3, 1) := dcl_at (f := fun k => decode cL_law k) dlb_2 16 rfl
theorem dL_law_490 : decode cL_law 490 = .ok (.iadd, 1) := dcl_at (f := fun k => decode cL_law k) dlb_2 17 rfl
theorem dL_law_491 : decode cL_law 491 = .ok (.iaload, 1) := dcl_at (f := fun k => decode cL_law k) dlb_2 18 rfl
theorem dL_law_492 : decode cL_law 492 = .ok (.invokevirtual 141, 3) := dcl_at (f := fun k => decode cL_law k) dlb_2 19 rfl
theorem dL_law_495 : decode cL_law 495 = .ok (.istore 7, 2) := dcl_at (f := fun k => decode cL_law k) dlb_2 20 rfl
theorem dL_law_497 : decode cL_law 497 = .ok (.aload_n 2, 1) := dcl_at (f := fun k => decode cL_law k) dlb_2 21 rfl
theorem dL_law_498 : decode cL_law 498 = .ok (.invokevirtual 125, 3) := dcl_at (f := fun k => decode cL_law k) dlb_2 22 rfl
theorem dL_law_501 : decode cL_law 501 = .ok (.iload 6, 2) := dcl_at (f := fun k => decode cL_law k) dlb_2 23 rfl
theorem dL_law_503 : decode cL_law 503 = .ok (.if_icmp .eq 5, 3) := dcl_at (f := fun k => decode cL_law k) dlb_2 24 rfl
theorem dL_law_506 : decode cL_law 506 = .ok (.iconst 0, 1) := dcl_at (f := fun k => decode cL_law k) dlb_2 25 rfl
theorem dL_law_507 : decode cL_law 507 = .ok (.ireturn, 1) := dcl_at (f := fun k => decode cL_law k) dlb_2 26 rfl
theorem dL_law_508 : decode cL_law 508 = .ok (.iload 6, 2) := dcl_at (f := fun k => decode cL_law k) dlb_2 27 rfl
theorem dL_law_510 : decode cL_law 510 = .ok (.ifCond .ne 15, 3) := dcl_at (f := fun k => decode cL_law k) dlb_2 28 rfl
theorem dL_law_513 : decode cL_law 513 = .ok (.aload_n 3, 1) := dcl_at (f := fun k => decode cL_law k) dlb_2 29 rfl
theorem dL_law_514 : decode cL_law 514 = .ok (.iconst 0, 1) := dcl_at (f := fun k => decode cL_law k) dlb_2 30 rfl
theorem dL_law_515 : decode cL_law 515 = .ok (.laload, 1) := dcl_at (f := fun k => decode cL_law k) dlb_2 31 rfl
theorem dL_law_516 : decode cL_law 516 = .ok (.iload 7, 2) := dcl_at (f := fun k => decode cL_law k) dlb_2 32 rfl
theorem dL_law_518 : decode cL_law 518 = .ok (.i2l, 1) := dcl_at (f := fun k => decode cL_law k) dlb_2 33 rfl
theorem dL_law_519 : decode cL_law 519 = .ok (.lcmp, 1) := dcl_at (f := fun k => decode cL_law k) dlb_2 34 rfl
theorem dL_law_520 : decode cL_law 520 = .ok (.ifCond .eq 5, 3) := dcl_at (f := fun k => decode cL_law k) dlb_2 35 rfl
theorem dL_law_523 : decode cL_law 523 = .ok (.iconst 0, 1) := dcl_at (f := fun k => decode cL_law k) dlb_2 36 rfl
theorem dL_law_524 : decode cL_law 524 = .ok (.ireturn, 1) := dcl_at (f := fun k => decode cL_law k) dlb_2 37 rfl
theorem dL_law_525 : decode cL_law 525 = .ok (.goto 1593, 3) := dcl_at (f := fun k => decode cL_law k) dlb_2 38 rfl
theorem dL_law_528 : decode cL_law 528 = .ok (.aload_n 1, 1) := dcl_at (f := fun k => decode cL_law k) dlb_2 39 rfl
theorem dL_law_529 : decode cL_law 529 = .ok (.aload_n 0, 1) := dcl_at (f := fun k => decode cL_law k) dlb_2 40 rfl
theorem dL_law_530 : decode cL_law 530 = .ok (.iload 5, 2) := dcl_at (f := fun k => decode cL_law k) dlb_2 41 rfl
theorem dL_law_532 : decode cL_law 532 = .ok (.iconst 1, 1) := dcl_at (f := fun k => decode cL_law k) dlb_2 42 rfl
theorem dL_law_533 : decode cL_law 533 = .ok (.iadd, 1) := dcl_at (f := fun k => decode cL_law k) dlb_2 43 rfl
theorem dL_law_534 : decode cL_law 534 = .ok (.iaload, 1) := dcl_at (f := fun k => decode cL_law k) dlb_2 44 rfl
theorem dL_law_535 : decode cL_law 535 = .ok (.i2c, 1) := dcl_at (f := fun k => decode cL_law k) dlb_2 45 rfl
theorem dL_law_536 : decode cL_law 536 = .ok (.aload_n 0, 1) := dcl_at (f := fun k => decode cL_law k) dlb_2 46 rfl
theorem dL_law_537 : decode cL_law 537 = .ok (.iload 5, 2) := dcl_at (f := fun k => decode cL_law k) dlb_2 47 rfl
theorem dL_law_539 : decode cL_law 539 = .ok (.iconst 2, 1) := dcl_at (f := fun k => decode cL_law k) dlb_2 48 rfl
theorem dL_law_540 : decode cL_law 540 = .ok (.iadd, 1) := dcl_at (f := fun k => decode cL_law k) dlb_2 49 rfl
theorem dL_law_541 : decode cL_law 541 = .ok (.iaload, 1) := dcl_at (f := fun k => decode cL_law k) dlb_2 50 rfl
theorem dL_law_542 : decode cL_law 542 = .ok (.aload_n 0, 1) := dcl_at (f := fun k => decode cL_law k) dlb_2 51 rfl
theorem dL_law_543 : decode cL_law 543 = .ok (.iload 5, 2) := dcl_at (f := fun k => decode cL_law k) dlb_2 52 rfl
theorem dL_law_545 : decode cL_law 545 = .ok (.iconst 3, 1) := dcl_at (f := fun k => decode cL_law k) dlb_2 53 rfl
theorem dL_law_546 : decode cL_law 546 = .ok (.iadd, 1) := dcl_at (f := fun k => decode cL_law k) dlb_2 54 rfl
theorem dL_law_547 : decode cL_law 547 = .ok (.iaload, 1) := dcl_at (f := fun k => decode cL_law k) dlb_2 55 rfl
theorem dL_law_548 : decode cL_law 548 = .ok (.aload_n 3, 1) := dcl_at (f := fun k => decode cL_law k) dlb_2 56 rfl
theorem dL_law_549 : decode cL_law 549 = .ok (.invokestatic 142, 3) := dcl_at (f := fun k => decode cL_law k) dlb_2 57 rfl
theorem dL_law_552 : decode cL_law 552 = .ok (.istore 6, 2) := dcl_at (f := fun k => decode cL_law k) dlb_2 58 rfl
theorem dL_law_554 : decode cL_law 554 = .ok (.aload_n 2, 1) := dcl_at (f := fun k => decode cL_law k) dlb_2 59 rfl
theorem dL_law_555 : decode cL_law 555 = .ok (.aload_n 0, 1) := dcl_at (f := fun k => decode cL_law k) dlb_2 60 rfl
theorem dL_law_556 : decode cL_law 556 = .ok (.iload 5, 2) := dcl_at (f := fun k => decode cL_law k) dlb_2 61 rfl
theorem dL_law_558 : decode cL_law 558 = .ok (.iconst 1, 1) := dcl_at (f := fun k => decode cL_law k) dlb_2 62 rfl
theorem dL_law_559 : decode cL_law 559 = .ok (.iadd, 1) := dcl_at (f := fun k => decode cL_law k) dlb_2 63 rfl
theorem dL_law_560 : decode cL_law 560 = .ok (.iaload, 1) := dcl_at (f := fun k => decode cL_law k) dlb_2 64 rfl
theorem dL_law_561 : decode cL_law 561 = .ok (.i2c, 1) := dcl_at (f := fun k => decode cL_law k) dlb_2 65 rfl
theorem dL_law_562 : decode cL_law 562 = .ok (.aload_n 0, 1) := dcl_at (f := fun k => decode cL_law k) dlb_2 66 rfl
theorem dL_law_563 : decode cL_law 563 = .ok (.iload 5, 2) := dcl_at (f := fun k => decode cL_law k) dlb_2 67 rfl
theorem dL_law_565 : decode cL_law 565 = .ok (.iconst 2, 1) := dcl_at (f := fun k => decode cL_law k) dlb_2 68 rfl
theorem dL_law_566 : decode cL_law 566 = .ok (.iadd, 1) := dcl_at (f := fun k => decode cL_law k) dlb_2 69 rfl
theorem dL_law_567 : decode cL_law 567 = .ok (.iaload, 1) := dcl_at (f := fun k => decode cL_law k) dlb_2 70 rfl
theorem dL_law_568 : decode cL_law 568 = .ok (.aload_n 0, 1) := dcl_at (f := fun k => decode cL_law k) dlb_2 71 rfl
theorem dL_law_569 : decode cL_law 569 = .ok (.iload 5, 2) := dcl_at (f := fun k => decode cL_law k) dlb_2 72 rfl
theorem dL_law_571 : decode cL_law 571 = .ok (.iconst 3, 1) := dcl_at (f := fun k => decode cL_law k) dlb_2 73 rfl
theorem dL_law_572 : decode cL_law 572 = .ok (.iadd, 1) := dcl_at (f := fun k => decode cL_law k) dlb_2 74 rfl
theorem dL_law_573 : decode cL_law 573 = .ok (.iaload, 1) := dcl_at (f := fun k => decode cL_law k) dlb_2 75 rfl
theorem dL_law_574 : decode cL_law 574 = .ok (.invokevirtual 145, 3) := dcl_at (f := fun k => decode cL_law k) dlb_2 76 rfl
theorem dL_law_577 : decode cL_law 577 = .ok (.istore 7, 2) := dcl_at (f := fun k => decode cL_law k) dlb_2 77 rfl
theorem dL_law_579 : decode cL_law 579 = .ok (.aload_n 2, 1) := dcl_at (f := fun k => decode cL_law k) dlb_2 78 rfl
theorem dL_law_580 : decode cL_law 580 = .ok (.invokevirtual 125, 3) := dcl_at (f := fun k => decode cL_law k) dlb_2 79 rfl
theorem dL_law_583 : decode cL_law 583 = .ok (.iload 6, 2) := dcl_at (f := fun k => decode cL_law k) dlb_2 80 rfl
theorem dL_law_585 : decode cL_law 585 = .ok (.if_icmp .eq 5, 3) := dcl_at (f := fun k => decode cL_law k) dlb_2 81 rfl
theorem dL_law_588 : decode cL_law 588 = .ok (.iconst 0, 1) := dcl_at (f := fun k => decode cL_law k) dlb_2 82 rfl
theorem dL_law_589 : decode cL_law 589 = .ok (.ireturn, 1) := dcl_at (f := fun k => decode cL_law k) dlb_2 83 rfl
theorem dL_law_590 : decode cL_law 590 = .ok (.iload 6, 2) := dcl_at (f := fun k => decode cL_law k) dlb_2 84 rfl
theorem dL_law_592 : decode cL_law 592 = .ok (.ifCond .ne 15, 3) := dcl_at (f := fun k => decode cL_law k) dlb_2 85 rfl
theorem dL_law_595 : decode cL_law 595 = .ok (.aload_n 3, 1) := dcl_at (f := fun k => decode cL_law k) dlb_2 86 rfl
theorem dL_law_596 : decode cL_law 596 = .ok (.iconst 0, 1) := dcl_at (f := fun k => decode cL_law k) dlb_2 87 rfl
theorem dL_law_597 : decode cL_law 597 = .ok (.laload, 1) := dcl_at (f := fun k => decode cL_law k) dlb_2 88 rfl
theorem dL_law_598 : decode cL_law 598 = .ok (.iload 7, 2) := dcl_at (f := fun k => decode cL_law k) dlb_2 89 rfl
theorem dL_law_600 : decode cL_law 600 = .ok (.i2l, 1) := dcl_at (f := fun k => decode cL_law k) dlb_2 90 rfl
theorem dL_law_601 : decode cL_law 601 = .ok (.lcmp, 1) := dcl_at (f := fun k => decode cL_law k) dlb_2 91 rfl
theorem dL_law_602 : decode cL_law 602 = .ok (.ifCond .eq 5, 3) := dcl_at (f := fun k => decode cL_law k) dlb_2 92 rfl
theorem dL_law_605 : decode cL_law 605 = .ok (.iconst 0, 1) := dcl_at (f := fun k => decode cL_law k) dlb_2 93 rfl
theorem dL_law_606 : decode cL_law 606 = .ok (.ireturn, 1) := dcl_at (f := fun k => decode cL_law k) dlb_2 94 rfl
theorem dL_law_607 : decode cL_law 607 = .ok (.goto 1511, 3) := dcl_at (f := fun k => decode cL_law k) dlb_2 95 rfl
theorem dL_law_610 : decode cL_law 610 = .ok (.aload_n 1, 1) := dcl_at (f := fun k => decode cL_law k) dlb_2 96 rfl
theorem dL_law_611 : decode cL_law 611 = .ok (.aload_n 0, 1) := dcl_at (f := fun k => decode cL_law k) dlb_2 97 rfl
theorem dL_law_612 : decode cL_law 612 = .ok (.iload 5, 2) := dcl_at (f := fun k => decode cL_law k) dlb_2 98 rfl
theorem dL_law_614 : decode cL_law 614 = .ok (.iconst 1, 1) := dcl_at (f := fun k => decode cL_law k) dlb_2 99 rfl
theorem dL_law_615 : decode cL_law 615 = .ok (.iadd, 1) := dcl_at (f := fun k => decode cL_law k) dlb_2 100 rfl
theorem dL_law_616 : decode cL_law 616 = .ok (.iaload, 1) := dcl_at (f := fun k => decode cL_law k) dlb_2 101 rfl
theorem dL_law_617 : decode cL_law 617 = .ok (.aload_n 0, 1) := dcl_at (f := fun k => decode cL_law k) dlb_2 102 rfl
theorem dL_law_618 : decode cL_law 618 = .ok (.iload 5, 2) := dcl_at (f := fun k => decode cL_law k) dlb_2 103 rfl
theorem dL_law_620 : decode cL_law 620 = .ok (.iconst 2, 1) := dcl_at (f := fun k => decode cL_law k) dlb_2 104 rfl
theorem dL_law_621 : decode cL_law 621 = .ok (.iadd, 1) := dcl_at (f := fun k => decode cL_law k) dlb_2 105 rfl
theorem dL_law_622 : decode cL_law 622 = .ok (.iaload, 1) := dcl_at (f := fun k => decode cL_law k) dlb_2 106 rfl
