/-! ===== the law's decode rows ===== -/
def dcl (f : Nat → Except DecodeError (Instr × Nat)) (L : List (Nat × Instr × Nat)) : Bool := L.all fun q => decide (f q.1 = .ok (q.2.1, q.2.2))
theorem dcl_at {f : Nat → Except DecodeError (Instr × Nat)} {L : List (Nat × Instr × Nat)} (h : dcl f L = true) (i : Nat) {a : Nat} {b : Instr} {c : Nat} (hi : L[i]? = some (a, b, c)) : f a = .ok (b, c) := of_decide_eq_true (List.all_eq_true.mp h (a, b, c) (List.mem_of_getElem? hi))
def dlb_0l : List (Nat × Instr × Nat) := [(0, .new 15, 3), (3, .dup, 1), (4, .invokespecial 122, 3), (7, .astore_n 1, 1), (8, .iconst 2, 1), (9, .aload_n 0, 1), (10, .iconst 0, 1), (11, .bipush 6, 2), (13, .invokestatic 123, 3), (16, .iadd, 1), (17, .istore_n 2, 1), (18, .iconst 1, 1), (19, .aload_n 0, 1), (20, .iconst 1, 1), (21, .iconst 4, 1), (22, .invokestatic 123, 3), (25, .iadd, 1), (26, .istore_n 3, 1), (27, .iconst 1, 1), (28, .istore 4, 2), (30, .iconst 2, 1), (31, .istore 5, 2), (33, .iconst 0, 1), (34, .istore 6, 2), (36, .iload 6, 2), (38, .iload_n 2, 1), (39, .if_icmp .ge 56, 3), (42, .iload 4, 2), (44, .aload_n 1, 1), (45, .aload_n 0, 1), (46, .iload 5, 2), (48, .iconst 3, 1), (49, .invokestatic 123, 3), (52, .ifCond .ne 17, 3), (55, .aload_n 0, 1), (56, .iload 5, 2), (58, .iconst 1, 1), (59, .iadd, 1), (60, .sipush 420, 3), (63, .invokestatic 123, 3), (66, .goto 4, 3), (69, .iconst 0, 1), (70, .invokestatic 127, 3), (73, .iload 6, 2), (75, .if_icmp .ne 7, 3), (78, .iconst 1, 1), (79, .goto 4, 3), (82, .iconst 0, 1), (83, .iand, 1), (84, .istore 4, 2), (86, .iinc 5 2, 3), (89, .iinc 6 1, 3), (92, .goto (-56), 3), (95, .iconst 0, 1), (96, .istore 6, 2), (98, .iload 6, 2), (100, .iload_n 3, 1), (101, .if_icmp .ge 28, 3), (104, .iload 4, 2), (106, .aload_n 1, 1), (107, .invokestatic 130, 3), (110, .iload 6, 2), (112, .if_icmp .ne 7, 3), (115, .iconst 1, 1), (116, .goto 4, 3), (119, .iconst 0, 1), (120, .iand, 1), (121, .istore 4, 2), (123, .iinc 6 1, 3), (126, .goto (-28), 3), (129, .iconst 0, 1), (130, .istore 6, 2), (132, .iload 6, 2), (134, .iload_n 2, 1), (135, .if_icmp .ge 40, 3), (138, .iload 4, 2), (140, .aload_n 1, 1), (141, .iload 6, 2), (143, .aload_n 0, 1), (144, .iload 5, 2), (146, .iload_n 3, 1), (147, .invokestatic 123, 3), (150, .iconst 0, 1), (151, .invokestatic 133, 3), (154, .iconst (-1), 1), (155, .if_icmp .ne 7, 3), (158, .iconst 1, 1), (159, .goto 4, 3), (162, .iconst 0, 1), (163, .iand, 1), (164, .istore 4, 2), (166, .iinc 5 1, 3), (169, .iinc 6 1, 3), (172, .goto (-40), 3), (175, .iconst 0, 1), (176, .istore 6, 2), (178, .iload 6, 2), (180, .bipush 60, 2), (182, .if_icmp .ge 742, 3), (185, .iload 4, 2), (187, .ifCond .eq 737, 3), (190, .aload_n 1, 1), (191, .iload_n 3, 1), (192, .invokestatic 136, 3), (195, .lstore 7, 2), (197, .aload_n 0, 1), (198, .iload 5, 2)]
theorem dlb_0 : dcl (fun k => decode cL_law k) dlb_0l = true := by decide +kernel
theorem dL_law_0 : decode cL_law 0 = .ok (.new 15, 3) := dcl_at (f := fun k => decode cL_law k) dlb_0 0 rfl
theorem dL_law_3 : decode cL_law 3 = .ok (.dup, 1) := dcl_at (f := fun k => decode cL_law k) dlb_0 1 rfl
theorem dL_law_4 : decode cL_law 4 = .ok (.invokespecial 122, 3) := dcl_at (f := fun k => decode cL_law k) dlb_0 2 rfl
theorem dL_law_7 : decode cL_law 7 = .ok (.astore_n 1, 1) := dcl_at (f := fun k => decode cL_law k) dlb_0 3 rfl
theorem dL_law_8 : decode cL_law 8 = .ok (.iconst 2, 1) := dcl_at (f := fun k => decode cL_law k) dlb_0 4 rfl
theorem dL_law_9 : decode cL_law 9 = .ok (.aload_n 0, 1) := dcl_at (f := fun k => decode cL_law k) dlb_0 5 rfl
theorem dL_law_10 : decode cL_law 10 = .ok (.iconst 0, 1) := dcl_at (f := fun k => decode cL_law k) dlb_0 6 rfl
theorem dL_law_11 : decode cL_law 11 = .ok (.bipush 6, 2) := dcl_at (f := fun k => decode cL_law k) dlb_0 7 rfl
theorem dL_law_13 : decode cL_law 13 = .ok (.invokestatic 123, 3) := dcl_at (f := fun k => decode cL_law k) dlb_0 8 rfl
theorem dL_law_16 : decode cL_law 16 = .ok (.iadd, 1) := dcl_at (f := fun k => decode cL_law k) dlb_0 9 rfl
theorem dL_law_17 : decode cL_law 17 = .ok (.istore_n 2, 1) := dcl_at (f := fun k => decode cL_law k) dlb_0 10 rfl
theorem dL_law_18 : decode cL_law 18 = .ok (.iconst 1, 1) := dcl_at (f := fun k => decode cL_law k) dlb_0 11 rfl
theorem dL_law_19 : decode cL_law 19 = .ok (.aload_n 0, 1) := dcl_at (f := fun k => decode cL_law k) dlb_0 12 rfl
theorem dL_law_20 : decode cL_law 20 = .ok (.iconst 1, 1) := dcl_at (f := fun k => decode cL_law k) dlb_0 13 rfl
theorem dL_law_21 : decode cL_law 21 = .ok (.iconst 4, 1) := dcl_at (f := fun k => decode cL_law k) dlb_0 14 rfl
theorem dL_law_22 : decode cL_law 22 = .ok (.invokestatic 123, 3) := dcl_at (f := fun k => decode cL_law k) dlb_0 15 rfl
theorem dL_law_25 : decode cL_law 25 = .ok (.iadd, 1) := dcl_at (f := fun k => decode cL_law k) dlb_0 16 rfl
theorem dL_law_26 : decode cL_law 26 = .ok (.istore_n 3, 1) := dcl_at (f := fun k => decode cL_law k) dlb_0 17 rfl
theorem dL_law_27 : decode cL_law 27 = .ok (.iconst 1, 1) := dcl_at (f := fun k => decode cL_law k) dlb_0 18 rfl
theorem dL_law_28 : decode cL_law 28 = .ok (.istore 4, 2) := dcl_at (f := fun k => decode cL_law k) dlb_0 19 rfl
theorem dL_law_30 : decode cL_law 30 = .ok (.iconst 2, 1) := dcl_at (f := fun k => decode cL_law k) dlb_0 20 rfl
theorem dL_law_31 : decode cL_law 31 = .ok (.istore 5, 2) := dcl_at (f := fun k => decode cL_law k) dlb_0 21 rfl
theorem dL_law_33 : decode cL_law 33 = .ok (.iconst 0, 1) := dcl_at (f := fun k => decode cL_law k) dlb_0 22 rfl
theorem dL_law_34 : decode cL_law 34 = .ok (.istore 6, 2) := dcl_at (f := fun k => decode cL_law k) dlb_0 23 rfl
theorem dL_law_36 : decode cL_law 36 = .ok (.iload 6, 2) := dcl_at (f := fun k => decode cL_law k) dlb_0 24 rfl
theorem dL_law_38 : decode cL_law 38 = .ok (.iload_n 2, 1) := dcl_at (f := fun k => decode cL_law k) dlb_0 25 rfl
theorem dL_law_39 : decode cL_law 39 = .ok (.if_icmp .ge 56, 3) := dcl_at (f := fun k => decode cL_law k) dlb_0 26 rfl
theorem dL_law_42 : decode cL_law 42 = .ok (.iload 4, 2) := dcl_at (f := fun k => decode cL_law k) dlb_0 27 rfl
theorem dL_law_44 : decode cL_law 44 = .ok (.aload_n 1, 1) := dcl_at (f := fun k => decode cL_law k) dlb_0 28 rfl
theorem dL_law_45 : decode cL_law 45 = .ok (.aload_n 0, 1) := dcl_at (f := fun k => decode cL_law k) dlb_0 29 rfl
theorem dL_law_46 : decode cL_law 46 = .ok (.iload 5, 2) := dcl_at (f := fun k => decode cL_law k) dlb_0 30 rfl
theorem dL_law_48 : decode cL_law 48 = .ok (.iconst 3, 1) := dcl_at (f := fun k => decode cL_law k) dlb_0 31 rfl
theorem dL_law_49 : decode cL_law 49 = .ok (.invokestatic 123, 3) := dcl_at (f := fun k => decode cL_law k) dlb_0 32 rfl
theorem dL_law_52 : decode cL_law 52 = .ok (.ifCond .ne 17, 3) := dcl_at (f := fun k => decode cL_law k) dlb_0 33 rfl
theorem dL_law_55 : decode cL_law 55 = .ok (.aload_n 0, 1) := dcl_at (f := fun k => decode cL_law k) dlb_0 34 rfl
theorem dL_law_56 : decode cL_law 56 = .ok (.iload 5, 2) := dcl_at (f := fun k => decode cL_law k) dlb_0 35 rfl
theorem dL_law_58 : decode cL_law 58 = .ok (.iconst 1, 1) := dcl_at (f := fun k => decode cL_law k) dlb_0 36 rfl
theorem dL_law_59 : decode cL_law 59 = .ok (.iadd, 1) := dcl_at (f := fun k => decode cL_law k) dlb_0 37 rfl
theorem dL_law_60 : decode cL_law 60 = .ok (.sipush 420, 3) := dcl_at (f := fun k => decode cL_law k) dlb_0 38 rfl
theorem dL_law_63 : decode cL_law 63 = .ok (.invokestatic 123, 3) := dcl_at (f := fun k => decode cL_law k) dlb_0 39 rfl
theorem dL_law_66 : decode cL_law 66 = .ok (.goto 4, 3) := dcl_at (f := fun k => decode cL_law k) dlb_0 40 rfl
theorem dL_law_69 : decode cL_law 69 = .ok (.iconst 0, 1) := dcl_at (f := fun k => decode cL_law k) dlb_0 41 rfl
theorem dL_law_70 : decode cL_law 70 = .ok (.invokestatic 127, 3) := dcl_at (f := fun k => decode cL_law k) dlb_0 42 rfl
theorem dL_law_73 : decode cL_law 73 = .ok (.iload 6, 2) := dcl_at (f := fun k => decode cL_law k) dlb_0 43 rfl
theorem dL_law_75 : decode cL_law 75 = .ok (.if_icmp .ne 7, 3) := dcl_at (f := fun k => decode cL_law k) dlb_0 44 rfl
theorem dL_law_78 : decode cL_law 78 = .ok (.iconst 1, 1) := dcl_at (f := fun k => decode cL_law k) dlb_0 45 rfl
theorem dL_law_79 : decode cL_law 79 = .ok (.goto 4, 3) := dcl_at (f := fun k => decode cL_law k) dlb_0 46 rfl
theorem dL_law_82 : decode cL_law 82 = .ok (.iconst 0, 1) := dcl_at (f := fun k => decode cL_law k) dlb_0 47 rfl
theorem dL_law_83 : decode cL_law 83 = .ok (.iand, 1) := dcl_at (f := fun k => decode cL_law k) dlb_0 48 rfl
theorem dL_law_84 : decode cL_law 84 = .ok (.istore 4, 2) := dcl_at (f := fun k => decode cL_law k) dlb_0 49 rfl
theorem dL_law_86 : decode cL_law 86 = .ok (.iinc 5 2, 3) := dcl_at (f := fun k => decode cL_law k) dlb_0 50 rfl
theorem dL_law_89 : decode cL_law 89 = .ok (.iinc 6 1, 3) := dcl_at (f := fun k => decode cL_law k) dlb_0 51 rfl
theorem dL_law_92 : decode cL_law 92 = .ok (.goto (-56), 3) := dcl_at (f := fun k => decode cL_law k) dlb_0 52 rfl
theorem dL_law_95 : decode cL_law 95 = .ok (.iconst 0, 1) := dcl_at (f := fun k => decode cL_law k) dlb_0 53 rfl
theorem dL_law_96 : decode cL_law 96 = .ok (.istore 6, 2) := dcl_at (f := fun k => decode cL_law k) dlb_0 54 rfl
theorem dL_law_98 : decode cL_law 98 = .ok (.iload 6, 2) := dcl_at (f := fun k => decode cL_law k) dlb_0 55 rfl
theorem dL_law_100 : decode cL_law 100 = .ok (.iload_n 3, 1) := dcl_at (f := fun k => decode cL_law k) dlb_0 56 rfl
theorem dL_law_101 : decode cL_law 101 = .ok (.if_icmp .ge 28, 3) := dcl_at (f := fun k => decode cL_law k) dlb_0 57 rfl
theorem dL_law_104 : decode cL_law 104 = .ok (.iload 4, 2) := dcl_at (f := fun k => decode cL_law k) dlb_0 58 rfl
theorem dL_law_106 : decode cL_law 106 = .ok (.aload_n 1, 1) := dcl_at (f := fun k => decode cL_law k) dlb_0 59 rfl
theorem dL_law_107 : decode cL_law 107 = .ok (.invokestatic 130, 3) := dcl_at (f := fun k => decode cL_law k) dlb_0 60 rfl
theorem dL_law_110 : decode cL_law 110 = .ok (.iload 6, 2) := dcl_at (f := fun k => decode cL_law k) dlb_0 61 rfl
theorem dL_law_112 : decode cL_law 112 = .ok (.if_icmp .ne 7, 3) := dcl_at (f := fun k => decode cL_law k) dlb_0 62 rfl
theorem dL_law_115 : decode cL_law 115 = .ok (.iconst 1, 1) := dcl_at (f := fun k => decode cL_law k) dlb_0 63 rfl
theorem dL_law_116 : decode cL_law 116 = .ok (.goto 4, 3) := dcl_at (f := fun k => decode cL_law k) dlb_0 64 rfl
theorem dL_law_119 : decode cL_law 119 = .ok (.iconst 0, 1) := dcl_at (f := fun k => decode cL_law k) dlb_0 65 rfl
theorem dL_law_120 : decode cL_law 120 = .ok (.iand, 1) := dcl_at (f := fun k => decode cL_law k) dlb_0 66 rfl
theorem dL_law_121 : decode cL_law 121 = .ok (.istore 4, 2) := dcl_at (f := fun k => decode cL_law k) dlb_0 67 rfl
theorem dL_law_123 : decode cL_law 123 = .ok (.iinc 6 1, 3) := dcl_at (f := fun k => decode cL_law k) dlb_0 68 rfl
theorem dL_law_126 : decode cL_law 126 = .ok (.goto (-28), 3) := dcl_at (f := fun k => decode cL_law k) dlb_0 69 rfl
theorem dL_law_129 : decode cL_law 129 = .ok (.iconst 0, 1) := dcl_at (f := fun k => decode cL_law k) dlb_0 70 rfl
theorem dL_law_130 : decode cL_law 130 = .ok (.istore 6, 2) := dcl_at (f := fun k => decode cL_law k) dlb_0 71 rfl
theorem dL_law_132 : decode cL_law 132 = .ok (.iload 6, 2) := dcl_at (f := fun k => decode cL_law k) dlb_0 72 rfl
theorem dL_law_134 : decode cL_law 134 = .ok (.iload_n 2, 1) := dcl_at (f := fun k => decode cL_law k) dlb_0 73 rfl
theorem dL_law_135 : decode cL_law 135 = .ok (.if_icmp .ge 40, 3) := dcl_at (f := fun k => decode cL_law k) dlb_0 74 rfl
theorem dL_law_138 : decode cL_law 138 = .ok (.iload 4, 2) := dcl_at (f := fun k => decode cL_law k) dlb_0 75 rfl
theorem dL_law_140 : decode cL_law 140 = .ok (.aload_n 1, 1) := dcl_at (f := fun k => decode cL_law k) dlb_0 76 rfl
theorem dL_law_141 : decode cL_law 141 = .ok (.iload 6, 2) := dcl_at (f := fun k => decode cL_law k) dlb_0 77 rfl
theorem dL_law_143 : decode cL_law 143 = .ok (.aload_n 0, 1) := dcl_at (f := fun k => decode cL_law k) dlb_0 78 rfl
theorem dL_law_144 : decode cL_law 144 = .ok (.iload 5, 2) := dcl_at (f := fun k => decode cL_law k) dlb_0 79 rfl
theorem dL_law_146 : decode cL_law 146 = .ok (.iload_n 3, 1) := dcl_at (f := fun k => decode cL_law k) dlb_0 80 rfl
theorem dL_law_147 : decode cL_law 147 = .ok (.invokestatic 123, 3) := dcl_at (f := fun k => decode cL_law k) dlb_0 81 rfl
theorem dL_law_150 : decode cL_law 150 = .ok (.iconst 0, 1) := dcl_at (f := fun k => decode cL_law k) dlb_0 82 rfl
theorem dL_law_151 : decode cL_law 151 = .ok (.invokestatic 133, 3) := dcl_at (f := fun k => decode cL_law k) dlb_0 83 rfl
theorem dL_law_154 : decode cL_law 154 = .ok (.iconst (-1), 1) := dcl_at (f := fun k => decode cL_law k) dlb_0 84 rfl
theorem dL_law_155 : decode cL_law 155 = .ok (.if_icmp .ne 7, 3) := dcl_at (f := fun k => decode cL_law k) dlb_0 85 rfl
theorem dL_law_158 : decode cL_law 158 = .ok (.iconst 1, 1) := dcl_at (f := fun k => decode cL_law k) dlb_0 86 rfl
theorem dL_law_159 : decode cL_law 159 = .ok (.goto 4, 3) := dcl_at (f := fun k => decode cL_law k) dlb_0 87 rfl
theorem dL_law_162 : decode cL_law 162 = .ok (.iconst 0, 1) := dcl_at (f := fun k => decode cL_law k) dlb_0 88 rfl
theorem dL_law_163 : decode cL_law 163 = .ok (.iand, 1) := dcl_at (f := fun k => decode cL_law k) dlb_0 89 rfl
theorem dL_law_164 : decode cL_law 164 = .ok (.istore 4, 2) := dcl_at (f := fun k => decode cL_law k) dlb_0 90 rfl
theorem dL_law_166 : decode cL_law 166 = .ok (.iinc 5 1, 3) := dcl_at (f := fun k => decode cL_law k) dlb_0 91 rfl
theorem dL_law_169 : decode cL_law 169 = .ok (.iinc 6 1, 3) := dcl_at (f := fun k => decode cL_law k) dlb_0 92 rfl
theorem dL_law_172 : decode cL_law 172 = .ok (.goto (-40), 3) := dcl_at (f := fun k => decode cL_law k) dlb_0 93 rfl
theorem dL_law_175 : decode cL_law 175 = .ok (.iconst 0, 1) := dcl_at (f := fun k => decode cL_law k) dlb_0 94 rfl
theorem dL_law_176 : decode cL_law 176 = .ok (.istore 6, 2) := dcl_at (f := fun k => decode cL_law k) dlb_0 95 rfl
theorem dL_law_178 : decode cL_law 178 = .ok (.iload 6, 2) := dcl_at (f := fun k => decode cL_law k) dlb_0 96 rfl
theorem dL_law_180 : decode cL_law 180 = .ok (.bipush 60, 2) := dcl_at (f := fun k => decode cL_law k) dlb_0 97 rfl
theorem dL_law_182 : decode cL_law 182 = .ok (.if_icmp .ge 742, 3) := dcl_at (f := fun k => decode cL_law k) dlb_0 98 rfl
theorem dL_law_185 : decode cL_law 185 = .ok (.iload 4, 2) := dcl_at (f := fun k => decode cL_law k) dlb_0 99 rfl
theorem dL_law_187 : decode cL_law 187 = .ok (.ifCond .eq 737, 3) := dcl_at (f := fun k => decode cL_law k) dlb_0 100 rfl
theorem dL_law_190 : decode cL_law 190 = .ok (.aload_n 1, 1) := dcl_at (f := fun k => decode cL_law k) dlb_0 101 rfl
theorem dL_law_191 : decode cL_law 191 = .ok (.iload_n 3, 1) := dcl_at (f := fun k => decode cL_law k) dlb_0 102 rfl
theorem dL_law_192 : decode cL_law 192 = .ok (.invokestatic 136, 3) := dcl_at (f := fun k => decode cL_law k) dlb_0 103 rfl
theorem dL_law_195 : decode cL_law 195 = .ok (.lstore 7, 2) := dcl_at (f := fun k => decode cL_law k) dlb_0 104 rfl
theorem dL_law_197 : decode cL_law 197 = .ok (.aload_n 0, 1) := dcl_at (f := fun k => decode cL_law k) dlb_0 105 rfl
theorem dL_law_198 : decode cL_law 198 = .ok (.iload 5, 2) := dcl_at (f := fun k => decode cL_law k) dlb_0 106 rfl
def dlb_1l : List (Nat × Instr × Nat) := [(200, .bipush 20, 2), (202, .invokestatic 123, 3), (205, .istore 9, 2), (207, .aload_n 0, 1), (208, .iload 5, 2), (210, .iconst 1, 1), (211, .iadd, 1), (212, .bipush 30, 2), (214, .invokestatic 123, 3), (217, .ifCond .ne 7, 3), (220, .iload_n 2, 1), (221, .goto 12, 3), (224, .aload_n 0, 1), (225, .iload 5, 2), (227, .iconst 1, 1), (228, .iadd, 1), (229, .iload_n 2, 1), (230, .invokestatic 123, 3), (233, .istore 10, 2), (235, .aload_n 0, 1), (236, .iload 5, 2), (238, .iconst 2, 1), (239, .iadd, 1), (240, .bipush 30, 2), (242, .invokestatic 123, 3), (245, .ifCond .ne 7, 3), (248, .iload_n 3, 1), (249, .goto 12, 3), (252, .aload_n 0, 1), (253, .iload 5, 2), (255, .iconst 2, 1), (256, .iadd, 1), (257, .iload_n 3, 1), (258, .invokestatic 123, 3), (261, .istore 11, 2), (263, .aload_n 0, 1), (264, .iload 5, 2), (266, .iconst 3, 1), (267, .iadd, 1), (268, .bipush 40, 2), (270, .invokestatic 123, 3), (273, .ifCond .ne 9, 3), (276, .sipush 360, 3), (279, .goto 14, 3), (282, .aload_n 0, 1), (283, .iload 5, 2), (285, .iconst 3, 1), (286, .iadd, 1), (287, .sipush 360, 3), (290, .invokestatic 123, 3), (293, .istore 12, 2), (295, .aload_n 0, 1), (296, .iload 5, 2), (298, .iconst 4, 1), (299, .iadd, 1), (300, .sipush 1000, 3), (303, .invokestatic 123, 3), (306, .istore 13, 2), (308, .aload_n 1, 1), (309, .invokevirtual 140, 3), (312, .istore 14, 2), (314, .iconst 0, 1), (315, .istore 15, 2), (317, .iload 9, 2), (319, .iconst 4, 1), (320, .if_icmp .ge 76, 3), (323, .aload_n 1, 1), (324, .iload 10, 2), (326, .iload 12, 2), (328, .invokestatic 143, 3), (331, .istore 16, 2), (333, .iload 13, 2), (335, .iconst 4, 1), (336, .irem, 1), (337, .ifCond .ne 7, 3), (340, .iconst (-1), 1), (341, .goto 5, 3), (344, .iload 11, 2), (346, .istore 17, 2), (348, .aload_n 1, 1), (349, .iload 10, 2), (351, .iload 17, 2), (353, .iload 12, 2), (355, .invokestatic 133, 3), (358, .istore 15, 2), (360, .iload 15, 2), (362, .iconst (-1), 1), (363, .if_icmp .lt 23, 3), (366, .iload 15, 2), (368, .iload 16, 2), (370, .if_icmp .ne 20, 3), (373, .aload_n 1, 1), (374, .iload 10, 2), (376, .iload 12, 2), (378, .invokestatic 143, 3), (381, .iload 17, 2), (383, .if_icmp .ne 7, 3), (386, .iconst 1, 1), (387, .goto 4, 3), (390, .iconst 0, 1), (391, .istore 4, 2), (393, .goto 452, 3), (396, .iload 9, 2), (398, .bipush 7, 2), (400, .if_icmp .ge 35, 3), (403, .aload_n 1, 1), (404, .iload 10, 2)]
theorem dlb_1 : dcl (fun k => decode cL_law k) dlb_1l = true := by decide +kernel
theorem dL_law_200 : decode cL_law 200 = .ok (.bipush 20, 2) := dcl_at (f := fun k => decode cL_law k) dlb_1 0 rfl
theorem dL_law_202 : decode cL_law 202 = .ok (.invokestatic 123, 3) := dcl_at (f := fun k => decode cL_law k) dlb_1 1 rfl
theorem dL_law_205 : decode cL_law 205 = .ok (.istore 9, 2) := dcl_at (f := fun k => decode cL_law k) dlb_1 2 rfl
theorem dL_law_207 : decode cL_law 207 = .ok (.aload_n 0, 1) := dcl_at (f := fun k => decode cL_law k) dlb_1 3 rfl
theorem dL_law_208 : decode cL_law 208 = .ok (.iload 5, 2) := dcl_at (f := fun k => decode cL_law k) dlb_1 4 rfl
theorem dL_law_210 : decode cL_law 210 = .ok (.iconst 1, 1) := dcl_at (f := fun k => decode cL_law k) dlb_1 5 rfl
theorem dL_law_211 : decode cL_law 211 = .ok (.iadd, 1) := dcl_at (f := fun k => decode cL_law k) dlb_1 6 rfl
theorem dL_law_212 : decode cL_law 212 = .ok (.bipush 30, 2) := dcl_at (f := fun k => decode cL_law k) dlb_1 7 rfl
theorem dL_law_214 : decode cL_law 214 = .ok (.invokestatic 123, 3) := dcl_at (f := fun k => decode cL_law k) dlb_1 8 rfl
theorem dL_law_217 : decode cL_law 217 = .ok (.ifCond .ne 7, 3) := dcl_at (f := fun k => decode cL_law k) dlb_1 9 rfl
theorem dL_law_220 : decode cL_law 220 = .ok (.iload_n 2, 1) := dcl_at (f := fun k => decode cL_law k) dlb_1 10 rfl
theorem dL_law_221 : decode cL_law 221 = .ok (.goto 12, 3) := dcl_at (f := fun k => decode cL_law k) dlb_1 11 rfl
theorem dL_law_224 : decode cL_law 224 = .ok (.aload_n 0, 1) := dcl_at (f := fun k => decode cL_law k) dlb_1 12 rfl
theorem dL_law_225 : decode cL_law 225 = .ok (.iload 5, 2) := dcl_at (f := fun k => decode cL_law k) dlb_1 13 rfl
theorem dL_law_227 : decode cL_law 227 = .ok (.iconst 1, 1) := dcl_at (f := fun k => decode cL_law k) dlb_1 14 rfl
theorem dL_law_228 : decode cL_law 228 = .ok (.iadd, 1) := dcl_at (f := fun k => decode cL_law k) dlb_1 15 rfl
theorem dL_law_229 : decode cL_law 229 = .ok (.iload_n 2, 1) := dcl_at (f := fun k => decode cL_law k) dlb_1 16 rfl
theorem dL_law_230 : decode cL_law 230 = .ok (.invokestatic 123, 3) := dcl_at (f := fun k => decode cL_law k) dlb_1 17 rfl
theorem dL_law_233 : decode cL_law 233 = .ok (.istore 10, 2) := dcl_at (f := fun k => decode cL_law k) dlb_1 18 rfl
theorem dL_law_235 : decode cL_law 235 = .ok (.aload_n 0, 1) := dcl_at (f := fun k => decode cL_law k) dlb_1 19 rfl
theorem dL_law_236 : decode cL_law 236 = .ok (.iload 5, 2) := dcl_at (f := fun k => decode cL_law k) dlb_1 20 rfl
theorem dL_law_238 : decode cL_law 238 = .ok (.iconst 2, 1) := dcl_at (f := fun k => decode cL_law k) dlb_1 21 rfl
theorem dL_law_239 : decode cL_law 239 = .ok (.iadd, 1) := dcl_at (f := fun k => decode cL_law k) dlb_1 22 rfl
theorem dL_law_240 : decode cL_law 240 = .ok (.bipush 30, 2) := dcl_at (f := fun k => decode cL_law k) dlb_1 23 rfl
theorem dL_law_242 : decode cL_law 242 = .ok (.invokestatic 123, 3) := dcl_at (f := fun k => decode cL_law k) dlb_1 24 rfl
theorem dL_law_245 : decode cL_law 245 = .ok (.ifCond .ne 7, 3) := dcl_at (f := fun k => decode cL_law k) dlb_1 25 rfl
theorem dL_law_248 : decode cL_law 248 = .ok (.iload_n 3, 1) := dcl_at (f := fun k => decode cL_law k) dlb_1 26 rfl
theorem dL_law_249 : decode cL_law 249 = .ok (.goto 12, 3) := dcl_at (f := fun k => decode cL_law k) dlb_1 27 rfl
theorem dL_law_252 : decode cL_law 252 = .ok (.aload_n 0, 1) := dcl_at (f := fun k => decode cL_law k) dlb_1 28 rfl
theorem dL_law_253 : decode cL_law 253 = .ok (.iload 5, 2) := dcl_at (f := fun k => decode cL_law k) dlb_1 29 rfl
theorem dL_law_255 : decode cL_law 255 = .ok (.iconst 2, 1) := dcl_at (f := fun k => decode cL_law k) dlb_1 30 rfl
theorem dL_law_256 : decode cL_law 256 = .ok (.iadd, 1) := dcl_at (f := fun k => decode cL_law k) dlb_1 31 rfl
theorem dL_law_257 : decode cL_law 257 = .ok (.iload_n 3, 1) := dcl_at (f := fun k => decode cL_law k) dlb_1 32 rfl
theorem dL_law_258 : decode cL_law 258 = .ok (.invokestatic 123, 3) := dcl_at (f := fun k => decode cL_law k) dlb_1 33 rfl
theorem dL_law_261 : decode cL_law 261 = .ok (.istore 11, 2) := dcl_at (f := fun k => decode cL_law k) dlb_1 34 rfl
theorem dL_law_263 : decode cL_law 263 = .ok (.aload_n 0, 1) := dcl_at (f := fun k => decode cL_law k) dlb_1 35 rfl
theorem dL_law_264 : decode cL_law 264 = .ok (.iload 5, 2) := dcl_at (f := fun k => decode cL_law k) dlb_1 36 rfl
theorem dL_law_266 : decode cL_law 266 = .ok (.iconst 3, 1) := dcl_at (f := fun k => decode cL_law k) dlb_1 37 rfl
theorem dL_law_267 : decode cL_law 267 = .ok (.iadd, 1) := dcl_at (f := fun k => decode cL_law k) dlb_1 38 rfl
theorem dL_law_268 : decode cL_law 268 = .ok (.bipush 40, 2) := dcl_at (f := fun k => decode cL_law k) dlb_1 39 rfl
theorem dL_law_270 : decode cL_law 270 = .ok (.invokestatic 123, 3) := dcl_at (f := fun k => decode cL_law k) dlb_1 40 rfl
theorem dL_law_273 : decode cL_law 273 = .ok (.ifCond .ne 9, 3) := dcl_at (f := fun k => decode cL_law k) dlb_1 41 rfl
theorem dL_law_276 : decode cL_law 276 = .ok (.sipush 360, 3) := dcl_at (f := fun k => decode cL_law k) dlb_1 42 rfl
theorem dL_law_279 : decode cL_law 279 = .ok (.goto 14, 3) := dcl_at (f := fun k => decode cL_law k) dlb_1 43 rfl
theorem dL_law_282 : decode cL_law 282 = .ok (.aload_n 0, 1) := dcl_at (f := fun k => decode cL_law k) dlb_1 44 rfl
theorem dL_law_283 : decode cL_law 283 = .ok (.iload 5, 2) := dcl_at (f := fun k => decode cL_law k) dlb_1 45 rfl
theorem dL_law_285 : decode cL_law 285 = .ok (.iconst 3, 1) := dcl_at (f := fun k => decode cL_law k) dlb_1 46 rfl
theorem dL_law_286 : decode cL_law 286 = .ok (.iadd, 1) := dcl_at (f := fun k => decode cL_law k) dlb_1 47 rfl
theorem dL_law_287 : decode cL_law 287 = .ok (.sipush 360, 3) := dcl_at (f := fun k => decode cL_law k) dlb_1 48 rfl
theorem dL_law_290 : decode cL_law 290 = .ok (.invokestatic 123, 3) := dcl_at (f := fun k => decode cL_law k) dlb_1 49 rfl
theorem dL_law_293 : decode cL_law 293 = .ok (.istore 12, 2) := dcl_at (f := fun k => decode cL_law k) dlb_1 50 rfl
theorem dL_law_295 : decode cL_law 295 = .ok (.aload_n 0, 1) := dcl_at (f := fun k => decode cL_law k) dlb_1 51 rfl
theorem dL_law_296 : decode cL_law 296 = .ok (.iload 5, 2) := dcl_at (f := fun k => decode cL_law k) dlb_1 52 rfl
theorem dL_law_298 : decode cL_law 298 = .ok (.iconst 4, 1) := dcl_at (f := fun k => decode cL_law k) dlb_1 53 rfl
theorem dL_law_299 : decode cL_law 299 = .ok (.iadd, 1) := dcl_at (f := fun k => decode cL_law k) dlb_1 54 rfl
theorem dL_law_300 : decode cL_law 300 = .ok (.sipush 1000, 3) := dcl_at (f := fun k => decode cL_law k) dlb_1 55 rfl
theorem dL_law_303 : decode cL_law 303 = .ok (.invokestatic 123, 3) := dcl_at (f := fun k => decode cL_law k) dlb_1 56 rfl
theorem dL_law_306 : decode cL_law 306 = .ok (.istore 13, 2) := dcl_at (f := fun k => decode cL_law k) dlb_1 57 rfl
theorem dL_law_308 : decode cL_law 308 = .ok (.aload_n 1, 1) := dcl_at (f := fun k => decode cL_law k) dlb_1 58 rfl
theorem dL_law_309 : decode cL_law 309 = .ok (.invokevirtual 140, 3) := dcl_at (f := fun k => decode cL_law k) dlb_1 59 rfl
theorem dL_law_312 : decode cL_law 312 = .ok (.istore 14, 2) := dcl_at (f := fun k => decode cL_law k) dlb_1 60 rfl
theorem dL_law_314 : decode cL_law 314 = .ok (.iconst 0, 1) := dcl_at (f := fun k => decode cL_law k) dlb_1 61 rfl
theorem dL_law_315 : decode cL_law 315 = .ok (.istore 15, 2) := dcl_at (f := fun k => decode cL_law k) dlb_1 62 rfl
theorem dL_law_317 : decode cL_law 317 = .ok (.iload 9, 2) := dcl_at (f := fun k => decode cL_law k) dlb_1 63 rfl
theorem dL_law_319 : decode cL_law 319 = .ok (.iconst 4, 1) := dcl_at (f := fun k => decode cL_law k) dlb_1 64 rfl
theorem dL_law_320 : decode cL_law 320 = .ok (.if_icmp .ge 76, 3) := dcl_at (f := fun k => decode cL_law k) dlb_1 65 rfl
theorem dL_law_323 : decode cL_law 323 = .ok (.aload_n 1, 1) := dcl_at (f := fun k => decode cL_law k) dlb_1 66 rfl
theorem dL_law_324 : decode cL_law 324 = .ok (.iload 10, 2) := dcl_at (f := fun k => decode cL_law k) dlb_1 67 rfl
theorem dL_law_326 : decode cL_law 326 = .ok (.iload 12, 2) := dcl_at (f := fun k => decode cL_law k) dlb_1 68 rfl
theorem dL_law_328 : decode cL_law 328 = .ok (.invokestatic 143, 3) := dcl_at (f := fun k => decode cL_law k) dlb_1 69 rfl
theorem dL_law_331 : decode cL_law 331 = .ok (.istore 16, 2) := dcl_at (f := fun k => decode cL_law k) dlb_1 70 rfl
theorem dL_law_333 : decode cL_law 333 = .ok (.iload 13, 2) := dcl_at (f := fun k => decode cL_law k) dlb_1 71 rfl
theorem dL_law_335 : decode cL_law 335 = .ok (.iconst 4, 1) := dcl_at (f := fun k => decode cL_law k) dlb_1 72 rfl
theorem dL_law_336 : decode cL_law 336 = .ok (.irem, 1) := dcl_at (f := fun k => decode cL_law k) dlb_1 73 rfl
theorem dL_law_337 : decode cL_law 337 = .ok (.ifCond .ne 7, 3) := dcl_at (f := fun k => decode cL_law k) dlb_1 74 rfl
theorem dL_law_340 : decode cL_law 340 = .ok (.iconst (-1), 1) := dcl_at (f := fun k => decode cL_law k) dlb_1 75 rfl
theorem dL_law_341 : decode cL_law 341 = .ok (.goto 5, 3) := dcl_at (f := fun k => decode cL_law k) dlb_1 76 rfl
theorem dL_law_344 : decode cL_law 344 = .ok (.iload 11, 2) := dcl_at (f := fun k => decode cL_law k) dlb_1 77 rfl
theorem dL_law_346 : decode cL_law 346 = .ok (.istore 17, 2) := dcl_at (f := fun k => decode cL_law k) dlb_1 78 rfl
theorem dL_law_348 : decode cL_law 348 = .ok (.aload_n 1, 1) := dcl_at (f := fun k => decode cL_law k) dlb_1 79 rfl
theorem dL_law_349 : decode cL_law 349 = .ok (.iload 10, 2) := dcl_at (f := fun k => decode cL_law k) dlb_1 80 rfl
theorem dL_law_351 : decode cL_law 351 = .ok (.iload 17, 2) := dcl_at (f := fun k => decode cL_law k) dlb_1 81 rfl
theorem dL_law_353 : decode cL_law 353 = .ok (.iload 12, 2) := dcl_at (f := fun k => decode cL_law k) dlb_1 82 rfl
theorem dL_law_355 : decode cL_law 355 = .ok (.invokestatic 133, 3) := dcl_at (f := fun k => decode cL_law k) dlb_1 83 rfl
theorem dL_law_358 : decode cL_law 358 = .ok (.istore 15, 2) := dcl_at (f := fun k => decode cL_law k) dlb_1 84 rfl
theorem dL_law_360 : decode cL_law 360 = .ok (.iload 15, 2) := dcl_at (f := fun k => decode cL_law k) dlb_1 85 rfl
theorem dL_law_362 : decode cL_law 362 = .ok (.iconst (-1), 1) := dcl_at (f := fun k => decode cL_law k) dlb_1 86 rfl
theorem dL_law_363 : decode cL_law 363 = .ok (.if_icmp .lt 23, 3) := dcl_at (f := fun k => decode cL_law k) dlb_1 87 rfl
theorem dL_law_366 : decode cL_law 366 = .ok (.iload 15, 2) := dcl_at (f := fun k => decode cL_law k) dlb_1 88 rfl
theorem dL_law_368 : decode cL_law 368 = .ok (.iload 16, 2) := dcl_at (f := fun k => decode cL_law k) dlb_1 89 rfl
theorem dL_law_370 : decode cL_law 370 = .ok (.if_icmp .ne 20, 3) := dcl_at (f := fun k => decode cL_law k) dlb_1 90 rfl
theorem dL_law_373 : decode cL_law 373 = .ok (.aload_n 1, 1) := dcl_at (f := fun k => decode cL_law k) dlb_1 91 rfl
theorem dL_law_374 : decode cL_law 374 = .ok (.iload 10, 2) := dcl_at (f := fun k => decode cL_law k) dlb_1 92 rfl
theorem dL_law_376 : decode cL_law 376 = .ok (.iload 12, 2) := dcl_at (f := fun k => decode cL_law k) dlb_1 93 rfl
theorem dL_law_378 : decode cL_law 378 = .ok (.invokestatic 143, 3) := dcl_at (f := fun k => decode cL_law k) dlb_1 94 rfl
theorem dL_law_381 : decode cL_law 381 = .ok (.iload 17, 2) := dcl_at (f := fun k => decode cL_law k) dlb_1 95 rfl
theorem dL_law_383 : decode cL_law 383 = .ok (.if_icmp .ne 7, 3) := dcl_at (f := fun k => decode cL_law k) dlb_1 96 rfl
theorem dL_law_386 : decode cL_law 386 = .ok (.iconst 1, 1) := dcl_at (f := fun k => decode cL_law k) dlb_1 97 rfl
theorem dL_law_387 : decode cL_law 387 = .ok (.goto 4, 3) := dcl_at (f := fun k => decode cL_law k) dlb_1 98 rfl
theorem dL_law_390 : decode cL_law 390 = .ok (.iconst 0, 1) := dcl_at (f := fun k => decode cL_law k) dlb_1 99 rfl
theorem dL_law_391 : decode cL_law 391 = .ok (.istore 4, 2) := dcl_at (f := fun k => decode cL_law k) dlb_1 100 rfl
theorem dL_law_393 : decode cL_law 393 = .ok (.goto 452, 3) := dcl_at (f := fun k => decode cL_law k) dlb_1 101 rfl
theorem dL_law_396 : decode cL_law 396 = .ok (.iload 9, 2) := dcl_at (f := fun k => decode cL_law k) dlb_1 102 rfl
theorem dL_law_398 : decode cL_law 398 = .ok (.bipush 7, 2) := dcl_at (f := fun k => decode cL_law k) dlb_1 103 rfl
theorem dL_law_400 : decode cL_law 400 = .ok (.if_icmp .ge 35, 3) := dcl_at (f := fun k => decode cL_law k) dlb_1 104 rfl
theorem dL_law_403 : decode cL_law 403 = .ok (.aload_n 1, 1) := dcl_at (f := fun k => decode cL_law k) dlb_1 105 rfl
theorem dL_law_404 : decode cL_law 404 = .ok (.iload 10, 2) := dcl_at (f := fun k => decode cL_law k) dlb_1 106 rfl
