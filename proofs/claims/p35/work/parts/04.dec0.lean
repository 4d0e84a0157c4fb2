theorem dX0_init_0 : decode cX0_init 0 = .ok (.aload_n 0, 1) := by decide +kernel
theorem dX0_init_1 : decode cX0_init 1 = .ok (.invokespecial 1, 3) := by decide +kernel
theorem dX0_init_4 : decode cX0_init 4 = .ok (.return_, 1) := by decide +kernel
theorem dX0_clear_0 : decode cX0_clear 0 = .ok (.aload_n 0, 1) := by decide +kernel
theorem dX0_clear_1 : decode cX0_clear 1 = .ok (.iconst 0, 1) := by decide +kernel
theorem dX0_clear_2 : decode cX0_clear 2 = .ok (.putfield 7, 3) := by decide +kernel
theorem dX0_clear_5 : decode cX0_clear 5 = .ok (.aload_n 0, 1) := by decide +kernel
theorem dX0_clear_6 : decode cX0_clear 6 = .ok (.iconst 0, 1) := by decide +kernel
theorem dX0_clear_7 : decode cX0_clear 7 = .ok (.putfield 13, 3) := by decide +kernel
theorem dX0_clear_10 : decode cX0_clear 10 = .ok (.aload_n 0, 1) := by decide +kernel
theorem dX0_clear_11 : decode cX0_clear 11 = .ok (.iconst 0, 1) := by decide +kernel
theorem dX0_clear_12 : decode cX0_clear 12 = .ok (.putfield 16, 3) := by decide +kernel
theorem dX0_clear_15 : decode cX0_clear 15 = .ok (.aload_n 0, 1) := by decide +kernel
theorem dX0_clear_16 : decode cX0_clear 16 = .ok (.iconst 0, 1) := by decide +kernel
theorem dX0_clear_17 : decode cX0_clear 17 = .ok (.putfield 19, 3) := by decide +kernel
theorem dX0_clear_20 : decode cX0_clear 20 = .ok (.aload_n 0, 1) := by decide +kernel
theorem dX0_clear_21 : decode cX0_clear 21 = .ok (.iconst 0, 1) := by decide +kernel
theorem dX0_clear_22 : decode cX0_clear 22 = .ok (.putfield 23, 3) := by decide +kernel
theorem dX0_clear_25 : decode cX0_clear 25 = .ok (.return_, 1) := by decide +kernel
theorem dX0_sum_0 : decode cX0_sum 0 = .ok (.aload_n 0, 1) := by decide +kernel
theorem dX0_sum_1 : decode cX0_sum 1 = .ok (.getfield 7, 3) := by decide +kernel
theorem dX0_sum_4 : decode cX0_sum 4 = .ok (.aload_n 0, 1) := by decide +kernel
theorem dX0_sum_5 : decode cX0_sum 5 = .ok (.getfield 13, 3) := by decide +kernel
theorem dX0_sum_8 : decode cX0_sum 8 = .ok (.iadd, 1) := by decide +kernel
theorem dX0_sum_9 : decode cX0_sum 9 = .ok (.aload_n 0, 1) := by decide +kernel
theorem dX0_sum_10 : decode cX0_sum 10 = .ok (.getfield 16, 3) := by decide +kernel
theorem dX0_sum_13 : decode cX0_sum 13 = .ok (.iadd, 1) := by decide +kernel
theorem dX0_sum_14 : decode cX0_sum 14 = .ok (.ireturn, 1) := by decide +kernel
theorem dX0_taper_0 : decode cX0_taper 0 = .ok (.iload_n 1, 1) := by decide +kernel
theorem dX0_taper_1 : decode cX0_taper 1 = .ok (.aload_n 0, 1) := by decide +kernel
theorem dX0_taper_2 : decode cX0_taper 2 = .ok (.getfield 16, 3) := by decide +kernel
theorem dX0_taper_5 : decode cX0_taper 5 = .ok (.invokestatic 26, 3) := by decide +kernel
theorem dX0_taper_8 : decode cX0_taper 8 = .ok (.istore_n 2, 1) := by decide +kernel
theorem dX0_taper_9 : decode cX0_taper 9 = .ok (.iload_n 1, 1) := by decide +kernel
theorem dX0_taper_10 : decode cX0_taper 10 = .ok (.iload_n 2, 1) := by decide +kernel
theorem dX0_taper_11 : decode cX0_taper 11 = .ok (.isub, 1) := by decide +kernel
theorem dX0_taper_12 : decode cX0_taper 12 = .ok (.aload_n 0, 1) := by decide +kernel
theorem dX0_taper_13 : decode cX0_taper 13 = .ok (.getfield 7, 3) := by decide +kernel
theorem dX0_taper_16 : decode cX0_taper 16 = .ok (.invokestatic 26, 3) := by decide +kernel
theorem dX0_taper_19 : decode cX0_taper 19 = .ok (.istore_n 3, 1) := by decide +kernel
theorem dX0_taper_20 : decode cX0_taper 20 = .ok (.aload_n 0, 1) := by decide +kernel
theorem dX0_taper_21 : decode cX0_taper 21 = .ok (.dup, 1) := by decide +kernel
theorem dX0_taper_22 : decode cX0_taper 22 = .ok (.getfield 16, 3) := by decide +kernel
theorem dX0_taper_25 : decode cX0_taper 25 = .ok (.iload_n 2, 1) := by decide +kernel
theorem dX0_taper_26 : decode cX0_taper 26 = .ok (.isub, 1) := by decide +kernel
theorem dX0_taper_27 : decode cX0_taper 27 = .ok (.putfield 16, 3) := by decide +kernel
theorem dX0_taper_30 : decode cX0_taper 30 = .ok (.aload_n 0, 1) := by decide +kernel
theorem dX0_taper_31 : decode cX0_taper 31 = .ok (.dup, 1) := by decide +kernel
theorem dX0_taper_32 : decode cX0_taper 32 = .ok (.getfield 7, 3) := by decide +kernel
theorem dX0_taper_35 : decode cX0_taper 35 = .ok (.iload_n 3, 1) := by decide +kernel
theorem dX0_taper_36 : decode cX0_taper 36 = .ok (.isub, 1) := by decide +kernel
theorem dX0_taper_37 : decode cX0_taper 37 = .ok (.putfield 7, 3) := by decide +kernel
theorem dX0_taper_40 : decode cX0_taper 40 = .ok (.aload_n 0, 1) := by decide +kernel
theorem dX0_taper_41 : decode cX0_taper 41 = .ok (.iload_n 2, 1) := by decide +kernel
theorem dX0_taper_42 : decode cX0_taper 42 = .ok (.iload_n 3, 1) := by decide +kernel
theorem dX0_taper_43 : decode cX0_taper 43 = .ok (.iadd, 1) := by decide +kernel
theorem dX0_taper_44 : decode cX0_taper 44 = .ok (.ifCond .le 7, 3) := by decide +kernel
theorem dX0_taper_47 : decode cX0_taper 47 = .ok (.iconst 1, 1) := by decide +kernel
theorem dX0_taper_48 : decode cX0_taper 48 = .ok (.goto 4, 3) := by decide +kernel
theorem dX0_taper_51 : decode cX0_taper 51 = .ok (.iconst 0, 1) := by decide +kernel
theorem dX0_taper_52 : decode cX0_taper 52 = .ok (.putfield 19, 3) := by decide +kernel
theorem dX0_taper_55 : decode cX0_taper 55 = .ok (.return_, 1) := by decide +kernel
theorem dX0_limitTo_0 : decode cX0_limitTo 0 = .ok (.aload_n 0, 1) := by decide +kernel
theorem dX0_limitTo_1 : decode cX0_limitTo 1 = .ok (.invokevirtual 32, 3) := by decide +kernel
theorem dX0_limitTo_4 : decode cX0_limitTo 4 = .ok (.istore_n 2, 1) := by decide +kernel
theorem dX0_limitTo_5 : decode cX0_limitTo 5 = .ok (.iload_n 2, 1) := by decide +kernel
theorem dX0_limitTo_6 : decode cX0_limitTo 6 = .ok (.ifCond .le 8, 3) := by decide +kernel
theorem dX0_limitTo_9 : decode cX0_limitTo 9 = .ok (.iload_n 2, 1) := by decide +kernel
theorem dX0_limitTo_10 : decode cX0_limitTo 10 = .ok (.iload_n 1, 1) := by decide +kernel
theorem dX0_limitTo_11 : decode cX0_limitTo 11 = .ok (.if_icmp .gt 4, 3) := by decide +kernel
theorem dX0_limitTo_14 : decode cX0_limitTo 14 = .ok (.return_, 1) := by decide +kernel
theorem dX0_limitTo_15 : decode cX0_limitTo 15 = .ok (.aload_n 0, 1) := by decide +kernel
theorem dX0_limitTo_16 : decode cX0_limitTo 16 = .ok (.iconst 1, 1) := by decide +kernel
theorem dX0_limitTo_17 : decode cX0_limitTo 17 = .ok (.putfield 23, 3) := by decide +kernel
theorem dX0_limitTo_20 : decode cX0_limitTo 20 = .ok (.aload_n 0, 1) := by decide +kernel
theorem dX0_limitTo_21 : decode cX0_limitTo 21 = .ok (.getfield 7, 3) := by decide +kernel
theorem dX0_limitTo_24 : decode cX0_limitTo 24 = .ok (.iload_n 1, 1) := by decide +kernel
theorem dX0_limitTo_25 : decode cX0_limitTo 25 = .ok (.imul, 1) := by decide +kernel
theorem dX0_limitTo_26 : decode cX0_limitTo 26 = .ok (.iload_n 2, 1) := by decide +kernel
theorem dX0_limitTo_27 : decode cX0_limitTo 27 = .ok (.irem, 1) := by decide +kernel
theorem dX0_limitTo_28 : decode cX0_limitTo 28 = .ok (.istore_n 3, 1) := by decide +kernel
theorem dX0_limitTo_29 : decode cX0_limitTo 29 = .ok (.aload_n 0, 1) := by decide +kernel
theorem dX0_limitTo_30 : decode cX0_limitTo 30 = .ok (.getfield 13, 3) := by decide +kernel
theorem dX0_limitTo_33 : decode cX0_limitTo 33 = .ok (.iload_n 1, 1) := by decide +kernel
theorem dX0_limitTo_34 : decode cX0_limitTo 34 = .ok (.imul, 1) := by decide +kernel
theorem dX0_limitTo_35 : decode cX0_limitTo 35 = .ok (.iload_n 2, 1) := by decide +kernel
theorem dX0_limitTo_36 : decode cX0_limitTo 36 = .ok (.irem, 1) := by decide +kernel
theorem dX0_limitTo_37 : decode cX0_limitTo 37 = .ok (.istore 4, 2) := by decide +kernel
theorem dX0_limitTo_39 : decode cX0_limitTo 39 = .ok (.aload_n 0, 1) := by decide +kernel
theorem dX0_limitTo_40 : decode cX0_limitTo 40 = .ok (.getfield 16, 3) := by decide +kernel
theorem dX0_limitTo_43 : decode cX0_limitTo 43 = .ok (.iload_n 1, 1) := by decide +kernel
theorem dX0_limitTo_44 : decode cX0_limitTo 44 = .ok (.imul, 1) := by decide +kernel
theorem dX0_limitTo_45 : decode cX0_limitTo 45 = .ok (.iload_n 2, 1) := by decide +kernel
theorem dX0_limitTo_46 : decode cX0_limitTo 46 = .ok (.irem, 1) := by decide +kernel
theorem dX0_limitTo_47 : decode cX0_limitTo 47 = .ok (.istore 5, 2) := by decide +kernel
theorem dX0_limitTo_49 : decode cX0_limitTo 49 = .ok (.aload_n 0, 1) := by decide +kernel
theorem dX0_limitTo_50 : decode cX0_limitTo 50 = .ok (.aload_n 0, 1) := by decide +kernel
theorem dX0_limitTo_51 : decode cX0_limitTo 51 = .ok (.getfield 7, 3) := by decide +kernel
theorem dX0_limitTo_54 : decode cX0_limitTo 54 = .ok (.iload_n 1, 1) := by decide +kernel
theorem dX0_limitTo_55 : decode cX0_limitTo 55 = .ok (.imul, 1) := by decide +kernel
theorem dX0_limitTo_56 : decode cX0_limitTo 56 = .ok (.iload_n 2, 1) := by decide +kernel
theorem dX0_limitTo_57 : decode cX0_limitTo 57 = .ok (.idiv, 1) := by decide +kernel
theorem dX0_limitTo_58 : decode cX0_limitTo 58 = .ok (.putfield 7, 3) := by decide +kernel
theorem dX0_limitTo_61 : decode cX0_limitTo 61 = .ok (.aload_n 0, 1) := by decide +kernel
theorem dX0_limitTo_62 : decode cX0_limitTo 62 = .ok (.aload_n 0, 1) := by decide +kernel
theorem dX0_limitTo_63 : decode cX0_limitTo 63 = .ok (.getfield 13, 3) := by decide +kernel
theorem dX0_limitTo_66 : decode cX0_limitTo 66 = .ok (.iload_n 1, 1) := by decide +kernel
theorem dX0_limitTo_67 : decode cX0_limitTo 67 = .ok (.imul, 1) := by decide +kernel
theorem dX0_limitTo_68 : decode cX0_limitTo 68 = .ok (.iload_n 2, 1) := by decide +kernel
theorem dX0_limitTo_69 : decode cX0_limitTo 69 = .ok (.idiv, 1) := by decide +kernel
theorem dX0_limitTo_70 : decode cX0_limitTo 70 = .ok (.putfield 13, 3) := by decide +kernel
theorem dX0_limitTo_73 : decode cX0_limitTo 73 = .ok (.aload_n 0, 1) := by decide +kernel
theorem dX0_limitTo_74 : decode cX0_limitTo 74 = .ok (.aload_n 0, 1) := by decide +kernel
theorem dX0_limitTo_75 : decode cX0_limitTo 75 = .ok (.getfield 16, 3) := by decide +kernel
theorem dX0_limitTo_78 : decode cX0_limitTo 78 = .ok (.iload_n 1, 1) := by decide +kernel
theorem dX0_limitTo_79 : decode cX0_limitTo 79 = .ok (.imul, 1) := by decide +kernel
theorem dX0_limitTo_80 : decode cX0_limitTo 80 = .ok (.iload_n 2, 1) := by decide +kernel
theorem dX0_limitTo_81 : decode cX0_limitTo 81 = .ok (.idiv, 1) := by decide +kernel
theorem dX0_limitTo_82 : decode cX0_limitTo 82 = .ok (.putfield 16, 3) := by decide +kernel
theorem dX0_limitTo_85 : decode cX0_limitTo 85 = .ok (.iload_n 1, 1) := by decide +kernel
theorem dX0_limitTo_86 : decode cX0_limitTo 86 = .ok (.aload_n 0, 1) := by decide +kernel
theorem dX0_limitTo_87 : decode cX0_limitTo 87 = .ok (.invokevirtual 32, 3) := by decide +kernel
theorem dX0_limitTo_90 : decode cX0_limitTo 90 = .ok (.isub, 1) := by decide +kernel
theorem dX0_limitTo_91 : decode cX0_limitTo 91 = .ok (.istore 6, 2) := by decide +kernel
theorem dX0_limitTo_93 : decode cX0_limitTo 93 = .ok (.iload 6, 2) := by decide +kernel
theorem dX0_limitTo_95 : decode cX0_limitTo 95 = .ok (.ifCond .le 72, 3) := by decide +kernel
theorem dX0_limitTo_98 : decode cX0_limitTo 98 = .ok (.iload_n 3, 1) := by decide +kernel
theorem dX0_limitTo_99 : decode cX0_limitTo 99 = .ok (.iload 4, 2) := by decide +kernel
theorem dX0_limitTo_101 : decode cX0_limitTo 101 = .ok (.if_icmp .lt 24, 3) := by decide +kernel
theorem dX0_limitTo_104 : decode cX0_limitTo 104 = .ok (.iload_n 3, 1) := by decide +kernel
theorem dX0_limitTo_105 : decode cX0_limitTo 105 = .ok (.iload 5, 2) := by decide +kernel
theorem dX0_limitTo_107 : decode cX0_limitTo 107 = .ok (.if_icmp .lt 18, 3) := by decide +kernel
theorem dX0_limitTo_110 : decode cX0_limitTo 110 = .ok (.aload_n 0, 1) := by decide +kernel
theorem dX0_limitTo_111 : decode cX0_limitTo 111 = .ok (.dup, 1) := by decide +kernel
theorem dX0_limitTo_112 : decode cX0_limitTo 112 = .ok (.getfield 7, 3) := by decide +kernel
theorem dX0_limitTo_115 : decode cX0_limitTo 115 = .ok (.iconst 1, 1) := by decide +kernel
theorem dX0_limitTo_116 : decode cX0_limitTo 116 = .ok (.iadd, 1) := by decide +kernel
theorem dX0_limitTo_117 : decode cX0_limitTo 117 = .ok (.putfield 7, 3) := by decide +kernel
theorem dX0_limitTo_120 : decode cX0_limitTo 120 = .ok (.iconst (-1), 1) := by decide +kernel
theorem dX0_limitTo_121 : decode cX0_limitTo 121 = .ok (.istore_n 3, 1) := by decide +kernel
theorem dX0_limitTo_122 : decode cX0_limitTo 122 = .ok (.goto 39, 3) := by decide +kernel
theorem dX0_limitTo_125 : decode cX0_limitTo 125 = .ok (.iload 4, 2) := by decide +kernel
theorem dX0_limitTo_127 : decode cX0_limitTo 127 = .ok (.iload 5, 2) := by decide +kernel
theorem dX0_limitTo_129 : decode cX0_limitTo 129 = .ok (.if_icmp .lt 19, 3) := by decide +kernel
theorem dX0_limitTo_132 : decode cX0_limitTo 132 = .ok (.aload_n 0, 1) := by decide +kernel
theorem dX0_limitTo_133 : decode cX0_limitTo 133 = .ok (.dup, 1) := by decide +kernel
theorem dX0_limitTo_134 : decode cX0_limitTo 134 = .ok (.getfield 13, 3) := by decide +kernel
theorem dX0_limitTo_137 : decode cX0_limitTo 137 = .ok (.iconst 1, 1) := by decide +kernel
theorem dX0_limitTo_138 : decode cX0_limitTo 138 = .ok (.iadd, 1) := by decide +kernel
theorem dX0_limitTo_139 : decode cX0_limitTo 139 = .ok (.putfield 13, 3) := by decide +kernel
theorem dX0_limitTo_142 : decode cX0_limitTo 142 = .ok (.iconst (-1), 1) := by decide +kernel
theorem dX0_limitTo_143 : decode cX0_limitTo 143 = .ok (.istore 4, 2) := by decide +kernel
theorem dX0_limitTo_145 : decode cX0_limitTo 145 = .ok (.goto 16, 3) := by decide +kernel
theorem dX0_limitTo_148 : decode cX0_limitTo 148 = .ok (.aload_n 0, 1) := by decide +kernel
theorem dX0_limitTo_149 : decode cX0_limitTo 149 = .ok (.dup, 1) := by decide +kernel
theorem dX0_limitTo_150 : decode cX0_limitTo 150 = .ok (.getfield 16, 3) := by decide +kernel
theorem dX0_limitTo_153 : decode cX0_limitTo 153 = .ok (.iconst 1, 1) := by decide +kernel
theorem dX0_limitTo_154 : decode cX0_limitTo 154 = .ok (.iadd, 1) := by decide +kernel
theorem dX0_limitTo_155 : decode cX0_limitTo 155 = .ok (.putfield 16, 3) := by decide +kernel
theorem dX0_limitTo_158 : decode cX0_limitTo 158 = .ok (.iconst (-1), 1) := by decide +kernel
theorem dX0_limitTo_159 : decode cX0_limitTo 159 = .ok (.istore 5, 2) := by decide +kernel
theorem dX0_limitTo_161 : decode cX0_limitTo 161 = .ok (.iinc 6 (-1), 3) := by decide +kernel
theorem dX0_limitTo_164 : decode cX0_limitTo 164 = .ok (.goto (-71), 3) := by decide +kernel
theorem dX0_limitTo_167 : decode cX0_limitTo 167 = .ok (.return_, 1) := by decide +kernel
theorem dX1_init_0 : decode cX1_init 0 = .ok (.aload_n 0, 1) := by decide +kernel
theorem dX1_init_1 : decode cX1_init 1 = .ok (.invokespecial 3, 3) := by decide +kernel
theorem dX1_init_4 : decode cX1_init 4 = .ok (.aload_n 0, 1) := by decide +kernel
theorem dX1_init_5 : decode cX1_init 5 = .ok (.new 9, 3) := by decide +kernel
theorem dX1_init_8 : decode cX1_init 8 = .ok (.dup, 1) := by decide +kernel
theorem dX1_init_9 : decode cX1_init 9 = .ok (.iconst 0, 1) := by decide +kernel
theorem dX1_init_10 : decode cX1_init 10 = .ok (.invokespecial 11, 3) := by decide +kernel
theorem dX1_init_13 : decode cX1_init 13 = .ok (.putfield 14, 3) := by decide +kernel
theorem dX1_init_16 : decode cX1_init 16 = .ok (.aload_n 0, 1) := by decide +kernel
theorem dX1_init_17 : decode cX1_init 17 = .ok (.bipush 12, 2) := by decide +kernel
theorem dX1_init_19 : decode cX1_init 19 = .ok (.newarray .int, 2) := by decide +kernel
theorem dX1_init_21 : decode cX1_init 21 = .ok (.putfield 20, 3) := by decide +kernel
theorem dX1_init_24 : decode cX1_init 24 = .ok (.aload_n 0, 1) := by decide +kernel
theorem dX1_init_25 : decode cX1_init 25 = .ok (.bipush 12, 2) := by decide +kernel
theorem dX1_init_27 : decode cX1_init 27 = .ok (.newarray .int, 2) := by decide +kernel
theorem dX1_init_29 : decode cX1_init 29 = .ok (.putfield 24, 3) := by decide +kernel
theorem dX1_init_32 : decode cX1_init 32 = .ok (.return_, 1) := by decide +kernel
theorem dX1_debtBefore_0 : decode cX1_debtBefore 0 = .ok (.iconst 0, 1) := by decide +kernel
theorem dX1_debtBefore_1 : decode cX1_debtBefore 1 = .ok (.istore_n 3, 1) := by decide +kernel
theorem dX1_debtBefore_2 : decode cX1_debtBefore 2 = .ok (.iconst 0, 1) := by decide +kernel
theorem dX1_debtBefore_3 : decode cX1_debtBefore 3 = .ok (.istore 4, 2) := by decide +kernel
theorem dX1_debtBefore_5 : decode cX1_debtBefore 5 = .ok (.iload 4, 2) := by decide +kernel
theorem dX1_debtBefore_7 : decode cX1_debtBefore 7 = .ok (.iload_n 1, 1) := by decide +kernel
theorem dX1_debtBefore_8 : decode cX1_debtBefore 8 = .ok (.if_icmp .ge 24, 3) := by decide +kernel
theorem dX1_debtBefore_11 : decode cX1_debtBefore 11 = .ok (.iload_n 3, 1) := by decide +kernel
theorem dX1_debtBefore_12 : decode cX1_debtBefore 12 = .ok (.aload_n 0, 1) := by decide +kernel
theorem dX1_debtBefore_13 : decode cX1_debtBefore 13 = .ok (.getfield 24, 3) := by decide +kernel
theorem dX1_debtBefore_16 : decode cX1_debtBefore 16 = .ok (.iload 4, 2) := by decide +kernel
theorem dX1_debtBefore_18 : decode cX1_debtBefore 18 = .ok (.iaload, 1) := by decide +kernel
theorem dX1_debtBefore_19 : decode cX1_debtBefore 19 = .ok (.aload_n 2, 1) := by decide +kernel
theorem dX1_debtBefore_20 : decode cX1_debtBefore 20 = .ok (.iload 4, 2) := by decide +kernel
theorem dX1_debtBefore_22 : decode cX1_debtBefore 22 = .ok (.iaload, 1) := by decide +kernel
theorem dX1_debtBefore_23 : decode cX1_debtBefore 23 = .ok (.isub, 1) := by decide +kernel
theorem dX1_debtBefore_24 : decode cX1_debtBefore 24 = .ok (.iadd, 1) := by decide +kernel
theorem dX1_debtBefore_25 : decode cX1_debtBefore 25 = .ok (.istore_n 3, 1) := by decide +kernel
theorem dX1_debtBefore_26 : decode cX1_debtBefore 26 = .ok (.iinc 4 1, 3) := by decide +kernel
theorem dX1_debtBefore_29 : decode cX1_debtBefore 29 = .ok (.goto (-24), 3) := by decide +kernel
theorem dX1_debtBefore_32 : decode cX1_debtBefore 32 = .ok (.iload_n 3, 1) := by decide +kernel
theorem dX1_debtBefore_33 : decode cX1_debtBefore 33 = .ok (.ireturn, 1) := by decide +kernel
theorem dX1_settle_0 : decode cX1_settle 0 = .ok (.iconst 0, 1) := by decide +kernel
theorem dX1_settle_1 : decode cX1_settle 1 = .ok (.istore_n 3, 1) := by decide +kernel
theorem dX1_settle_2 : decode cX1_settle 2 = .ok (.iload_n 3, 1) := by decide +kernel
theorem dX1_settle_3 : decode cX1_settle 3 = .ok (.iload_n 1, 1) := by decide +kernel
theorem dX1_settle_4 : decode cX1_settle 4 = .ok (.if_icmp .gt 18, 3) := by decide +kernel
theorem dX1_settle_7 : decode cX1_settle 7 = .ok (.aload_n 0, 1) := by decide +kernel
theorem dX1_settle_8 : decode cX1_settle 8 = .ok (.getfield 24, 3) := by decide +kernel
theorem dX1_settle_11 : decode cX1_settle 11 = .ok (.iload_n 3, 1) := by decide +kernel
theorem dX1_settle_12 : decode cX1_settle 12 = .ok (.aload_n 2, 1) := by decide +kernel
theorem dX1_settle_13 : decode cX1_settle 13 = .ok (.iload_n 3, 1) := by decide +kernel
theorem dX1_settle_14 : decode cX1_settle 14 = .ok (.iaload, 1) := by decide +kernel
theorem dX1_settle_15 : decode cX1_settle 15 = .ok (.iastore, 1) := by decide +kernel
theorem dX1_settle_16 : decode cX1_settle 16 = .ok (.iinc 3 1, 3) := by decide +kernel
theorem dX1_settle_19 : decode cX1_settle 19 = .ok (.goto (-17), 3) := by decide +kernel
theorem dX1_settle_22 : decode cX1_settle 22 = .ok (.return_, 1) := by decide +kernel
theorem dX1_settleInPart_0 : decode cX1_settleInPart 0 = .ok (.iload_n 3, 1) := by decide +kernel
theorem dX1_settleInPart_1 : decode cX1_settleInPart 1 = .ok (.istore 4, 2) := by decide +kernel
theorem dX1_settleInPart_3 : decode cX1_settleInPart 3 = .ok (.iconst 0, 1) := by decide +kernel
theorem dX1_settleInPart_4 : decode cX1_settleInPart 4 = .ok (.istore 5, 2) := by decide +kernel
theorem dX1_settleInPart_6 : decode cX1_settleInPart 6 = .ok (.iload 5, 2) := by decide +kernel
theorem dX1_settleInPart_8 : decode cX1_settleInPart 8 = .ok (.iload_n 1, 1) := by decide +kernel
theorem dX1_settleInPart_9 : decode cX1_settleInPart 9 = .ok (.if_icmp .ge 51, 3) := by decide +kernel
theorem dX1_settleInPart_12 : decode cX1_settleInPart 12 = .ok (.aload_n 0, 1) := by decide +kernel
theorem dX1_settleInPart_13 : decode cX1_settleInPart 13 = .ok (.getfield 24, 3) := by decide +kernel
theorem dX1_settleInPart_16 : decode cX1_settleInPart 16 = .ok (.iload 5, 2) := by decide +kernel
theorem dX1_settleInPart_18 : decode cX1_settleInPart 18 = .ok (.iaload, 1) := by decide +kernel
theorem dX1_settleInPart_19 : decode cX1_settleInPart 19 = .ok (.aload_n 2, 1) := by decide +kernel
theorem dX1_settleInPart_20 : decode cX1_settleInPart 20 = .ok (.iload 5, 2) := by decide +kernel
theorem dX1_settleInPart_22 : decode cX1_settleInPart 22 = .ok (.iaload, 1) := by decide +kernel
theorem dX1_settleInPart_23 : decode cX1_settleInPart 23 = .ok (.if_icmp .ge 31, 3) := by decide +kernel
theorem dX1_settleInPart_26 : decode cX1_settleInPart 26 = .ok (.iload 4, 2) := by decide +kernel
theorem dX1_settleInPart_28 : decode cX1_settleInPart 28 = .ok (.aload_n 2, 1) := by decide +kernel
theorem dX1_settleInPart_29 : decode cX1_settleInPart 29 = .ok (.iload 5, 2) := by decide +kernel
theorem dX1_settleInPart_31 : decode cX1_settleInPart 31 = .ok (.iaload, 1) := by decide +kernel
theorem dX1_settleInPart_32 : decode cX1_settleInPart 32 = .ok (.aload_n 0, 1) := by decide +kernel
theorem dX1_settleInPart_33 : decode cX1_settleInPart 33 = .ok (.getfield 24, 3) := by decide +kernel
theorem dX1_settleInPart_36 : decode cX1_settleInPart 36 = .ok (.iload 5, 2) := by decide +kernel
theorem dX1_settleInPart_38 : decode cX1_settleInPart 38 = .ok (.iaload, 1) := by decide +kernel
theorem dX1_settleInPart_39 : decode cX1_settleInPart 39 = .ok (.isub, 1) := by decide +kernel
theorem dX1_settleInPart_40 : decode cX1_settleInPart 40 = .ok (.iadd, 1) := by decide +kernel
theorem dX1_settleInPart_41 : decode cX1_settleInPart 41 = .ok (.istore 4, 2) := by decide +kernel
theorem dX1_settleInPart_43 : decode cX1_settleInPart 43 = .ok (.aload_n 0, 1) := by decide +kernel
theorem dX1_settleInPart_44 : decode cX1_settleInPart 44 = .ok (.getfield 24, 3) := by decide +kernel
theorem dX1_settleInPart_47 : decode cX1_settleInPart 47 = .ok (.iload 5, 2) := by decide +kernel
theorem dX1_settleInPart_49 : decode cX1_settleInPart 49 = .ok (.aload_n 2, 1) := by decide +kernel
theorem dX1_settleInPart_50 : decode cX1_settleInPart 50 = .ok (.iload 5, 2) := by decide +kernel
theorem dX1_settleInPart_52 : decode cX1_settleInPart 52 = .ok (.iaload, 1) := by decide +kernel
theorem dX1_settleInPart_53 : decode cX1_settleInPart 53 = .ok (.iastore, 1) := by decide +kernel
theorem dX1_settleInPart_54 : decode cX1_settleInPart 54 = .ok (.iinc 5 1, 3) := by decide +kernel
theorem dX1_settleInPart_57 : decode cX1_settleInPart 57 = .ok (.goto (-51), 3) := by decide +kernel
theorem dX1_settleInPart_60 : decode cX1_settleInPart 60 = .ok (.iconst 0, 1) := by decide +kernel
theorem dX1_settleInPart_61 : decode cX1_settleInPart 61 = .ok (.istore 5, 2) := by decide +kernel
theorem dX1_settleInPart_63 : decode cX1_settleInPart 63 = .ok (.iload 5, 2) := by decide +kernel
theorem dX1_settleInPart_65 : decode cX1_settleInPart 65 = .ok (.iload_n 1, 1) := by decide +kernel
theorem dX1_settleInPart_66 : decode cX1_settleInPart 66 = .ok (.if_icmp .ge 47, 3) := by decide +kernel
theorem dX1_settleInPart_69 : decode cX1_settleInPart 69 = .ok (.iload 4, 2) := by decide +kernel
theorem dX1_settleInPart_71 : decode cX1_settleInPart 71 = .ok (.aload_n 0, 1) := by decide +kernel
theorem dX1_settleInPart_72 : decode cX1_settleInPart 72 = .ok (.getfield 24, 3) := by decide +kernel
theorem dX1_settleInPart_75 : decode cX1_settleInPart 75 = .ok (.iload 5, 2) := by decide +kernel
theorem dX1_settleInPart_77 : decode cX1_settleInPart 77 = .ok (.iaload, 1) := by decide +kernel
theorem dX1_settleInPart_78 : decode cX1_settleInPart 78 = .ok (.aload_n 2, 1) := by decide +kernel
theorem dX1_settleInPart_79 : decode cX1_settleInPart 79 = .ok (.iload 5, 2) := by decide +kernel
theorem dX1_settleInPart_81 : decode cX1_settleInPart 81 = .ok (.iaload, 1) := by decide +kernel
theorem dX1_settleInPart_82 : decode cX1_settleInPart 82 = .ok (.isub, 1) := by decide +kernel
theorem dX1_settleInPart_83 : decode cX1_settleInPart 83 = .ok (.invokestatic 27, 3) := by decide +kernel
theorem dX1_settleInPart_86 : decode cX1_settleInPart 86 = .ok (.istore 6, 2) := by decide +kernel
theorem dX1_settleInPart_88 : decode cX1_settleInPart 88 = .ok (.aload_n 0, 1) := by decide +kernel
theorem dX1_settleInPart_89 : decode cX1_settleInPart 89 = .ok (.getfield 24, 3) := by decide +kernel
theorem dX1_settleInPart_92 : decode cX1_settleInPart 92 = .ok (.iload 5, 2) := by decide +kernel
theorem dX1_settleInPart_94 : decode cX1_settleInPart 94 = .ok (.dup2, 1) := by decide +kernel
theorem dX1_settleInPart_95 : decode cX1_settleInPart 95 = .ok (.iaload, 1) := by decide +kernel
theorem dX1_settleInPart_96 : decode cX1_settleInPart 96 = .ok (.iload 6, 2) := by decide +kernel
theorem dX1_settleInPart_98 : decode cX1_settleInPart 98 = .ok (.isub, 1) := by decide +kernel
theorem dX1_settleInPart_99 : decode cX1_settleInPart 99 = .ok (.iastore, 1) := by decide +kernel
theorem dX1_settleInPart_100 : decode cX1_settleInPart 100 = .ok (.iload 4, 2) := by decide +kernel
theorem dX1_settleInPart_102 : decode cX1_settleInPart 102 = .ok (.iload 6, 2) := by decide +kernel
theorem dX1_settleInPart_104 : decode cX1_settleInPart 104 = .ok (.isub, 1) := by decide +kernel
theorem dX1_settleInPart_105 : decode cX1_settleInPart 105 = .ok (.istore 4, 2) := by decide +kernel
theorem dX1_settleInPart_107 : decode cX1_settleInPart 107 = .ok (.iinc 5 1, 3) := by decide +kernel
theorem dX1_settleInPart_110 : decode cX1_settleInPart 110 = .ok (.goto (-47), 3) := by decide +kernel
theorem dX1_settleInPart_113 : decode cX1_settleInPart 113 = .ok (.aload_n 0, 1) := by decide +kernel
theorem dX1_settleInPart_114 : decode cX1_settleInPart 114 = .ok (.getfield 24, 3) := by decide +kernel
theorem dX1_settleInPart_117 : decode cX1_settleInPart 117 = .ok (.iload_n 1, 1) := by decide +kernel
theorem dX1_settleInPart_118 : decode cX1_settleInPart 118 = .ok (.aload_n 2, 1) := by decide +kernel
theorem dX1_settleInPart_119 : decode cX1_settleInPart 119 = .ok (.iload_n 1, 1) := by decide +kernel
theorem dX1_settleInPart_120 : decode cX1_settleInPart 120 = .ok (.iaload, 1) := by decide +kernel
theorem dX1_settleInPart_121 : decode cX1_settleInPart 121 = .ok (.iastore, 1) := by decide +kernel
theorem dX1_settleInPart_122 : decode cX1_settleInPart 122 = .ok (.return_, 1) := by decide +kernel
theorem dX2_init_0 : decode cX2_init 0 = .ok (.aload_n 0, 1) := by decide +kernel
theorem dX2_init_1 : decode cX2_init 1 = .ok (.invokespecial 3, 3) := by decide +kernel
theorem dX2_init_4 : decode cX2_init 4 = .ok (.aload_n 0, 1) := by decide +kernel
theorem dX2_init_5 : decode cX2_init 5 = .ok (.new 9, 3) := by decide +kernel
theorem dX2_init_8 : decode cX2_init 8 = .ok (.dup, 1) := by decide +kernel
theorem dX2_init_9 : decode cX2_init 9 = .ok (.iconst (-1), 1) := by decide +kernel
theorem dX2_init_10 : decode cX2_init 10 = .ok (.invokespecial 11, 3) := by decide +kernel
theorem dX2_init_13 : decode cX2_init 13 = .ok (.putfield 14, 3) := by decide +kernel
theorem dX2_init_16 : decode cX2_init 16 = .ok (.aload_n 0, 1) := by decide +kernel
theorem dX2_init_17 : decode cX2_init 17 = .ok (.new 9, 3) := by decide +kernel
theorem dX2_init_20 : decode cX2_init 20 = .ok (.dup, 1) := by decide +kernel
theorem dX2_init_21 : decode cX2_init 21 = .ok (.iconst 0, 1) := by decide +kernel
theorem dX2_init_22 : decode cX2_init 22 = .ok (.invokespecial 11, 3) := by decide +kernel
theorem dX2_init_25 : decode cX2_init 25 = .ok (.putfield 20, 3) := by decide +kernel
theorem dX2_init_28 : decode cX2_init 28 = .ok (.return_, 1) := by decide +kernel
theorem dX3_init_0 : decode cX3_init 0 = .ok (.aload_n 0, 1) := by decide +kernel
theorem dX3_init_1 : decode cX3_init 1 = .ok (.invokespecial 1, 3) := by decide +kernel
theorem dX3_init_4 : decode cX3_init 4 = .ok (.return_, 1) := by decide +kernel
theorem dX3_clear_0 : decode cX3_clear 0 = .ok (.aload_n 0, 1) := by decide +kernel
theorem dX3_clear_1 : decode cX3_clear 1 = .ok (.iconst 0, 1) := by decide +kernel
theorem dX3_clear_2 : decode cX3_clear 2 = .ok (.putfield 7, 3) := by decide +kernel
theorem dX3_clear_5 : decode cX3_clear 5 = .ok (.aload_n 0, 1) := by decide +kernel
theorem dX3_clear_6 : decode cX3_clear 6 = .ok (.iconst 0, 1) := by decide +kernel
theorem dX3_clear_7 : decode cX3_clear 7 = .ok (.putfield 13, 3) := by decide +kernel
theorem dX3_clear_10 : decode cX3_clear 10 = .ok (.aload_n 0, 1) := by decide +kernel
theorem dX3_clear_11 : decode cX3_clear 11 = .ok (.iconst 0, 1) := by decide +kernel
theorem dX3_clear_12 : decode cX3_clear 12 = .ok (.putfield 16, 3) := by decide +kernel
theorem dX3_clear_15 : decode cX3_clear 15 = .ok (.return_, 1) := by decide +kernel
theorem dX3_add_0 : decode cX3_add 0 = .ok (.iload_n 2, 1) := by decide +kernel
theorem dX3_add_1 : decode cX3_add 1 = .ok (.aload_n 1, 1) := by decide +kernel
theorem dX3_add_2 : decode cX3_add 2 = .ok (.getfield 19, 3) := by decide +kernel
theorem dX3_add_5 : decode cX3_add 5 = .ok (.if_icmp .lt 16, 3) := by decide +kernel
theorem dX3_add_8 : decode cX3_add 8 = .ok (.aload_n 0, 1) := by decide +kernel
theorem dX3_add_9 : decode cX3_add 9 = .ok (.dup, 1) := by decide +kernel
theorem dX3_add_10 : decode cX3_add 10 = .ok (.getfield 7, 3) := by decide +kernel
theorem dX3_add_13 : decode cX3_add 13 = .ok (.iconst 1, 1) := by decide +kernel
theorem dX3_add_14 : decode cX3_add 14 = .ok (.iadd, 1) := by decide +kernel
theorem dX3_add_15 : decode cX3_add 15 = .ok (.putfield 7, 3) := by decide +kernel
theorem dX3_add_18 : decode cX3_add 18 = .ok (.goto 13, 3) := by decide +kernel
theorem dX3_add_21 : decode cX3_add 21 = .ok (.aload_n 0, 1) := by decide +kernel
theorem dX3_add_22 : decode cX3_add 22 = .ok (.dup, 1) := by decide +kernel
theorem dX3_add_23 : decode cX3_add 23 = .ok (.getfield 13, 3) := by decide +kernel
theorem dX3_add_26 : decode cX3_add 26 = .ok (.iconst 1, 1) := by decide +kernel
theorem dX3_add_27 : decode cX3_add 27 = .ok (.iadd, 1) := by decide +kernel
theorem dX3_add_28 : decode cX3_add 28 = .ok (.putfield 13, 3) := by decide +kernel
theorem dX3_add_31 : decode cX3_add 31 = .ok (.aload_n 0, 1) := by decide +kernel
theorem dX3_add_32 : decode cX3_add 32 = .ok (.dup, 1) := by decide +kernel
theorem dX3_add_33 : decode cX3_add 33 = .ok (.getfield 16, 3) := by decide +kernel
theorem dX3_add_36 : decode cX3_add 36 = .ok (.aload_n 1, 1) := by decide +kernel
theorem dX3_add_37 : decode cX3_add 37 = .ok (.getfield 24, 3) := by decide +kernel
theorem dX3_add_40 : decode cX3_add 40 = .ok (.iload_n 2, 1) := by decide +kernel
theorem dX3_add_41 : decode cX3_add 41 = .ok (.invokevirtual 27, 3) := by decide +kernel
theorem dX3_add_44 : decode cX3_add 44 = .ok (.iadd, 1) := by decide +kernel
theorem dX3_add_45 : decode cX3_add 45 = .ok (.putfield 16, 3) := by decide +kernel
theorem dX3_add_48 : decode cX3_add 48 = .ok (.return_, 1) := by decide +kernel
theorem dX4_init_0 : decode cX4_init 0 = .ok (.aload_n 0, 1) := by decide +kernel
theorem dX4_init_1 : decode cX4_init 1 = .ok (.invokespecial 3, 3) := by decide +kernel
theorem dX4_init_4 : decode cX4_init 4 = .ok (.aload_n 0, 1) := by decide +kernel
theorem dX4_init_5 : decode cX4_init 5 = .ok (.sipush 360, 3) := by decide +kernel
theorem dX4_init_8 : decode cX4_init 8 = .ok (.newarray .int, 2) := by decide +kernel
theorem dX4_init_10 : decode cX4_init 10 = .ok (.putfield 9, 3) := by decide +kernel
theorem dX4_init_13 : decode cX4_init 13 = .ok (.aload_n 0, 1) := by decide +kernel
theorem dX4_init_14 : decode cX4_init 14 = .ok (.bipush 12, 2) := by decide +kernel
theorem dX4_init_16 : decode cX4_init 16 = .ok (.newarray .int, 2) := by decide +kernel
theorem dX4_init_18 : decode cX4_init 18 = .ok (.putfield 15, 3) := by decide +kernel
theorem dX4_init_21 : decode cX4_init 21 = .ok (.aload_n 0, 1) := by decide +kernel
theorem dX4_init_22 : decode cX4_init 22 = .ok (.iload_n 1, 1) := by decide +kernel
theorem dX4_init_23 : decode cX4_init 23 = .ok (.putfield 18, 3) := by decide +kernel
theorem dX4_init_26 : decode cX4_init 26 = .ok (.aload_n 0, 1) := by decide +kernel
theorem dX4_init_27 : decode cX4_init 27 = .ok (.getfield 9, 3) := by decide +kernel
theorem dX4_init_30 : decode cX4_init 30 = .ok (.iload_n 1, 1) := by decide +kernel
theorem dX4_init_31 : decode cX4_init 31 = .ok (.invokestatic 22, 3) := by decide +kernel
theorem dX4_init_34 : decode cX4_init 34 = .ok (.return_, 1) := by decide +kernel
theorem dX4_valueOn_0 : decode cX4_valueOn 0 = .ok (.aload_n 0, 1) := by decide +kernel
theorem dX4_valueOn_1 : decode cX4_valueOn 1 = .ok (.getfield 9, 3) := by decide +kernel
theorem dX4_valueOn_4 : decode cX4_valueOn 4 = .ok (.iload_n 1, 1) := by decide +kernel
theorem dX4_valueOn_5 : decode cX4_valueOn 5 = .ok (.iaload, 1) := by decide +kernel
theorem dX4_valueOn_6 : decode cX4_valueOn 6 = .ok (.ireturn, 1) := by decide +kernel
theorem dX4_isToldFor_0 : decode cX4_isToldFor 0 = .ok (.aload_n 0, 1) := by decide +kernel
theorem dX4_isToldFor_1 : decode cX4_isToldFor 1 = .ok (.getfield 15, 3) := by decide +kernel
theorem dX4_isToldFor_4 : decode cX4_isToldFor 4 = .ok (.iload_n 1, 1) := by decide +kernel
theorem dX4_isToldFor_5 : decode cX4_isToldFor 5 = .ok (.bipush 30, 2) := by decide +kernel
theorem dX4_isToldFor_7 : decode cX4_isToldFor 7 = .ok (.idiv, 1) := by decide +kernel
theorem dX4_isToldFor_8 : decode cX4_isToldFor 8 = .ok (.iaload, 1) := by decide +kernel
theorem dX4_isToldFor_9 : decode cX4_isToldFor 9 = .ok (.iload_n 1, 1) := by decide +kernel
theorem dX4_isToldFor_10 : decode cX4_isToldFor 10 = .ok (.invokestatic 28, 3) := by decide +kernel
theorem dX4_isToldFor_13 : decode cX4_isToldFor 13 = .ok (.iand, 1) := by decide +kernel
theorem dX4_isToldFor_14 : decode cX4_isToldFor 14 = .ok (.ifCond .eq 7, 3) := by decide +kernel
theorem dX4_isToldFor_17 : decode cX4_isToldFor 17 = .ok (.iconst 1, 1) := by decide +kernel
theorem dX4_isToldFor_18 : decode cX4_isToldFor 18 = .ok (.goto 4, 3) := by decide +kernel
theorem dX4_isToldFor_21 : decode cX4_isToldFor 21 = .ok (.iconst 0, 1) := by decide +kernel
theorem dX4_isToldFor_22 : decode cX4_isToldFor 22 = .ok (.ireturn, 1) := by decide +kernel
theorem dX4_put_0 : decode cX4_put 0 = .ok (.aload_n 0, 1) := by decide +kernel
theorem dX4_put_1 : decode cX4_put 1 = .ok (.getfield 15, 3) := by decide +kernel
theorem dX4_put_4 : decode cX4_put 4 = .ok (.iload_n 2, 1) := by decide +kernel
theorem dX4_put_5 : decode cX4_put 5 = .ok (.bipush 30, 2) := by decide +kernel
theorem dX4_put_7 : decode cX4_put 7 = .ok (.idiv, 1) := by decide +kernel
theorem dX4_put_8 : decode cX4_put 8 = .ok (.dup2, 1) := by decide +kernel
theorem dX4_put_9 : decode cX4_put 9 = .ok (.iaload, 1) := by decide +kernel
theorem dX4_put_10 : decode cX4_put 10 = .ok (.iload_n 2, 1) := by decide +kernel
theorem dX4_put_11 : decode cX4_put 11 = .ok (.invokestatic 28, 3) := by decide +kernel
theorem dX4_put_14 : decode cX4_put 14 = .ok (.ior, 1) := by decide +kernel
theorem dX4_put_15 : decode cX4_put 15 = .ok (.iastore, 1) := by decide +kernel
theorem dX4_put_16 : decode cX4_put 16 = .ok (.aload_n 0, 1) := by decide +kernel
theorem dX4_put_17 : decode cX4_put 17 = .ok (.iload_n 1, 1) := by decide +kernel
theorem dX4_put_18 : decode cX4_put 18 = .ok (.iload_n 2, 1) := by decide +kernel
theorem dX4_put_19 : decode cX4_put 19 = .ok (.invokevirtual 32, 3) := by decide +kernel
theorem dX4_put_22 : decode cX4_put 22 = .ok (.return_, 1) := by decide +kernel
theorem dX4_remove_0 : decode cX4_remove 0 = .ok (.aload_n 0, 1) := by decide +kernel
theorem dX4_remove_1 : decode cX4_remove 1 = .ok (.getfield 15, 3) := by decide +kernel
theorem dX4_remove_4 : decode cX4_remove 4 = .ok (.iload_n 1, 1) := by decide +kernel
theorem dX4_remove_5 : decode cX4_remove 5 = .ok (.bipush 30, 2) := by decide +kernel
theorem dX4_remove_7 : decode cX4_remove 7 = .ok (.idiv, 1) := by decide +kernel
theorem dX4_remove_8 : decode cX4_remove 8 = .ok (.dup2, 1) := by decide +kernel
theorem dX4_remove_9 : decode cX4_remove 9 = .ok (.iaload, 1) := by decide +kernel
theorem dX4_remove_10 : decode cX4_remove 10 = .ok (.iload_n 1, 1) := by decide +kernel
theorem dX4_remove_11 : decode cX4_remove 11 = .ok (.invokestatic 28, 3) := by decide +kernel
theorem dX4_remove_14 : decode cX4_remove 14 = .ok (.iconst (-1), 1) := by decide +kernel
theorem dX4_remove_15 : decode cX4_remove 15 = .ok (.ixor, 1) := by decide +kernel
theorem dX4_remove_16 : decode cX4_remove 16 = .ok (.iand, 1) := by decide +kernel
theorem dX4_remove_17 : decode cX4_remove 17 = .ok (.iastore, 1) := by decide +kernel
theorem dX4_remove_18 : decode cX4_remove 18 = .ok (.aload_n 0, 1) := by decide +kernel
theorem dX4_remove_19 : decode cX4_remove 19 = .ok (.iload_n 1, 1) := by decide +kernel
theorem dX4_remove_20 : decode cX4_remove 20 = .ok (.ifCond .le 14, 3) := by decide +kernel
theorem dX4_remove_23 : decode cX4_remove 23 = .ok (.aload_n 0, 1) := by decide +kernel
theorem dX4_remove_24 : decode cX4_remove 24 = .ok (.getfield 9, 3) := by decide +kernel
theorem dX4_remove_27 : decode cX4_remove 27 = .ok (.iload_n 1, 1) := by decide +kernel
theorem dX4_remove_28 : decode cX4_remove 28 = .ok (.iconst 1, 1) := by decide +kernel
theorem dX4_remove_29 : decode cX4_remove 29 = .ok (.isub, 1) := by decide +kernel
theorem dX4_remove_30 : decode cX4_remove 30 = .ok (.iaload, 1) := by decide +kernel
theorem dX4_remove_31 : decode cX4_remove 31 = .ok (.goto 7, 3) := by decide +kernel
theorem dX4_remove_34 : decode cX4_remove 34 = .ok (.aload_n 0, 1) := by decide +kernel
theorem dX4_remove_35 : decode cX4_remove 35 = .ok (.getfield 18, 3) := by decide +kernel
theorem dX4_remove_38 : decode cX4_remove 38 = .ok (.iload_n 1, 1) := by decide +kernel
theorem dX4_remove_39 : decode cX4_remove 39 = .ok (.invokevirtual 32, 3) := by decide +kernel
theorem dX4_remove_42 : decode cX4_remove 42 = .ok (.return_, 1) := by decide +kernel
theorem dX4_bitOf_0 : decode cX4_bitOf 0 = .ok (.iconst 1, 1) := by decide +kernel
theorem dX4_bitOf_1 : decode cX4_bitOf 1 = .ok (.iload_n 0, 1) := by decide +kernel
theorem dX4_bitOf_2 : decode cX4_bitOf 2 = .ok (.bipush 30, 2) := by decide +kernel
theorem dX4_bitOf_4 : decode cX4_bitOf 4 = .ok (.irem, 1) := by decide +kernel
theorem dX4_bitOf_5 : decode cX4_bitOf 5 = .ok (.ishl, 1) := by decide +kernel
theorem dX4_bitOf_6 : decode cX4_bitOf 6 = .ok (.ireturn, 1) := by decide +kernel
theorem dX4_holdFrom_0 : decode cX4_holdFrom 0 = .ok (.aload_n 0, 1) := by decide +kernel
theorem dX4_holdFrom_1 : decode cX4_holdFrom 1 = .ok (.getfield 9, 3) := by decide +kernel
theorem dX4_holdFrom_4 : decode cX4_holdFrom 4 = .ok (.iload_n 2, 1) := by decide +kernel
theorem dX4_holdFrom_5 : decode cX4_holdFrom 5 = .ok (.iload_n 1, 1) := by decide +kernel
theorem dX4_holdFrom_6 : decode cX4_holdFrom 6 = .ok (.iastore, 1) := by decide +kernel
theorem dX4_holdFrom_7 : decode cX4_holdFrom 7 = .ok (.iload_n 2, 1) := by decide +kernel
theorem dX4_holdFrom_8 : decode cX4_holdFrom 8 = .ok (.iconst 1, 1) := by decide +kernel
theorem dX4_holdFrom_9 : decode cX4_holdFrom 9 = .ok (.iadd, 1) := by decide +kernel
theorem dX4_holdFrom_10 : decode cX4_holdFrom 10 = .ok (.istore_n 3, 1) := by decide +kernel
theorem dX4_holdFrom_11 : decode cX4_holdFrom 11 = .ok (.iload_n 3, 1) := by decide +kernel
theorem dX4_holdFrom_12 : decode cX4_holdFrom 12 = .ok (.sipush 360, 3) := by decide +kernel
theorem dX4_holdFrom_15 : decode cX4_holdFrom 15 = .ok (.if_icmp .ge 24, 3) := by decide +kernel
theorem dX4_holdFrom_18 : decode cX4_holdFrom 18 = .ok (.aload_n 0, 1) := by decide +kernel
theorem dX4_holdFrom_19 : decode cX4_holdFrom 19 = .ok (.iload_n 3, 1) := by decide +kernel
theorem dX4_holdFrom_20 : decode cX4_holdFrom 20 = .ok (.invokevirtual 36, 3) := by decide +kernel
theorem dX4_holdFrom_23 : decode cX4_holdFrom 23 = .ok (.ifCond .ne 16, 3) := by decide +kernel
theorem dX4_holdFrom_26 : decode cX4_holdFrom 26 = .ok (.aload_n 0, 1) := by decide +kernel
theorem dX4_holdFrom_27 : decode cX4_holdFrom 27 = .ok (.getfield 9, 3) := by decide +kernel
theorem dX4_holdFrom_30 : decode cX4_holdFrom 30 = .ok (.iload_n 3, 1) := by decide +kernel
theorem dX4_holdFrom_31 : decode cX4_holdFrom 31 = .ok (.iload_n 1, 1) := by decide +kernel
theorem dX4_holdFrom_32 : decode cX4_holdFrom 32 = .ok (.iastore, 1) := by decide +kernel
theorem dX4_holdFrom_33 : decode cX4_holdFrom 33 = .ok (.iinc 3 1, 3) := by decide +kernel
theorem dX4_holdFrom_36 : decode cX4_holdFrom 36 = .ok (.goto (-25), 3) := by decide +kernel
theorem dX4_holdFrom_39 : decode cX4_holdFrom 39 = .ok (.return_, 1) := by decide +kernel
theorem dX5_init_0 : decode cX5_init 0 = .ok (.aload_n 0, 1) := by decide +kernel
theorem dX5_init_1 : decode cX5_init 1 = .ok (.invokespecial 1, 3) := by decide +kernel
theorem dX5_init_4 : decode cX5_init 4 = .ok (.aload_n 0, 1) := by decide +kernel
theorem dX5_init_5 : decode cX5_init 5 = .ok (.bipush 8, 2) := by decide +kernel
theorem dX5_init_7 : decode cX5_init 7 = .ok (.anewarray 9, 3) := by decide +kernel
theorem dX5_init_10 : decode cX5_init 10 = .ok (.putfield 11, 3) := by decide +kernel
theorem dX5_init_13 : decode cX5_init 13 = .ok (.aload_n 0, 1) := by decide +kernel
theorem dX5_init_14 : decode cX5_init 14 = .ok (.iconst 4, 1) := by decide +kernel
theorem dX5_init_15 : decode cX5_init 15 = .ok (.anewarray 15, 3) := by decide +kernel
theorem dX5_init_18 : decode cX5_init 18 = .ok (.putfield 17, 3) := by decide +kernel
theorem dX5_init_21 : decode cX5_init 21 = .ok (.aload_n 0, 1) := by decide +kernel
theorem dX5_init_22 : decode cX5_init 22 = .ok (.bipush 7, 2) := by decide +kernel
theorem dX5_init_24 : decode cX5_init 24 = .ok (.anewarray 21, 3) := by decide +kernel
theorem dX5_init_27 : decode cX5_init 27 = .ok (.putfield 23, 3) := by decide +kernel
theorem dX5_init_30 : decode cX5_init 30 = .ok (.aload_n 0, 1) := by decide +kernel
theorem dX5_init_31 : decode cX5_init 31 = .ok (.sipush 360, 3) := by decide +kernel
theorem dX5_init_34 : decode cX5_init 34 = .ok (.newarray .int, 2) := by decide +kernel
theorem dX5_init_36 : decode cX5_init 36 = .ok (.putfield 27, 3) := by decide +kernel
theorem dX5_init_39 : decode cX5_init 39 = .ok (.aload_n 0, 1) := by decide +kernel
theorem dX5_init_40 : decode cX5_init 40 = .ok (.new 31, 3) := by decide +kernel
theorem dX5_init_43 : decode cX5_init 43 = .ok (.dup, 1) := by decide +kernel
theorem dX5_init_44 : decode cX5_init 44 = .ok (.invokespecial 33, 3) := by decide +kernel
theorem dX5_init_47 : decode cX5_init 47 = .ok (.putfield 34, 3) := by decide +kernel
theorem dX5_init_50 : decode cX5_init 50 = .ok (.aload_n 0, 1) := by decide +kernel
theorem dX5_init_51 : decode cX5_init 51 = .ok (.new 38, 3) := by decide +kernel
theorem dX5_init_54 : decode cX5_init 54 = .ok (.dup, 1) := by decide +kernel
theorem dX5_init_55 : decode cX5_init 55 = .ok (.invokespecial 40, 3) := by decide +kernel
theorem dX5_init_58 : decode cX5_init 58 = .ok (.putfield 41, 3) := by decide +kernel
theorem dX5_init_61 : decode cX5_init 61 = .ok (.aload_n 0, 1) := by decide +kernel
theorem dX5_init_62 : decode cX5_init 62 = .ok (.bipush 12, 2) := by decide +kernel
theorem dX5_init_64 : decode cX5_init 64 = .ok (.newarray .int, 2) := by decide +kernel
theorem dX5_init_66 : decode cX5_init 66 = .ok (.putfield 45, 3) := by decide +kernel
theorem dX5_init_69 : decode cX5_init 69 = .ok (.iconst 0, 1) := by decide +kernel
theorem dX5_init_70 : decode cX5_init 70 = .ok (.istore_n 1, 1) := by decide +kernel
theorem dX5_init_71 : decode cX5_init 71 = .ok (.iload_n 1, 1) := by decide +kernel
theorem dX5_init_72 : decode cX5_init 72 = .ok (.bipush 8, 2) := by decide +kernel
theorem dX5_init_74 : decode cX5_init 74 = .ok (.if_icmp .ge 22, 3) := by decide +kernel
theorem dX5_init_77 : decode cX5_init 77 = .ok (.aload_n 0, 1) := by decide +kernel
theorem dX5_init_78 : decode cX5_init 78 = .ok (.getfield 11, 3) := by decide +kernel
theorem dX5_init_81 : decode cX5_init 81 = .ok (.iload_n 1, 1) := by decide +kernel
theorem dX5_init_82 : decode cX5_init 82 = .ok (.new 9, 3) := by decide +kernel
theorem dX5_init_85 : decode cX5_init 85 = .ok (.dup, 1) := by decide +kernel
theorem dX5_init_86 : decode cX5_init 86 = .ok (.invokespecial 48, 3) := by decide +kernel
theorem dX5_init_89 : decode cX5_init 89 = .ok (.aastore, 1) := by decide +kernel
theorem dX5_init_90 : decode cX5_init 90 = .ok (.iinc 1 1, 3) := by decide +kernel
theorem dX5_init_93 : decode cX5_init 93 = .ok (.goto (-22), 3) := by decide +kernel
theorem dX5_init_96 : decode cX5_init 96 = .ok (.iconst 0, 1) := by decide +kernel
theorem dX5_init_97 : decode cX5_init 97 = .ok (.istore_n 1, 1) := by decide +kernel
theorem dX5_init_98 : decode cX5_init 98 = .ok (.iload_n 1, 1) := by decide +kernel
theorem dX5_init_99 : decode cX5_init 99 = .ok (.iconst 4, 1) := by decide +kernel
theorem dX5_init_100 : decode cX5_init 100 = .ok (.if_icmp .ge 22, 3) := by decide +kernel
theorem dX5_init_103 : decode cX5_init 103 = .ok (.aload_n 0, 1) := by decide +kernel
theorem dX5_init_104 : decode cX5_init 104 = .ok (.getfield 17, 3) := by decide +kernel
theorem dX5_init_107 : decode cX5_init 107 = .ok (.iload_n 1, 1) := by decide +kernel
theorem dX5_init_108 : decode cX5_init 108 = .ok (.new 15, 3) := by decide +kernel
theorem dX5_init_111 : decode cX5_init 111 = .ok (.dup, 1) := by decide +kernel
theorem dX5_init_112 : decode cX5_init 112 = .ok (.invokespecial 49, 3) := by decide +kernel
theorem dX5_init_115 : decode cX5_init 115 = .ok (.aastore, 1) := by decide +kernel
theorem dX5_init_116 : decode cX5_init 116 = .ok (.iinc 1 1, 3) := by decide +kernel
theorem dX5_init_119 : decode cX5_init 119 = .ok (.goto (-21), 3) := by decide +kernel
theorem dX5_init_122 : decode cX5_init 122 = .ok (.iconst 0, 1) := by decide +kernel
theorem dX5_init_123 : decode cX5_init 123 = .ok (.istore_n 1, 1) := by decide +kernel
theorem dX5_init_124 : decode cX5_init 124 = .ok (.iload_n 1, 1) := by decide +kernel
theorem dX5_init_125 : decode cX5_init 125 = .ok (.bipush 7, 2) := by decide +kernel
theorem dX5_init_127 : decode cX5_init 127 = .ok (.if_icmp .ge 40, 3) := by decide +kernel
theorem dX5_init_130 : decode cX5_init 130 = .ok (.aload_n 0, 1) := by decide +kernel
theorem dX5_init_131 : decode cX5_init 131 = .ok (.getfield 23, 3) := by decide +kernel
theorem dX5_init_134 : decode cX5_init 134 = .ok (.iload_n 1, 1) := by decide +kernel
theorem dX5_init_135 : decode cX5_init 135 = .ok (.new 21, 3) := by decide +kernel
theorem dX5_init_138 : decode cX5_init 138 = .ok (.dup, 1) := by decide +kernel
theorem dX5_init_139 : decode cX5_init 139 = .ok (.iconst 0, 1) := by decide +kernel
theorem dX5_init_140 : decode cX5_init 140 = .ok (.invokespecial 50, 3) := by decide +kernel
theorem dX5_init_143 : decode cX5_init 143 = .ok (.aastore, 1) := by decide +kernel
theorem dX5_init_144 : decode cX5_init 144 = .ok (.aload_n 0, 1) := by decide +kernel
theorem dX5_init_145 : decode cX5_init 145 = .ok (.aload_n 0, 1) := by decide +kernel
theorem dX5_init_146 : decode cX5_init 146 = .ok (.getfield 23, 3) := by decide +kernel
theorem dX5_init_149 : decode cX5_init 149 = .ok (.iload_n 1, 1) := by decide +kernel
theorem dX5_init_150 : decode cX5_init 150 = .ok (.aaload, 1) := by decide +kernel
theorem dX5_init_151 : decode cX5_init 151 = .ok (.getstatic 53, 3) := by decide +kernel
theorem dX5_init_154 : decode cX5_init 154 = .ok (.iload_n 1, 1) := by decide +kernel
theorem dX5_init_155 : decode cX5_init 155 = .ok (.iaload, 1) := by decide +kernel
theorem dX5_init_156 : decode cX5_init 156 = .ok (.iconst 0, 1) := by decide +kernel
theorem dX5_init_157 : decode cX5_init 157 = .ok (.invokevirtual 56, 3) := by decide +kernel
theorem dX5_init_160 : decode cX5_init 160 = .ok (.pop, 1) := by decide +kernel
theorem dX5_init_161 : decode cX5_init 161 = .ok (.iinc 1 1, 3) := by decide +kernel
theorem dX5_init_164 : decode cX5_init 164 = .ok (.goto (-40), 3) := by decide +kernel
theorem dX5_init_167 : decode cX5_init 167 = .ok (.return_, 1) := by decide +kernel
theorem dX5_addPerson_0 : decode cX5_addPerson 0 = .ok (.iload_n 1, 1) := by decide +kernel
theorem dX5_addPerson_1 : decode cX5_addPerson 1 = .ok (.invokestatic 60, 3) := by decide +kernel
theorem dX5_addPerson_4 : decode cX5_addPerson 4 = .ok (.aload_n 0, 1) := by decide +kernel
theorem dX5_addPerson_5 : decode cX5_addPerson 5 = .ok (.getfield 63, 3) := by decide +kernel
theorem dX5_addPerson_8 : decode cX5_addPerson 8 = .ok (.bipush 8, 2) := by decide +kernel
theorem dX5_addPerson_10 : decode cX5_addPerson 10 = .ok (.if_icmp .lt 13, 3) := by decide +kernel
theorem dX5_addPerson_13 : decode cX5_addPerson 13 = .ok (.new 67, 3) := by decide +kernel
theorem dX5_addPerson_16 : decode cX5_addPerson 16 = .ok (.dup, 1) := by decide +kernel
theorem dX5_addPerson_17 : decode cX5_addPerson 17 = .ok (.ldc 69, 2) := by decide +kernel
theorem dX5_addPerson_19 : decode cX5_addPerson 19 = .ok (.invokespecial 71, 3) := by decide +kernel
theorem dX5_addPerson_22 : decode cX5_addPerson 22 = .ok (.athrow, 1) := by decide +kernel
theorem dX5_addPerson_23 : decode cX5_addPerson 23 = .ok (.aload_n 0, 1) := by decide +kernel
theorem dX5_addPerson_24 : decode cX5_addPerson 24 = .ok (.getfield 11, 3) := by decide +kernel
theorem dX5_addPerson_27 : decode cX5_addPerson 27 = .ok (.aload_n 0, 1) := by decide +kernel
theorem dX5_addPerson_28 : decode cX5_addPerson 28 = .ok (.getfield 63, 3) := by decide +kernel
theorem dX5_addPerson_31 : decode cX5_addPerson 31 = .ok (.aaload, 1) := by decide +kernel
theorem dX5_addPerson_32 : decode cX5_addPerson 32 = .ok (.iload_n 1, 1) := by decide +kernel
theorem dX5_addPerson_33 : decode cX5_addPerson 33 = .ok (.putfield 74, 3) := by decide +kernel
theorem dX5_addPerson_36 : decode cX5_addPerson 36 = .ok (.iload_n 1, 1) := by decide +kernel
theorem dX5_addPerson_37 : decode cX5_addPerson 37 = .ok (.sipush 360, 3) := by decide +kernel
theorem dX5_addPerson_40 : decode cX5_addPerson 40 = .ok (.if_icmp .ge 13, 3) := by decide +kernel
theorem dX5_addPerson_43 : decode cX5_addPerson 43 = .ok (.aload_n 0, 1) := by decide +kernel
theorem dX5_addPerson_44 : decode cX5_addPerson 44 = .ok (.getfield 27, 3) := by decide +kernel
theorem dX5_addPerson_47 : decode cX5_addPerson 47 = .ok (.iload_n 1, 1) := by decide +kernel
theorem dX5_addPerson_48 : decode cX5_addPerson 48 = .ok (.dup2, 1) := by decide +kernel
theorem dX5_addPerson_49 : decode cX5_addPerson 49 = .ok (.iaload, 1) := by decide +kernel
theorem dX5_addPerson_50 : decode cX5_addPerson 50 = .ok (.iconst 1, 1) := by decide +kernel
theorem dX5_addPerson_51 : decode cX5_addPerson 51 = .ok (.iadd, 1) := by decide +kernel
theorem dX5_addPerson_52 : decode cX5_addPerson 52 = .ok (.iastore, 1) := by decide +kernel
theorem dX5_addPerson_53 : decode cX5_addPerson 53 = .ok (.aload_n 0, 1) := by decide +kernel
theorem dX5_addPerson_54 : decode cX5_addPerson 54 = .ok (.dup, 1) := by decide +kernel
theorem dX5_addPerson_55 : decode cX5_addPerson 55 = .ok (.getfield 63, 3) := by decide +kernel
theorem dX5_addPerson_58 : decode cX5_addPerson 58 = .ok (.iconst 1, 1) := by decide +kernel
theorem dX5_addPerson_59 : decode cX5_addPerson 59 = .ok (.iadd, 1) := by decide +kernel
theorem dX5_addPerson_60 : decode cX5_addPerson 60 = .ok (.putfield 63, 3) := by decide +kernel
theorem dX5_addPerson_63 : decode cX5_addPerson 63 = .ok (.aload_n 0, 1) := by decide +kernel
theorem dX5_addPerson_64 : decode cX5_addPerson 64 = .ok (.getfield 63, 3) := by decide +kernel
theorem dX5_addPerson_67 : decode cX5_addPerson 67 = .ok (.iconst 1, 1) := by decide +kernel
theorem dX5_addPerson_68 : decode cX5_addPerson 68 = .ok (.isub, 1) := by decide +kernel
theorem dX5_addPerson_69 : decode cX5_addPerson 69 = .ok (.ireturn, 1) := by decide +kernel
theorem dX5_addHousehold_0 : decode cX5_addHousehold 0 = .ok (.aload_n 0, 1) := by decide +kernel
theorem dX5_addHousehold_1 : decode cX5_addHousehold 1 = .ok (.getfield 77, 3) := by decide +kernel
theorem dX5_addHousehold_4 : decode cX5_addHousehold 4 = .ok (.iconst 4, 1) := by decide +kernel
theorem dX5_addHousehold_5 : decode cX5_addHousehold 5 = .ok (.if_icmp .lt 13, 3) := by decide +kernel
theorem dX5_addHousehold_8 : decode cX5_addHousehold 8 = .ok (.new 67, 3) := by decide +kernel
theorem dX5_addHousehold_11 : decode cX5_addHousehold 11 = .ok (.dup, 1) := by decide +kernel
theorem dX5_addHousehold_12 : decode cX5_addHousehold 12 = .ok (.ldc 80, 2) := by decide +kernel
theorem dX5_addHousehold_14 : decode cX5_addHousehold 14 = .ok (.invokespecial 71, 3) := by decide +kernel
theorem dX5_addHousehold_17 : decode cX5_addHousehold 17 = .ok (.athrow, 1) := by decide +kernel
theorem dX5_addHousehold_18 : decode cX5_addHousehold 18 = .ok (.aload_n 0, 1) := by decide +kernel
theorem dX5_addHousehold_19 : decode cX5_addHousehold 19 = .ok (.dup, 1) := by decide +kernel
theorem dX5_addHousehold_20 : decode cX5_addHousehold 20 = .ok (.getfield 77, 3) := by decide +kernel
theorem dX5_addHousehold_23 : decode cX5_addHousehold 23 = .ok (.iconst 1, 1) := by decide +kernel
theorem dX5_addHousehold_24 : decode cX5_addHousehold 24 = .ok (.iadd, 1) := by decide +kernel
theorem dX5_addHousehold_25 : decode cX5_addHousehold 25 = .ok (.putfield 77, 3) := by decide +kernel
theorem dX5_addHousehold_28 : decode cX5_addHousehold 28 = .ok (.aload_n 0, 1) := by decide +kernel
theorem dX5_addHousehold_29 : decode cX5_addHousehold 29 = .ok (.getfield 77, 3) := by decide +kernel
theorem dX5_addHousehold_32 : decode cX5_addHousehold 32 = .ok (.iconst 1, 1) := by decide +kernel
theorem dX5_addHousehold_33 : decode cX5_addHousehold 33 = .ok (.isub, 1) := by decide +kernel
theorem dX5_addHousehold_34 : decode cX5_addHousehold 34 = .ok (.ireturn, 1) := by decide +kernel
theorem dX5_move_0 : decode cX5_move 0 = .ok (.aload_n 0, 1) := by decide +kernel
theorem dX5_move_1 : decode cX5_move 1 = .ok (.iload_n 1, 1) := by decide +kernel
theorem dX5_move_2 : decode cX5_move 2 = .ok (.invokevirtual 82, 3) := by decide +kernel
theorem dX5_move_5 : decode cX5_move 5 = .ok (.astore 4, 2) := by decide +kernel
theorem dX5_move_7 : decode cX5_move 7 = .ok (.iload_n 2, 1) := by decide +kernel
theorem dX5_move_8 : decode cX5_move 8 = .ok (.iconst (-1), 1) := by decide +kernel
theorem dX5_move_9 : decode cX5_move 9 = .ok (.if_icmp .eq 8, 3) := by decide +kernel
theorem dX5_move_12 : decode cX5_move 12 = .ok (.aload_n 0, 1) := by decide +kernel
theorem dX5_move_13 : decode cX5_move 13 = .ok (.iload_n 2, 1) := by decide +kernel
theorem dX5_move_14 : decode cX5_move 14 = .ok (.invokevirtual 86, 3) := by decide +kernel
theorem dX5_move_17 : decode cX5_move 17 = .ok (.iload_n 3, 1) := by decide +kernel
theorem dX5_move_18 : decode cX5_move 18 = .ok (.invokestatic 89, 3) := by decide +kernel
theorem dX5_move_21 : decode cX5_move 21 = .ok (.aload_n 0, 1) := by decide +kernel
theorem dX5_move_22 : decode cX5_move 22 = .ok (.aload 4, 2) := by decide +kernel
theorem dX5_move_24 : decode cX5_move 24 = .ok (.getfield 92, 3) := by decide +kernel
theorem dX5_move_27 : decode cX5_move 27 = .ok (.iload_n 2, 1) := by decide +kernel
theorem dX5_move_28 : decode cX5_move 28 = .ok (.iload_n 3, 1) := by decide +kernel
theorem dX5_move_29 : decode cX5_move 29 = .ok (.invokevirtual 56, 3) := by decide +kernel
theorem dX5_move_32 : decode cX5_move 32 = .ok (.ireturn, 1) := by decide +kernel
theorem dX5_setIncome_0 : decode cX5_setIncome 0 = .ok (.aload_n 0, 1) := by decide +kernel
theorem dX5_setIncome_1 : decode cX5_setIncome 1 = .ok (.iload_n 1, 1) := by decide +kernel
theorem dX5_setIncome_2 : decode cX5_setIncome 2 = .ok (.invokevirtual 82, 3) := by decide +kernel
theorem dX5_setIncome_5 : decode cX5_setIncome 5 = .ok (.astore 4, 2) := by decide +kernel
theorem dX5_setIncome_7 : decode cX5_setIncome 7 = .ok (.iload_n 2, 1) := by decide +kernel
theorem dX5_setIncome_8 : decode cX5_setIncome 8 = .ok (.invokestatic 60, 3) := by decide +kernel
theorem dX5_setIncome_11 : decode cX5_setIncome 11 = .ok (.iload_n 3, 1) := by decide +kernel
theorem dX5_setIncome_12 : decode cX5_setIncome 12 = .ok (.invokestatic 89, 3) := by decide +kernel
theorem dX5_setIncome_15 : decode cX5_setIncome 15 = .ok (.aload_n 0, 1) := by decide +kernel
theorem dX5_setIncome_16 : decode cX5_setIncome 16 = .ok (.aload 4, 2) := by decide +kernel
theorem dX5_setIncome_18 : decode cX5_setIncome 18 = .ok (.getfield 96, 3) := by decide +kernel
theorem dX5_setIncome_21 : decode cX5_setIncome 21 = .ok (.iload_n 2, 1) := by decide +kernel
theorem dX5_setIncome_22 : decode cX5_setIncome 22 = .ok (.iload_n 3, 1) := by decide +kernel
theorem dX5_setIncome_23 : decode cX5_setIncome 23 = .ok (.invokevirtual 56, 3) := by decide +kernel
theorem dX5_setIncome_26 : decode cX5_setIncome 26 = .ok (.ireturn, 1) := by decide +kernel
theorem dX5_setRent_0 : decode cX5_setRent 0 = .ok (.aload_n 0, 1) := by decide +kernel
theorem dX5_setRent_1 : decode cX5_setRent 1 = .ok (.iload_n 1, 1) := by decide +kernel
theorem dX5_setRent_2 : decode cX5_setRent 2 = .ok (.invokevirtual 99, 3) := by decide +kernel
theorem dX5_setRent_5 : decode cX5_setRent 5 = .ok (.astore 4, 2) := by decide +kernel
theorem dX5_setRent_7 : decode cX5_setRent 7 = .ok (.iload_n 2, 1) := by decide +kernel
theorem dX5_setRent_8 : decode cX5_setRent 8 = .ok (.invokestatic 60, 3) := by decide +kernel
theorem dX5_setRent_11 : decode cX5_setRent 11 = .ok (.iload_n 3, 1) := by decide +kernel
theorem dX5_setRent_12 : decode cX5_setRent 12 = .ok (.invokestatic 89, 3) := by decide +kernel
theorem dX5_setRent_15 : decode cX5_setRent 15 = .ok (.aload_n 0, 1) := by decide +kernel
theorem dX5_setRent_16 : decode cX5_setRent 16 = .ok (.aload 4, 2) := by decide +kernel
theorem dX5_setRent_18 : decode cX5_setRent 18 = .ok (.getfield 103, 3) := by decide +kernel
theorem dX5_setRent_21 : decode cX5_setRent 21 = .ok (.iload_n 2, 1) := by decide +kernel
theorem dX5_setRent_22 : decode cX5_setRent 22 = .ok (.iload_n 3, 1) := by decide +kernel
theorem dX5_setRent_23 : decode cX5_setRent 23 = .ok (.invokevirtual 56, 3) := by decide +kernel
theorem dX5_setRent_26 : decode cX5_setRent 26 = .ok (.ireturn, 1) := by decide +kernel
theorem dX5_setRule_0 : decode cX5_setRule 0 = .ok (.iload_n 1, 1) := by decide +kernel
theorem dX5_setRule_1 : decode cX5_setRule 1 = .ok (.invokestatic 106, 3) := by decide +kernel
theorem dX5_setRule_4 : decode cX5_setRule 4 = .ok (.istore 4, 2) := by decide +kernel
theorem dX5_setRule_6 : decode cX5_setRule 6 = .ok (.iload_n 2, 1) := by decide +kernel
theorem dX5_setRule_7 : decode cX5_setRule 7 = .ok (.ifCond .lt 13, 3) := by decide +kernel
theorem dX5_setRule_10 : decode cX5_setRule 10 = .ok (.iload_n 2, 1) := by decide +kernel
theorem dX5_setRule_11 : decode cX5_setRule 11 = .ok (.getstatic 110, 3) := by decide +kernel
theorem dX5_setRule_14 : decode cX5_setRule 14 = .ok (.iload 4, 2) := by decide +kernel
theorem dX5_setRule_16 : decode cX5_setRule 16 = .ok (.iaload, 1) := by decide +kernel
theorem dX5_setRule_17 : decode cX5_setRule 17 = .ok (.if_icmp .le 13, 3) := by decide +kernel
theorem dX5_setRule_20 : decode cX5_setRule 20 = .ok (.new 113, 3) := by decide +kernel
theorem dX5_setRule_23 : decode cX5_setRule 23 = .ok (.dup, 1) := by decide +kernel
theorem dX5_setRule_24 : decode cX5_setRule 24 = .ok (.ldc 115, 2) := by decide +kernel
theorem dX5_setRule_26 : decode cX5_setRule 26 = .ok (.invokespecial 117, 3) := by decide +kernel
theorem dX5_setRule_29 : decode cX5_setRule 29 = .ok (.athrow, 1) := by decide +kernel
theorem dX5_setRule_30 : decode cX5_setRule 30 = .ok (.iload_n 3, 1) := by decide +kernel
theorem dX5_setRule_31 : decode cX5_setRule 31 = .ok (.invokestatic 89, 3) := by decide +kernel
theorem dX5_setRule_34 : decode cX5_setRule 34 = .ok (.aload_n 0, 1) := by decide +kernel
theorem dX5_setRule_35 : decode cX5_setRule 35 = .ok (.aload_n 0, 1) := by decide +kernel
theorem dX5_setRule_36 : decode cX5_setRule 36 = .ok (.getfield 23, 3) := by decide +kernel
theorem dX5_setRule_39 : decode cX5_setRule 39 = .ok (.iload 4, 2) := by decide +kernel
theorem dX5_setRule_41 : decode cX5_setRule 41 = .ok (.aaload, 1) := by decide +kernel
theorem dX5_setRule_42 : decode cX5_setRule 42 = .ok (.iload_n 2, 1) := by decide +kernel
theorem dX5_setRule_43 : decode cX5_setRule 43 = .ok (.iload_n 3, 1) := by decide +kernel
theorem dX5_setRule_44 : decode cX5_setRule 44 = .ok (.invokevirtual 56, 3) := by decide +kernel
theorem dX5_setRule_47 : decode cX5_setRule 47 = .ok (.ireturn, 1) := by decide +kernel
theorem dX5_takeBackMove_0 : decode cX5_takeBackMove 0 = .ok (.aload_n 0, 1) := by decide +kernel
theorem dX5_takeBackMove_1 : decode cX5_takeBackMove 1 = .ok (.iload_n 1, 1) := by decide +kernel
theorem dX5_takeBackMove_2 : decode cX5_takeBackMove 2 = .ok (.invokevirtual 82, 3) := by decide +kernel
theorem dX5_takeBackMove_5 : decode cX5_takeBackMove 5 = .ok (.astore_n 3, 1) := by decide +kernel
theorem dX5_takeBackMove_6 : decode cX5_takeBackMove 6 = .ok (.aload_n 3, 1) := by decide +kernel
theorem dX5_takeBackMove_7 : decode cX5_takeBackMove 7 = .ok (.getfield 92, 3) := by decide +kernel
theorem dX5_takeBackMove_10 : decode cX5_takeBackMove 10 = .ok (.iload_n 2, 1) := by decide +kernel
theorem dX5_takeBackMove_11 : decode cX5_takeBackMove 11 = .ok (.invokestatic 118, 3) := by decide +kernel
theorem dX5_takeBackMove_14 : decode cX5_takeBackMove 14 = .ok (.aload_n 0, 1) := by decide +kernel
theorem dX5_takeBackMove_15 : decode cX5_takeBackMove 15 = .ok (.aload_n 3, 1) := by decide +kernel
theorem dX5_takeBackMove_16 : decode cX5_takeBackMove 16 = .ok (.getfield 92, 3) := by decide +kernel
theorem dX5_takeBackMove_19 : decode cX5_takeBackMove 19 = .ok (.iload_n 2, 1) := by decide +kernel
theorem dX5_takeBackMove_20 : decode cX5_takeBackMove 20 = .ok (.invokevirtual 122, 3) := by decide +kernel
theorem dX5_takeBackMove_23 : decode cX5_takeBackMove 23 = .ok (.ireturn, 1) := by decide +kernel
theorem dX5_takeBackIncome_0 : decode cX5_takeBackIncome 0 = .ok (.aload_n 0, 1) := by decide +kernel
theorem dX5_takeBackIncome_1 : decode cX5_takeBackIncome 1 = .ok (.iload_n 1, 1) := by decide +kernel
theorem dX5_takeBackIncome_2 : decode cX5_takeBackIncome 2 = .ok (.invokevirtual 82, 3) := by decide +kernel
theorem dX5_takeBackIncome_5 : decode cX5_takeBackIncome 5 = .ok (.astore_n 3, 1) := by decide +kernel
theorem dX5_takeBackIncome_6 : decode cX5_takeBackIncome 6 = .ok (.aload_n 3, 1) := by decide +kernel
theorem dX5_takeBackIncome_7 : decode cX5_takeBackIncome 7 = .ok (.getfield 96, 3) := by decide +kernel
theorem dX5_takeBackIncome_10 : decode cX5_takeBackIncome 10 = .ok (.iload_n 2, 1) := by decide +kernel
theorem dX5_takeBackIncome_11 : decode cX5_takeBackIncome 11 = .ok (.invokestatic 118, 3) := by decide +kernel
theorem dX5_takeBackIncome_14 : decode cX5_takeBackIncome 14 = .ok (.aload_n 0, 1) := by decide +kernel
theorem dX5_takeBackIncome_15 : decode cX5_takeBackIncome 15 = .ok (.aload_n 3, 1) := by decide +kernel
theorem dX5_takeBackIncome_16 : decode cX5_takeBackIncome 16 = .ok (.getfield 96, 3) := by decide +kernel
theorem dX5_takeBackIncome_19 : decode cX5_takeBackIncome 19 = .ok (.iload_n 2, 1) := by decide +kernel
theorem dX5_takeBackIncome_20 : decode cX5_takeBackIncome 20 = .ok (.invokevirtual 122, 3) := by decide +kernel
theorem dX5_takeBackIncome_23 : decode cX5_takeBackIncome 23 = .ok (.ireturn, 1) := by decide +kernel
theorem dX5_takeBackRule_0 : decode cX5_takeBackRule 0 = .ok (.aload_n 0, 1) := by decide +kernel
theorem dX5_takeBackRule_1 : decode cX5_takeBackRule 1 = .ok (.getfield 23, 3) := by decide +kernel
theorem dX5_takeBackRule_4 : decode cX5_takeBackRule 4 = .ok (.iload_n 1, 1) := by decide +kernel
theorem dX5_takeBackRule_5 : decode cX5_takeBackRule 5 = .ok (.invokestatic 106, 3) := by decide +kernel
theorem dX5_takeBackRule_8 : decode cX5_takeBackRule 8 = .ok (.aaload, 1) := by decide +kernel
theorem dX5_takeBackRule_9 : decode cX5_takeBackRule 9 = .ok (.astore_n 3, 1) := by decide +kernel
theorem dX5_takeBackRule_10 : decode cX5_takeBackRule 10 = .ok (.aload_n 3, 1) := by decide +kernel
theorem dX5_takeBackRule_11 : decode cX5_takeBackRule 11 = .ok (.iload_n 2, 1) := by decide +kernel
theorem dX5_takeBackRule_12 : decode cX5_takeBackRule 12 = .ok (.invokestatic 118, 3) := by decide +kernel
theorem dX5_takeBackRule_15 : decode cX5_takeBackRule 15 = .ok (.iload_n 2, 1) := by decide +kernel
theorem dX5_takeBackRule_16 : decode cX5_takeBackRule 16 = .ok (.ifCond .ne 13, 3) := by decide +kernel
theorem dX5_takeBackRule_19 : decode cX5_takeBackRule 19 = .ok (.new 126, 3) := by decide +kernel
theorem dX5_takeBackRule_22 : decode cX5_takeBackRule 22 = .ok (.dup, 1) := by decide +kernel
theorem dX5_takeBackRule_23 : decode cX5_takeBackRule 23 = .ok (.ldc 128, 2) := by decide +kernel
theorem dX5_takeBackRule_25 : decode cX5_takeBackRule 25 = .ok (.invokespecial 130, 3) := by decide +kernel
theorem dX5_takeBackRule_28 : decode cX5_takeBackRule 28 = .ok (.athrow, 1) := by decide +kernel
theorem dX5_takeBackRule_29 : decode cX5_takeBackRule 29 = .ok (.aload_n 0, 1) := by decide +kernel
theorem dX5_takeBackRule_30 : decode cX5_takeBackRule 30 = .ok (.aload_n 3, 1) := by decide +kernel
theorem dX5_takeBackRule_31 : decode cX5_takeBackRule 31 = .ok (.iload_n 2, 1) := by decide +kernel
theorem dX5_takeBackRule_32 : decode cX5_takeBackRule 32 = .ok (.invokevirtual 122, 3) := by decide +kernel
theorem dX5_takeBackRule_35 : decode cX5_takeBackRule 35 = .ok (.ireturn, 1) := by decide +kernel
theorem dX5_pay_0 : decode cX5_pay 0 = .ok (.aload_n 0, 1) := by decide +kernel
theorem dX5_pay_1 : decode cX5_pay 1 = .ok (.getfield 131, 3) := by decide +kernel
theorem dX5_pay_4 : decode cX5_pay 4 = .ok (.bipush 12, 2) := by decide +kernel
theorem dX5_pay_6 : decode cX5_pay 6 = .ok (.if_icmp .lt 13, 3) := by decide +kernel
theorem dX5_pay_9 : decode cX5_pay 9 = .ok (.new 67, 3) := by decide +kernel
theorem dX5_pay_12 : decode cX5_pay 12 = .ok (.dup, 1) := by decide +kernel
theorem dX5_pay_13 : decode cX5_pay 13 = .ok (.ldc 134, 2) := by decide +kernel
theorem dX5_pay_15 : decode cX5_pay 15 = .ok (.invokespecial 71, 3) := by decide +kernel
theorem dX5_pay_18 : decode cX5_pay 18 = .ok (.athrow, 1) := by decide +kernel
theorem dX5_pay_19 : decode cX5_pay 19 = .ok (.iconst 0, 1) := by decide +kernel
theorem dX5_pay_20 : decode cX5_pay 20 = .ok (.istore_n 1, 1) := by decide +kernel
theorem dX5_pay_21 : decode cX5_pay 21 = .ok (.iconst 0, 1) := by decide +kernel
theorem dX5_pay_22 : decode cX5_pay 22 = .ok (.istore_n 2, 1) := by decide +kernel
theorem dX5_pay_23 : decode cX5_pay 23 = .ok (.iload_n 2, 1) := by decide +kernel
theorem dX5_pay_24 : decode cX5_pay 24 = .ok (.aload_n 0, 1) := by decide +kernel
theorem dX5_pay_25 : decode cX5_pay 25 = .ok (.getfield 77, 3) := by decide +kernel
theorem dX5_pay_28 : decode cX5_pay 28 = .ok (.if_icmp .ge 21, 3) := by decide +kernel
theorem dX5_pay_31 : decode cX5_pay 31 = .ok (.iload_n 1, 1) := by decide +kernel
theorem dX5_pay_32 : decode cX5_pay 32 = .ok (.aload_n 0, 1) := by decide +kernel
theorem dX5_pay_33 : decode cX5_pay 33 = .ok (.iload_n 2, 1) := by decide +kernel
theorem dX5_pay_34 : decode cX5_pay 34 = .ok (.aload_n 0, 1) := by decide +kernel
theorem dX5_pay_35 : decode cX5_pay 35 = .ok (.getfield 131, 3) := by decide +kernel
theorem dX5_pay_38 : decode cX5_pay 38 = .ok (.invokevirtual 136, 3) := by decide +kernel
theorem dX5_pay_41 : decode cX5_pay 41 = .ok (.iadd, 1) := by decide +kernel
theorem dX5_pay_42 : decode cX5_pay 42 = .ok (.istore_n 1, 1) := by decide +kernel
theorem dX5_pay_43 : decode cX5_pay 43 = .ok (.iinc 2 1, 3) := by decide +kernel
theorem dX5_pay_46 : decode cX5_pay 46 = .ok (.goto (-23), 3) := by decide +kernel
theorem dX5_pay_49 : decode cX5_pay 49 = .ok (.aload_n 0, 1) := by decide +kernel
theorem dX5_pay_50 : decode cX5_pay 50 = .ok (.dup, 1) := by decide +kernel
theorem dX5_pay_51 : decode cX5_pay 51 = .ok (.getfield 131, 3) := by decide +kernel
theorem dX5_pay_54 : decode cX5_pay 54 = .ok (.iconst 1, 1) := by decide +kernel
theorem dX5_pay_55 : decode cX5_pay 55 = .ok (.iadd, 1) := by decide +kernel
theorem dX5_pay_56 : decode cX5_pay 56 = .ok (.putfield 131, 3) := by decide +kernel
theorem dX5_pay_59 : decode cX5_pay 59 = .ok (.aload_n 0, 1) := by decide +kernel
theorem dX5_pay_60 : decode cX5_pay 60 = .ok (.dup, 1) := by decide +kernel
theorem dX5_pay_61 : decode cX5_pay 61 = .ok (.getfield 140, 3) := by decide +kernel
theorem dX5_pay_64 : decode cX5_pay 64 = .ok (.aload_n 0, 1) := by decide +kernel
theorem dX5_pay_65 : decode cX5_pay 65 = .ok (.getfield 77, 3) := by decide +kernel
theorem dX5_pay_68 : decode cX5_pay 68 = .ok (.iadd, 1) := by decide +kernel
theorem dX5_pay_69 : decode cX5_pay 69 = .ok (.putfield 140, 3) := by decide +kernel
theorem dX5_pay_72 : decode cX5_pay 72 = .ok (.aload_n 0, 1) := by decide +kernel
theorem dX5_pay_73 : decode cX5_pay 73 = .ok (.dup, 1) := by decide +kernel
theorem dX5_pay_74 : decode cX5_pay 74 = .ok (.getfield 143, 3) := by decide +kernel
theorem dX5_pay_77 : decode cX5_pay 77 = .ok (.iload_n 1, 1) := by decide +kernel
theorem dX5_pay_78 : decode cX5_pay 78 = .ok (.i2l, 1) := by decide +kernel
theorem dX5_pay_79 : decode cX5_pay 79 = .ok (.ladd, 1) := by decide +kernel
theorem dX5_pay_80 : decode cX5_pay 80 = .ok (.putfield 143, 3) := by decide +kernel
theorem dX5_pay_83 : decode cX5_pay 83 = .ok (.iload_n 1, 1) := by decide +kernel
theorem dX5_pay_84 : decode cX5_pay 84 = .ok (.ireturn, 1) := by decide +kernel
theorem dX5_paidMonths_0 : decode cX5_paidMonths 0 = .ok (.aload_n 0, 1) := by decide +kernel
theorem dX5_paidMonths_1 : decode cX5_paidMonths 1 = .ok (.getfield 131, 3) := by decide +kernel
theorem dX5_paidMonths_4 : decode cX5_paidMonths 4 = .ok (.ireturn, 1) := by decide +kernel
theorem dX5_payment_0 : decode cX5_payment 0 = .ok (.aload_n 0, 1) := by decide +kernel
theorem dX5_payment_1 : decode cX5_payment 1 = .ok (.iload_n 1, 1) := by decide +kernel
theorem dX5_payment_2 : decode cX5_payment 2 = .ok (.invokevirtual 99, 3) := by decide +kernel
theorem dX5_payment_5 : decode cX5_payment 5 = .ok (.astore_n 3, 1) := by decide +kernel
theorem dX5_payment_6 : decode cX5_payment 6 = .ok (.iload_n 2, 1) := by decide +kernel
theorem dX5_payment_7 : decode cX5_payment 7 = .ok (.invokestatic 147, 3) := by decide +kernel
theorem dX5_payment_10 : decode cX5_payment 10 = .ok (.iload_n 2, 1) := by decide +kernel
theorem dX5_payment_11 : decode cX5_payment 11 = .ok (.aload_n 0, 1) := by decide +kernel
theorem dX5_payment_12 : decode cX5_payment 12 = .ok (.getfield 131, 3) := by decide +kernel
theorem dX5_payment_15 : decode cX5_payment 15 = .ok (.if_icmp .lt 13, 3) := by decide +kernel
theorem dX5_payment_18 : decode cX5_payment 18 = .ok (.new 150, 3) := by decide +kernel
theorem dX5_payment_21 : decode cX5_payment 21 = .ok (.dup, 1) := by decide +kernel
theorem dX5_payment_22 : decode cX5_payment 22 = .ok (.ldc 152, 2) := by decide +kernel
theorem dX5_payment_24 : decode cX5_payment 24 = .ok (.invokespecial 154, 3) := by decide +kernel
theorem dX5_payment_27 : decode cX5_payment 27 = .ok (.athrow, 1) := by decide +kernel
theorem dX5_payment_28 : decode cX5_payment 28 = .ok (.aload_n 3, 1) := by decide +kernel
theorem dX5_payment_29 : decode cX5_payment 29 = .ok (.getfield 155, 3) := by decide +kernel
theorem dX5_payment_32 : decode cX5_payment 32 = .ok (.iload_n 2, 1) := by decide +kernel
theorem dX5_payment_33 : decode cX5_payment 33 = .ok (.iaload, 1) := by decide +kernel
theorem dX5_payment_34 : decode cX5_payment 34 = .ok (.ireturn, 1) := by decide +kernel
theorem dX5_paidFor_0 : decode cX5_paidFor 0 = .ok (.aload_n 0, 1) := by decide +kernel
theorem dX5_paidFor_1 : decode cX5_paidFor 1 = .ok (.iload_n 1, 1) := by decide +kernel
theorem dX5_paidFor_2 : decode cX5_paidFor 2 = .ok (.invokevirtual 99, 3) := by decide +kernel
theorem dX5_paidFor_5 : decode cX5_paidFor 5 = .ok (.astore_n 3, 1) := by decide +kernel
theorem dX5_paidFor_6 : decode cX5_paidFor 6 = .ok (.iload_n 2, 1) := by decide +kernel
theorem dX5_paidFor_7 : decode cX5_paidFor 7 = .ok (.invokestatic 147, 3) := by decide +kernel
theorem dX5_paidFor_10 : decode cX5_paidFor 10 = .ok (.aload_n 3, 1) := by decide +kernel
theorem dX5_paidFor_11 : decode cX5_paidFor 11 = .ok (.getfield 158, 3) := by decide +kernel
theorem dX5_paidFor_14 : decode cX5_paidFor 14 = .ok (.iload_n 2, 1) := by decide +kernel
theorem dX5_paidFor_15 : decode cX5_paidFor 15 = .ok (.iaload, 1) := by decide +kernel
theorem dX5_paidFor_16 : decode cX5_paidFor 16 = .ok (.ireturn, 1) := by decide +kernel
theorem dX5_balance_0 : decode cX5_balance 0 = .ok (.aload_n 0, 1) := by decide +kernel
theorem dX5_balance_1 : decode cX5_balance 1 = .ok (.iload_n 1, 1) := by decide +kernel
theorem dX5_balance_2 : decode cX5_balance 2 = .ok (.invokevirtual 99, 3) := by decide +kernel
theorem dX5_balance_5 : decode cX5_balance 5 = .ok (.astore_n 2, 1) := by decide +kernel
theorem dX5_balance_6 : decode cX5_balance 6 = .ok (.iconst 0, 1) := by decide +kernel
theorem dX5_balance_7 : decode cX5_balance 7 = .ok (.istore_n 3, 1) := by decide +kernel
theorem dX5_balance_8 : decode cX5_balance 8 = .ok (.iconst 0, 1) := by decide +kernel
theorem dX5_balance_9 : decode cX5_balance 9 = .ok (.istore 4, 2) := by decide +kernel
theorem dX5_balance_11 : decode cX5_balance 11 = .ok (.iload 4, 2) := by decide +kernel
theorem dX5_balance_13 : decode cX5_balance 13 = .ok (.aload_n 0, 1) := by decide +kernel
theorem dX5_balance_14 : decode cX5_balance 14 = .ok (.getfield 131, 3) := by decide +kernel
theorem dX5_balance_17 : decode cX5_balance 17 = .ok (.if_icmp .ge 27, 3) := by decide +kernel
theorem dX5_balance_20 : decode cX5_balance 20 = .ok (.iload_n 3, 1) := by decide +kernel
theorem dX5_balance_21 : decode cX5_balance 21 = .ok (.aload_n 0, 1) := by decide +kernel
theorem dX5_balance_22 : decode cX5_balance 22 = .ok (.iload_n 1, 1) := by decide +kernel
theorem dX5_balance_23 : decode cX5_balance 23 = .ok (.iload 4, 2) := by decide +kernel
theorem dX5_balance_25 : decode cX5_balance 25 = .ok (.invokevirtual 161, 3) := by decide +kernel
theorem dX5_balance_28 : decode cX5_balance 28 = .ok (.aload_n 2, 1) := by decide +kernel
theorem dX5_balance_29 : decode cX5_balance 29 = .ok (.getfield 158, 3) := by decide +kernel
theorem dX5_balance_32 : decode cX5_balance 32 = .ok (.iload 4, 2) := by decide +kernel
theorem dX5_balance_34 : decode cX5_balance 34 = .ok (.iaload, 1) := by decide +kernel
theorem dX5_balance_35 : decode cX5_balance 35 = .ok (.isub, 1) := by decide +kernel
theorem dX5_balance_36 : decode cX5_balance 36 = .ok (.iadd, 1) := by decide +kernel
theorem dX5_balance_37 : decode cX5_balance 37 = .ok (.istore_n 3, 1) := by decide +kernel
theorem dX5_balance_38 : decode cX5_balance 38 = .ok (.iinc 4 1, 3) := by decide +kernel
theorem dX5_balance_41 : decode cX5_balance 41 = .ok (.goto (-30), 3) := by decide +kernel
theorem dX5_balance_44 : decode cX5_balance 44 = .ok (.iload_n 3, 1) := by decide +kernel
theorem dX5_balance_45 : decode cX5_balance 45 = .ok (.ireturn, 1) := by decide +kernel
theorem dX5_isSettled_0 : decode cX5_isSettled 0 = .ok (.aload_n 0, 1) := by decide +kernel
theorem dX5_isSettled_1 : decode cX5_isSettled 1 = .ok (.iload_n 1, 1) := by decide +kernel
theorem dX5_isSettled_2 : decode cX5_isSettled 2 = .ok (.invokevirtual 99, 3) := by decide +kernel
theorem dX5_isSettled_5 : decode cX5_isSettled 5 = .ok (.astore_n 2, 1) := by decide +kernel
theorem dX5_isSettled_6 : decode cX5_isSettled 6 = .ok (.iconst 0, 1) := by decide +kernel
theorem dX5_isSettled_7 : decode cX5_isSettled 7 = .ok (.istore_n 3, 1) := by decide +kernel
theorem dX5_isSettled_8 : decode cX5_isSettled 8 = .ok (.iload_n 3, 1) := by decide +kernel
theorem dX5_isSettled_9 : decode cX5_isSettled 9 = .ok (.aload_n 0, 1) := by decide +kernel
theorem dX5_isSettled_10 : decode cX5_isSettled 10 = .ok (.getfield 131, 3) := by decide +kernel
theorem dX5_isSettled_13 : decode cX5_isSettled 13 = .ok (.if_icmp .ge 26, 3) := by decide +kernel
theorem dX5_isSettled_16 : decode cX5_isSettled 16 = .ok (.aload_n 0, 1) := by decide +kernel
theorem dX5_isSettled_17 : decode cX5_isSettled 17 = .ok (.iload_n 1, 1) := by decide +kernel
theorem dX5_isSettled_18 : decode cX5_isSettled 18 = .ok (.iload_n 3, 1) := by decide +kernel
theorem dX5_isSettled_19 : decode cX5_isSettled 19 = .ok (.invokevirtual 161, 3) := by decide +kernel
theorem dX5_isSettled_22 : decode cX5_isSettled 22 = .ok (.aload_n 2, 1) := by decide +kernel
theorem dX5_isSettled_23 : decode cX5_isSettled 23 = .ok (.getfield 158, 3) := by decide +kernel
theorem dX5_isSettled_26 : decode cX5_isSettled 26 = .ok (.iload_n 3, 1) := by decide +kernel
theorem dX5_isSettled_27 : decode cX5_isSettled 27 = .ok (.iaload, 1) := by decide +kernel
theorem dX5_isSettled_28 : decode cX5_isSettled 28 = .ok (.if_icmp .eq 5, 3) := by decide +kernel
theorem dX5_isSettled_31 : decode cX5_isSettled 31 = .ok (.iconst 0, 1) := by decide +kernel
theorem dX5_isSettled_32 : decode cX5_isSettled 32 = .ok (.ireturn, 1) := by decide +kernel
theorem dX5_isSettled_33 : decode cX5_isSettled 33 = .ok (.iinc 3 1, 3) := by decide +kernel
theorem dX5_isSettled_36 : decode cX5_isSettled 36 = .ok (.goto (-28), 3) := by decide +kernel
theorem dX5_isSettled_39 : decode cX5_isSettled 39 = .ok (.iconst 1, 1) := by decide +kernel
theorem dX5_isSettled_40 : decode cX5_isSettled 40 = .ok (.ireturn, 1) := by decide +kernel
theorem dX5_totalPaid_0 : decode cX5_totalPaid 0 = .ok (.aload_n 0, 1) := by decide +kernel
theorem dX5_totalPaid_1 : decode cX5_totalPaid 1 = .ok (.getfield 143, 3) := by decide +kernel
theorem dX5_totalPaid_4 : decode cX5_totalPaid 4 = .ok (.lreturn, 1) := by decide +kernel
theorem dX5_keptBack_0 : decode cX5_keptBack 0 = .ok (.aload_n 0, 1) := by decide +kernel
theorem dX5_keptBack_1 : decode cX5_keptBack 1 = .ok (.getfield 164, 3) := by decide +kernel
theorem dX5_keptBack_4 : decode cX5_keptBack 4 = .ok (.lreturn, 1) := by decide +kernel
theorem dX5_homeOf_0 : decode cX5_homeOf 0 = .ok (.aload_n 0, 1) := by decide +kernel
theorem dX5_homeOf_1 : decode cX5_homeOf 1 = .ok (.iload_n 1, 1) := by decide +kernel
theorem dX5_homeOf_2 : decode cX5_homeOf 2 = .ok (.invokevirtual 82, 3) := by decide +kernel
theorem dX5_homeOf_5 : decode cX5_homeOf 5 = .ok (.astore_n 3, 1) := by decide +kernel
theorem dX5_homeOf_6 : decode cX5_homeOf 6 = .ok (.iload_n 2, 1) := by decide +kernel
theorem dX5_homeOf_7 : decode cX5_homeOf 7 = .ok (.invokestatic 89, 3) := by decide +kernel
theorem dX5_homeOf_10 : decode cX5_homeOf 10 = .ok (.aload_n 3, 1) := by decide +kernel
theorem dX5_homeOf_11 : decode cX5_homeOf 11 = .ok (.getfield 92, 3) := by decide +kernel
theorem dX5_homeOf_14 : decode cX5_homeOf 14 = .ok (.iload_n 2, 1) := by decide +kernel
theorem dX5_homeOf_15 : decode cX5_homeOf 15 = .ok (.invokevirtual 167, 3) := by decide +kernel
theorem dX5_homeOf_18 : decode cX5_homeOf 18 = .ok (.ireturn, 1) := by decide +kernel
theorem dX5_ruleAt_0 : decode cX5_ruleAt 0 = .ok (.iload_n 1, 1) := by decide +kernel
theorem dX5_ruleAt_1 : decode cX5_ruleAt 1 = .ok (.invokestatic 106, 3) := by decide +kernel
theorem dX5_ruleAt_4 : decode cX5_ruleAt 4 = .ok (.istore_n 3, 1) := by decide +kernel
theorem dX5_ruleAt_5 : decode cX5_ruleAt 5 = .ok (.iload_n 2, 1) := by decide +kernel
theorem dX5_ruleAt_6 : decode cX5_ruleAt 6 = .ok (.invokestatic 89, 3) := by decide +kernel
theorem dX5_ruleAt_9 : decode cX5_ruleAt 9 = .ok (.aload_n 0, 1) := by decide +kernel
theorem dX5_ruleAt_10 : decode cX5_ruleAt 10 = .ok (.getfield 23, 3) := by decide +kernel
theorem dX5_ruleAt_13 : decode cX5_ruleAt 13 = .ok (.iload_n 3, 1) := by decide +kernel
theorem dX5_ruleAt_14 : decode cX5_ruleAt 14 = .ok (.aaload, 1) := by decide +kernel
theorem dX5_ruleAt_15 : decode cX5_ruleAt 15 = .ok (.iload_n 2, 1) := by decide +kernel
theorem dX5_ruleAt_16 : decode cX5_ruleAt 16 = .ok (.invokevirtual 167, 3) := by decide +kernel
theorem dX5_ruleAt_19 : decode cX5_ruleAt 19 = .ok (.ireturn, 1) := by decide +kernel
theorem dX5_adults_0 : decode cX5_adults 0 = .ok (.aload_n 0, 1) := by decide +kernel
theorem dX5_adults_1 : decode cX5_adults 1 = .ok (.iload_n 1, 1) := by decide +kernel
theorem dX5_adults_2 : decode cX5_adults 2 = .ok (.invokevirtual 86, 3) := by decide +kernel
theorem dX5_adults_5 : decode cX5_adults 5 = .ok (.iload_n 2, 1) := by decide +kernel
theorem dX5_adults_6 : decode cX5_adults 6 = .ok (.invokestatic 89, 3) := by decide +kernel
theorem dX5_adults_9 : decode cX5_adults 9 = .ok (.aload_n 0, 1) := by decide +kernel
theorem dX5_adults_10 : decode cX5_adults 10 = .ok (.iload_n 1, 1) := by decide +kernel
theorem dX5_adults_11 : decode cX5_adults 11 = .ok (.iload_n 2, 1) := by decide +kernel
theorem dX5_adults_12 : decode cX5_adults 12 = .ok (.invokevirtual 171, 3) := by decide +kernel
theorem dX5_adults_15 : decode cX5_adults 15 = .ok (.aload_n 0, 1) := by decide +kernel
theorem dX5_adults_16 : decode cX5_adults 16 = .ok (.getfield 34, 3) := by decide +kernel
theorem dX5_adults_19 : decode cX5_adults 19 = .ok (.getfield 175, 3) := by decide +kernel
theorem dX5_adults_22 : decode cX5_adults 22 = .ok (.ireturn, 1) := by decide +kernel
theorem dX5_children_0 : decode cX5_children 0 = .ok (.aload_n 0, 1) := by decide +kernel
theorem dX5_children_1 : decode cX5_children 1 = .ok (.iload_n 1, 1) := by decide +kernel
theorem dX5_children_2 : decode cX5_children 2 = .ok (.invokevirtual 86, 3) := by decide +kernel
theorem dX5_children_5 : decode cX5_children 5 = .ok (.iload_n 2, 1) := by decide +kernel
theorem dX5_children_6 : decode cX5_children 6 = .ok (.invokestatic 89, 3) := by decide +kernel
theorem dX5_children_9 : decode cX5_children 9 = .ok (.aload_n 0, 1) := by decide +kernel
theorem dX5_children_10 : decode cX5_children 10 = .ok (.iload_n 1, 1) := by decide +kernel
theorem dX5_children_11 : decode cX5_children 11 = .ok (.iload_n 2, 1) := by decide +kernel
theorem dX5_children_12 : decode cX5_children 12 = .ok (.invokevirtual 171, 3) := by decide +kernel
theorem dX5_children_15 : decode cX5_children 15 = .ok (.aload_n 0, 1) := by decide +kernel
theorem dX5_children_16 : decode cX5_children 16 = .ok (.getfield 34, 3) := by decide +kernel
theorem dX5_children_19 : decode cX5_children 19 = .ok (.getfield 178, 3) := by decide +kernel
theorem dX5_children_22 : decode cX5_children 22 = .ok (.ireturn, 1) := by decide +kernel
theorem dX5_adultAmount_0 : decode cX5_adultAmount 0 = .ok (.aload_n 0, 1) := by decide +kernel
theorem dX5_adultAmount_1 : decode cX5_adultAmount 1 = .ok (.iload_n 1, 1) := by decide +kernel
theorem dX5_adultAmount_2 : decode cX5_adultAmount 2 = .ok (.invokevirtual 86, 3) := by decide +kernel
theorem dX5_adultAmount_5 : decode cX5_adultAmount 5 = .ok (.iload_n 2, 1) := by decide +kernel
theorem dX5_adultAmount_6 : decode cX5_adultAmount 6 = .ok (.invokestatic 89, 3) := by decide +kernel
theorem dX5_adultAmount_9 : decode cX5_adultAmount 9 = .ok (.aload_n 0, 1) := by decide +kernel
theorem dX5_adultAmount_10 : decode cX5_adultAmount 10 = .ok (.iload_n 1, 1) := by decide +kernel
theorem dX5_adultAmount_11 : decode cX5_adultAmount 11 = .ok (.iload_n 2, 1) := by decide +kernel
theorem dX5_adultAmount_12 : decode cX5_adultAmount 12 = .ok (.invokevirtual 183, 3) := by decide +kernel
theorem dX5_adultAmount_15 : decode cX5_adultAmount 15 = .ok (.aload_n 0, 1) := by decide +kernel
theorem dX5_adultAmount_16 : decode cX5_adultAmount 16 = .ok (.getfield 41, 3) := by decide +kernel
theorem dX5_adultAmount_19 : decode cX5_adultAmount 19 = .ok (.getfield 186, 3) := by decide +kernel
theorem dX5_adultAmount_22 : decode cX5_adultAmount 22 = .ok (.ireturn, 1) := by decide +kernel
theorem dX5_childAmount_0 : decode cX5_childAmount 0 = .ok (.aload_n 0, 1) := by decide +kernel
theorem dX5_childAmount_1 : decode cX5_childAmount 1 = .ok (.iload_n 1, 1) := by decide +kernel
theorem dX5_childAmount_2 : decode cX5_childAmount 2 = .ok (.invokevirtual 86, 3) := by decide +kernel
theorem dX5_childAmount_5 : decode cX5_childAmount 5 = .ok (.iload_n 2, 1) := by decide +kernel
theorem dX5_childAmount_6 : decode cX5_childAmount 6 = .ok (.invokestatic 89, 3) := by decide +kernel
theorem dX5_childAmount_9 : decode cX5_childAmount 9 = .ok (.aload_n 0, 1) := by decide +kernel
theorem dX5_childAmount_10 : decode cX5_childAmount 10 = .ok (.iload_n 1, 1) := by decide +kernel
theorem dX5_childAmount_11 : decode cX5_childAmount 11 = .ok (.iload_n 2, 1) := by decide +kernel
theorem dX5_childAmount_12 : decode cX5_childAmount 12 = .ok (.invokevirtual 183, 3) := by decide +kernel
theorem dX5_childAmount_15 : decode cX5_childAmount 15 = .ok (.aload_n 0, 1) := by decide +kernel
theorem dX5_childAmount_16 : decode cX5_childAmount 16 = .ok (.getfield 41, 3) := by decide +kernel
theorem dX5_childAmount_19 : decode cX5_childAmount 19 = .ok (.getfield 189, 3) := by decide +kernel
theorem dX5_childAmount_22 : decode cX5_childAmount 22 = .ok (.ireturn, 1) := by decide +kernel
theorem dX5_housingAmount_0 : decode cX5_housingAmount 0 = .ok (.aload_n 0, 1) := by decide +kernel
theorem dX5_housingAmount_1 : decode cX5_housingAmount 1 = .ok (.iload_n 1, 1) := by decide +kernel
theorem dX5_housingAmount_2 : decode cX5_housingAmount 2 = .ok (.invokevirtual 86, 3) := by decide +kernel
theorem dX5_housingAmount_5 : decode cX5_housingAmount 5 = .ok (.iload_n 2, 1) := by decide +kernel
theorem dX5_housingAmount_6 : decode cX5_housingAmount 6 = .ok (.invokestatic 89, 3) := by decide +kernel
theorem dX5_housingAmount_9 : decode cX5_housingAmount 9 = .ok (.aload_n 0, 1) := by decide +kernel
theorem dX5_housingAmount_10 : decode cX5_housingAmount 10 = .ok (.iload_n 1, 1) := by decide +kernel
theorem dX5_housingAmount_11 : decode cX5_housingAmount 11 = .ok (.iload_n 2, 1) := by decide +kernel
theorem dX5_housingAmount_12 : decode cX5_housingAmount 12 = .ok (.invokevirtual 183, 3) := by decide +kernel
theorem dX5_housingAmount_15 : decode cX5_housingAmount 15 = .ok (.aload_n 0, 1) := by decide +kernel
theorem dX5_housingAmount_16 : decode cX5_housingAmount 16 = .ok (.getfield 41, 3) := by decide +kernel
theorem dX5_housingAmount_19 : decode cX5_housingAmount 19 = .ok (.getfield 192, 3) := by decide +kernel
theorem dX5_housingAmount_22 : decode cX5_housingAmount 22 = .ok (.ireturn, 1) := by decide +kernel
theorem dX5_reason_0 : decode cX5_reason 0 = .ok (.aload_n 0, 1) := by decide +kernel
theorem dX5_reason_1 : decode cX5_reason 1 = .ok (.iload_n 1, 1) := by decide +kernel
theorem dX5_reason_2 : decode cX5_reason 2 = .ok (.invokevirtual 86, 3) := by decide +kernel
theorem dX5_reason_5 : decode cX5_reason 5 = .ok (.iload_n 2, 1) := by decide +kernel
theorem dX5_reason_6 : decode cX5_reason 6 = .ok (.invokestatic 89, 3) := by decide +kernel
theorem dX5_reason_9 : decode cX5_reason 9 = .ok (.aload_n 0, 1) := by decide +kernel
theorem dX5_reason_10 : decode cX5_reason 10 = .ok (.iload_n 1, 1) := by decide +kernel
theorem dX5_reason_11 : decode cX5_reason 11 = .ok (.iload_n 2, 1) := by decide +kernel
theorem dX5_reason_12 : decode cX5_reason 12 = .ok (.invokevirtual 183, 3) := by decide +kernel
theorem dX5_reason_15 : decode cX5_reason 15 = .ok (.aload_n 0, 1) := by decide +kernel
theorem dX5_reason_16 : decode cX5_reason 16 = .ok (.getfield 34, 3) := by decide +kernel
theorem dX5_reason_19 : decode cX5_reason 19 = .ok (.getfield 175, 3) := by decide +kernel
theorem dX5_reason_22 : decode cX5_reason 22 = .ok (.ifCond .ne 6, 3) := by decide +kernel
theorem dX5_reason_25 : decode cX5_reason 25 = .ok (.bipush 110, 2) := by decide +kernel
theorem dX5_reason_27 : decode cX5_reason 27 = .ok (.ireturn, 1) := by decide +kernel
theorem dX5_reason_28 : decode cX5_reason 28 = .ok (.aload_n 0, 1) := by decide +kernel
theorem dX5_reason_29 : decode cX5_reason 29 = .ok (.getfield 41, 3) := by decide +kernel
theorem dX5_reason_32 : decode cX5_reason 32 = .ok (.getfield 195, 3) := by decide +kernel
theorem dX5_reason_35 : decode cX5_reason 35 = .ok (.ifCond .eq 21, 3) := by decide +kernel
theorem dX5_reason_38 : decode cX5_reason 38 = .ok (.aload_n 0, 1) := by decide +kernel
theorem dX5_reason_39 : decode cX5_reason 39 = .ok (.getfield 41, 3) := by decide +kernel
theorem dX5_reason_42 : decode cX5_reason 42 = .ok (.getfield 199, 3) := by decide +kernel
theorem dX5_reason_45 : decode cX5_reason 45 = .ok (.ifCond .eq 8, 3) := by decide +kernel
theorem dX5_reason_48 : decode cX5_reason 48 = .ok (.bipush 98, 2) := by decide +kernel
theorem dX5_reason_50 : decode cX5_reason 50 = .ok (.goto 5, 3) := by decide +kernel
theorem dX5_reason_53 : decode cX5_reason 53 = .ok (.bipush 116, 2) := by decide +kernel
theorem dX5_reason_55 : decode cX5_reason 55 = .ok (.ireturn, 1) := by decide +kernel
theorem dX5_reason_56 : decode cX5_reason 56 = .ok (.aload_n 0, 1) := by decide +kernel
theorem dX5_reason_57 : decode cX5_reason 57 = .ok (.getfield 41, 3) := by decide +kernel
theorem dX5_reason_60 : decode cX5_reason 60 = .ok (.getfield 199, 3) := by decide +kernel
theorem dX5_reason_63 : decode cX5_reason 63 = .ok (.ifCond .eq 8, 3) := by decide +kernel
theorem dX5_reason_66 : decode cX5_reason 66 = .ok (.bipush 109, 2) := by decide +kernel
theorem dX5_reason_68 : decode cX5_reason 68 = .ok (.goto 5, 3) := by decide +kernel
theorem dX5_reason_71 : decode cX5_reason 71 = .ok (.bipush 102, 2) := by decide +kernel
theorem dX5_reason_73 : decode cX5_reason 73 = .ok (.ireturn, 1) := by decide +kernel
theorem dX5_nextChange_0 : decode cX5_nextChange 0 = .ok (.aload_n 0, 1) := by decide +kernel
theorem dX5_nextChange_1 : decode cX5_nextChange 1 = .ok (.iload_n 1, 1) := by decide +kernel
theorem dX5_nextChange_2 : decode cX5_nextChange 2 = .ok (.invokevirtual 86, 3) := by decide +kernel
theorem dX5_nextChange_5 : decode cX5_nextChange 5 = .ok (.iload_n 2, 1) := by decide +kernel
theorem dX5_nextChange_6 : decode cX5_nextChange 6 = .ok (.invokestatic 89, 3) := by decide +kernel
theorem dX5_nextChange_9 : decode cX5_nextChange 9 = .ok (.aload_n 0, 1) := by decide +kernel
theorem dX5_nextChange_10 : decode cX5_nextChange 10 = .ok (.iload_n 1, 1) := by decide +kernel
theorem dX5_nextChange_11 : decode cX5_nextChange 11 = .ok (.iload_n 2, 1) := by decide +kernel
theorem dX5_nextChange_12 : decode cX5_nextChange 12 = .ok (.invokevirtual 183, 3) := by decide +kernel
theorem dX5_nextChange_15 : decode cX5_nextChange 15 = .ok (.aload_n 0, 1) := by decide +kernel
theorem dX5_nextChange_16 : decode cX5_nextChange 16 = .ok (.getfield 41, 3) := by decide +kernel
theorem dX5_nextChange_19 : decode cX5_nextChange 19 = .ok (.getfield 186, 3) := by decide +kernel
theorem dX5_nextChange_22 : decode cX5_nextChange 22 = .ok (.istore_n 3, 1) := by decide +kernel
theorem dX5_nextChange_23 : decode cX5_nextChange 23 = .ok (.aload_n 0, 1) := by decide +kernel
theorem dX5_nextChange_24 : decode cX5_nextChange 24 = .ok (.getfield 41, 3) := by decide +kernel
theorem dX5_nextChange_27 : decode cX5_nextChange 27 = .ok (.getfield 189, 3) := by decide +kernel
theorem dX5_nextChange_30 : decode cX5_nextChange 30 = .ok (.istore 4, 2) := by decide +kernel
theorem dX5_nextChange_32 : decode cX5_nextChange 32 = .ok (.aload_n 0, 1) := by decide +kernel
theorem dX5_nextChange_33 : decode cX5_nextChange 33 = .ok (.getfield 41, 3) := by decide +kernel
theorem dX5_nextChange_36 : decode cX5_nextChange 36 = .ok (.getfield 192, 3) := by decide +kernel
theorem dX5_nextChange_39 : decode cX5_nextChange 39 = .ok (.istore 5, 2) := by decide +kernel
theorem dX5_nextChange_41 : decode cX5_nextChange 41 = .ok (.iload_n 2, 1) := by decide +kernel
theorem dX5_nextChange_42 : decode cX5_nextChange 42 = .ok (.iconst 1, 1) := by decide +kernel
theorem dX5_nextChange_43 : decode cX5_nextChange 43 = .ok (.iadd, 1) := by decide +kernel
theorem dX5_nextChange_44 : decode cX5_nextChange 44 = .ok (.istore 6, 2) := by decide +kernel
theorem dX5_nextChange_46 : decode cX5_nextChange 46 = .ok (.iload 6, 2) := by decide +kernel
theorem dX5_nextChange_48 : decode cX5_nextChange 48 = .ok (.sipush 360, 3) := by decide +kernel
theorem dX5_nextChange_51 : decode cX5_nextChange 51 = .ok (.if_icmp .ge 64, 3) := by decide +kernel
theorem dX5_nextChange_54 : decode cX5_nextChange 54 = .ok (.aload_n 0, 1) := by decide +kernel
theorem dX5_nextChange_55 : decode cX5_nextChange 55 = .ok (.getfield 27, 3) := by decide +kernel
theorem dX5_nextChange_58 : decode cX5_nextChange 58 = .ok (.iload 6, 2) := by decide +kernel
theorem dX5_nextChange_60 : decode cX5_nextChange 60 = .ok (.iaload, 1) := by decide +kernel
theorem dX5_nextChange_61 : decode cX5_nextChange 61 = .ok (.ifCond .le 48, 3) := by decide +kernel
theorem dX5_nextChange_64 : decode cX5_nextChange 64 = .ok (.aload_n 0, 1) := by decide +kernel
theorem dX5_nextChange_65 : decode cX5_nextChange 65 = .ok (.iload_n 1, 1) := by decide +kernel
theorem dX5_nextChange_66 : decode cX5_nextChange 66 = .ok (.iload 6, 2) := by decide +kernel
theorem dX5_nextChange_68 : decode cX5_nextChange 68 = .ok (.invokevirtual 183, 3) := by decide +kernel
theorem dX5_nextChange_71 : decode cX5_nextChange 71 = .ok (.aload_n 0, 1) := by decide +kernel
theorem dX5_nextChange_72 : decode cX5_nextChange 72 = .ok (.getfield 41, 3) := by decide +kernel
theorem dX5_nextChange_75 : decode cX5_nextChange 75 = .ok (.getfield 186, 3) := by decide +kernel
theorem dX5_nextChange_78 : decode cX5_nextChange 78 = .ok (.iload_n 3, 1) := by decide +kernel
theorem dX5_nextChange_79 : decode cX5_nextChange 79 = .ok (.if_icmp .ne 27, 3) := by decide +kernel
theorem dX5_nextChange_82 : decode cX5_nextChange 82 = .ok (.aload_n 0, 1) := by decide +kernel
theorem dX5_nextChange_83 : decode cX5_nextChange 83 = .ok (.getfield 41, 3) := by decide +kernel
theorem dX5_nextChange_86 : decode cX5_nextChange 86 = .ok (.getfield 189, 3) := by decide +kernel
theorem dX5_nextChange_89 : decode cX5_nextChange 89 = .ok (.iload 4, 2) := by decide +kernel
theorem dX5_nextChange_91 : decode cX5_nextChange 91 = .ok (.if_icmp .ne 15, 3) := by decide +kernel
theorem dX5_nextChange_94 : decode cX5_nextChange 94 = .ok (.aload_n 0, 1) := by decide +kernel
theorem dX5_nextChange_95 : decode cX5_nextChange 95 = .ok (.getfield 41, 3) := by decide +kernel
theorem dX5_nextChange_98 : decode cX5_nextChange 98 = .ok (.getfield 192, 3) := by decide +kernel
theorem dX5_nextChange_101 : decode cX5_nextChange 101 = .ok (.iload 5, 2) := by decide +kernel
theorem dX5_nextChange_103 : decode cX5_nextChange 103 = .ok (.if_icmp .eq 6, 3) := by decide +kernel
theorem dX5_nextChange_106 : decode cX5_nextChange 106 = .ok (.iload 6, 2) := by decide +kernel
theorem dX5_nextChange_108 : decode cX5_nextChange 108 = .ok (.ireturn, 1) := by decide +kernel
theorem dX5_nextChange_109 : decode cX5_nextChange 109 = .ok (.iinc 6 1, 3) := by decide +kernel
theorem dX5_nextChange_112 : decode cX5_nextChange 112 = .ok (.goto (-66), 3) := by decide +kernel
theorem dX5_nextChange_115 : decode cX5_nextChange 115 = .ok (.new 150, 3) := by decide +kernel
theorem dX5_nextChange_118 : decode cX5_nextChange 118 = .ok (.dup, 1) := by decide +kernel
theorem dX5_nextChange_119 : decode cX5_nextChange 119 = .ok (.ldc 202, 2) := by decide +kernel
theorem dX5_nextChange_121 : decode cX5_nextChange 121 = .ok (.invokespecial 154, 3) := by decide +kernel
theorem dX5_nextChange_124 : decode cX5_nextChange 124 = .ok (.athrow, 1) := by decide +kernel
theorem dX5_entitlement_0 : decode cX5_entitlement 0 = .ok (.aload_n 0, 1) := by decide +kernel
theorem dX5_entitlement_1 : decode cX5_entitlement 1 = .ok (.iload_n 1, 1) := by decide +kernel
theorem dX5_entitlement_2 : decode cX5_entitlement 2 = .ok (.invokevirtual 86, 3) := by decide +kernel
theorem dX5_entitlement_5 : decode cX5_entitlement 5 = .ok (.iload_n 2, 1) := by decide +kernel
theorem dX5_entitlement_6 : decode cX5_entitlement 6 = .ok (.invokestatic 147, 3) := by decide +kernel
theorem dX5_entitlement_9 : decode cX5_entitlement 9 = .ok (.aload_n 0, 1) := by decide +kernel
theorem dX5_entitlement_10 : decode cX5_entitlement 10 = .ok (.iload_n 1, 1) := by decide +kernel
theorem dX5_entitlement_11 : decode cX5_entitlement 11 = .ok (.iload_n 2, 1) := by decide +kernel
theorem dX5_entitlement_12 : decode cX5_entitlement 12 = .ok (.invokevirtual 161, 3) := by decide +kernel
theorem dX5_entitlement_15 : decode cX5_entitlement 15 = .ok (.ireturn, 1) := by decide +kernel
theorem dX5_entitlementByDays_0 : decode cX5_entitlementByDays 0 = .ok (.aload_n 0, 1) := by decide +kernel
theorem dX5_entitlementByDays_1 : decode cX5_entitlementByDays 1 = .ok (.iload_n 1, 1) := by decide +kernel
theorem dX5_entitlementByDays_2 : decode cX5_entitlementByDays 2 = .ok (.invokevirtual 86, 3) := by decide +kernel
theorem dX5_entitlementByDays_5 : decode cX5_entitlementByDays 5 = .ok (.iload_n 2, 1) := by decide +kernel
theorem dX5_entitlementByDays_6 : decode cX5_entitlementByDays 6 = .ok (.invokestatic 147, 3) := by decide +kernel
theorem dX5_entitlementByDays_9 : decode cX5_entitlementByDays 9 = .ok (.iload_n 2, 1) := by decide +kernel
theorem dX5_entitlementByDays_10 : decode cX5_entitlementByDays 10 = .ok (.bipush 30, 2) := by decide +kernel
theorem dX5_entitlementByDays_12 : decode cX5_entitlementByDays 12 = .ok (.imul, 1) := by decide +kernel
theorem dX5_entitlementByDays_13 : decode cX5_entitlementByDays 13 = .ok (.istore_n 3, 1) := by decide +kernel
theorem dX5_entitlementByDays_14 : decode cX5_entitlementByDays 14 = .ok (.iconst 0, 1) := by decide +kernel
theorem dX5_entitlementByDays_15 : decode cX5_entitlementByDays 15 = .ok (.istore 4, 2) := by decide +kernel
theorem dX5_entitlementByDays_17 : decode cX5_entitlementByDays 17 = .ok (.iload_n 3, 1) := by decide +kernel
theorem dX5_entitlementByDays_18 : decode cX5_entitlementByDays 18 = .ok (.istore 5, 2) := by decide +kernel
theorem dX5_entitlementByDays_20 : decode cX5_entitlementByDays 20 = .ok (.iload 5, 2) := by decide +kernel
theorem dX5_entitlementByDays_22 : decode cX5_entitlementByDays 22 = .ok (.iload_n 3, 1) := by decide +kernel
theorem dX5_entitlementByDays_23 : decode cX5_entitlementByDays 23 = .ok (.bipush 30, 2) := by decide +kernel
theorem dX5_entitlementByDays_25 : decode cX5_entitlementByDays 25 = .ok (.iadd, 1) := by decide +kernel
theorem dX5_entitlementByDays_26 : decode cX5_entitlementByDays 26 = .ok (.if_icmp .ge 28, 3) := by decide +kernel
theorem dX5_entitlementByDays_29 : decode cX5_entitlementByDays 29 = .ok (.aload_n 0, 1) := by decide +kernel
theorem dX5_entitlementByDays_30 : decode cX5_entitlementByDays 30 = .ok (.iload_n 1, 1) := by decide +kernel
theorem dX5_entitlementByDays_31 : decode cX5_entitlementByDays 31 = .ok (.iload 5, 2) := by decide +kernel
theorem dX5_entitlementByDays_33 : decode cX5_entitlementByDays 33 = .ok (.invokevirtual 183, 3) := by decide +kernel
theorem dX5_entitlementByDays_36 : decode cX5_entitlementByDays 36 = .ok (.iload 4, 2) := by decide +kernel
theorem dX5_entitlementByDays_38 : decode cX5_entitlementByDays 38 = .ok (.aload_n 0, 1) := by decide +kernel
theorem dX5_entitlementByDays_39 : decode cX5_entitlementByDays 39 = .ok (.getfield 41, 3) := by decide +kernel
theorem dX5_entitlementByDays_42 : decode cX5_entitlementByDays 42 = .ok (.invokevirtual 204, 3) := by decide +kernel
theorem dX5_entitlementByDays_45 : decode cX5_entitlementByDays 45 = .ok (.iadd, 1) := by decide +kernel
theorem dX5_entitlementByDays_46 : decode cX5_entitlementByDays 46 = .ok (.istore 4, 2) := by decide +kernel
theorem dX5_entitlementByDays_48 : decode cX5_entitlementByDays 48 = .ok (.iinc 5 1, 3) := by decide +kernel
theorem dX5_entitlementByDays_51 : decode cX5_entitlementByDays 51 = .ok (.goto (-31), 3) := by decide +kernel
theorem dX5_entitlementByDays_54 : decode cX5_entitlementByDays 54 = .ok (.iload 4, 2) := by decide +kernel
theorem dX5_entitlementByDays_56 : decode cX5_entitlementByDays 56 = .ok (.ireturn, 1) := by decide +kernel
theorem dX5_facts_0 : decode cX5_facts 0 = .ok (.aload_n 0, 1) := by decide +kernel
theorem dX5_facts_1 : decode cX5_facts 1 = .ok (.getfield 208, 3) := by decide +kernel
theorem dX5_facts_4 : decode cX5_facts 4 = .ok (.ireturn, 1) := by decide +kernel
theorem dX5_keptShare_0 : decode cX5_keptShare 0 = .ok (.aload_n 0, 1) := by decide +kernel
theorem dX5_keptShare_1 : decode cX5_keptShare 1 = .ok (.getfield 164, 3) := by decide +kernel
theorem dX5_keptShare_4 : decode cX5_keptShare 4 = .ok (.aload_n 0, 1) := by decide +kernel
theorem dX5_keptShare_5 : decode cX5_keptShare 5 = .ok (.getfield 143, 3) := by decide +kernel
theorem dX5_keptShare_8 : decode cX5_keptShare 8 = .ok (.ladd, 1) := by decide +kernel
theorem dX5_keptShare_9 : decode cX5_keptShare 9 = .ok (.lstore_n 1, 1) := by decide +kernel
theorem dX5_keptShare_10 : decode cX5_keptShare 10 = .ok (.lload_n 1, 1) := by decide +kernel
theorem dX5_keptShare_11 : decode cX5_keptShare 11 = .ok (.lconst 0, 1) := by decide +kernel
theorem dX5_keptShare_12 : decode cX5_keptShare 12 = .ok (.lcmp, 1) := by decide +kernel
theorem dX5_keptShare_13 : decode cX5_keptShare 13 = .ok (.ifCond .ne 13, 3) := by decide +kernel
theorem dX5_keptShare_16 : decode cX5_keptShare 16 = .ok (.new 211, 3) := by decide +kernel
theorem dX5_keptShare_19 : decode cX5_keptShare 19 = .ok (.dup, 1) := by decide +kernel
theorem dX5_keptShare_20 : decode cX5_keptShare 20 = .ok (.ldc 213, 2) := by decide +kernel
theorem dX5_keptShare_22 : decode cX5_keptShare 22 = .ok (.invokespecial 215, 3) := by decide +kernel
theorem dX5_keptShare_25 : decode cX5_keptShare 25 = .ok (.athrow, 1) := by decide +kernel
theorem dX5_keptShare_26 : decode cX5_keptShare 26 = .ok (.aload_n 0, 1) := by decide +kernel
theorem dX5_keptShare_27 : decode cX5_keptShare 27 = .ok (.getfield 164, 3) := by decide +kernel
theorem dX5_keptShare_30 : decode cX5_keptShare 30 = .ok (.l2f, 1) := by decide +kernel
theorem dX5_keptShare_31 : decode cX5_keptShare 31 = .ok (.lload_n 1, 1) := by decide +kernel
theorem dX5_keptShare_32 : decode cX5_keptShare 32 = .ok (.l2f, 1) := by decide +kernel
theorem dX5_keptShare_33 : decode cX5_keptShare 33 = .ok (.fdiv, 1) := by decide +kernel
theorem dX5_keptShare_34 : decode cX5_keptShare 34 = .ok (.freturn, 1) := by decide +kernel
theorem dX5_meanPayment_0 : decode cX5_meanPayment 0 = .ok (.aload_n 0, 1) := by decide +kernel
theorem dX5_meanPayment_1 : decode cX5_meanPayment 1 = .ok (.getfield 140, 3) := by decide +kernel
theorem dX5_meanPayment_4 : decode cX5_meanPayment 4 = .ok (.ifCond .ne 13, 3) := by decide +kernel
theorem dX5_meanPayment_7 : decode cX5_meanPayment 7 = .ok (.new 211, 3) := by decide +kernel
theorem dX5_meanPayment_10 : decode cX5_meanPayment 10 = .ok (.dup, 1) := by decide +kernel
theorem dX5_meanPayment_11 : decode cX5_meanPayment 11 = .ok (.ldc 216, 2) := by decide +kernel
theorem dX5_meanPayment_13 : decode cX5_meanPayment 13 = .ok (.invokespecial 215, 3) := by decide +kernel
theorem dX5_meanPayment_16 : decode cX5_meanPayment 16 = .ok (.athrow, 1) := by decide +kernel
theorem dX5_meanPayment_17 : decode cX5_meanPayment 17 = .ok (.aload_n 0, 1) := by decide +kernel
theorem dX5_meanPayment_18 : decode cX5_meanPayment 18 = .ok (.getfield 143, 3) := by decide +kernel
theorem dX5_meanPayment_21 : decode cX5_meanPayment 21 = .ok (.l2d, 1) := by decide +kernel
theorem dX5_meanPayment_22 : decode cX5_meanPayment 22 = .ok (.aload_n 0, 1) := by decide +kernel
theorem dX5_meanPayment_23 : decode cX5_meanPayment 23 = .ok (.getfield 140, 3) := by decide +kernel
theorem dX5_meanPayment_26 : decode cX5_meanPayment 26 = .ok (.i2d, 1) := by decide +kernel
theorem dX5_meanPayment_27 : decode cX5_meanPayment 27 = .ok (.ddiv, 1) := by decide +kernel
theorem dX5_meanPayment_28 : decode cX5_meanPayment 28 = .ok (.dreturn, 1) := by decide +kernel
theorem dX5_personNumbered_0 : decode cX5_personNumbered 0 = .ok (.iload_n 1, 1) := by decide +kernel
theorem dX5_personNumbered_1 : decode cX5_personNumbered 1 = .ok (.ifCond .lt 11, 3) := by decide +kernel
theorem dX5_personNumbered_4 : decode cX5_personNumbered 4 = .ok (.iload_n 1, 1) := by decide +kernel
theorem dX5_personNumbered_5 : decode cX5_personNumbered 5 = .ok (.aload_n 0, 1) := by decide +kernel
theorem dX5_personNumbered_6 : decode cX5_personNumbered 6 = .ok (.getfield 63, 3) := by decide +kernel
theorem dX5_personNumbered_9 : decode cX5_personNumbered 9 = .ok (.if_icmp .lt 13, 3) := by decide +kernel
theorem dX5_personNumbered_12 : decode cX5_personNumbered 12 = .ok (.new 218, 3) := by decide +kernel
theorem dX5_personNumbered_15 : decode cX5_personNumbered 15 = .ok (.dup, 1) := by decide +kernel
theorem dX5_personNumbered_16 : decode cX5_personNumbered 16 = .ok (.ldc 220, 2) := by decide +kernel
theorem dX5_personNumbered_18 : decode cX5_personNumbered 18 = .ok (.invokespecial 222, 3) := by decide +kernel
theorem dX5_personNumbered_21 : decode cX5_personNumbered 21 = .ok (.athrow, 1) := by decide +kernel
theorem dX5_personNumbered_22 : decode cX5_personNumbered 22 = .ok (.aload_n 0, 1) := by decide +kernel
theorem dX5_personNumbered_23 : decode cX5_personNumbered 23 = .ok (.getfield 11, 3) := by decide +kernel
theorem dX5_personNumbered_26 : decode cX5_personNumbered 26 = .ok (.iload_n 1, 1) := by decide +kernel
theorem dX5_personNumbered_27 : decode cX5_personNumbered 27 = .ok (.aaload, 1) := by decide +kernel
theorem dX5_personNumbered_28 : decode cX5_personNumbered 28 = .ok (.areturn, 1) := by decide +kernel
theorem dX5_requireHousehold_0 : decode cX5_requireHousehold 0 = .ok (.iload_n 1, 1) := by decide +kernel
theorem dX5_requireHousehold_1 : decode cX5_requireHousehold 1 = .ok (.ifCond .lt 11, 3) := by decide +kernel
theorem dX5_requireHousehold_4 : decode cX5_requireHousehold 4 = .ok (.iload_n 1, 1) := by decide +kernel
theorem dX5_requireHousehold_5 : decode cX5_requireHousehold 5 = .ok (.aload_n 0, 1) := by decide +kernel
theorem dX5_requireHousehold_6 : decode cX5_requireHousehold 6 = .ok (.getfield 77, 3) := by decide +kernel
theorem dX5_requireHousehold_9 : decode cX5_requireHousehold 9 = .ok (.if_icmp .lt 13, 3) := by decide +kernel
theorem dX5_requireHousehold_12 : decode cX5_requireHousehold 12 = .ok (.new 218, 3) := by decide +kernel
theorem dX5_requireHousehold_15 : decode cX5_requireHousehold 15 = .ok (.dup, 1) := by decide +kernel
theorem dX5_requireHousehold_16 : decode cX5_requireHousehold 16 = .ok (.ldc 223, 2) := by decide +kernel
theorem dX5_requireHousehold_18 : decode cX5_requireHousehold 18 = .ok (.invokespecial 222, 3) := by decide +kernel
theorem dX5_requireHousehold_21 : decode cX5_requireHousehold 21 = .ok (.athrow, 1) := by decide +kernel
theorem dX5_requireHousehold_22 : decode cX5_requireHousehold 22 = .ok (.return_, 1) := by decide +kernel
theorem dX5_householdNumbered_0 : decode cX5_householdNumbered 0 = .ok (.aload_n 0, 1) := by decide +kernel
theorem dX5_householdNumbered_1 : decode cX5_householdNumbered 1 = .ok (.iload_n 1, 1) := by decide +kernel
theorem dX5_householdNumbered_2 : decode cX5_householdNumbered 2 = .ok (.invokevirtual 86, 3) := by decide +kernel
theorem dX5_householdNumbered_5 : decode cX5_householdNumbered 5 = .ok (.aload_n 0, 1) := by decide +kernel
theorem dX5_householdNumbered_6 : decode cX5_householdNumbered 6 = .ok (.getfield 17, 3) := by decide +kernel
theorem dX5_householdNumbered_9 : decode cX5_householdNumbered 9 = .ok (.iload_n 1, 1) := by decide +kernel
theorem dX5_householdNumbered_10 : decode cX5_householdNumbered 10 = .ok (.aaload, 1) := by decide +kernel
theorem dX5_householdNumbered_11 : decode cX5_householdNumbered 11 = .ok (.areturn, 1) := by decide +kernel
theorem dX5_ruleIndex_0 : decode cX5_ruleIndex 0 = .ok (.iconst 0, 1) := by decide +kernel
theorem dX5_ruleIndex_1 : decode cX5_ruleIndex 1 = .ok (.istore_n 1, 1) := by decide +kernel
theorem dX5_ruleIndex_2 : decode cX5_ruleIndex 2 = .ok (.iload_n 1, 1) := by decide +kernel
theorem dX5_ruleIndex_3 : decode cX5_ruleIndex 3 = .ok (.bipush 7, 2) := by decide +kernel
theorem dX5_ruleIndex_5 : decode cX5_ruleIndex 5 = .ok (.if_icmp .ge 20, 3) := by decide +kernel
theorem dX5_ruleIndex_8 : decode cX5_ruleIndex 8 = .ok (.getstatic 225, 3) := by decide +kernel
theorem dX5_ruleIndex_11 : decode cX5_ruleIndex 11 = .ok (.iload_n 1, 1) := by decide +kernel
theorem dX5_ruleIndex_12 : decode cX5_ruleIndex 12 = .ok (.caload, 1) := by decide +kernel
theorem dX5_ruleIndex_13 : decode cX5_ruleIndex 13 = .ok (.iload_n 0, 1) := by decide +kernel
theorem dX5_ruleIndex_14 : decode cX5_ruleIndex 14 = .ok (.if_icmp .ne 5, 3) := by decide +kernel
theorem dX5_ruleIndex_17 : decode cX5_ruleIndex 17 = .ok (.iload_n 1, 1) := by decide +kernel
theorem dX5_ruleIndex_18 : decode cX5_ruleIndex 18 = .ok (.ireturn, 1) := by decide +kernel
theorem dX5_ruleIndex_19 : decode cX5_ruleIndex 19 = .ok (.iinc 1 1, 3) := by decide +kernel
theorem dX5_ruleIndex_22 : decode cX5_ruleIndex 22 = .ok (.goto (-20), 3) := by decide +kernel
theorem dX5_ruleIndex_25 : decode cX5_ruleIndex 25 = .ok (.new 150, 3) := by decide +kernel
theorem dX5_ruleIndex_28 : decode cX5_ruleIndex 28 = .ok (.dup, 1) := by decide +kernel
theorem dX5_ruleIndex_29 : decode cX5_ruleIndex 29 = .ok (.ldc 229, 2) := by decide +kernel
theorem dX5_ruleIndex_31 : decode cX5_ruleIndex 31 = .ok (.invokespecial 154, 3) := by decide +kernel
theorem dX5_ruleIndex_34 : decode cX5_ruleIndex 34 = .ok (.athrow, 1) := by decide +kernel
theorem dX5_requireDay_0 : decode cX5_requireDay 0 = .ok (.iload_n 0, 1) := by decide +kernel
theorem dX5_requireDay_1 : decode cX5_requireDay 1 = .ok (.ifCond .lt 10, 3) := by decide +kernel
theorem dX5_requireDay_4 : decode cX5_requireDay 4 = .ok (.iload_n 0, 1) := by decide +kernel
theorem dX5_requireDay_5 : decode cX5_requireDay 5 = .ok (.sipush 360, 3) := by decide +kernel
theorem dX5_requireDay_8 : decode cX5_requireDay 8 = .ok (.if_icmp .lt 13, 3) := by decide +kernel
theorem dX5_requireDay_11 : decode cX5_requireDay 11 = .ok (.new 113, 3) := by decide +kernel
theorem dX5_requireDay_14 : decode cX5_requireDay 14 = .ok (.dup, 1) := by decide +kernel
theorem dX5_requireDay_15 : decode cX5_requireDay 15 = .ok (.ldc 231, 2) := by decide +kernel
theorem dX5_requireDay_17 : decode cX5_requireDay 17 = .ok (.invokespecial 117, 3) := by decide +kernel
theorem dX5_requireDay_20 : decode cX5_requireDay 20 = .ok (.athrow, 1) := by decide +kernel
theorem dX5_requireDay_21 : decode cX5_requireDay 21 = .ok (.return_, 1) := by decide +kernel
theorem dX5_requireMonth_0 : decode cX5_requireMonth 0 = .ok (.iload_n 0, 1) := by decide +kernel
theorem dX5_requireMonth_1 : decode cX5_requireMonth 1 = .ok (.ifCond .lt 9, 3) := by decide +kernel
theorem dX5_requireMonth_4 : decode cX5_requireMonth 4 = .ok (.iload_n 0, 1) := by decide +kernel
theorem dX5_requireMonth_5 : decode cX5_requireMonth 5 = .ok (.bipush 12, 2) := by decide +kernel
theorem dX5_requireMonth_7 : decode cX5_requireMonth 7 = .ok (.if_icmp .lt 13, 3) := by decide +kernel
theorem dX5_requireMonth_10 : decode cX5_requireMonth 10 = .ok (.new 218, 3) := by decide +kernel
theorem dX5_requireMonth_13 : decode cX5_requireMonth 13 = .ok (.dup, 1) := by decide +kernel
theorem dX5_requireMonth_14 : decode cX5_requireMonth 14 = .ok (.ldc 233, 2) := by decide +kernel
theorem dX5_requireMonth_16 : decode cX5_requireMonth 16 = .ok (.invokespecial 222, 3) := by decide +kernel
theorem dX5_requireMonth_19 : decode cX5_requireMonth 19 = .ok (.athrow, 1) := by decide +kernel
theorem dX5_requireMonth_20 : decode cX5_requireMonth 20 = .ok (.return_, 1) := by decide +kernel
theorem dX5_requireNumber_0 : decode cX5_requireNumber 0 = .ok (.iload_n 0, 1) := by decide +kernel
theorem dX5_requireNumber_1 : decode cX5_requireNumber 1 = .ok (.ifCond .lt 10, 3) := by decide +kernel
theorem dX5_requireNumber_4 : decode cX5_requireNumber 4 = .ok (.iload_n 0, 1) := by decide +kernel
theorem dX5_requireNumber_5 : decode cX5_requireNumber 5 = .ok (.sipush 999, 3) := by decide +kernel
theorem dX5_requireNumber_8 : decode cX5_requireNumber 8 = .ok (.if_icmp .le 13, 3) := by decide +kernel
theorem dX5_requireNumber_11 : decode cX5_requireNumber 11 = .ok (.new 113, 3) := by decide +kernel
theorem dX5_requireNumber_14 : decode cX5_requireNumber 14 = .ok (.dup, 1) := by decide +kernel
theorem dX5_requireNumber_15 : decode cX5_requireNumber 15 = .ok (.ldc 235, 2) := by decide +kernel
theorem dX5_requireNumber_17 : decode cX5_requireNumber 17 = .ok (.invokespecial 117, 3) := by decide +kernel
theorem dX5_requireNumber_20 : decode cX5_requireNumber 20 = .ok (.athrow, 1) := by decide +kernel
theorem dX5_requireNumber_21 : decode cX5_requireNumber 21 = .ok (.return_, 1) := by decide +kernel
theorem dX5_requireFact_0 : decode cX5_requireFact 0 = .ok (.iload_n 1, 1) := by decide +kernel
theorem dX5_requireFact_1 : decode cX5_requireFact 1 = .ok (.ifCond .lt 18, 3) := by decide +kernel
theorem dX5_requireFact_4 : decode cX5_requireFact 4 = .ok (.iload_n 1, 1) := by decide +kernel
theorem dX5_requireFact_5 : decode cX5_requireFact 5 = .ok (.sipush 360, 3) := by decide +kernel
theorem dX5_requireFact_8 : decode cX5_requireFact 8 = .ok (.if_icmp .ge 11, 3) := by decide +kernel
theorem dX5_requireFact_11 : decode cX5_requireFact 11 = .ok (.aload_n 0, 1) := by decide +kernel
theorem dX5_requireFact_12 : decode cX5_requireFact 12 = .ok (.iload_n 1, 1) := by decide +kernel
theorem dX5_requireFact_13 : decode cX5_requireFact 13 = .ok (.invokevirtual 237, 3) := by decide +kernel
theorem dX5_requireFact_16 : decode cX5_requireFact 16 = .ok (.ifCond .ne 13, 3) := by decide +kernel
theorem dX5_requireFact_19 : decode cX5_requireFact 19 = .ok (.new 150, 3) := by decide +kernel
theorem dX5_requireFact_22 : decode cX5_requireFact 22 = .ok (.dup, 1) := by decide +kernel
theorem dX5_requireFact_23 : decode cX5_requireFact 23 = .ok (.ldc 241, 2) := by decide +kernel
theorem dX5_requireFact_25 : decode cX5_requireFact 25 = .ok (.invokespecial 154, 3) := by decide +kernel
theorem dX5_requireFact_28 : decode cX5_requireFact 28 = .ok (.athrow, 1) := by decide +kernel
theorem dX5_requireFact_29 : decode cX5_requireFact 29 = .ok (.return_, 1) := by decide +kernel
theorem dX5_tell_0 : decode cX5_tell 0 = .ok (.aload_n 1, 1) := by decide +kernel
theorem dX5_tell_1 : decode cX5_tell 1 = .ok (.iload_n 3, 1) := by decide +kernel
theorem dX5_tell_2 : decode cX5_tell 2 = .ok (.invokevirtual 167, 3) := by decide +kernel
theorem dX5_tell_5 : decode cX5_tell 5 = .ok (.istore 4, 2) := by decide +kernel
theorem dX5_tell_7 : decode cX5_tell 7 = .ok (.aload_n 1, 1) := by decide +kernel
theorem dX5_tell_8 : decode cX5_tell 8 = .ok (.iload_n 3, 1) := by decide +kernel
theorem dX5_tell_9 : decode cX5_tell 9 = .ok (.invokevirtual 237, 3) := by decide +kernel
theorem dX5_tell_12 : decode cX5_tell 12 = .ok (.ifCond .ne 23, 3) := by decide +kernel
theorem dX5_tell_15 : decode cX5_tell 15 = .ok (.aload_n 0, 1) := by decide +kernel
theorem dX5_tell_16 : decode cX5_tell 16 = .ok (.getfield 27, 3) := by decide +kernel
theorem dX5_tell_19 : decode cX5_tell 19 = .ok (.iload_n 3, 1) := by decide +kernel
theorem dX5_tell_20 : decode cX5_tell 20 = .ok (.dup2, 1) := by decide +kernel
theorem dX5_tell_21 : decode cX5_tell 21 = .ok (.iaload, 1) := by decide +kernel
theorem dX5_tell_22 : decode cX5_tell 22 = .ok (.iconst 1, 1) := by decide +kernel
theorem dX5_tell_23 : decode cX5_tell 23 = .ok (.iadd, 1) := by decide +kernel
theorem dX5_tell_24 : decode cX5_tell 24 = .ok (.iastore, 1) := by decide +kernel
theorem dX5_tell_25 : decode cX5_tell 25 = .ok (.aload_n 0, 1) := by decide +kernel
theorem dX5_tell_26 : decode cX5_tell 26 = .ok (.dup, 1) := by decide +kernel
theorem dX5_tell_27 : decode cX5_tell 27 = .ok (.getfield 208, 3) := by decide +kernel
theorem dX5_tell_30 : decode cX5_tell 30 = .ok (.iconst 1, 1) := by decide +kernel
theorem dX5_tell_31 : decode cX5_tell 31 = .ok (.iadd, 1) := by decide +kernel
theorem dX5_tell_32 : decode cX5_tell 32 = .ok (.putfield 208, 3) := by decide +kernel
theorem dX5_tell_35 : decode cX5_tell 35 = .ok (.aload_n 1, 1) := by decide +kernel
theorem dX5_tell_36 : decode cX5_tell 36 = .ok (.iload_n 2, 1) := by decide +kernel
theorem dX5_tell_37 : decode cX5_tell 37 = .ok (.iload_n 3, 1) := by decide +kernel
theorem dX5_tell_38 : decode cX5_tell 38 = .ok (.invokevirtual 243, 3) := by decide +kernel
theorem dX5_tell_41 : decode cX5_tell 41 = .ok (.iload 4, 2) := by decide +kernel
theorem dX5_tell_43 : decode cX5_tell 43 = .ok (.ireturn, 1) := by decide +kernel
theorem dX5_takeBack_0 : decode cX5_takeBack 0 = .ok (.aload_n 1, 1) := by decide +kernel
theorem dX5_takeBack_1 : decode cX5_takeBack 1 = .ok (.iload_n 2, 1) := by decide +kernel
theorem dX5_takeBack_2 : decode cX5_takeBack 2 = .ok (.invokevirtual 167, 3) := by decide +kernel
theorem dX5_takeBack_5 : decode cX5_takeBack 5 = .ok (.istore_n 3, 1) := by decide +kernel
theorem dX5_takeBack_6 : decode cX5_takeBack 6 = .ok (.aload_n 0, 1) := by decide +kernel
theorem dX5_takeBack_7 : decode cX5_takeBack 7 = .ok (.getfield 27, 3) := by decide +kernel
theorem dX5_takeBack_10 : decode cX5_takeBack 10 = .ok (.iload_n 2, 1) := by decide +kernel
theorem dX5_takeBack_11 : decode cX5_takeBack 11 = .ok (.dup2, 1) := by decide +kernel
theorem dX5_takeBack_12 : decode cX5_takeBack 12 = .ok (.iaload, 1) := by decide +kernel
theorem dX5_takeBack_13 : decode cX5_takeBack 13 = .ok (.iconst 1, 1) := by decide +kernel
theorem dX5_takeBack_14 : decode cX5_takeBack 14 = .ok (.isub, 1) := by decide +kernel
theorem dX5_takeBack_15 : decode cX5_takeBack 15 = .ok (.iastore, 1) := by decide +kernel
theorem dX5_takeBack_16 : decode cX5_takeBack 16 = .ok (.aload_n 0, 1) := by decide +kernel
theorem dX5_takeBack_17 : decode cX5_takeBack 17 = .ok (.dup, 1) := by decide +kernel
theorem dX5_takeBack_18 : decode cX5_takeBack 18 = .ok (.getfield 208, 3) := by decide +kernel
theorem dX5_takeBack_21 : decode cX5_takeBack 21 = .ok (.iconst 1, 1) := by decide +kernel
theorem dX5_takeBack_22 : decode cX5_takeBack 22 = .ok (.isub, 1) := by decide +kernel
theorem dX5_takeBack_23 : decode cX5_takeBack 23 = .ok (.putfield 208, 3) := by decide +kernel
theorem dX5_takeBack_26 : decode cX5_takeBack 26 = .ok (.aload_n 1, 1) := by decide +kernel
theorem dX5_takeBack_27 : decode cX5_takeBack 27 = .ok (.iload_n 2, 1) := by decide +kernel
theorem dX5_takeBack_28 : decode cX5_takeBack 28 = .ok (.invokevirtual 246, 3) := by decide +kernel
theorem dX5_takeBack_31 : decode cX5_takeBack 31 = .ok (.iload_n 3, 1) := by decide +kernel
theorem dX5_takeBack_32 : decode cX5_takeBack 32 = .ok (.ireturn, 1) := by decide +kernel
theorem dX5_findResidents_0 : decode cX5_findResidents 0 = .ok (.aload_n 0, 1) := by decide +kernel
theorem dX5_findResidents_1 : decode cX5_findResidents 1 = .ok (.getfield 34, 3) := by decide +kernel
theorem dX5_findResidents_4 : decode cX5_findResidents 4 = .ok (.invokevirtual 249, 3) := by decide +kernel
theorem dX5_findResidents_7 : decode cX5_findResidents 7 = .ok (.iconst 0, 1) := by decide +kernel
theorem dX5_findResidents_8 : decode cX5_findResidents 8 = .ok (.istore_n 3, 1) := by decide +kernel
theorem dX5_findResidents_9 : decode cX5_findResidents 9 = .ok (.iload_n 3, 1) := by decide +kernel
theorem dX5_findResidents_10 : decode cX5_findResidents 10 = .ok (.aload_n 0, 1) := by decide +kernel
theorem dX5_findResidents_11 : decode cX5_findResidents 11 = .ok (.getfield 63, 3) := by decide +kernel
theorem dX5_findResidents_14 : decode cX5_findResidents 14 = .ok (.if_icmp .ge 40, 3) := by decide +kernel
theorem dX5_findResidents_17 : decode cX5_findResidents 17 = .ok (.aload_n 0, 1) := by decide +kernel
theorem dX5_findResidents_18 : decode cX5_findResidents 18 = .ok (.getfield 11, 3) := by decide +kernel
theorem dX5_findResidents_21 : decode cX5_findResidents 21 = .ok (.iload_n 3, 1) := by decide +kernel
theorem dX5_findResidents_22 : decode cX5_findResidents 22 = .ok (.aaload, 1) := by decide +kernel
theorem dX5_findResidents_23 : decode cX5_findResidents 23 = .ok (.getfield 92, 3) := by decide +kernel
theorem dX5_findResidents_26 : decode cX5_findResidents 26 = .ok (.iload_n 2, 1) := by decide +kernel
theorem dX5_findResidents_27 : decode cX5_findResidents 27 = .ok (.invokevirtual 167, 3) := by decide +kernel
theorem dX5_findResidents_30 : decode cX5_findResidents 30 = .ok (.iload_n 1, 1) := by decide +kernel
theorem dX5_findResidents_31 : decode cX5_findResidents 31 = .ok (.if_icmp .ne 17, 3) := by decide +kernel
theorem dX5_findResidents_34 : decode cX5_findResidents 34 = .ok (.aload_n 0, 1) := by decide +kernel
theorem dX5_findResidents_35 : decode cX5_findResidents 35 = .ok (.getfield 34, 3) := by decide +kernel
theorem dX5_findResidents_38 : decode cX5_findResidents 38 = .ok (.aload_n 0, 1) := by decide +kernel
theorem dX5_findResidents_39 : decode cX5_findResidents 39 = .ok (.getfield 11, 3) := by decide +kernel
theorem dX5_findResidents_42 : decode cX5_findResidents 42 = .ok (.iload_n 3, 1) := by decide +kernel
theorem dX5_findResidents_43 : decode cX5_findResidents 43 = .ok (.aaload, 1) := by decide +kernel
theorem dX5_findResidents_44 : decode cX5_findResidents 44 = .ok (.iload_n 2, 1) := by decide +kernel
theorem dX5_findResidents_45 : decode cX5_findResidents 45 = .ok (.invokevirtual 252, 3) := by decide +kernel
theorem dX5_findResidents_48 : decode cX5_findResidents 48 = .ok (.iinc 3 1, 3) := by decide +kernel
theorem dX5_findResidents_51 : decode cX5_findResidents 51 = .ok (.goto (-42), 3) := by decide +kernel
theorem dX5_findResidents_54 : decode cX5_findResidents 54 = .ok (.return_, 1) := by decide +kernel
theorem dX5_findAmounts_0 : decode cX5_findAmounts 0 = .ok (.aload_n 0, 1) := by decide +kernel
theorem dX5_findAmounts_1 : decode cX5_findAmounts 1 = .ok (.iload_n 1, 1) := by decide +kernel
theorem dX5_findAmounts_2 : decode cX5_findAmounts 2 = .ok (.iload_n 2, 1) := by decide +kernel
theorem dX5_findAmounts_3 : decode cX5_findAmounts 3 = .ok (.invokevirtual 171, 3) := by decide +kernel
theorem dX5_findAmounts_6 : decode cX5_findAmounts 6 = .ok (.aload_n 0, 1) := by decide +kernel
theorem dX5_findAmounts_7 : decode cX5_findAmounts 7 = .ok (.getfield 41, 3) := by decide +kernel
theorem dX5_findAmounts_10 : decode cX5_findAmounts 10 = .ok (.invokevirtual 256, 3) := by decide +kernel
theorem dX5_findAmounts_13 : decode cX5_findAmounts 13 = .ok (.aload_n 0, 1) := by decide +kernel
theorem dX5_findAmounts_14 : decode cX5_findAmounts 14 = .ok (.getfield 34, 3) := by decide +kernel
theorem dX5_findAmounts_17 : decode cX5_findAmounts 17 = .ok (.getfield 175, 3) := by decide +kernel
theorem dX5_findAmounts_20 : decode cX5_findAmounts 20 = .ok (.ifCond .ne 4, 3) := by decide +kernel
theorem dX5_findAmounts_23 : decode cX5_findAmounts 23 = .ok (.return_, 1) := by decide +kernel
theorem dX5_findAmounts_24 : decode cX5_findAmounts 24 = .ok (.aload_n 0, 1) := by decide +kernel
theorem dX5_findAmounts_25 : decode cX5_findAmounts 25 = .ok (.getfield 41, 3) := by decide +kernel
theorem dX5_findAmounts_28 : decode cX5_findAmounts 28 = .ok (.aload_n 0, 1) := by decide +kernel
theorem dX5_findAmounts_29 : decode cX5_findAmounts 29 = .ok (.getfield 34, 3) := by decide +kernel
theorem dX5_findAmounts_32 : decode cX5_findAmounts 32 = .ok (.getfield 175, 3) := by decide +kernel
theorem dX5_findAmounts_35 : decode cX5_findAmounts 35 = .ok (.aload_n 0, 1) := by decide +kernel
theorem dX5_findAmounts_36 : decode cX5_findAmounts 36 = .ok (.getfield 23, 3) := by decide +kernel
theorem dX5_findAmounts_39 : decode cX5_findAmounts 39 = .ok (.iconst 0, 1) := by decide +kernel
theorem dX5_findAmounts_40 : decode cX5_findAmounts 40 = .ok (.aaload, 1) := by decide +kernel
theorem dX5_findAmounts_41 : decode cX5_findAmounts 41 = .ok (.iload_n 2, 1) := by decide +kernel
theorem dX5_findAmounts_42 : decode cX5_findAmounts 42 = .ok (.invokevirtual 167, 3) := by decide +kernel
theorem dX5_findAmounts_45 : decode cX5_findAmounts 45 = .ok (.imul, 1) := by decide +kernel
theorem dX5_findAmounts_46 : decode cX5_findAmounts 46 = .ok (.putfield 186, 3) := by decide +kernel
theorem dX5_findAmounts_49 : decode cX5_findAmounts 49 = .ok (.aload_n 0, 1) := by decide +kernel
theorem dX5_findAmounts_50 : decode cX5_findAmounts 50 = .ok (.getfield 41, 3) := by decide +kernel
theorem dX5_findAmounts_53 : decode cX5_findAmounts 53 = .ok (.aload_n 0, 1) := by decide +kernel
theorem dX5_findAmounts_54 : decode cX5_findAmounts 54 = .ok (.getfield 34, 3) := by decide +kernel
theorem dX5_findAmounts_57 : decode cX5_findAmounts 57 = .ok (.getfield 178, 3) := by decide +kernel
theorem dX5_findAmounts_60 : decode cX5_findAmounts 60 = .ok (.aload_n 0, 1) := by decide +kernel
theorem dX5_findAmounts_61 : decode cX5_findAmounts 61 = .ok (.getfield 23, 3) := by decide +kernel
theorem dX5_findAmounts_64 : decode cX5_findAmounts 64 = .ok (.iconst 1, 1) := by decide +kernel
theorem dX5_findAmounts_65 : decode cX5_findAmounts 65 = .ok (.aaload, 1) := by decide +kernel
theorem dX5_findAmounts_66 : decode cX5_findAmounts 66 = .ok (.iload_n 2, 1) := by decide +kernel
theorem dX5_findAmounts_67 : decode cX5_findAmounts 67 = .ok (.invokevirtual 167, 3) := by decide +kernel
theorem dX5_findAmounts_70 : decode cX5_findAmounts 70 = .ok (.imul, 1) := by decide +kernel
theorem dX5_findAmounts_71 : decode cX5_findAmounts 71 = .ok (.putfield 189, 3) := by decide +kernel
theorem dX5_findAmounts_74 : decode cX5_findAmounts 74 = .ok (.aload_n 0, 1) := by decide +kernel
theorem dX5_findAmounts_75 : decode cX5_findAmounts 75 = .ok (.getfield 34, 3) := by decide +kernel
theorem dX5_findAmounts_78 : decode cX5_findAmounts 78 = .ok (.getfield 178, 3) := by decide +kernel
theorem dX5_findAmounts_81 : decode cX5_findAmounts 81 = .ok (.ifCond .le 25, 3) := by decide +kernel
theorem dX5_findAmounts_84 : decode cX5_findAmounts 84 = .ok (.aload_n 0, 1) := by decide +kernel
theorem dX5_findAmounts_85 : decode cX5_findAmounts 85 = .ok (.getfield 41, 3) := by decide +kernel
theorem dX5_findAmounts_88 : decode cX5_findAmounts 88 = .ok (.dup, 1) := by decide +kernel
theorem dX5_findAmounts_89 : decode cX5_findAmounts 89 = .ok (.getfield 189, 3) := by decide +kernel
theorem dX5_findAmounts_92 : decode cX5_findAmounts 92 = .ok (.aload_n 0, 1) := by decide +kernel
theorem dX5_findAmounts_93 : decode cX5_findAmounts 93 = .ok (.getfield 23, 3) := by decide +kernel
theorem dX5_findAmounts_96 : decode cX5_findAmounts 96 = .ok (.iconst 2, 1) := by decide +kernel
theorem dX5_findAmounts_97 : decode cX5_findAmounts 97 = .ok (.aaload, 1) := by decide +kernel
theorem dX5_findAmounts_98 : decode cX5_findAmounts 98 = .ok (.iload_n 2, 1) := by decide +kernel
theorem dX5_findAmounts_99 : decode cX5_findAmounts 99 = .ok (.invokevirtual 167, 3) := by decide +kernel
theorem dX5_findAmounts_102 : decode cX5_findAmounts 102 = .ok (.iadd, 1) := by decide +kernel
theorem dX5_findAmounts_103 : decode cX5_findAmounts 103 = .ok (.putfield 189, 3) := by decide +kernel
theorem dX5_findAmounts_106 : decode cX5_findAmounts 106 = .ok (.aload_n 0, 1) := by decide +kernel
theorem dX5_findAmounts_107 : decode cX5_findAmounts 107 = .ok (.getfield 41, 3) := by decide +kernel
theorem dX5_findAmounts_110 : decode cX5_findAmounts 110 = .ok (.aload_n 0, 1) := by decide +kernel
theorem dX5_findAmounts_111 : decode cX5_findAmounts 111 = .ok (.getfield 17, 3) := by decide +kernel
theorem dX5_findAmounts_114 : decode cX5_findAmounts 114 = .ok (.iload_n 1, 1) := by decide +kernel
theorem dX5_findAmounts_115 : decode cX5_findAmounts 115 = .ok (.aaload, 1) := by decide +kernel
theorem dX5_findAmounts_116 : decode cX5_findAmounts 116 = .ok (.getfield 103, 3) := by decide +kernel
theorem dX5_findAmounts_119 : decode cX5_findAmounts 119 = .ok (.iload_n 2, 1) := by decide +kernel
theorem dX5_findAmounts_120 : decode cX5_findAmounts 120 = .ok (.invokevirtual 167, 3) := by decide +kernel
theorem dX5_findAmounts_123 : decode cX5_findAmounts 123 = .ok (.aload_n 0, 1) := by decide +kernel
theorem dX5_findAmounts_124 : decode cX5_findAmounts 124 = .ok (.getfield 23, 3) := by decide +kernel
theorem dX5_findAmounts_127 : decode cX5_findAmounts 127 = .ok (.iconst 3, 1) := by decide +kernel
theorem dX5_findAmounts_128 : decode cX5_findAmounts 128 = .ok (.aaload, 1) := by decide +kernel
theorem dX5_findAmounts_129 : decode cX5_findAmounts 129 = .ok (.iload_n 2, 1) := by decide +kernel
theorem dX5_findAmounts_130 : decode cX5_findAmounts 130 = .ok (.invokevirtual 167, 3) := by decide +kernel
theorem dX5_findAmounts_133 : decode cX5_findAmounts 133 = .ok (.invokestatic 257, 3) := by decide +kernel
theorem dX5_findAmounts_136 : decode cX5_findAmounts 136 = .ok (.putfield 192, 3) := by decide +kernel
theorem dX5_findAmounts_139 : decode cX5_findAmounts 139 = .ok (.aload_n 0, 1) := by decide +kernel
theorem dX5_findAmounts_140 : decode cX5_findAmounts 140 = .ok (.getfield 34, 3) := by decide +kernel
theorem dX5_findAmounts_143 : decode cX5_findAmounts 143 = .ok (.getfield 181, 3) := by decide +kernel
theorem dX5_findAmounts_146 : decode cX5_findAmounts 146 = .ok (.aload_n 0, 1) := by decide +kernel
theorem dX5_findAmounts_147 : decode cX5_findAmounts 147 = .ok (.getfield 23, 3) := by decide +kernel
theorem dX5_findAmounts_150 : decode cX5_findAmounts 150 = .ok (.iconst 4, 1) := by decide +kernel
theorem dX5_findAmounts_151 : decode cX5_findAmounts 151 = .ok (.aaload, 1) := by decide +kernel
theorem dX5_findAmounts_152 : decode cX5_findAmounts 152 = .ok (.iload_n 2, 1) := by decide +kernel
theorem dX5_findAmounts_153 : decode cX5_findAmounts 153 = .ok (.invokevirtual 167, 3) := by decide +kernel
theorem dX5_findAmounts_156 : decode cX5_findAmounts 156 = .ok (.isub, 1) := by decide +kernel
theorem dX5_findAmounts_157 : decode cX5_findAmounts 157 = .ok (.istore_n 3, 1) := by decide +kernel
theorem dX5_findAmounts_158 : decode cX5_findAmounts 158 = .ok (.iload_n 3, 1) := by decide +kernel
theorem dX5_findAmounts_159 : decode cX5_findAmounts 159 = .ok (.ifCond .le 25, 3) := by decide +kernel
theorem dX5_findAmounts_162 : decode cX5_findAmounts 162 = .ok (.aload_n 0, 1) := by decide +kernel
theorem dX5_findAmounts_163 : decode cX5_findAmounts 163 = .ok (.getfield 41, 3) := by decide +kernel
theorem dX5_findAmounts_166 : decode cX5_findAmounts 166 = .ok (.iload_n 3, 1) := by decide +kernel
theorem dX5_findAmounts_167 : decode cX5_findAmounts 167 = .ok (.aload_n 0, 1) := by decide +kernel
theorem dX5_findAmounts_168 : decode cX5_findAmounts 168 = .ok (.getfield 23, 3) := by decide +kernel
theorem dX5_findAmounts_171 : decode cX5_findAmounts 171 = .ok (.iconst 5, 1) := by decide +kernel
theorem dX5_findAmounts_172 : decode cX5_findAmounts 172 = .ok (.aaload, 1) := by decide +kernel
theorem dX5_findAmounts_173 : decode cX5_findAmounts 173 = .ok (.iload_n 2, 1) := by decide +kernel
theorem dX5_findAmounts_174 : decode cX5_findAmounts 174 = .ok (.invokevirtual 167, 3) := by decide +kernel
theorem dX5_findAmounts_177 : decode cX5_findAmounts 177 = .ok (.imul, 1) := by decide +kernel
theorem dX5_findAmounts_178 : decode cX5_findAmounts 178 = .ok (.bipush 100, 2) := by decide +kernel
theorem dX5_findAmounts_180 : decode cX5_findAmounts 180 = .ok (.idiv, 1) := by decide +kernel
theorem dX5_findAmounts_181 : decode cX5_findAmounts 181 = .ok (.invokevirtual 262, 3) := by decide +kernel
theorem dX5_findAmounts_184 : decode cX5_findAmounts 184 = .ok (.aload_n 0, 1) := by decide +kernel
theorem dX5_findAmounts_185 : decode cX5_findAmounts 185 = .ok (.getfield 41, 3) := by decide +kernel
theorem dX5_findAmounts_188 : decode cX5_findAmounts 188 = .ok (.aload_n 0, 1) := by decide +kernel
theorem dX5_findAmounts_189 : decode cX5_findAmounts 189 = .ok (.getfield 23, 3) := by decide +kernel
theorem dX5_findAmounts_192 : decode cX5_findAmounts 192 = .ok (.bipush 6, 2) := by decide +kernel
theorem dX5_findAmounts_194 : decode cX5_findAmounts 194 = .ok (.aaload, 1) := by decide +kernel
theorem dX5_findAmounts_195 : decode cX5_findAmounts 195 = .ok (.iload_n 2, 1) := by decide +kernel
theorem dX5_findAmounts_196 : decode cX5_findAmounts 196 = .ok (.invokevirtual 167, 3) := by decide +kernel
theorem dX5_findAmounts_199 : decode cX5_findAmounts 199 = .ok (.invokevirtual 265, 3) := by decide +kernel
theorem dX5_findAmounts_202 : decode cX5_findAmounts 202 = .ok (.return_, 1) := by decide +kernel
theorem dX5_sumByStretches_0 : decode cX5_sumByStretches 0 = .ok (.iload_n 2, 1) := by decide +kernel
theorem dX5_sumByStretches_1 : decode cX5_sumByStretches 1 = .ok (.bipush 30, 2) := by decide +kernel
theorem dX5_sumByStretches_3 : decode cX5_sumByStretches 3 = .ok (.imul, 1) := by decide +kernel
theorem dX5_sumByStretches_4 : decode cX5_sumByStretches 4 = .ok (.istore_n 3, 1) := by decide +kernel
theorem dX5_sumByStretches_5 : decode cX5_sumByStretches 5 = .ok (.iload_n 3, 1) := by decide +kernel
theorem dX5_sumByStretches_6 : decode cX5_sumByStretches 6 = .ok (.bipush 30, 2) := by decide +kernel
theorem dX5_sumByStretches_8 : decode cX5_sumByStretches 8 = .ok (.iadd, 1) := by decide +kernel
theorem dX5_sumByStretches_9 : decode cX5_sumByStretches 9 = .ok (.istore 4, 2) := by decide +kernel
theorem dX5_sumByStretches_11 : decode cX5_sumByStretches 11 = .ok (.iconst 0, 1) := by decide +kernel
theorem dX5_sumByStretches_12 : decode cX5_sumByStretches 12 = .ok (.istore 5, 2) := by decide +kernel
theorem dX5_sumByStretches_14 : decode cX5_sumByStretches 14 = .ok (.iload_n 3, 1) := by decide +kernel
theorem dX5_sumByStretches_15 : decode cX5_sumByStretches 15 = .ok (.iconst 1, 1) := by decide +kernel
theorem dX5_sumByStretches_16 : decode cX5_sumByStretches 16 = .ok (.iadd, 1) := by decide +kernel
theorem dX5_sumByStretches_17 : decode cX5_sumByStretches 17 = .ok (.istore 6, 2) := by decide +kernel
theorem dX5_sumByStretches_19 : decode cX5_sumByStretches 19 = .ok (.iload 6, 2) := by decide +kernel
theorem dX5_sumByStretches_21 : decode cX5_sumByStretches 21 = .ok (.iload 4, 2) := by decide +kernel
theorem dX5_sumByStretches_23 : decode cX5_sumByStretches 23 = .ok (.if_icmp .gt 52, 3) := by decide +kernel
theorem dX5_sumByStretches_26 : decode cX5_sumByStretches 26 = .ok (.iload 6, 2) := by decide +kernel
theorem dX5_sumByStretches_28 : decode cX5_sumByStretches 28 = .ok (.iload 4, 2) := by decide +kernel
theorem dX5_sumByStretches_30 : decode cX5_sumByStretches 30 = .ok (.if_icmp .eq 13, 3) := by decide +kernel
theorem dX5_sumByStretches_33 : decode cX5_sumByStretches 33 = .ok (.aload_n 0, 1) := by decide +kernel
theorem dX5_sumByStretches_34 : decode cX5_sumByStretches 34 = .ok (.getfield 27, 3) := by decide +kernel
theorem dX5_sumByStretches_37 : decode cX5_sumByStretches 37 = .ok (.iload 6, 2) := by decide +kernel
theorem dX5_sumByStretches_39 : decode cX5_sumByStretches 39 = .ok (.iaload, 1) := by decide +kernel
theorem dX5_sumByStretches_40 : decode cX5_sumByStretches 40 = .ok (.ifCond .le 29, 3) := by decide +kernel
theorem dX5_sumByStretches_43 : decode cX5_sumByStretches 43 = .ok (.aload_n 0, 1) := by decide +kernel
theorem dX5_sumByStretches_44 : decode cX5_sumByStretches 44 = .ok (.iload_n 1, 1) := by decide +kernel
theorem dX5_sumByStretches_45 : decode cX5_sumByStretches 45 = .ok (.iload_n 3, 1) := by decide +kernel
theorem dX5_sumByStretches_46 : decode cX5_sumByStretches 46 = .ok (.invokevirtual 183, 3) := by decide +kernel
theorem dX5_sumByStretches_49 : decode cX5_sumByStretches 49 = .ok (.iload 5, 2) := by decide +kernel
theorem dX5_sumByStretches_51 : decode cX5_sumByStretches 51 = .ok (.aload_n 0, 1) := by decide +kernel
theorem dX5_sumByStretches_52 : decode cX5_sumByStretches 52 = .ok (.getfield 41, 3) := by decide +kernel
theorem dX5_sumByStretches_55 : decode cX5_sumByStretches 55 = .ok (.invokevirtual 204, 3) := by decide +kernel
theorem dX5_sumByStretches_58 : decode cX5_sumByStretches 58 = .ok (.iload 6, 2) := by decide +kernel
theorem dX5_sumByStretches_60 : decode cX5_sumByStretches 60 = .ok (.iload_n 3, 1) := by decide +kernel
theorem dX5_sumByStretches_61 : decode cX5_sumByStretches 61 = .ok (.isub, 1) := by decide +kernel
theorem dX5_sumByStretches_62 : decode cX5_sumByStretches 62 = .ok (.imul, 1) := by decide +kernel
theorem dX5_sumByStretches_63 : decode cX5_sumByStretches 63 = .ok (.iadd, 1) := by decide +kernel
theorem dX5_sumByStretches_64 : decode cX5_sumByStretches 64 = .ok (.istore 5, 2) := by decide +kernel
theorem dX5_sumByStretches_66 : decode cX5_sumByStretches 66 = .ok (.iload 6, 2) := by decide +kernel
theorem dX5_sumByStretches_68 : decode cX5_sumByStretches 68 = .ok (.istore_n 3, 1) := by decide +kernel
theorem dX5_sumByStretches_69 : decode cX5_sumByStretches 69 = .ok (.iinc 6 1, 3) := by decide +kernel
theorem dX5_sumByStretches_72 : decode cX5_sumByStretches 72 = .ok (.goto (-53), 3) := by decide +kernel
theorem dX5_sumByStretches_75 : decode cX5_sumByStretches 75 = .ok (.iload 5, 2) := by decide +kernel
theorem dX5_sumByStretches_77 : decode cX5_sumByStretches 77 = .ok (.ireturn, 1) := by decide +kernel
theorem dX5_payTo_0 : decode cX5_payTo 0 = .ok (.aload_n 0, 1) := by decide +kernel
theorem dX5_payTo_1 : decode cX5_payTo 1 = .ok (.getfield 17, 3) := by decide +kernel
theorem dX5_payTo_4 : decode cX5_payTo 4 = .ok (.iload_n 1, 1) := by decide +kernel
theorem dX5_payTo_5 : decode cX5_payTo 5 = .ok (.aaload, 1) := by decide +kernel
theorem dX5_payTo_6 : decode cX5_payTo 6 = .ok (.astore_n 3, 1) := by decide +kernel
theorem dX5_payTo_7 : decode cX5_payTo 7 = .ok (.iconst 0, 1) := by decide +kernel
theorem dX5_payTo_8 : decode cX5_payTo 8 = .ok (.istore 4, 2) := by decide +kernel
theorem dX5_payTo_10 : decode cX5_payTo 10 = .ok (.iload 4, 2) := by decide +kernel
theorem dX5_payTo_12 : decode cX5_payTo 12 = .ok (.iload_n 2, 1) := by decide +kernel
theorem dX5_payTo_13 : decode cX5_payTo 13 = .ok (.if_icmp .gt 23, 3) := by decide +kernel
theorem dX5_payTo_16 : decode cX5_payTo 16 = .ok (.aload_n 0, 1) := by decide +kernel
theorem dX5_payTo_17 : decode cX5_payTo 17 = .ok (.getfield 45, 3) := by decide +kernel
theorem dX5_payTo_20 : decode cX5_payTo 20 = .ok (.iload 4, 2) := by decide +kernel
theorem dX5_payTo_22 : decode cX5_payTo 22 = .ok (.aload_n 0, 1) := by decide +kernel
theorem dX5_payTo_23 : decode cX5_payTo 23 = .ok (.iload_n 1, 1) := by decide +kernel
theorem dX5_payTo_24 : decode cX5_payTo 24 = .ok (.iload 4, 2) := by decide +kernel
theorem dX5_payTo_26 : decode cX5_payTo 26 = .ok (.invokevirtual 161, 3) := by decide +kernel
theorem dX5_payTo_29 : decode cX5_payTo 29 = .ok (.iastore, 1) := by decide +kernel
theorem dX5_payTo_30 : decode cX5_payTo 30 = .ok (.iinc 4 1, 3) := by decide +kernel
theorem dX5_payTo_33 : decode cX5_payTo 33 = .ok (.goto (-23), 3) := by decide +kernel
theorem dX5_payTo_36 : decode cX5_payTo 36 = .ok (.aload_n 3, 1) := by decide +kernel
theorem dX5_payTo_37 : decode cX5_payTo 37 = .ok (.iload_n 2, 1) := by decide +kernel
theorem dX5_payTo_38 : decode cX5_payTo 38 = .ok (.aload_n 0, 1) := by decide +kernel
theorem dX5_payTo_39 : decode cX5_payTo 39 = .ok (.getfield 45, 3) := by decide +kernel
theorem dX5_payTo_42 : decode cX5_payTo 42 = .ok (.invokevirtual 268, 3) := by decide +kernel
theorem dX5_payTo_45 : decode cX5_payTo 45 = .ok (.istore 4, 2) := by decide +kernel
theorem dX5_payTo_47 : decode cX5_payTo 47 = .ok (.iload 4, 2) := by decide +kernel
theorem dX5_payTo_49 : decode cX5_payTo 49 = .ok (.ifCond .gt 26, 3) := by decide +kernel
theorem dX5_payTo_52 : decode cX5_payTo 52 = .ok (.aload_n 0, 1) := by decide +kernel
theorem dX5_payTo_53 : decode cX5_payTo 53 = .ok (.getfield 45, 3) := by decide +kernel
theorem dX5_payTo_56 : decode cX5_payTo 56 = .ok (.iload_n 2, 1) := by decide +kernel
theorem dX5_payTo_57 : decode cX5_payTo 57 = .ok (.iaload, 1) := by decide +kernel
theorem dX5_payTo_58 : decode cX5_payTo 58 = .ok (.iload 4, 2) := by decide +kernel
theorem dX5_payTo_60 : decode cX5_payTo 60 = .ok (.isub, 1) := by decide +kernel
theorem dX5_payTo_61 : decode cX5_payTo 61 = .ok (.istore 5, 2) := by decide +kernel
theorem dX5_payTo_63 : decode cX5_payTo 63 = .ok (.aload_n 3, 1) := by decide +kernel
theorem dX5_payTo_64 : decode cX5_payTo 64 = .ok (.iload_n 2, 1) := by decide +kernel
theorem dX5_payTo_65 : decode cX5_payTo 65 = .ok (.aload_n 0, 1) := by decide +kernel
theorem dX5_payTo_66 : decode cX5_payTo 66 = .ok (.getfield 45, 3) := by decide +kernel
theorem dX5_payTo_69 : decode cX5_payTo 69 = .ok (.invokevirtual 272, 3) := by decide +kernel
theorem dX5_payTo_72 : decode cX5_payTo 72 = .ok (.goto 52, 3) := by decide +kernel
theorem dX5_payTo_75 : decode cX5_payTo 75 = .ok (.iload 4, 2) := by decide +kernel
theorem dX5_payTo_77 : decode cX5_payTo 77 = .ok (.aload_n 0, 1) := by decide +kernel
theorem dX5_payTo_78 : decode cX5_payTo 78 = .ok (.getfield 45, 3) := by decide +kernel
theorem dX5_payTo_81 : decode cX5_payTo 81 = .ok (.iload_n 2, 1) := by decide +kernel
theorem dX5_payTo_82 : decode cX5_payTo 82 = .ok (.iaload, 1) := by decide +kernel
theorem dX5_payTo_83 : decode cX5_payTo 83 = .ok (.iconst 5, 1) := by decide +kernel
theorem dX5_payTo_84 : decode cX5_payTo 84 = .ok (.idiv, 1) := by decide +kernel
theorem dX5_payTo_85 : decode cX5_payTo 85 = .ok (.invokestatic 257, 3) := by decide +kernel
theorem dX5_payTo_88 : decode cX5_payTo 88 = .ok (.istore 6, 2) := by decide +kernel
theorem dX5_payTo_90 : decode cX5_payTo 90 = .ok (.aload_n 0, 1) := by decide +kernel
theorem dX5_payTo_91 : decode cX5_payTo 91 = .ok (.getfield 45, 3) := by decide +kernel
theorem dX5_payTo_94 : decode cX5_payTo 94 = .ok (.iload_n 2, 1) := by decide +kernel
theorem dX5_payTo_95 : decode cX5_payTo 95 = .ok (.iaload, 1) := by decide +kernel
theorem dX5_payTo_96 : decode cX5_payTo 96 = .ok (.iload 6, 2) := by decide +kernel
theorem dX5_payTo_98 : decode cX5_payTo 98 = .ok (.isub, 1) := by decide +kernel
theorem dX5_payTo_99 : decode cX5_payTo 99 = .ok (.istore 5, 2) := by decide +kernel
theorem dX5_payTo_101 : decode cX5_payTo 101 = .ok (.aload_n 3, 1) := by decide +kernel
theorem dX5_payTo_102 : decode cX5_payTo 102 = .ok (.iload_n 2, 1) := by decide +kernel
theorem dX5_payTo_103 : decode cX5_payTo 103 = .ok (.aload_n 0, 1) := by decide +kernel
theorem dX5_payTo_104 : decode cX5_payTo 104 = .ok (.getfield 45, 3) := by decide +kernel
theorem dX5_payTo_107 : decode cX5_payTo 107 = .ok (.iload 6, 2) := by decide +kernel
theorem dX5_payTo_109 : decode cX5_payTo 109 = .ok (.invokevirtual 276, 3) := by decide +kernel
theorem dX5_payTo_112 : decode cX5_payTo 112 = .ok (.aload_n 0, 1) := by decide +kernel
theorem dX5_payTo_113 : decode cX5_payTo 113 = .ok (.dup, 1) := by decide +kernel
theorem dX5_payTo_114 : decode cX5_payTo 114 = .ok (.getfield 164, 3) := by decide +kernel
theorem dX5_payTo_117 : decode cX5_payTo 117 = .ok (.iload 6, 2) := by decide +kernel
theorem dX5_payTo_119 : decode cX5_payTo 119 = .ok (.i2l, 1) := by decide +kernel
theorem dX5_payTo_120 : decode cX5_payTo 120 = .ok (.ladd, 1) := by decide +kernel
theorem dX5_payTo_121 : decode cX5_payTo 121 = .ok (.putfield 164, 3) := by decide +kernel
theorem dX5_payTo_124 : decode cX5_payTo 124 = .ok (.aload_n 3, 1) := by decide +kernel
theorem dX5_payTo_125 : decode cX5_payTo 125 = .ok (.getfield 155, 3) := by decide +kernel
theorem dX5_payTo_128 : decode cX5_payTo 128 = .ok (.iload_n 2, 1) := by decide +kernel
theorem dX5_payTo_129 : decode cX5_payTo 129 = .ok (.iload 5, 2) := by decide +kernel
theorem dX5_payTo_131 : decode cX5_payTo 131 = .ok (.iastore, 1) := by decide +kernel
theorem dX5_payTo_132 : decode cX5_payTo 132 = .ok (.iload 5, 2) := by decide +kernel
theorem dX5_payTo_134 : decode cX5_payTo 134 = .ok (.ireturn, 1) := by decide +kernel
theorem dJx00060_init_a7421_0 : decode cJx00060_init_a7421 0 = .ok (.aload_n 0, 1) := by decide +kernel
theorem dJx00060_init_a7421_1 : decode cJx00060_init_a7421 1 = .ok (.aload_n 1, 1) := by decide +kernel
theorem dJx00060_init_a7421_2 : decode cJx00060_init_a7421 2 = .ok (.invokespecial 7, 3) := by decide +kernel
theorem dJx00060_init_a7421_5 : decode cJx00060_init_a7421 5 = .ok (.return_, 1) := by decide +kernel
theorem dJ9_min_7cf53_0 : decode cJ9_min_7cf53 0 = .ok (.iload_n 0, 1) := by decide +kernel
theorem dJ9_min_7cf53_1 : decode cJ9_min_7cf53 1 = .ok (.iload_n 1, 1) := by decide +kernel
theorem dJ9_min_7cf53_2 : decode cJ9_min_7cf53 2 = .ok (.if_icmp .gt 7, 3) := by decide +kernel
theorem dJ9_min_7cf53_5 : decode cJ9_min_7cf53 5 = .ok (.iload_n 0, 1) := by decide +kernel
theorem dJ9_min_7cf53_6 : decode cJ9_min_7cf53 6 = .ok (.goto 4, 3) := by decide +kernel
theorem dJ9_min_7cf53_9 : decode cJ9_min_7cf53 9 = .ok (.iload_n 1, 1) := by decide +kernel
theorem dJ9_min_7cf53_10 : decode cJ9_min_7cf53 10 = .ok (.ireturn, 1) := by decide +kernel
theorem dJ7_fill_53178_0 : decode cJ7_fill_53178 0 = .ok (.iconst 0, 1) := by decide +kernel
theorem dJ7_fill_53178_1 : decode cJ7_fill_53178 1 = .ok (.istore_n 2, 1) := by decide +kernel
theorem dJ7_fill_53178_2 : decode cJ7_fill_53178 2 = .ok (.aload_n 0, 1) := by decide +kernel
theorem dJ7_fill_53178_3 : decode cJ7_fill_53178 3 = .ok (.arraylength, 1) := by decide +kernel
theorem dJ7_fill_53178_4 : decode cJ7_fill_53178 4 = .ok (.istore_n 3, 1) := by decide +kernel
theorem dJ7_fill_53178_5 : decode cJ7_fill_53178 5 = .ok (.iload_n 2, 1) := by decide +kernel
theorem dJ7_fill_53178_6 : decode cJ7_fill_53178 6 = .ok (.iload_n 3, 1) := by decide +kernel
theorem dJ7_fill_53178_7 : decode cJ7_fill_53178 7 = .ok (.if_icmp .ge 13, 3) := by decide +kernel
theorem dJ7_fill_53178_10 : decode cJ7_fill_53178 10 = .ok (.aload_n 0, 1) := by decide +kernel
theorem dJ7_fill_53178_11 : decode cJ7_fill_53178 11 = .ok (.iload_n 2, 1) := by decide +kernel
theorem dJ7_fill_53178_12 : decode cJ7_fill_53178 12 = .ok (.iload_n 1, 1) := by decide +kernel
theorem dJ7_fill_53178_13 : decode cJ7_fill_53178 13 = .ok (.iastore, 1) := by decide +kernel
theorem dJ7_fill_53178_14 : decode cJ7_fill_53178 14 = .ok (.iinc 2 1, 3) := by decide +kernel
theorem dJ7_fill_53178_17 : decode cJ7_fill_53178 17 = .ok (.goto (-12), 3) := by decide +kernel
theorem dJ7_fill_53178_20 : decode cJ7_fill_53178 20 = .ok (.return_, 1) := by decide +kernel
theorem dL_cell_0 : decode cL_cell 0 = .ok (.iload_n 1, 1) := by decide +kernel
theorem dL_cell_1 : decode cL_cell 1 = .ok (.aload_n 0, 1) := by decide +kernel
theorem dL_cell_2 : decode cL_cell 2 = .ok (.arraylength, 1) := by decide +kernel
theorem dL_cell_3 : decode cL_cell 3 = .ok (.if_icmp .ge 9, 3) := by decide +kernel
theorem dL_cell_6 : decode cL_cell 6 = .ok (.aload_n 0, 1) := by decide +kernel
theorem dL_cell_7 : decode cL_cell 7 = .ok (.iload_n 1, 1) := by decide +kernel
theorem dL_cell_8 : decode cL_cell 8 = .ok (.iaload, 1) := by decide +kernel
theorem dL_cell_9 : decode cL_cell 9 = .ok (.goto 7, 3) := by decide +kernel
theorem dL_cell_12 : decode cL_cell 12 = .ok (.ldc 7, 2) := by decide +kernel
theorem dL_cell_14 : decode cL_cell 14 = .ok (.iload_n 1, 1) := by decide +kernel
theorem dL_cell_15 : decode cL_cell 15 = .ok (.imul, 1) := by decide +kernel
theorem dL_cell_16 : decode cL_cell 16 = .ok (.ireturn, 1) := by decide +kernel
theorem dL_pick_0 : decode cL_pick 0 = .ok (.aload_n 0, 1) := by decide +kernel
theorem dL_pick_1 : decode cL_pick 1 = .ok (.iload_n 1, 1) := by decide +kernel
theorem dL_pick_2 : decode cL_pick 2 = .ok (.invokestatic 8, 3) := by decide +kernel
theorem dL_pick_5 : decode cL_pick 5 = .ok (.iconst 1, 1) := by decide +kernel
theorem dL_pick_6 : decode cL_pick 6 = .ok (.iushr, 1) := by decide +kernel
theorem dL_pick_7 : decode cL_pick 7 = .ok (.iload_n 2, 1) := by decide +kernel
theorem dL_pick_8 : decode cL_pick 8 = .ok (.irem, 1) := by decide +kernel
theorem dL_pick_9 : decode cL_pick 9 = .ok (.ireturn, 1) := by decide +kernel
theorem dL_addPerson_0 : decode cL_addPerson 0 = .ok (.aload_n 0, 1) := by decide +kernel
theorem dL_addPerson_1 : decode cL_addPerson 1 = .ok (.iload_n 1, 1) := by decide +kernel
theorem dL_addPerson_2 : decode cL_addPerson 2 = .ok (.invokevirtual 14, 3) := by decide +kernel
theorem dL_addPerson_5 : decode cL_addPerson 5 = .ok (.ireturn, 1) := by decide +kernel
theorem dL_addPerson_6 : decode cL_addPerson 6 = .ok (.astore_n 2, 1) := by decide +kernel
theorem dL_addPerson_7 : decode cL_addPerson 7 = .ok (.bipush (-78), 2) := by decide +kernel
theorem dL_addPerson_9 : decode cL_addPerson 9 = .ok (.ireturn, 1) := by decide +kernel
theorem dL_addPerson_10 : decode cL_addPerson 10 = .ok (.astore_n 2, 1) := by decide +kernel
theorem dL_addPerson_11 : decode cL_addPerson 11 = .ok (.bipush (-79), 2) := by decide +kernel
theorem dL_addPerson_13 : decode cL_addPerson 13 = .ok (.ireturn, 1) := by decide +kernel
theorem dL_addHousehold_0 : decode cL_addHousehold 0 = .ok (.aload_n 0, 1) := by decide +kernel
theorem dL_addHousehold_1 : decode cL_addHousehold 1 = .ok (.invokevirtual 24, 3) := by decide +kernel
theorem dL_addHousehold_4 : decode cL_addHousehold 4 = .ok (.ireturn, 1) := by decide +kernel
theorem dL_addHousehold_5 : decode cL_addHousehold 5 = .ok (.astore_n 1, 1) := by decide +kernel
theorem dL_addHousehold_6 : decode cL_addHousehold 6 = .ok (.bipush (-79), 2) := by decide +kernel
theorem dL_addHousehold_8 : decode cL_addHousehold 8 = .ok (.ireturn, 1) := by decide +kernel
theorem dL_move_0 : decode cL_move 0 = .ok (.aload_n 0, 1) := by decide +kernel
theorem dL_move_1 : decode cL_move 1 = .ok (.iload_n 1, 1) := by decide +kernel
theorem dL_move_2 : decode cL_move 2 = .ok (.iload_n 2, 1) := by decide +kernel
theorem dL_move_3 : decode cL_move 3 = .ok (.iload_n 3, 1) := by decide +kernel
theorem dL_move_4 : decode cL_move 4 = .ok (.invokevirtual 28, 3) := by decide +kernel
theorem dL_move_7 : decode cL_move 7 = .ok (.ireturn, 1) := by decide +kernel
theorem dL_move_8 : decode cL_move 8 = .ok (.astore 4, 2) := by decide +kernel
theorem dL_move_10 : decode cL_move 10 = .ok (.bipush (-77), 2) := by decide +kernel
theorem dL_move_12 : decode cL_move 12 = .ok (.ireturn, 1) := by decide +kernel
theorem dL_move_13 : decode cL_move 13 = .ok (.astore 4, 2) := by decide +kernel
theorem dL_move_15 : decode cL_move 15 = .ok (.bipush (-78), 2) := by decide +kernel
theorem dL_move_17 : decode cL_move 17 = .ok (.ireturn, 1) := by decide +kernel
theorem dL_setIncome_0 : decode cL_setIncome 0 = .ok (.aload_n 0, 1) := by decide +kernel
theorem dL_setIncome_1 : decode cL_setIncome 1 = .ok (.iload_n 1, 1) := by decide +kernel
theorem dL_setIncome_2 : decode cL_setIncome 2 = .ok (.iload_n 2, 1) := by decide +kernel
theorem dL_setIncome_3 : decode cL_setIncome 3 = .ok (.iload_n 3, 1) := by decide +kernel
theorem dL_setIncome_4 : decode cL_setIncome 4 = .ok (.invokevirtual 34, 3) := by decide +kernel
theorem dL_setIncome_7 : decode cL_setIncome 7 = .ok (.ireturn, 1) := by decide +kernel
theorem dL_setIncome_8 : decode cL_setIncome 8 = .ok (.astore 4, 2) := by decide +kernel
theorem dL_setIncome_10 : decode cL_setIncome 10 = .ok (.bipush (-77), 2) := by decide +kernel
theorem dL_setIncome_12 : decode cL_setIncome 12 = .ok (.ireturn, 1) := by decide +kernel
theorem dL_setIncome_13 : decode cL_setIncome 13 = .ok (.astore 4, 2) := by decide +kernel
theorem dL_setIncome_15 : decode cL_setIncome 15 = .ok (.bipush (-78), 2) := by decide +kernel
theorem dL_setIncome_17 : decode cL_setIncome 17 = .ok (.ireturn, 1) := by decide +kernel
theorem dL_setRent_0 : decode cL_setRent 0 = .ok (.aload_n 0, 1) := by decide +kernel
theorem dL_setRent_1 : decode cL_setRent 1 = .ok (.iload_n 1, 1) := by decide +kernel
theorem dL_setRent_2 : decode cL_setRent 2 = .ok (.iload_n 2, 1) := by decide +kernel
theorem dL_setRent_3 : decode cL_setRent 3 = .ok (.iload_n 3, 1) := by decide +kernel
theorem dL_setRent_4 : decode cL_setRent 4 = .ok (.invokevirtual 37, 3) := by decide +kernel
theorem dL_setRent_7 : decode cL_setRent 7 = .ok (.ireturn, 1) := by decide +kernel
theorem dL_setRent_8 : decode cL_setRent 8 = .ok (.astore 4, 2) := by decide +kernel
theorem dL_setRent_10 : decode cL_setRent 10 = .ok (.bipush (-77), 2) := by decide +kernel
theorem dL_setRent_12 : decode cL_setRent 12 = .ok (.ireturn, 1) := by decide +kernel
theorem dL_setRent_13 : decode cL_setRent 13 = .ok (.astore 4, 2) := by decide +kernel
theorem dL_setRent_15 : decode cL_setRent 15 = .ok (.bipush (-78), 2) := by decide +kernel
theorem dL_setRent_17 : decode cL_setRent 17 = .ok (.ireturn, 1) := by decide +kernel
theorem dL_setRule_0 : decode cL_setRule 0 = .ok (.aload_n 0, 1) := by decide +kernel
theorem dL_setRule_1 : decode cL_setRule 1 = .ok (.iload_n 1, 1) := by decide +kernel
theorem dL_setRule_2 : decode cL_setRule 2 = .ok (.iload_n 2, 1) := by decide +kernel
theorem dL_setRule_3 : decode cL_setRule 3 = .ok (.iload_n 3, 1) := by decide +kernel
theorem dL_setRule_4 : decode cL_setRule 4 = .ok (.invokevirtual 40, 3) := by decide +kernel
theorem dL_setRule_7 : decode cL_setRule 7 = .ok (.ireturn, 1) := by decide +kernel
theorem dL_setRule_8 : decode cL_setRule 8 = .ok (.astore 4, 2) := by decide +kernel
theorem dL_setRule_10 : decode cL_setRule 10 = .ok (.bipush (-75), 2) := by decide +kernel
theorem dL_setRule_12 : decode cL_setRule 12 = .ok (.ireturn, 1) := by decide +kernel
theorem dL_setRule_13 : decode cL_setRule 13 = .ok (.astore 4, 2) := by decide +kernel
theorem dL_setRule_15 : decode cL_setRule 15 = .ok (.bipush (-78), 2) := by decide +kernel
theorem dL_setRule_17 : decode cL_setRule 17 = .ok (.ireturn, 1) := by decide +kernel
theorem dL_takeBackMove_0 : decode cL_takeBackMove 0 = .ok (.aload_n 0, 1) := by decide +kernel
theorem dL_takeBackMove_1 : decode cL_takeBackMove 1 = .ok (.iload_n 1, 1) := by decide +kernel
theorem dL_takeBackMove_2 : decode cL_takeBackMove 2 = .ok (.iload_n 2, 1) := by decide +kernel
theorem dL_takeBackMove_3 : decode cL_takeBackMove 3 = .ok (.invokevirtual 46, 3) := by decide +kernel
theorem dL_takeBackMove_6 : decode cL_takeBackMove 6 = .ok (.ireturn, 1) := by decide +kernel
theorem dL_takeBackMove_7 : decode cL_takeBackMove 7 = .ok (.astore_n 3, 1) := by decide +kernel
theorem dL_takeBackMove_8 : decode cL_takeBackMove 8 = .ok (.bipush (-77), 2) := by decide +kernel
theorem dL_takeBackMove_10 : decode cL_takeBackMove 10 = .ok (.ireturn, 1) := by decide +kernel
theorem dL_takeBackMove_11 : decode cL_takeBackMove 11 = .ok (.astore_n 3, 1) := by decide +kernel
theorem dL_takeBackMove_12 : decode cL_takeBackMove 12 = .ok (.bipush (-75), 2) := by decide +kernel
theorem dL_takeBackMove_14 : decode cL_takeBackMove 14 = .ok (.ireturn, 1) := by decide +kernel
theorem dL_takeBackIncome_0 : decode cL_takeBackIncome 0 = .ok (.aload_n 0, 1) := by decide +kernel
theorem dL_takeBackIncome_1 : decode cL_takeBackIncome 1 = .ok (.iload_n 1, 1) := by decide +kernel
theorem dL_takeBackIncome_2 : decode cL_takeBackIncome 2 = .ok (.iload_n 2, 1) := by decide +kernel
theorem dL_takeBackIncome_3 : decode cL_takeBackIncome 3 = .ok (.invokevirtual 50, 3) := by decide +kernel
theorem dL_takeBackIncome_6 : decode cL_takeBackIncome 6 = .ok (.ireturn, 1) := by decide +kernel
theorem dL_takeBackIncome_7 : decode cL_takeBackIncome 7 = .ok (.astore_n 3, 1) := by decide +kernel
theorem dL_takeBackIncome_8 : decode cL_takeBackIncome 8 = .ok (.bipush (-77), 2) := by decide +kernel
theorem dL_takeBackIncome_10 : decode cL_takeBackIncome 10 = .ok (.ireturn, 1) := by decide +kernel
theorem dL_takeBackIncome_11 : decode cL_takeBackIncome 11 = .ok (.astore_n 3, 1) := by decide +kernel
theorem dL_takeBackIncome_12 : decode cL_takeBackIncome 12 = .ok (.bipush (-75), 2) := by decide +kernel
theorem dL_takeBackIncome_14 : decode cL_takeBackIncome 14 = .ok (.ireturn, 1) := by decide +kernel
theorem dL_takeBackRule_0 : decode cL_takeBackRule 0 = .ok (.aload_n 0, 1) := by decide +kernel
theorem dL_takeBackRule_1 : decode cL_takeBackRule 1 = .ok (.iload_n 1, 1) := by decide +kernel
theorem dL_takeBackRule_2 : decode cL_takeBackRule 2 = .ok (.iload_n 2, 1) := by decide +kernel
theorem dL_takeBackRule_3 : decode cL_takeBackRule 3 = .ok (.invokevirtual 53, 3) := by decide +kernel
theorem dL_takeBackRule_6 : decode cL_takeBackRule 6 = .ok (.ireturn, 1) := by decide +kernel
theorem dL_takeBackRule_7 : decode cL_takeBackRule 7 = .ok (.astore_n 3, 1) := by decide +kernel
theorem dL_takeBackRule_8 : decode cL_takeBackRule 8 = .ok (.bipush (-75), 2) := by decide +kernel
theorem dL_takeBackRule_10 : decode cL_takeBackRule 10 = .ok (.ireturn, 1) := by decide +kernel
theorem dL_takeBackRule_11 : decode cL_takeBackRule 11 = .ok (.astore_n 3, 1) := by decide +kernel
theorem dL_takeBackRule_12 : decode cL_takeBackRule 12 = .ok (.bipush (-76), 2) := by decide +kernel
theorem dL_takeBackRule_14 : decode cL_takeBackRule 14 = .ok (.ireturn, 1) := by decide +kernel
theorem dL_pay_0 : decode cL_pay 0 = .ok (.aload_n 0, 1) := by decide +kernel
theorem dL_pay_1 : decode cL_pay 1 = .ok (.invokevirtual 59, 3) := by decide +kernel
theorem dL_pay_4 : decode cL_pay 4 = .ok (.ireturn, 1) := by decide +kernel
theorem dL_pay_5 : decode cL_pay 5 = .ok (.astore_n 1, 1) := by decide +kernel
theorem dL_pay_6 : decode cL_pay 6 = .ok (.bipush (-79), 2) := by decide +kernel
theorem dL_pay_8 : decode cL_pay 8 = .ok (.ireturn, 1) := by decide +kernel
theorem dL_payment_0 : decode cL_payment 0 = .ok (.aload_n 0, 1) := by decide +kernel
theorem dL_payment_1 : decode cL_payment 1 = .ok (.iload_n 1, 1) := by decide +kernel
