theorem dX6_place_46 : decode cX6_place 46 = .ok (.iconst 4, 1) := by decide +kernel
theorem dX6_place_47 : decode cX6_place 47 = .ok (.goto 25, 3) := by decide +kernel
theorem dX6_place_50 : decode cX6_place 50 = .ok (.iload_n 0, 1) := by decide +kernel
theorem dX6_place_51 : decode cX6_place 51 = .ok (.bipush 112, 2) := by decide +kernel
theorem dX6_place_53 : decode cX6_place 53 = .ok (.if_icmp .ne 7, 3) := by decide +kernel
theorem dX6_place_56 : decode cX6_place 56 = .ok (.iconst 5, 1) := by decide +kernel
theorem dX6_place_57 : decode cX6_place 57 = .ok (.goto 15, 3) := by decide +kernel
theorem dX6_place_60 : decode cX6_place 60 = .ok (.iload_n 0, 1) := by decide +kernel
theorem dX6_place_61 : decode cX6_place 61 = .ok (.bipush 109, 2) := by decide +kernel
theorem dX6_place_63 : decode cX6_place 63 = .ok (.if_icmp .ne 8, 3) := by decide +kernel
theorem dX6_place_66 : decode cX6_place 66 = .ok (.bipush 6, 2) := by decide +kernel
theorem dX6_place_68 : decode cX6_place 68 = .ok (.goto 4, 3) := by decide +kernel
theorem dX6_place_71 : decode cX6_place 71 = .ok (.iconst (-1), 1) := by decide +kernel
theorem dX6_place_72 : decode cX6_place 72 = .ok (.ireturn, 1) := by decide +kernel
theorem dX6_first_0 : decode cX6_first 0 = .ok (.iload_n 0, 1) := by decide +kernel
theorem dX6_first_1 : decode cX6_first 1 = .ok (.ifCond .ne 8, 3) := by decide +kernel
theorem dX6_first_4 : decode cX6_first 4 = .ok (.bipush 10, 2) := by decide +kernel
theorem dX6_first_6 : decode cX6_first 6 = .ok (.goto 53, 3) := by decide +kernel
theorem dX6_first_9 : decode cX6_first 9 = .ok (.iload_n 0, 1) := by decide +kernel
theorem dX6_first_10 : decode cX6_first 10 = .ok (.iconst 1, 1) := by decide +kernel
theorem dX6_first_11 : decode cX6_first 11 = .ok (.if_icmp .ne 7, 3) := by decide +kernel
theorem dX6_first_14 : decode cX6_first 14 = .ok (.iconst 5, 1) := by decide +kernel
theorem dX6_first_15 : decode cX6_first 15 = .ok (.goto 44, 3) := by decide +kernel
theorem dX6_first_18 : decode cX6_first 18 = .ok (.iload_n 0, 1) := by decide +kernel
theorem dX6_first_19 : decode cX6_first 19 = .ok (.iconst 2, 1) := by decide +kernel
theorem dX6_first_20 : decode cX6_first 20 = .ok (.if_icmp .ne 7, 3) := by decide +kernel
theorem dX6_first_23 : decode cX6_first 23 = .ok (.iconst 3, 1) := by decide +kernel
theorem dX6_first_24 : decode cX6_first 24 = .ok (.goto 35, 3) := by decide +kernel
theorem dX6_first_27 : decode cX6_first 27 = .ok (.iload_n 0, 1) := by decide +kernel
theorem dX6_first_28 : decode cX6_first 28 = .ok (.iconst 3, 1) := by decide +kernel
theorem dX6_first_29 : decode cX6_first 29 = .ok (.if_icmp .ne 8, 3) := by decide +kernel
theorem dX6_first_32 : decode cX6_first 32 = .ok (.bipush 20, 2) := by decide +kernel
theorem dX6_first_34 : decode cX6_first 34 = .ok (.goto 25, 3) := by decide +kernel
theorem dX6_first_37 : decode cX6_first 37 = .ok (.iload_n 0, 1) := by decide +kernel
theorem dX6_first_38 : decode cX6_first 38 = .ok (.iconst 4, 1) := by decide +kernel
theorem dX6_first_39 : decode cX6_first 39 = .ok (.if_icmp .ne 8, 3) := by decide +kernel
theorem dX6_first_42 : decode cX6_first 42 = .ok (.bipush 15, 2) := by decide +kernel
theorem dX6_first_44 : decode cX6_first 44 = .ok (.goto 15, 3) := by decide +kernel
theorem dX6_first_47 : decode cX6_first 47 = .ok (.iload_n 0, 1) := by decide +kernel
theorem dX6_first_48 : decode cX6_first 48 = .ok (.iconst 5, 1) := by decide +kernel
theorem dX6_first_49 : decode cX6_first 49 = .ok (.if_icmp .ne 8, 3) := by decide +kernel
theorem dX6_first_52 : decode cX6_first 52 = .ok (.bipush 50, 2) := by decide +kernel
theorem dX6_first_54 : decode cX6_first 54 = .ok (.goto 5, 3) := by decide +kernel
theorem dX6_first_57 : decode cX6_first 57 = .ok (.bipush 60, 2) := by decide +kernel
theorem dX6_first_59 : decode cX6_first 59 = .ok (.ireturn, 1) := by decide +kernel
theorem dX6_greatest_0 : decode cX6_greatest 0 = .ok (.iload_n 0, 1) := by decide +kernel
theorem dX6_greatest_1 : decode cX6_greatest 1 = .ok (.iconst 4, 1) := by decide +kernel
theorem dX6_greatest_2 : decode cX6_greatest 2 = .ok (.if_icmp .ge 8, 3) := by decide +kernel
theorem dX6_greatest_5 : decode cX6_greatest 5 = .ok (.bipush 99, 2) := by decide +kernel
theorem dX6_greatest_7 : decode cX6_greatest 7 = .ok (.goto 16, 3) := by decide +kernel
theorem dX6_greatest_10 : decode cX6_greatest 10 = .ok (.iload_n 0, 1) := by decide +kernel
theorem dX6_greatest_11 : decode cX6_greatest 11 = .ok (.iconst 5, 1) := by decide +kernel
theorem dX6_greatest_12 : decode cX6_greatest 12 = .ok (.if_icmp .ne 8, 3) := by decide +kernel
theorem dX6_greatest_15 : decode cX6_greatest 15 = .ok (.bipush 100, 2) := by decide +kernel
theorem dX6_greatest_17 : decode cX6_greatest 17 = .ok (.goto 6, 3) := by decide +kernel
theorem dX6_greatest_20 : decode cX6_greatest 20 = .ok (.sipush 999, 3) := by decide +kernel
theorem dX6_greatest_23 : decode cX6_greatest 23 = .ok (.ireturn, 1) := by decide +kernel
theorem dX6_isPerson_0 : decode cX6_isPerson 0 = .ok (.iload_n 1, 1) := by decide +kernel
theorem dX6_isPerson_1 : decode cX6_isPerson 1 = .ok (.iconst 0, 1) := by decide +kernel
theorem dX6_isPerson_2 : decode cX6_isPerson 2 = .ok (.aload_n 0, 1) := by decide +kernel
theorem dX6_isPerson_3 : decode cX6_isPerson 3 = .ok (.getfield 58, 3) := by decide +kernel
theorem dX6_isPerson_6 : decode cX6_isPerson 6 = .ok (.iconst 1, 1) := by decide +kernel
theorem dX6_isPerson_7 : decode cX6_isPerson 7 = .ok (.isub, 1) := by decide +kernel
theorem dX6_isPerson_8 : decode cX6_isPerson 8 = .ok (.invokestatic 61, 3) := by decide +kernel
theorem dX6_isPerson_11 : decode cX6_isPerson 11 = .ok (.ireturn, 1) := by decide +kernel
theorem dX6_isHousehold_0 : decode cX6_isHousehold 0 = .ok (.iload_n 1, 1) := by decide +kernel
theorem dX6_isHousehold_1 : decode cX6_isHousehold 1 = .ok (.iconst 0, 1) := by decide +kernel
theorem dX6_isHousehold_2 : decode cX6_isHousehold 2 = .ok (.aload_n 0, 1) := by decide +kernel
theorem dX6_isHousehold_3 : decode cX6_isHousehold 3 = .ok (.getfield 65, 3) := by decide +kernel
theorem dX6_isHousehold_6 : decode cX6_isHousehold 6 = .ok (.iconst 1, 1) := by decide +kernel
theorem dX6_isHousehold_7 : decode cX6_isHousehold 7 = .ok (.isub, 1) := by decide +kernel
theorem dX6_isHousehold_8 : decode cX6_isHousehold 8 = .ok (.invokestatic 61, 3) := by decide +kernel
theorem dX6_isHousehold_11 : decode cX6_isHousehold 11 = .ok (.ireturn, 1) := by decide +kernel
theorem dX6_isDay_0 : decode cX6_isDay 0 = .ok (.iload_n 0, 1) := by decide +kernel
theorem dX6_isDay_1 : decode cX6_isDay 1 = .ok (.iconst 0, 1) := by decide +kernel
theorem dX6_isDay_2 : decode cX6_isDay 2 = .ok (.sipush 359, 3) := by decide +kernel
theorem dX6_isDay_5 : decode cX6_isDay 5 = .ok (.invokestatic 61, 3) := by decide +kernel
theorem dX6_isDay_8 : decode cX6_isDay 8 = .ok (.ireturn, 1) := by decide +kernel
theorem dX6_addPerson_0 : decode cX6_addPerson 0 = .ok (.iload_n 1, 1) := by decide +kernel
theorem dX6_addPerson_1 : decode cX6_addPerson 1 = .ok (.iconst 0, 1) := by decide +kernel
theorem dX6_addPerson_2 : decode cX6_addPerson 2 = .ok (.sipush 999, 3) := by decide +kernel
theorem dX6_addPerson_5 : decode cX6_addPerson 5 = .ok (.invokestatic 61, 3) := by decide +kernel
theorem dX6_addPerson_8 : decode cX6_addPerson 8 = .ok (.ifCond .ne 9, 3) := by decide +kernel
theorem dX6_addPerson_11 : decode cX6_addPerson 11 = .ok (.aload_n 0, 1) := by decide +kernel
theorem dX6_addPerson_12 : decode cX6_addPerson 12 = .ok (.iconst 1, 1) := by decide +kernel
theorem dX6_addPerson_13 : decode cX6_addPerson 13 = .ok (.invokevirtual 68, 3) := by decide +kernel
theorem dX6_addPerson_16 : decode cX6_addPerson 16 = .ok (.ireturn, 1) := by decide +kernel
theorem dX6_addPerson_17 : decode cX6_addPerson 17 = .ok (.aload_n 0, 1) := by decide +kernel
theorem dX6_addPerson_18 : decode cX6_addPerson 18 = .ok (.getfield 58, 3) := by decide +kernel
theorem dX6_addPerson_21 : decode cX6_addPerson 21 = .ok (.bipush 8, 2) := by decide +kernel
theorem dX6_addPerson_23 : decode cX6_addPerson 23 = .ok (.if_icmp .ne 9, 3) := by decide +kernel
theorem dX6_addPerson_26 : decode cX6_addPerson 26 = .ok (.aload_n 0, 1) := by decide +kernel
theorem dX6_addPerson_27 : decode cX6_addPerson 27 = .ok (.iconst 2, 1) := by decide +kernel
theorem dX6_addPerson_28 : decode cX6_addPerson 28 = .ok (.invokevirtual 68, 3) := by decide +kernel
theorem dX6_addPerson_31 : decode cX6_addPerson 31 = .ok (.ireturn, 1) := by decide +kernel
theorem dX6_addPerson_32 : decode cX6_addPerson 32 = .ok (.aload_n 0, 1) := by decide +kernel
theorem dX6_addPerson_33 : decode cX6_addPerson 33 = .ok (.iconst 0, 1) := by decide +kernel
theorem dX6_addPerson_34 : decode cX6_addPerson 34 = .ok (.putfield 55, 3) := by decide +kernel
theorem dX6_addPerson_37 : decode cX6_addPerson 37 = .ok (.aload_n 0, 1) := by decide +kernel
theorem dX6_addPerson_38 : decode cX6_addPerson 38 = .ok (.getfield 13, 3) := by decide +kernel
theorem dX6_addPerson_41 : decode cX6_addPerson 41 = .ok (.aload_n 0, 1) := by decide +kernel
theorem dX6_addPerson_42 : decode cX6_addPerson 42 = .ok (.getfield 58, 3) := by decide +kernel
theorem dX6_addPerson_45 : decode cX6_addPerson 45 = .ok (.iload_n 1, 1) := by decide +kernel
theorem dX6_addPerson_46 : decode cX6_addPerson 46 = .ok (.iastore, 1) := by decide +kernel
theorem dX6_addPerson_47 : decode cX6_addPerson 47 = .ok (.aload_n 0, 1) := by decide +kernel
theorem dX6_addPerson_48 : decode cX6_addPerson 48 = .ok (.dup, 1) := by decide +kernel
theorem dX6_addPerson_49 : decode cX6_addPerson 49 = .ok (.getfield 58, 3) := by decide +kernel
theorem dX6_addPerson_52 : decode cX6_addPerson 52 = .ok (.iconst 1, 1) := by decide +kernel
theorem dX6_addPerson_53 : decode cX6_addPerson 53 = .ok (.iadd, 1) := by decide +kernel
theorem dX6_addPerson_54 : decode cX6_addPerson 54 = .ok (.putfield 58, 3) := by decide +kernel
theorem dX6_addPerson_57 : decode cX6_addPerson 57 = .ok (.aload_n 0, 1) := by decide +kernel
theorem dX6_addPerson_58 : decode cX6_addPerson 58 = .ok (.getfield 58, 3) := by decide +kernel
theorem dX6_addPerson_61 : decode cX6_addPerson 61 = .ok (.iconst 1, 1) := by decide +kernel
theorem dX6_addPerson_62 : decode cX6_addPerson 62 = .ok (.isub, 1) := by decide +kernel
theorem dX6_addPerson_63 : decode cX6_addPerson 63 = .ok (.ireturn, 1) := by decide +kernel
theorem dX6_addHousehold_0 : decode cX6_addHousehold 0 = .ok (.aload_n 0, 1) := by decide +kernel
theorem dX6_addHousehold_1 : decode cX6_addHousehold 1 = .ok (.getfield 65, 3) := by decide +kernel
theorem dX6_addHousehold_4 : decode cX6_addHousehold 4 = .ok (.iconst 4, 1) := by decide +kernel
theorem dX6_addHousehold_5 : decode cX6_addHousehold 5 = .ok (.if_icmp .ne 9, 3) := by decide +kernel
theorem dX6_addHousehold_8 : decode cX6_addHousehold 8 = .ok (.aload_n 0, 1) := by decide +kernel
theorem dX6_addHousehold_9 : decode cX6_addHousehold 9 = .ok (.iconst 1, 1) := by decide +kernel
theorem dX6_addHousehold_10 : decode cX6_addHousehold 10 = .ok (.invokevirtual 68, 3) := by decide +kernel
theorem dX6_addHousehold_13 : decode cX6_addHousehold 13 = .ok (.ireturn, 1) := by decide +kernel
theorem dX6_addHousehold_14 : decode cX6_addHousehold 14 = .ok (.aload_n 0, 1) := by decide +kernel
theorem dX6_addHousehold_15 : decode cX6_addHousehold 15 = .ok (.iconst 0, 1) := by decide +kernel
theorem dX6_addHousehold_16 : decode cX6_addHousehold 16 = .ok (.putfield 55, 3) := by decide +kernel
theorem dX6_addHousehold_19 : decode cX6_addHousehold 19 = .ok (.aload_n 0, 1) := by decide +kernel
theorem dX6_addHousehold_20 : decode cX6_addHousehold 20 = .ok (.dup, 1) := by decide +kernel
theorem dX6_addHousehold_21 : decode cX6_addHousehold 21 = .ok (.getfield 65, 3) := by decide +kernel
theorem dX6_addHousehold_24 : decode cX6_addHousehold 24 = .ok (.iconst 1, 1) := by decide +kernel
theorem dX6_addHousehold_25 : decode cX6_addHousehold 25 = .ok (.iadd, 1) := by decide +kernel
theorem dX6_addHousehold_26 : decode cX6_addHousehold 26 = .ok (.putfield 65, 3) := by decide +kernel
theorem dX6_addHousehold_29 : decode cX6_addHousehold 29 = .ok (.aload_n 0, 1) := by decide +kernel
theorem dX6_addHousehold_30 : decode cX6_addHousehold 30 = .ok (.getfield 65, 3) := by decide +kernel
theorem dX6_addHousehold_33 : decode cX6_addHousehold 33 = .ok (.iconst 1, 1) := by decide +kernel
theorem dX6_addHousehold_34 : decode cX6_addHousehold 34 = .ok (.isub, 1) := by decide +kernel
theorem dX6_addHousehold_35 : decode cX6_addHousehold 35 = .ok (.ireturn, 1) := by decide +kernel
theorem dX6_holds_0 : decode cX6_holds 0 = .ok (.aload_n 0, 1) := by decide +kernel
theorem dX6_holds_1 : decode cX6_holds 1 = .ok (.iload_n 2, 1) := by decide +kernel
theorem dX6_holds_2 : decode cX6_holds 2 = .ok (.iload_n 3, 1) := by decide +kernel
theorem dX6_holds_3 : decode cX6_holds 3 = .ok (.iadd, 1) := by decide +kernel
theorem dX6_holds_4 : decode cX6_holds 4 = .ok (.iload 4, 2) := by decide +kernel
theorem dX6_holds_6 : decode cX6_holds 6 = .ok (.iastore, 1) := by decide +kernel
theorem dX6_holds_7 : decode cX6_holds 7 = .ok (.iload_n 3, 1) := by decide +kernel
theorem dX6_holds_8 : decode cX6_holds 8 = .ok (.iconst 1, 1) := by decide +kernel
theorem dX6_holds_9 : decode cX6_holds 9 = .ok (.iadd, 1) := by decide +kernel
theorem dX6_holds_10 : decode cX6_holds 10 = .ok (.istore 5, 2) := by decide +kernel
theorem dX6_holds_12 : decode cX6_holds 12 = .ok (.iload 5, 2) := by decide +kernel
theorem dX6_holds_14 : decode cX6_holds 14 = .ok (.sipush 360, 3) := by decide +kernel
theorem dX6_holds_17 : decode cX6_holds 17 = .ok (.if_icmp .ge 26, 3) := by decide +kernel
theorem dX6_holds_20 : decode cX6_holds 20 = .ok (.aload_n 1, 1) := by decide +kernel
theorem dX6_holds_21 : decode cX6_holds 21 = .ok (.iload_n 2, 1) := by decide +kernel
theorem dX6_holds_22 : decode cX6_holds 22 = .ok (.iload 5, 2) := by decide +kernel
theorem dX6_holds_24 : decode cX6_holds 24 = .ok (.iadd, 1) := by decide +kernel
theorem dX6_holds_25 : decode cX6_holds 25 = .ok (.baload, 1) := by decide +kernel
theorem dX6_holds_26 : decode cX6_holds 26 = .ok (.ifCond .ne 17, 3) := by decide +kernel
theorem dX6_holds_29 : decode cX6_holds 29 = .ok (.aload_n 0, 1) := by decide +kernel
theorem dX6_holds_30 : decode cX6_holds 30 = .ok (.iload_n 2, 1) := by decide +kernel
theorem dX6_holds_31 : decode cX6_holds 31 = .ok (.iload 5, 2) := by decide +kernel
theorem dX6_holds_33 : decode cX6_holds 33 = .ok (.iadd, 1) := by decide +kernel
theorem dX6_holds_34 : decode cX6_holds 34 = .ok (.iload 4, 2) := by decide +kernel
theorem dX6_holds_36 : decode cX6_holds 36 = .ok (.iastore, 1) := by decide +kernel
theorem dX6_holds_37 : decode cX6_holds 37 = .ok (.iinc 5 1, 3) := by decide +kernel
theorem dX6_holds_40 : decode cX6_holds 40 = .ok (.goto (-28), 3) := by decide +kernel
theorem dX6_holds_43 : decode cX6_holds 43 = .ok (.return_, 1) := by decide +kernel
theorem dX6_tells_0 : decode cX6_tells 0 = .ok (.aload_n 1, 1) := by decide +kernel
theorem dX6_tells_1 : decode cX6_tells 1 = .ok (.iload_n 3, 1) := by decide +kernel
theorem dX6_tells_2 : decode cX6_tells 2 = .ok (.iload 4, 2) := by decide +kernel
theorem dX6_tells_4 : decode cX6_tells 4 = .ok (.iadd, 1) := by decide +kernel
theorem dX6_tells_5 : decode cX6_tells 5 = .ok (.iaload, 1) := by decide +kernel
theorem dX6_tells_6 : decode cX6_tells 6 = .ok (.istore 6, 2) := by decide +kernel
theorem dX6_tells_8 : decode cX6_tells 8 = .ok (.aload_n 0, 1) := by decide +kernel
theorem dX6_tells_9 : decode cX6_tells 9 = .ok (.dup, 1) := by decide +kernel
theorem dX6_tells_10 : decode cX6_tells 10 = .ok (.getfield 7, 3) := by decide +kernel
theorem dX6_tells_13 : decode cX6_tells 13 = .ok (.aload_n 2, 1) := by decide +kernel
theorem dX6_tells_14 : decode cX6_tells 14 = .ok (.iload_n 3, 1) := by decide +kernel
theorem dX6_tells_15 : decode cX6_tells 15 = .ok (.iload 4, 2) := by decide +kernel
theorem dX6_tells_17 : decode cX6_tells 17 = .ok (.iadd, 1) := by decide +kernel
theorem dX6_tells_18 : decode cX6_tells 18 = .ok (.baload, 1) := by decide +kernel
theorem dX6_tells_19 : decode cX6_tells 19 = .ok (.ifCond .eq 7, 3) := by decide +kernel
theorem dX6_tells_22 : decode cX6_tells 22 = .ok (.iconst 0, 1) := by decide +kernel
theorem dX6_tells_23 : decode cX6_tells 23 = .ok (.goto 4, 3) := by decide +kernel
theorem dX6_tells_26 : decode cX6_tells 26 = .ok (.iconst 1, 1) := by decide +kernel
theorem dX6_tells_27 : decode cX6_tells 27 = .ok (.iadd, 1) := by decide +kernel
theorem dX6_tells_28 : decode cX6_tells 28 = .ok (.putfield 7, 3) := by decide +kernel
theorem dX6_tells_31 : decode cX6_tells 31 = .ok (.aload_n 2, 1) := by decide +kernel
theorem dX6_tells_32 : decode cX6_tells 32 = .ok (.iload_n 3, 1) := by decide +kernel
theorem dX6_tells_33 : decode cX6_tells 33 = .ok (.iload 4, 2) := by decide +kernel
theorem dX6_tells_35 : decode cX6_tells 35 = .ok (.iadd, 1) := by decide +kernel
theorem dX6_tells_36 : decode cX6_tells 36 = .ok (.iconst 1, 1) := by decide +kernel
theorem dX6_tells_37 : decode cX6_tells 37 = .ok (.bastore, 1) := by decide +kernel
theorem dX6_tells_38 : decode cX6_tells 38 = .ok (.aload_n 1, 1) := by decide +kernel
theorem dX6_tells_39 : decode cX6_tells 39 = .ok (.aload_n 2, 1) := by decide +kernel
theorem dX6_tells_40 : decode cX6_tells 40 = .ok (.iload_n 3, 1) := by decide +kernel
theorem dX6_tells_41 : decode cX6_tells 41 = .ok (.iload 4, 2) := by decide +kernel
theorem dX6_tells_43 : decode cX6_tells 43 = .ok (.iload 5, 2) := by decide +kernel
theorem dX6_tells_45 : decode cX6_tells 45 = .ok (.invokestatic 71, 3) := by decide +kernel
theorem dX6_tells_48 : decode cX6_tells 48 = .ok (.iload 6, 2) := by decide +kernel
theorem dX6_tells_50 : decode cX6_tells 50 = .ok (.ireturn, 1) := by decide +kernel
theorem dX6_takes_0 : decode cX6_takes 0 = .ok (.aload_n 1, 1) := by decide +kernel
theorem dX6_takes_1 : decode cX6_takes 1 = .ok (.iload_n 3, 1) := by decide +kernel
theorem dX6_takes_2 : decode cX6_takes 2 = .ok (.iload 4, 2) := by decide +kernel
theorem dX6_takes_4 : decode cX6_takes 4 = .ok (.iadd, 1) := by decide +kernel
theorem dX6_takes_5 : decode cX6_takes 5 = .ok (.iaload, 1) := by decide +kernel
theorem dX6_takes_6 : decode cX6_takes 6 = .ok (.istore 6, 2) := by decide +kernel
theorem dX6_takes_8 : decode cX6_takes 8 = .ok (.aload_n 0, 1) := by decide +kernel
theorem dX6_takes_9 : decode cX6_takes 9 = .ok (.dup, 1) := by decide +kernel
theorem dX6_takes_10 : decode cX6_takes 10 = .ok (.getfield 7, 3) := by decide +kernel
theorem dX6_takes_13 : decode cX6_takes 13 = .ok (.iconst 1, 1) := by decide +kernel
theorem dX6_takes_14 : decode cX6_takes 14 = .ok (.isub, 1) := by decide +kernel
theorem dX6_takes_15 : decode cX6_takes 15 = .ok (.putfield 7, 3) := by decide +kernel
theorem dX6_takes_18 : decode cX6_takes 18 = .ok (.aload_n 2, 1) := by decide +kernel
theorem dX6_takes_19 : decode cX6_takes 19 = .ok (.iload_n 3, 1) := by decide +kernel
theorem dX6_takes_20 : decode cX6_takes 20 = .ok (.iload 4, 2) := by decide +kernel
theorem dX6_takes_22 : decode cX6_takes 22 = .ok (.iadd, 1) := by decide +kernel
theorem dX6_takes_23 : decode cX6_takes 23 = .ok (.iconst 0, 1) := by decide +kernel
theorem dX6_takes_24 : decode cX6_takes 24 = .ok (.bastore, 1) := by decide +kernel
theorem dX6_takes_25 : decode cX6_takes 25 = .ok (.aload_n 1, 1) := by decide +kernel
theorem dX6_takes_26 : decode cX6_takes 26 = .ok (.aload_n 2, 1) := by decide +kernel
theorem dX6_takes_27 : decode cX6_takes 27 = .ok (.iload_n 3, 1) := by decide +kernel
theorem dX6_takes_28 : decode cX6_takes 28 = .ok (.iload 4, 2) := by decide +kernel
theorem dX6_takes_30 : decode cX6_takes 30 = .ok (.iload 4, 2) := by decide +kernel
theorem dX6_takes_32 : decode cX6_takes 32 = .ok (.ifCond .ne 8, 3) := by decide +kernel
theorem dX6_takes_35 : decode cX6_takes 35 = .ok (.iload 5, 2) := by decide +kernel
theorem dX6_takes_37 : decode cX6_takes 37 = .ok (.goto 11, 3) := by decide +kernel
theorem dX6_takes_40 : decode cX6_takes 40 = .ok (.aload_n 1, 1) := by decide +kernel
theorem dX6_takes_41 : decode cX6_takes 41 = .ok (.iload_n 3, 1) := by decide +kernel
theorem dX6_takes_42 : decode cX6_takes 42 = .ok (.iload 4, 2) := by decide +kernel
theorem dX6_takes_44 : decode cX6_takes 44 = .ok (.iadd, 1) := by decide +kernel
theorem dX6_takes_45 : decode cX6_takes 45 = .ok (.iconst 1, 1) := by decide +kernel
theorem dX6_takes_46 : decode cX6_takes 46 = .ok (.isub, 1) := by decide +kernel
theorem dX6_takes_47 : decode cX6_takes 47 = .ok (.iaload, 1) := by decide +kernel
theorem dX6_takes_48 : decode cX6_takes 48 = .ok (.invokestatic 71, 3) := by decide +kernel
theorem dX6_takes_51 : decode cX6_takes 51 = .ok (.iload 6, 2) := by decide +kernel
theorem dX6_takes_53 : decode cX6_takes 53 = .ok (.ireturn, 1) := by decide +kernel
theorem dX6_move_0 : decode cX6_move 0 = .ok (.aload_n 0, 1) := by decide +kernel
theorem dX6_move_1 : decode cX6_move 1 = .ok (.iload_n 1, 1) := by decide +kernel
theorem dX6_move_2 : decode cX6_move 2 = .ok (.invokevirtual 75, 3) := by decide +kernel
theorem dX6_move_5 : decode cX6_move 5 = .ok (.ifCond .eq 16, 3) := by decide +kernel
theorem dX6_move_8 : decode cX6_move 8 = .ok (.iload_n 2, 1) := by decide +kernel
theorem dX6_move_9 : decode cX6_move 9 = .ok (.iconst (-1), 1) := by decide +kernel
theorem dX6_move_10 : decode cX6_move 10 = .ok (.if_icmp .eq 17, 3) := by decide +kernel
theorem dX6_move_13 : decode cX6_move 13 = .ok (.aload_n 0, 1) := by decide +kernel
theorem dX6_move_14 : decode cX6_move 14 = .ok (.iload_n 2, 1) := by decide +kernel
theorem dX6_move_15 : decode cX6_move 15 = .ok (.invokevirtual 79, 3) := by decide +kernel
theorem dX6_move_18 : decode cX6_move 18 = .ok (.ifCond .ne 9, 3) := by decide +kernel
theorem dX6_move_21 : decode cX6_move 21 = .ok (.aload_n 0, 1) := by decide +kernel
theorem dX6_move_22 : decode cX6_move 22 = .ok (.iconst 1, 1) := by decide +kernel
theorem dX6_move_23 : decode cX6_move 23 = .ok (.invokevirtual 68, 3) := by decide +kernel
theorem dX6_move_26 : decode cX6_move 26 = .ok (.ireturn, 1) := by decide +kernel
theorem dX6_move_27 : decode cX6_move 27 = .ok (.iload_n 3, 1) := by decide +kernel
theorem dX6_move_28 : decode cX6_move 28 = .ok (.invokestatic 82, 3) := by decide +kernel
theorem dX6_move_31 : decode cX6_move 31 = .ok (.ifCond .ne 9, 3) := by decide +kernel
theorem dX6_move_34 : decode cX6_move 34 = .ok (.aload_n 0, 1) := by decide +kernel
theorem dX6_move_35 : decode cX6_move 35 = .ok (.iconst 2, 1) := by decide +kernel
theorem dX6_move_36 : decode cX6_move 36 = .ok (.invokevirtual 68, 3) := by decide +kernel
theorem dX6_move_39 : decode cX6_move 39 = .ok (.ireturn, 1) := by decide +kernel
theorem dX6_move_40 : decode cX6_move 40 = .ok (.aload_n 0, 1) := by decide +kernel
theorem dX6_move_41 : decode cX6_move 41 = .ok (.iconst 0, 1) := by decide +kernel
theorem dX6_move_42 : decode cX6_move 42 = .ok (.putfield 55, 3) := by decide +kernel
theorem dX6_move_45 : decode cX6_move 45 = .ok (.aload_n 0, 1) := by decide +kernel
theorem dX6_move_46 : decode cX6_move 46 = .ok (.aload_n 0, 1) := by decide +kernel
theorem dX6_move_47 : decode cX6_move 47 = .ok (.getfield 17, 3) := by decide +kernel
theorem dX6_move_50 : decode cX6_move 50 = .ok (.aload_n 0, 1) := by decide +kernel
theorem dX6_move_51 : decode cX6_move 51 = .ok (.getfield 29, 3) := by decide +kernel
theorem dX6_move_54 : decode cX6_move 54 = .ok (.sipush 360, 3) := by decide +kernel
theorem dX6_move_57 : decode cX6_move 57 = .ok (.iload_n 1, 1) := by decide +kernel
theorem dX6_move_58 : decode cX6_move 58 = .ok (.imul, 1) := by decide +kernel
theorem dX6_move_59 : decode cX6_move 59 = .ok (.iload_n 3, 1) := by decide +kernel
theorem dX6_move_60 : decode cX6_move 60 = .ok (.iload_n 2, 1) := by decide +kernel
theorem dX6_move_61 : decode cX6_move 61 = .ok (.invokevirtual 85, 3) := by decide +kernel
theorem dX6_move_64 : decode cX6_move 64 = .ok (.ireturn, 1) := by decide +kernel
theorem dX6_setIncome_0 : decode cX6_setIncome 0 = .ok (.aload_n 0, 1) := by decide +kernel
theorem dX6_setIncome_1 : decode cX6_setIncome 1 = .ok (.iload_n 1, 1) := by decide +kernel
theorem dX6_setIncome_2 : decode cX6_setIncome 2 = .ok (.invokevirtual 75, 3) := by decide +kernel
theorem dX6_setIncome_5 : decode cX6_setIncome 5 = .ok (.ifCond .ne 9, 3) := by decide +kernel
theorem dX6_setIncome_8 : decode cX6_setIncome 8 = .ok (.aload_n 0, 1) := by decide +kernel
theorem dX6_setIncome_9 : decode cX6_setIncome 9 = .ok (.iconst 1, 1) := by decide +kernel
theorem dX6_setIncome_10 : decode cX6_setIncome 10 = .ok (.invokevirtual 68, 3) := by decide +kernel
theorem dX6_setIncome_13 : decode cX6_setIncome 13 = .ok (.ireturn, 1) := by decide +kernel
theorem dX6_setIncome_14 : decode cX6_setIncome 14 = .ok (.iload_n 2, 1) := by decide +kernel
theorem dX6_setIncome_15 : decode cX6_setIncome 15 = .ok (.iconst 0, 1) := by decide +kernel
theorem dX6_setIncome_16 : decode cX6_setIncome 16 = .ok (.sipush 999, 3) := by decide +kernel
theorem dX6_setIncome_19 : decode cX6_setIncome 19 = .ok (.invokestatic 61, 3) := by decide +kernel
theorem dX6_setIncome_22 : decode cX6_setIncome 22 = .ok (.ifCond .eq 10, 3) := by decide +kernel
theorem dX6_setIncome_25 : decode cX6_setIncome 25 = .ok (.iload_n 3, 1) := by decide +kernel
theorem dX6_setIncome_26 : decode cX6_setIncome 26 = .ok (.invokestatic 82, 3) := by decide +kernel
theorem dX6_setIncome_29 : decode cX6_setIncome 29 = .ok (.ifCond .ne 9, 3) := by decide +kernel
theorem dX6_setIncome_32 : decode cX6_setIncome 32 = .ok (.aload_n 0, 1) := by decide +kernel
theorem dX6_setIncome_33 : decode cX6_setIncome 33 = .ok (.iconst 2, 1) := by decide +kernel
theorem dX6_setIncome_34 : decode cX6_setIncome 34 = .ok (.invokevirtual 68, 3) := by decide +kernel
theorem dX6_setIncome_37 : decode cX6_setIncome 37 = .ok (.ireturn, 1) := by decide +kernel
theorem dX6_setIncome_38 : decode cX6_setIncome 38 = .ok (.aload_n 0, 1) := by decide +kernel
theorem dX6_setIncome_39 : decode cX6_setIncome 39 = .ok (.iconst 0, 1) := by decide +kernel
theorem dX6_setIncome_40 : decode cX6_setIncome 40 = .ok (.putfield 55, 3) := by decide +kernel
theorem dX6_setIncome_43 : decode cX6_setIncome 43 = .ok (.aload_n 0, 1) := by decide +kernel
theorem dX6_setIncome_44 : decode cX6_setIncome 44 = .ok (.aload_n 0, 1) := by decide +kernel
theorem dX6_setIncome_45 : decode cX6_setIncome 45 = .ok (.getfield 20, 3) := by decide +kernel
theorem dX6_setIncome_48 : decode cX6_setIncome 48 = .ok (.aload_n 0, 1) := by decide +kernel
theorem dX6_setIncome_49 : decode cX6_setIncome 49 = .ok (.getfield 33, 3) := by decide +kernel
theorem dX6_setIncome_52 : decode cX6_setIncome 52 = .ok (.sipush 360, 3) := by decide +kernel
theorem dX6_setIncome_55 : decode cX6_setIncome 55 = .ok (.iload_n 1, 1) := by decide +kernel
theorem dX6_setIncome_56 : decode cX6_setIncome 56 = .ok (.imul, 1) := by decide +kernel
theorem dX6_setIncome_57 : decode cX6_setIncome 57 = .ok (.iload_n 3, 1) := by decide +kernel
theorem dX6_setIncome_58 : decode cX6_setIncome 58 = .ok (.iload_n 2, 1) := by decide +kernel
theorem dX6_setIncome_59 : decode cX6_setIncome 59 = .ok (.invokevirtual 85, 3) := by decide +kernel
theorem dX6_setIncome_62 : decode cX6_setIncome 62 = .ok (.ireturn, 1) := by decide +kernel
theorem dX6_setRent_0 : decode cX6_setRent 0 = .ok (.aload_n 0, 1) := by decide +kernel
theorem dX6_setRent_1 : decode cX6_setRent 1 = .ok (.iload_n 1, 1) := by decide +kernel
theorem dX6_setRent_2 : decode cX6_setRent 2 = .ok (.invokevirtual 79, 3) := by decide +kernel
theorem dX6_setRent_5 : decode cX6_setRent 5 = .ok (.ifCond .ne 9, 3) := by decide +kernel
theorem dX6_setRent_8 : decode cX6_setRent 8 = .ok (.aload_n 0, 1) := by decide +kernel
theorem dX6_setRent_9 : decode cX6_setRent 9 = .ok (.iconst 1, 1) := by decide +kernel
theorem dX6_setRent_10 : decode cX6_setRent 10 = .ok (.invokevirtual 68, 3) := by decide +kernel
theorem dX6_setRent_13 : decode cX6_setRent 13 = .ok (.ireturn, 1) := by decide +kernel
theorem dX6_setRent_14 : decode cX6_setRent 14 = .ok (.iload_n 2, 1) := by decide +kernel
theorem dX6_setRent_15 : decode cX6_setRent 15 = .ok (.iconst 0, 1) := by decide +kernel
theorem dX6_setRent_16 : decode cX6_setRent 16 = .ok (.sipush 999, 3) := by decide +kernel
theorem dX6_setRent_19 : decode cX6_setRent 19 = .ok (.invokestatic 61, 3) := by decide +kernel
theorem dX6_setRent_22 : decode cX6_setRent 22 = .ok (.ifCond .eq 10, 3) := by decide +kernel
theorem dX6_setRent_25 : decode cX6_setRent 25 = .ok (.iload_n 3, 1) := by decide +kernel
theorem dX6_setRent_26 : decode cX6_setRent 26 = .ok (.invokestatic 82, 3) := by decide +kernel
theorem dX6_setRent_29 : decode cX6_setRent 29 = .ok (.ifCond .ne 9, 3) := by decide +kernel
theorem dX6_setRent_32 : decode cX6_setRent 32 = .ok (.aload_n 0, 1) := by decide +kernel
theorem dX6_setRent_33 : decode cX6_setRent 33 = .ok (.iconst 2, 1) := by decide +kernel
theorem dX6_setRent_34 : decode cX6_setRent 34 = .ok (.invokevirtual 68, 3) := by decide +kernel
theorem dX6_setRent_37 : decode cX6_setRent 37 = .ok (.ireturn, 1) := by decide +kernel
theorem dX6_setRent_38 : decode cX6_setRent 38 = .ok (.aload_n 0, 1) := by decide +kernel
theorem dX6_setRent_39 : decode cX6_setRent 39 = .ok (.iconst 0, 1) := by decide +kernel
theorem dX6_setRent_40 : decode cX6_setRent 40 = .ok (.putfield 55, 3) := by decide +kernel
theorem dX6_setRent_43 : decode cX6_setRent 43 = .ok (.aload_n 0, 1) := by decide +kernel
theorem dX6_setRent_44 : decode cX6_setRent 44 = .ok (.aload_n 0, 1) := by decide +kernel
theorem dX6_setRent_45 : decode cX6_setRent 45 = .ok (.getfield 23, 3) := by decide +kernel
theorem dX6_setRent_48 : decode cX6_setRent 48 = .ok (.aload_n 0, 1) := by decide +kernel
theorem dX6_setRent_49 : decode cX6_setRent 49 = .ok (.getfield 36, 3) := by decide +kernel
theorem dX6_setRent_52 : decode cX6_setRent 52 = .ok (.sipush 360, 3) := by decide +kernel
theorem dX6_setRent_55 : decode cX6_setRent 55 = .ok (.iload_n 1, 1) := by decide +kernel
theorem dX6_setRent_56 : decode cX6_setRent 56 = .ok (.imul, 1) := by decide +kernel
theorem dX6_setRent_57 : decode cX6_setRent 57 = .ok (.iload_n 3, 1) := by decide +kernel
theorem dX6_setRent_58 : decode cX6_setRent 58 = .ok (.iload_n 2, 1) := by decide +kernel
theorem dX6_setRent_59 : decode cX6_setRent 59 = .ok (.invokevirtual 85, 3) := by decide +kernel
theorem dX6_setRent_62 : decode cX6_setRent 62 = .ok (.ireturn, 1) := by decide +kernel
theorem dX6_setRule_0 : decode cX6_setRule 0 = .ok (.iload_n 1, 1) := by decide +kernel
theorem dX6_setRule_1 : decode cX6_setRule 1 = .ok (.invokestatic 89, 3) := by decide +kernel
theorem dX6_setRule_4 : decode cX6_setRule 4 = .ok (.istore 4, 2) := by decide +kernel
theorem dX6_setRule_6 : decode cX6_setRule 6 = .ok (.iload 4, 2) := by decide +kernel
theorem dX6_setRule_8 : decode cX6_setRule 8 = .ok (.iconst (-1), 1) := by decide +kernel
theorem dX6_setRule_9 : decode cX6_setRule 9 = .ok (.if_icmp .ne 9, 3) := by decide +kernel
theorem dX6_setRule_12 : decode cX6_setRule 12 = .ok (.aload_n 0, 1) := by decide +kernel
theorem dX6_setRule_13 : decode cX6_setRule 13 = .ok (.iconst 1, 1) := by decide +kernel
theorem dX6_setRule_14 : decode cX6_setRule 14 = .ok (.invokevirtual 68, 3) := by decide +kernel
theorem dX6_setRule_17 : decode cX6_setRule 17 = .ok (.ireturn, 1) := by decide +kernel
theorem dX6_setRule_18 : decode cX6_setRule 18 = .ok (.iload_n 2, 1) := by decide +kernel
theorem dX6_setRule_19 : decode cX6_setRule 19 = .ok (.iconst 0, 1) := by decide +kernel
theorem dX6_setRule_20 : decode cX6_setRule 20 = .ok (.iload 4, 2) := by decide +kernel
theorem dX6_setRule_22 : decode cX6_setRule 22 = .ok (.invokestatic 93, 3) := by decide +kernel
theorem dX6_setRule_25 : decode cX6_setRule 25 = .ok (.invokestatic 61, 3) := by decide +kernel
theorem dX6_setRule_28 : decode cX6_setRule 28 = .ok (.ifCond .eq 10, 3) := by decide +kernel
theorem dX6_setRule_31 : decode cX6_setRule 31 = .ok (.iload_n 3, 1) := by decide +kernel
theorem dX6_setRule_32 : decode cX6_setRule 32 = .ok (.invokestatic 82, 3) := by decide +kernel
theorem dX6_setRule_35 : decode cX6_setRule 35 = .ok (.ifCond .ne 9, 3) := by decide +kernel
theorem dX6_setRule_38 : decode cX6_setRule 38 = .ok (.aload_n 0, 1) := by decide +kernel
theorem dX6_setRule_39 : decode cX6_setRule 39 = .ok (.iconst 2, 1) := by decide +kernel
theorem dX6_setRule_40 : decode cX6_setRule 40 = .ok (.invokevirtual 68, 3) := by decide +kernel
theorem dX6_setRule_43 : decode cX6_setRule 43 = .ok (.ireturn, 1) := by decide +kernel
theorem dX6_setRule_44 : decode cX6_setRule 44 = .ok (.aload_n 0, 1) := by decide +kernel
theorem dX6_setRule_45 : decode cX6_setRule 45 = .ok (.iconst 0, 1) := by decide +kernel
theorem dX6_setRule_46 : decode cX6_setRule 46 = .ok (.putfield 55, 3) := by decide +kernel
theorem dX6_setRule_49 : decode cX6_setRule 49 = .ok (.aload_n 0, 1) := by decide +kernel
theorem dX6_setRule_50 : decode cX6_setRule 50 = .ok (.aload_n 0, 1) := by decide +kernel
theorem dX6_setRule_51 : decode cX6_setRule 51 = .ok (.getfield 26, 3) := by decide +kernel
theorem dX6_setRule_54 : decode cX6_setRule 54 = .ok (.aload_n 0, 1) := by decide +kernel
theorem dX6_setRule_55 : decode cX6_setRule 55 = .ok (.getfield 39, 3) := by decide +kernel
theorem dX6_setRule_58 : decode cX6_setRule 58 = .ok (.sipush 360, 3) := by decide +kernel
theorem dX6_setRule_61 : decode cX6_setRule 61 = .ok (.iload 4, 2) := by decide +kernel
theorem dX6_setRule_63 : decode cX6_setRule 63 = .ok (.imul, 1) := by decide +kernel
theorem dX6_setRule_64 : decode cX6_setRule 64 = .ok (.iload_n 3, 1) := by decide +kernel
theorem dX6_setRule_65 : decode cX6_setRule 65 = .ok (.iload_n 2, 1) := by decide +kernel
theorem dX6_setRule_66 : decode cX6_setRule 66 = .ok (.invokevirtual 85, 3) := by decide +kernel
theorem dX6_setRule_69 : decode cX6_setRule 69 = .ok (.ireturn, 1) := by decide +kernel
theorem dX6_takeBackMove_0 : decode cX6_takeBackMove 0 = .ok (.aload_n 0, 1) := by decide +kernel
theorem dX6_takeBackMove_1 : decode cX6_takeBackMove 1 = .ok (.iload_n 1, 1) := by decide +kernel
theorem dX6_takeBackMove_2 : decode cX6_takeBackMove 2 = .ok (.invokevirtual 75, 3) := by decide +kernel
theorem dX6_takeBackMove_5 : decode cX6_takeBackMove 5 = .ok (.ifCond .ne 9, 3) := by decide +kernel
theorem dX6_takeBackMove_8 : decode cX6_takeBackMove 8 = .ok (.aload_n 0, 1) := by decide +kernel
theorem dX6_takeBackMove_9 : decode cX6_takeBackMove 9 = .ok (.iconst 1, 1) := by decide +kernel
theorem dX6_takeBackMove_10 : decode cX6_takeBackMove 10 = .ok (.invokevirtual 68, 3) := by decide +kernel
theorem dX6_takeBackMove_13 : decode cX6_takeBackMove 13 = .ok (.ireturn, 1) := by decide +kernel
theorem dX6_takeBackMove_14 : decode cX6_takeBackMove 14 = .ok (.iload_n 2, 1) := by decide +kernel
theorem dX6_takeBackMove_15 : decode cX6_takeBackMove 15 = .ok (.invokestatic 82, 3) := by decide +kernel
theorem dX6_takeBackMove_18 : decode cX6_takeBackMove 18 = .ok (.ifCond .eq 18, 3) := by decide +kernel
theorem dX6_takeBackMove_21 : decode cX6_takeBackMove 21 = .ok (.aload_n 0, 1) := by decide +kernel
theorem dX6_takeBackMove_22 : decode cX6_takeBackMove 22 = .ok (.getfield 29, 3) := by decide +kernel
theorem dX6_takeBackMove_25 : decode cX6_takeBackMove 25 = .ok (.sipush 360, 3) := by decide +kernel
theorem dX6_takeBackMove_28 : decode cX6_takeBackMove 28 = .ok (.iload_n 1, 1) := by decide +kernel
theorem dX6_takeBackMove_29 : decode cX6_takeBackMove 29 = .ok (.imul, 1) := by decide +kernel
theorem dX6_takeBackMove_30 : decode cX6_takeBackMove 30 = .ok (.iload_n 2, 1) := by decide +kernel
theorem dX6_takeBackMove_31 : decode cX6_takeBackMove 31 = .ok (.iadd, 1) := by decide +kernel
theorem dX6_takeBackMove_32 : decode cX6_takeBackMove 32 = .ok (.baload, 1) := by decide +kernel
theorem dX6_takeBackMove_33 : decode cX6_takeBackMove 33 = .ok (.ifCond .ne 9, 3) := by decide +kernel
theorem dX6_takeBackMove_36 : decode cX6_takeBackMove 36 = .ok (.aload_n 0, 1) := by decide +kernel
theorem dX6_takeBackMove_37 : decode cX6_takeBackMove 37 = .ok (.iconst 2, 1) := by decide +kernel
theorem dX6_takeBackMove_38 : decode cX6_takeBackMove 38 = .ok (.invokevirtual 68, 3) := by decide +kernel
theorem dX6_takeBackMove_41 : decode cX6_takeBackMove 41 = .ok (.ireturn, 1) := by decide +kernel
theorem dX6_takeBackMove_42 : decode cX6_takeBackMove 42 = .ok (.aload_n 0, 1) := by decide +kernel
theorem dX6_takeBackMove_43 : decode cX6_takeBackMove 43 = .ok (.iconst 0, 1) := by decide +kernel
theorem dX6_takeBackMove_44 : decode cX6_takeBackMove 44 = .ok (.putfield 55, 3) := by decide +kernel
theorem dX6_takeBackMove_47 : decode cX6_takeBackMove 47 = .ok (.aload_n 0, 1) := by decide +kernel
theorem dX6_takeBackMove_48 : decode cX6_takeBackMove 48 = .ok (.aload_n 0, 1) := by decide +kernel
theorem dX6_takeBackMove_49 : decode cX6_takeBackMove 49 = .ok (.getfield 17, 3) := by decide +kernel
theorem dX6_takeBackMove_52 : decode cX6_takeBackMove 52 = .ok (.aload_n 0, 1) := by decide +kernel
theorem dX6_takeBackMove_53 : decode cX6_takeBackMove 53 = .ok (.getfield 29, 3) := by decide +kernel
theorem dX6_takeBackMove_56 : decode cX6_takeBackMove 56 = .ok (.sipush 360, 3) := by decide +kernel
theorem dX6_takeBackMove_59 : decode cX6_takeBackMove 59 = .ok (.iload_n 1, 1) := by decide +kernel
theorem dX6_takeBackMove_60 : decode cX6_takeBackMove 60 = .ok (.imul, 1) := by decide +kernel
theorem dX6_takeBackMove_61 : decode cX6_takeBackMove 61 = .ok (.iload_n 2, 1) := by decide +kernel
theorem dX6_takeBackMove_62 : decode cX6_takeBackMove 62 = .ok (.iconst (-1), 1) := by decide +kernel
theorem dX6_takeBackMove_63 : decode cX6_takeBackMove 63 = .ok (.invokevirtual 96, 3) := by decide +kernel
theorem dX6_takeBackMove_66 : decode cX6_takeBackMove 66 = .ok (.ireturn, 1) := by decide +kernel
theorem dX6_takeBackIncome_0 : decode cX6_takeBackIncome 0 = .ok (.aload_n 0, 1) := by decide +kernel
theorem dX6_takeBackIncome_1 : decode cX6_takeBackIncome 1 = .ok (.iload_n 1, 1) := by decide +kernel
theorem dX6_takeBackIncome_2 : decode cX6_takeBackIncome 2 = .ok (.invokevirtual 75, 3) := by decide +kernel
theorem dX6_takeBackIncome_5 : decode cX6_takeBackIncome 5 = .ok (.ifCond .ne 9, 3) := by decide +kernel
theorem dX6_takeBackIncome_8 : decode cX6_takeBackIncome 8 = .ok (.aload_n 0, 1) := by decide +kernel
theorem dX6_takeBackIncome_9 : decode cX6_takeBackIncome 9 = .ok (.iconst 1, 1) := by decide +kernel
theorem dX6_takeBackIncome_10 : decode cX6_takeBackIncome 10 = .ok (.invokevirtual 68, 3) := by decide +kernel
theorem dX6_takeBackIncome_13 : decode cX6_takeBackIncome 13 = .ok (.ireturn, 1) := by decide +kernel
theorem dX6_takeBackIncome_14 : decode cX6_takeBackIncome 14 = .ok (.iload_n 2, 1) := by decide +kernel
theorem dX6_takeBackIncome_15 : decode cX6_takeBackIncome 15 = .ok (.invokestatic 82, 3) := by decide +kernel
theorem dX6_takeBackIncome_18 : decode cX6_takeBackIncome 18 = .ok (.ifCond .eq 18, 3) := by decide +kernel
theorem dX6_takeBackIncome_21 : decode cX6_takeBackIncome 21 = .ok (.aload_n 0, 1) := by decide +kernel
theorem dX6_takeBackIncome_22 : decode cX6_takeBackIncome 22 = .ok (.getfield 33, 3) := by decide +kernel
theorem dX6_takeBackIncome_25 : decode cX6_takeBackIncome 25 = .ok (.sipush 360, 3) := by decide +kernel
theorem dX6_takeBackIncome_28 : decode cX6_takeBackIncome 28 = .ok (.iload_n 1, 1) := by decide +kernel
theorem dX6_takeBackIncome_29 : decode cX6_takeBackIncome 29 = .ok (.imul, 1) := by decide +kernel
theorem dX6_takeBackIncome_30 : decode cX6_takeBackIncome 30 = .ok (.iload_n 2, 1) := by decide +kernel
theorem dX6_takeBackIncome_31 : decode cX6_takeBackIncome 31 = .ok (.iadd, 1) := by decide +kernel
theorem dX6_takeBackIncome_32 : decode cX6_takeBackIncome 32 = .ok (.baload, 1) := by decide +kernel
theorem dX6_takeBackIncome_33 : decode cX6_takeBackIncome 33 = .ok (.ifCond .ne 9, 3) := by decide +kernel
theorem dX6_takeBackIncome_36 : decode cX6_takeBackIncome 36 = .ok (.aload_n 0, 1) := by decide +kernel
theorem dX6_takeBackIncome_37 : decode cX6_takeBackIncome 37 = .ok (.iconst 2, 1) := by decide +kernel
theorem dX6_takeBackIncome_38 : decode cX6_takeBackIncome 38 = .ok (.invokevirtual 68, 3) := by decide +kernel
theorem dX6_takeBackIncome_41 : decode cX6_takeBackIncome 41 = .ok (.ireturn, 1) := by decide +kernel
theorem dX6_takeBackIncome_42 : decode cX6_takeBackIncome 42 = .ok (.aload_n 0, 1) := by decide +kernel
theorem dX6_takeBackIncome_43 : decode cX6_takeBackIncome 43 = .ok (.iconst 0, 1) := by decide +kernel
theorem dX6_takeBackIncome_44 : decode cX6_takeBackIncome 44 = .ok (.putfield 55, 3) := by decide +kernel
theorem dX6_takeBackIncome_47 : decode cX6_takeBackIncome 47 = .ok (.aload_n 0, 1) := by decide +kernel
theorem dX6_takeBackIncome_48 : decode cX6_takeBackIncome 48 = .ok (.aload_n 0, 1) := by decide +kernel
theorem dX6_takeBackIncome_49 : decode cX6_takeBackIncome 49 = .ok (.getfield 20, 3) := by decide +kernel
theorem dX6_takeBackIncome_52 : decode cX6_takeBackIncome 52 = .ok (.aload_n 0, 1) := by decide +kernel
theorem dX6_takeBackIncome_53 : decode cX6_takeBackIncome 53 = .ok (.getfield 33, 3) := by decide +kernel
theorem dX6_takeBackIncome_56 : decode cX6_takeBackIncome 56 = .ok (.sipush 360, 3) := by decide +kernel
theorem dX6_takeBackIncome_59 : decode cX6_takeBackIncome 59 = .ok (.iload_n 1, 1) := by decide +kernel
theorem dX6_takeBackIncome_60 : decode cX6_takeBackIncome 60 = .ok (.imul, 1) := by decide +kernel
theorem dX6_takeBackIncome_61 : decode cX6_takeBackIncome 61 = .ok (.iload_n 2, 1) := by decide +kernel
theorem dX6_takeBackIncome_62 : decode cX6_takeBackIncome 62 = .ok (.iconst 0, 1) := by decide +kernel
theorem dX6_takeBackIncome_63 : decode cX6_takeBackIncome 63 = .ok (.invokevirtual 96, 3) := by decide +kernel
theorem dX6_takeBackIncome_66 : decode cX6_takeBackIncome 66 = .ok (.ireturn, 1) := by decide +kernel
theorem dX6_takeBackRule_0 : decode cX6_takeBackRule 0 = .ok (.iload_n 1, 1) := by decide +kernel
theorem dX6_takeBackRule_1 : decode cX6_takeBackRule 1 = .ok (.invokestatic 89, 3) := by decide +kernel
theorem dX6_takeBackRule_4 : decode cX6_takeBackRule 4 = .ok (.istore_n 3, 1) := by decide +kernel
theorem dX6_takeBackRule_5 : decode cX6_takeBackRule 5 = .ok (.iload_n 3, 1) := by decide +kernel
theorem dX6_takeBackRule_6 : decode cX6_takeBackRule 6 = .ok (.iconst (-1), 1) := by decide +kernel
theorem dX6_takeBackRule_7 : decode cX6_takeBackRule 7 = .ok (.if_icmp .eq 25, 3) := by decide +kernel
theorem dX6_takeBackRule_10 : decode cX6_takeBackRule 10 = .ok (.iload_n 2, 1) := by decide +kernel
theorem dX6_takeBackRule_11 : decode cX6_takeBackRule 11 = .ok (.invokestatic 82, 3) := by decide +kernel
theorem dX6_takeBackRule_14 : decode cX6_takeBackRule 14 = .ok (.ifCond .eq 18, 3) := by decide +kernel
theorem dX6_takeBackRule_17 : decode cX6_takeBackRule 17 = .ok (.aload_n 0, 1) := by decide +kernel
theorem dX6_takeBackRule_18 : decode cX6_takeBackRule 18 = .ok (.getfield 39, 3) := by decide +kernel
theorem dX6_takeBackRule_21 : decode cX6_takeBackRule 21 = .ok (.sipush 360, 3) := by decide +kernel
theorem dX6_takeBackRule_24 : decode cX6_takeBackRule 24 = .ok (.iload_n 3, 1) := by decide +kernel
theorem dX6_takeBackRule_25 : decode cX6_takeBackRule 25 = .ok (.imul, 1) := by decide +kernel
theorem dX6_takeBackRule_26 : decode cX6_takeBackRule 26 = .ok (.iload_n 2, 1) := by decide +kernel
theorem dX6_takeBackRule_27 : decode cX6_takeBackRule 27 = .ok (.iadd, 1) := by decide +kernel
theorem dX6_takeBackRule_28 : decode cX6_takeBackRule 28 = .ok (.baload, 1) := by decide +kernel
theorem dX6_takeBackRule_29 : decode cX6_takeBackRule 29 = .ok (.ifCond .ne 9, 3) := by decide +kernel
theorem dX6_takeBackRule_32 : decode cX6_takeBackRule 32 = .ok (.aload_n 0, 1) := by decide +kernel
theorem dX6_takeBackRule_33 : decode cX6_takeBackRule 33 = .ok (.iconst 1, 1) := by decide +kernel
theorem dX6_takeBackRule_34 : decode cX6_takeBackRule 34 = .ok (.invokevirtual 68, 3) := by decide +kernel
theorem dX6_takeBackRule_37 : decode cX6_takeBackRule 37 = .ok (.ireturn, 1) := by decide +kernel
theorem dX6_takeBackRule_38 : decode cX6_takeBackRule 38 = .ok (.iload_n 2, 1) := by decide +kernel
theorem dX6_takeBackRule_39 : decode cX6_takeBackRule 39 = .ok (.ifCond .ne 9, 3) := by decide +kernel
theorem dX6_takeBackRule_42 : decode cX6_takeBackRule 42 = .ok (.aload_n 0, 1) := by decide +kernel
theorem dX6_takeBackRule_43 : decode cX6_takeBackRule 43 = .ok (.iconst 2, 1) := by decide +kernel
theorem dX6_takeBackRule_44 : decode cX6_takeBackRule 44 = .ok (.invokevirtual 68, 3) := by decide +kernel
theorem dX6_takeBackRule_47 : decode cX6_takeBackRule 47 = .ok (.ireturn, 1) := by decide +kernel
theorem dX6_takeBackRule_48 : decode cX6_takeBackRule 48 = .ok (.aload_n 0, 1) := by decide +kernel
theorem dX6_takeBackRule_49 : decode cX6_takeBackRule 49 = .ok (.iconst 0, 1) := by decide +kernel
theorem dX6_takeBackRule_50 : decode cX6_takeBackRule 50 = .ok (.putfield 55, 3) := by decide +kernel
theorem dX6_takeBackRule_53 : decode cX6_takeBackRule 53 = .ok (.aload_n 0, 1) := by decide +kernel
theorem dX6_takeBackRule_54 : decode cX6_takeBackRule 54 = .ok (.aload_n 0, 1) := by decide +kernel
theorem dX6_takeBackRule_55 : decode cX6_takeBackRule 55 = .ok (.getfield 26, 3) := by decide +kernel
theorem dX6_takeBackRule_58 : decode cX6_takeBackRule 58 = .ok (.aload_n 0, 1) := by decide +kernel
theorem dX6_takeBackRule_59 : decode cX6_takeBackRule 59 = .ok (.getfield 39, 3) := by decide +kernel
theorem dX6_takeBackRule_62 : decode cX6_takeBackRule 62 = .ok (.sipush 360, 3) := by decide +kernel
theorem dX6_takeBackRule_65 : decode cX6_takeBackRule 65 = .ok (.iload_n 3, 1) := by decide +kernel
theorem dX6_takeBackRule_66 : decode cX6_takeBackRule 66 = .ok (.imul, 1) := by decide +kernel
theorem dX6_takeBackRule_67 : decode cX6_takeBackRule 67 = .ok (.iload_n 2, 1) := by decide +kernel
theorem dX6_takeBackRule_68 : decode cX6_takeBackRule 68 = .ok (.iconst 0, 1) := by decide +kernel
theorem dX6_takeBackRule_69 : decode cX6_takeBackRule 69 = .ok (.invokevirtual 96, 3) := by decide +kernel
theorem dX6_takeBackRule_72 : decode cX6_takeBackRule 72 = .ok (.ireturn, 1) := by decide +kernel
theorem dX6_counts_0 : decode cX6_counts 0 = .ok (.aload_n 0, 1) := by decide +kernel
theorem dX6_counts_1 : decode cX6_counts 1 = .ok (.iconst 0, 1) := by decide +kernel
theorem dX6_counts_2 : decode cX6_counts 2 = .ok (.putfield 99, 3) := by decide +kernel
theorem dX6_counts_5 : decode cX6_counts 5 = .ok (.aload_n 0, 1) := by decide +kernel
theorem dX6_counts_6 : decode cX6_counts 6 = .ok (.iconst 0, 1) := by decide +kernel
theorem dX6_counts_7 : decode cX6_counts 7 = .ok (.putfield 102, 3) := by decide +kernel
theorem dX6_counts_10 : decode cX6_counts 10 = .ok (.aload_n 0, 1) := by decide +kernel
theorem dX6_counts_11 : decode cX6_counts 11 = .ok (.iconst 0, 1) := by decide +kernel
theorem dX6_counts_12 : decode cX6_counts 12 = .ok (.putfield 105, 3) := by decide +kernel
theorem dX6_counts_15 : decode cX6_counts 15 = .ok (.iconst 0, 1) := by decide +kernel
theorem dX6_counts_16 : decode cX6_counts 16 = .ok (.istore_n 3, 1) := by decide +kernel
theorem dX6_counts_17 : decode cX6_counts 17 = .ok (.iload_n 3, 1) := by decide +kernel
theorem dX6_counts_18 : decode cX6_counts 18 = .ok (.aload_n 0, 1) := by decide +kernel
theorem dX6_counts_19 : decode cX6_counts 19 = .ok (.getfield 58, 3) := by decide +kernel
theorem dX6_counts_22 : decode cX6_counts 22 = .ok (.if_icmp .ge 97, 3) := by decide +kernel
theorem dX6_counts_25 : decode cX6_counts 25 = .ok (.aload_n 0, 1) := by decide +kernel
theorem dX6_counts_26 : decode cX6_counts 26 = .ok (.getfield 17, 3) := by decide +kernel
theorem dX6_counts_29 : decode cX6_counts 29 = .ok (.sipush 360, 3) := by decide +kernel
theorem dX6_counts_32 : decode cX6_counts 32 = .ok (.iload_n 3, 1) := by decide +kernel
theorem dX6_counts_33 : decode cX6_counts 33 = .ok (.imul, 1) := by decide +kernel
theorem dX6_counts_34 : decode cX6_counts 34 = .ok (.iload_n 2, 1) := by decide +kernel
theorem dX6_counts_35 : decode cX6_counts 35 = .ok (.iadd, 1) := by decide +kernel
theorem dX6_counts_36 : decode cX6_counts 36 = .ok (.iaload, 1) := by decide +kernel
theorem dX6_counts_37 : decode cX6_counts 37 = .ok (.iload_n 1, 1) := by decide +kernel
theorem dX6_counts_38 : decode cX6_counts 38 = .ok (.if_icmp .eq 6, 3) := by decide +kernel
theorem dX6_counts_41 : decode cX6_counts 41 = .ok (.goto 72, 3) := by decide +kernel
theorem dX6_counts_44 : decode cX6_counts 44 = .ok (.aload_n 0, 1) := by decide +kernel
theorem dX6_counts_45 : decode cX6_counts 45 = .ok (.dup, 1) := by decide +kernel
theorem dX6_counts_46 : decode cX6_counts 46 = .ok (.getfield 99, 3) := by decide +kernel
theorem dX6_counts_49 : decode cX6_counts 49 = .ok (.iload_n 2, 1) := by decide +kernel
theorem dX6_counts_50 : decode cX6_counts 50 = .ok (.aload_n 0, 1) := by decide +kernel
theorem dX6_counts_51 : decode cX6_counts 51 = .ok (.getfield 13, 3) := by decide +kernel
theorem dX6_counts_54 : decode cX6_counts 54 = .ok (.iload_n 3, 1) := by decide +kernel
theorem dX6_counts_55 : decode cX6_counts 55 = .ok (.iaload, 1) := by decide +kernel
theorem dX6_counts_56 : decode cX6_counts 56 = .ok (.if_icmp .lt 7, 3) := by decide +kernel
theorem dX6_counts_59 : decode cX6_counts 59 = .ok (.iconst 1, 1) := by decide +kernel
theorem dX6_counts_60 : decode cX6_counts 60 = .ok (.goto 4, 3) := by decide +kernel
theorem dX6_counts_63 : decode cX6_counts 63 = .ok (.iconst 0, 1) := by decide +kernel
theorem dX6_counts_64 : decode cX6_counts 64 = .ok (.iadd, 1) := by decide +kernel
theorem dX6_counts_65 : decode cX6_counts 65 = .ok (.putfield 99, 3) := by decide +kernel
theorem dX6_counts_68 : decode cX6_counts 68 = .ok (.aload_n 0, 1) := by decide +kernel
theorem dX6_counts_69 : decode cX6_counts 69 = .ok (.dup, 1) := by decide +kernel
theorem dX6_counts_70 : decode cX6_counts 70 = .ok (.getfield 102, 3) := by decide +kernel
theorem dX6_counts_73 : decode cX6_counts 73 = .ok (.iload_n 2, 1) := by decide +kernel
theorem dX6_counts_74 : decode cX6_counts 74 = .ok (.aload_n 0, 1) := by decide +kernel
theorem dX6_counts_75 : decode cX6_counts 75 = .ok (.getfield 13, 3) := by decide +kernel
theorem dX6_counts_78 : decode cX6_counts 78 = .ok (.iload_n 3, 1) := by decide +kernel
theorem dX6_counts_79 : decode cX6_counts 79 = .ok (.iaload, 1) := by decide +kernel
theorem dX6_counts_80 : decode cX6_counts 80 = .ok (.if_icmp .ge 7, 3) := by decide +kernel
theorem dX6_counts_83 : decode cX6_counts 83 = .ok (.iconst 1, 1) := by decide +kernel
theorem dX6_counts_84 : decode cX6_counts 84 = .ok (.goto 4, 3) := by decide +kernel
theorem dX6_counts_87 : decode cX6_counts 87 = .ok (.iconst 0, 1) := by decide +kernel
theorem dX6_counts_88 : decode cX6_counts 88 = .ok (.iadd, 1) := by decide +kernel
theorem dX6_counts_89 : decode cX6_counts 89 = .ok (.putfield 102, 3) := by decide +kernel
theorem dX6_counts_92 : decode cX6_counts 92 = .ok (.aload_n 0, 1) := by decide +kernel
theorem dX6_counts_93 : decode cX6_counts 93 = .ok (.dup, 1) := by decide +kernel
theorem dX6_counts_94 : decode cX6_counts 94 = .ok (.getfield 105, 3) := by decide +kernel
theorem dX6_counts_97 : decode cX6_counts 97 = .ok (.aload_n 0, 1) := by decide +kernel
theorem dX6_counts_98 : decode cX6_counts 98 = .ok (.getfield 20, 3) := by decide +kernel
theorem dX6_counts_101 : decode cX6_counts 101 = .ok (.sipush 360, 3) := by decide +kernel
theorem dX6_counts_104 : decode cX6_counts 104 = .ok (.iload_n 3, 1) := by decide +kernel
theorem dX6_counts_105 : decode cX6_counts 105 = .ok (.imul, 1) := by decide +kernel
theorem dX6_counts_106 : decode cX6_counts 106 = .ok (.iload_n 2, 1) := by decide +kernel
theorem dX6_counts_107 : decode cX6_counts 107 = .ok (.iadd, 1) := by decide +kernel
theorem dX6_counts_108 : decode cX6_counts 108 = .ok (.iaload, 1) := by decide +kernel
theorem dX6_counts_109 : decode cX6_counts 109 = .ok (.iadd, 1) := by decide +kernel
theorem dX6_counts_110 : decode cX6_counts 110 = .ok (.putfield 105, 3) := by decide +kernel
theorem dX6_counts_113 : decode cX6_counts 113 = .ok (.iinc 3 1, 3) := by decide +kernel
theorem dX6_counts_116 : decode cX6_counts 116 = .ok (.goto (-99), 3) := by decide +kernel
theorem dX6_counts_119 : decode cX6_counts 119 = .ok (.return_, 1) := by decide +kernel
theorem dX6_lesser_0 : decode cX6_lesser 0 = .ok (.iload_n 0, 1) := by decide +kernel
theorem dX6_lesser_1 : decode cX6_lesser 1 = .ok (.iload_n 1, 1) := by decide +kernel
theorem dX6_lesser_2 : decode cX6_lesser 2 = .ok (.if_icmp .ge 7, 3) := by decide +kernel
theorem dX6_lesser_5 : decode cX6_lesser 5 = .ok (.iload_n 0, 1) := by decide +kernel
theorem dX6_lesser_6 : decode cX6_lesser 6 = .ok (.goto 4, 3) := by decide +kernel
theorem dX6_lesser_9 : decode cX6_lesser 9 = .ok (.iload_n 1, 1) := by decide +kernel
theorem dX6_lesser_10 : decode cX6_lesser 10 = .ok (.ireturn, 1) := by decide +kernel
theorem dX6_at_0 : decode cX6_at 0 = .ok (.aload_n 0, 1) := by decide +kernel
theorem dX6_at_1 : decode cX6_at 1 = .ok (.getfield 26, 3) := by decide +kernel
theorem dX6_at_4 : decode cX6_at 4 = .ok (.sipush 360, 3) := by decide +kernel
theorem dX6_at_7 : decode cX6_at 7 = .ok (.iload_n 1, 1) := by decide +kernel
theorem dX6_at_8 : decode cX6_at 8 = .ok (.imul, 1) := by decide +kernel
theorem dX6_at_9 : decode cX6_at 9 = .ok (.iload_n 2, 1) := by decide +kernel
theorem dX6_at_10 : decode cX6_at 10 = .ok (.iadd, 1) := by decide +kernel
theorem dX6_at_11 : decode cX6_at 11 = .ok (.iaload, 1) := by decide +kernel
theorem dX6_at_12 : decode cX6_at 12 = .ok (.ireturn, 1) := by decide +kernel
theorem dX6_tapers_0 : decode cX6_tapers 0 = .ok (.aload_n 0, 1) := by decide +kernel
theorem dX6_tapers_1 : decode cX6_tapers 1 = .ok (.getfield 105, 3) := by decide +kernel
theorem dX6_tapers_4 : decode cX6_tapers 4 = .ok (.aload_n 0, 1) := by decide +kernel
theorem dX6_tapers_5 : decode cX6_tapers 5 = .ok (.iconst 4, 1) := by decide +kernel
theorem dX6_tapers_6 : decode cX6_tapers 6 = .ok (.iload_n 1, 1) := by decide +kernel
theorem dX6_tapers_7 : decode cX6_tapers 7 = .ok (.invokevirtual 108, 3) := by decide +kernel
theorem dX6_tapers_10 : decode cX6_tapers 10 = .ok (.if_icmp .le 27, 3) := by decide +kernel
theorem dX6_tapers_13 : decode cX6_tapers 13 = .ok (.aload_n 0, 1) := by decide +kernel
theorem dX6_tapers_14 : decode cX6_tapers 14 = .ok (.getfield 105, 3) := by decide +kernel
theorem dX6_tapers_17 : decode cX6_tapers 17 = .ok (.aload_n 0, 1) := by decide +kernel
theorem dX6_tapers_18 : decode cX6_tapers 18 = .ok (.iconst 4, 1) := by decide +kernel
theorem dX6_tapers_19 : decode cX6_tapers 19 = .ok (.iload_n 1, 1) := by decide +kernel
theorem dX6_tapers_20 : decode cX6_tapers 20 = .ok (.invokevirtual 108, 3) := by decide +kernel
theorem dX6_tapers_23 : decode cX6_tapers 23 = .ok (.isub, 1) := by decide +kernel
theorem dX6_tapers_24 : decode cX6_tapers 24 = .ok (.aload_n 0, 1) := by decide +kernel
theorem dX6_tapers_25 : decode cX6_tapers 25 = .ok (.iconst 5, 1) := by decide +kernel
theorem dX6_tapers_26 : decode cX6_tapers 26 = .ok (.iload_n 1, 1) := by decide +kernel
theorem dX6_tapers_27 : decode cX6_tapers 27 = .ok (.invokevirtual 108, 3) := by decide +kernel
theorem dX6_tapers_30 : decode cX6_tapers 30 = .ok (.imul, 1) := by decide +kernel
theorem dX6_tapers_31 : decode cX6_tapers 31 = .ok (.bipush 100, 2) := by decide +kernel
theorem dX6_tapers_33 : decode cX6_tapers 33 = .ok (.idiv, 1) := by decide +kernel
theorem dX6_tapers_34 : decode cX6_tapers 34 = .ok (.goto 4, 3) := by decide +kernel
theorem dX6_tapers_37 : decode cX6_tapers 37 = .ok (.iconst 0, 1) := by decide +kernel
theorem dX6_tapers_38 : decode cX6_tapers 38 = .ok (.istore_n 2, 1) := by decide +kernel
theorem dX6_tapers_39 : decode cX6_tapers 39 = .ok (.iload_n 2, 1) := by decide +kernel
theorem dX6_tapers_40 : decode cX6_tapers 40 = .ok (.aload_n 0, 1) := by decide +kernel
theorem dX6_tapers_41 : decode cX6_tapers 41 = .ok (.getfield 112, 3) := by decide +kernel
theorem dX6_tapers_44 : decode cX6_tapers 44 = .ok (.invokestatic 115, 3) := by decide +kernel
theorem dX6_tapers_47 : decode cX6_tapers 47 = .ok (.istore_n 3, 1) := by decide +kernel
theorem dX6_tapers_48 : decode cX6_tapers 48 = .ok (.iload_n 2, 1) := by decide +kernel
theorem dX6_tapers_49 : decode cX6_tapers 49 = .ok (.iload_n 3, 1) := by decide +kernel
theorem dX6_tapers_50 : decode cX6_tapers 50 = .ok (.isub, 1) := by decide +kernel
theorem dX6_tapers_51 : decode cX6_tapers 51 = .ok (.aload_n 0, 1) := by decide +kernel
theorem dX6_tapers_52 : decode cX6_tapers 52 = .ok (.getfield 118, 3) := by decide +kernel
theorem dX6_tapers_55 : decode cX6_tapers 55 = .ok (.invokestatic 115, 3) := by decide +kernel
theorem dX6_tapers_58 : decode cX6_tapers 58 = .ok (.istore 4, 2) := by decide +kernel
theorem dX6_tapers_60 : decode cX6_tapers 60 = .ok (.aload_n 0, 1) := by decide +kernel
theorem dX6_tapers_61 : decode cX6_tapers 61 = .ok (.dup, 1) := by decide +kernel
theorem dX6_tapers_62 : decode cX6_tapers 62 = .ok (.getfield 112, 3) := by decide +kernel
theorem dX6_tapers_65 : decode cX6_tapers 65 = .ok (.iload_n 3, 1) := by decide +kernel
theorem dX6_tapers_66 : decode cX6_tapers 66 = .ok (.isub, 1) := by decide +kernel
theorem dX6_tapers_67 : decode cX6_tapers 67 = .ok (.putfield 112, 3) := by decide +kernel
theorem dX6_tapers_70 : decode cX6_tapers 70 = .ok (.aload_n 0, 1) := by decide +kernel
theorem dX6_tapers_71 : decode cX6_tapers 71 = .ok (.dup, 1) := by decide +kernel
theorem dX6_tapers_72 : decode cX6_tapers 72 = .ok (.getfield 118, 3) := by decide +kernel
theorem dX6_tapers_75 : decode cX6_tapers 75 = .ok (.iload 4, 2) := by decide +kernel
theorem dX6_tapers_77 : decode cX6_tapers 77 = .ok (.isub, 1) := by decide +kernel
theorem dX6_tapers_78 : decode cX6_tapers 78 = .ok (.putfield 118, 3) := by decide +kernel
theorem dX6_tapers_81 : decode cX6_tapers 81 = .ok (.aload_n 0, 1) := by decide +kernel
theorem dX6_tapers_82 : decode cX6_tapers 82 = .ok (.iload_n 3, 1) := by decide +kernel
theorem dX6_tapers_83 : decode cX6_tapers 83 = .ok (.iload 4, 2) := by decide +kernel
theorem dX6_tapers_85 : decode cX6_tapers 85 = .ok (.iadd, 1) := by decide +kernel
theorem dX6_tapers_86 : decode cX6_tapers 86 = .ok (.ifCond .le 7, 3) := by decide +kernel
theorem dX6_tapers_89 : decode cX6_tapers 89 = .ok (.iconst 1, 1) := by decide +kernel
theorem dX6_tapers_90 : decode cX6_tapers 90 = .ok (.goto 4, 3) := by decide +kernel
theorem dX6_tapers_93 : decode cX6_tapers 93 = .ok (.iconst 0, 1) := by decide +kernel
theorem dX6_tapers_94 : decode cX6_tapers 94 = .ok (.putfield 121, 3) := by decide +kernel
theorem dX6_tapers_97 : decode cX6_tapers 97 = .ok (.return_, 1) := by decide +kernel
theorem dX6_caps_0 : decode cX6_caps 0 = .ok (.aload_n 0, 1) := by decide +kernel
theorem dX6_caps_1 : decode cX6_caps 1 = .ok (.getfield 118, 3) := by decide +kernel
theorem dX6_caps_4 : decode cX6_caps 4 = .ok (.aload_n 0, 1) := by decide +kernel
theorem dX6_caps_5 : decode cX6_caps 5 = .ok (.getfield 125, 3) := by decide +kernel
theorem dX6_caps_8 : decode cX6_caps 8 = .ok (.iadd, 1) := by decide +kernel
theorem dX6_caps_9 : decode cX6_caps 9 = .ok (.aload_n 0, 1) := by decide +kernel
theorem dX6_caps_10 : decode cX6_caps 10 = .ok (.getfield 112, 3) := by decide +kernel
theorem dX6_caps_13 : decode cX6_caps 13 = .ok (.iadd, 1) := by decide +kernel
theorem dX6_caps_14 : decode cX6_caps 14 = .ok (.istore_n 2, 1) := by decide +kernel
theorem dX6_caps_15 : decode cX6_caps 15 = .ok (.aload_n 0, 1) := by decide +kernel
theorem dX6_caps_16 : decode cX6_caps 16 = .ok (.iload_n 2, 1) := by decide +kernel
theorem dX6_caps_17 : decode cX6_caps 17 = .ok (.iload_n 1, 1) := by decide +kernel
theorem dX6_caps_18 : decode cX6_caps 18 = .ok (.if_icmp .le 7, 3) := by decide +kernel
theorem dX6_caps_21 : decode cX6_caps 21 = .ok (.iconst 1, 1) := by decide +kernel
theorem dX6_caps_22 : decode cX6_caps 22 = .ok (.goto 4, 3) := by decide +kernel
theorem dX6_caps_25 : decode cX6_caps 25 = .ok (.iconst 0, 1) := by decide +kernel
theorem dX6_caps_26 : decode cX6_caps 26 = .ok (.putfield 128, 3) := by decide +kernel
theorem dX6_caps_29 : decode cX6_caps 29 = .ok (.aload_n 0, 1) := by decide +kernel
theorem dX6_caps_30 : decode cX6_caps 30 = .ok (.getfield 128, 3) := by decide +kernel
theorem dX6_caps_33 : decode cX6_caps 33 = .ok (.ifCond .ne 4, 3) := by decide +kernel
theorem dX6_caps_36 : decode cX6_caps 36 = .ok (.return_, 1) := by decide +kernel
theorem dX6_caps_37 : decode cX6_caps 37 = .ok (.aload_n 0, 1) := by decide +kernel
theorem dX6_caps_38 : decode cX6_caps 38 = .ok (.getfield 118, 3) := by decide +kernel
theorem dX6_caps_41 : decode cX6_caps 41 = .ok (.iload_n 1, 1) := by decide +kernel
theorem dX6_caps_42 : decode cX6_caps 42 = .ok (.imul, 1) := by decide +kernel
theorem dX6_caps_43 : decode cX6_caps 43 = .ok (.iload_n 2, 1) := by decide +kernel
theorem dX6_caps_44 : decode cX6_caps 44 = .ok (.irem, 1) := by decide +kernel
theorem dX6_caps_45 : decode cX6_caps 45 = .ok (.istore_n 3, 1) := by decide +kernel
theorem dX6_caps_46 : decode cX6_caps 46 = .ok (.aload_n 0, 1) := by decide +kernel
theorem dX6_caps_47 : decode cX6_caps 47 = .ok (.getfield 125, 3) := by decide +kernel
theorem dX6_caps_50 : decode cX6_caps 50 = .ok (.iload_n 1, 1) := by decide +kernel
theorem dX6_caps_51 : decode cX6_caps 51 = .ok (.imul, 1) := by decide +kernel
theorem dX6_caps_52 : decode cX6_caps 52 = .ok (.iload_n 2, 1) := by decide +kernel
theorem dX6_caps_53 : decode cX6_caps 53 = .ok (.irem, 1) := by decide +kernel
theorem dX6_caps_54 : decode cX6_caps 54 = .ok (.istore 4, 2) := by decide +kernel
theorem dX6_caps_56 : decode cX6_caps 56 = .ok (.aload_n 0, 1) := by decide +kernel
theorem dX6_caps_57 : decode cX6_caps 57 = .ok (.getfield 112, 3) := by decide +kernel
theorem dX6_caps_60 : decode cX6_caps 60 = .ok (.iload_n 1, 1) := by decide +kernel
theorem dX6_caps_61 : decode cX6_caps 61 = .ok (.imul, 1) := by decide +kernel
theorem dX6_caps_62 : decode cX6_caps 62 = .ok (.iload_n 2, 1) := by decide +kernel
theorem dX6_caps_63 : decode cX6_caps 63 = .ok (.irem, 1) := by decide +kernel
theorem dX6_caps_64 : decode cX6_caps 64 = .ok (.istore 5, 2) := by decide +kernel
theorem dX6_caps_66 : decode cX6_caps 66 = .ok (.aload_n 0, 1) := by decide +kernel
theorem dX6_caps_67 : decode cX6_caps 67 = .ok (.aload_n 0, 1) := by decide +kernel
theorem dX6_caps_68 : decode cX6_caps 68 = .ok (.getfield 118, 3) := by decide +kernel
theorem dX6_caps_71 : decode cX6_caps 71 = .ok (.iload_n 1, 1) := by decide +kernel
theorem dX6_caps_72 : decode cX6_caps 72 = .ok (.imul, 1) := by decide +kernel
theorem dX6_caps_73 : decode cX6_caps 73 = .ok (.iload_n 2, 1) := by decide +kernel
theorem dX6_caps_74 : decode cX6_caps 74 = .ok (.idiv, 1) := by decide +kernel
theorem dX6_caps_75 : decode cX6_caps 75 = .ok (.putfield 118, 3) := by decide +kernel
theorem dX6_caps_78 : decode cX6_caps 78 = .ok (.aload_n 0, 1) := by decide +kernel
theorem dX6_caps_79 : decode cX6_caps 79 = .ok (.aload_n 0, 1) := by decide +kernel
theorem dX6_caps_80 : decode cX6_caps 80 = .ok (.getfield 125, 3) := by decide +kernel
theorem dX6_caps_83 : decode cX6_caps 83 = .ok (.iload_n 1, 1) := by decide +kernel
theorem dX6_caps_84 : decode cX6_caps 84 = .ok (.imul, 1) := by decide +kernel
theorem dX6_caps_85 : decode cX6_caps 85 = .ok (.iload_n 2, 1) := by decide +kernel
theorem dX6_caps_86 : decode cX6_caps 86 = .ok (.idiv, 1) := by decide +kernel
theorem dX6_caps_87 : decode cX6_caps 87 = .ok (.putfield 125, 3) := by decide +kernel
theorem dX6_caps_90 : decode cX6_caps 90 = .ok (.aload_n 0, 1) := by decide +kernel
theorem dX6_caps_91 : decode cX6_caps 91 = .ok (.aload_n 0, 1) := by decide +kernel
theorem dX6_caps_92 : decode cX6_caps 92 = .ok (.getfield 112, 3) := by decide +kernel
theorem dX6_caps_95 : decode cX6_caps 95 = .ok (.iload_n 1, 1) := by decide +kernel
theorem dX6_caps_96 : decode cX6_caps 96 = .ok (.imul, 1) := by decide +kernel
theorem dX6_caps_97 : decode cX6_caps 97 = .ok (.iload_n 2, 1) := by decide +kernel
theorem dX6_caps_98 : decode cX6_caps 98 = .ok (.idiv, 1) := by decide +kernel
theorem dX6_caps_99 : decode cX6_caps 99 = .ok (.putfield 112, 3) := by decide +kernel
theorem dX6_caps_102 : decode cX6_caps 102 = .ok (.iload_n 1, 1) := by decide +kernel
theorem dX6_caps_103 : decode cX6_caps 103 = .ok (.aload_n 0, 1) := by decide +kernel
theorem dX6_caps_104 : decode cX6_caps 104 = .ok (.getfield 118, 3) := by decide +kernel
theorem dX6_caps_107 : decode cX6_caps 107 = .ok (.isub, 1) := by decide +kernel
theorem dX6_caps_108 : decode cX6_caps 108 = .ok (.aload_n 0, 1) := by decide +kernel
theorem dX6_caps_109 : decode cX6_caps 109 = .ok (.getfield 125, 3) := by decide +kernel
theorem dX6_caps_112 : decode cX6_caps 112 = .ok (.isub, 1) := by decide +kernel
theorem dX6_caps_113 : decode cX6_caps 113 = .ok (.aload_n 0, 1) := by decide +kernel
theorem dX6_caps_114 : decode cX6_caps 114 = .ok (.getfield 112, 3) := by decide +kernel
theorem dX6_caps_117 : decode cX6_caps 117 = .ok (.isub, 1) := by decide +kernel
theorem dX6_caps_118 : decode cX6_caps 118 = .ok (.istore 6, 2) := by decide +kernel
theorem dX6_caps_120 : decode cX6_caps 120 = .ok (.iload 6, 2) := by decide +kernel
theorem dX6_caps_122 : decode cX6_caps 122 = .ok (.ifCond .le 72, 3) := by decide +kernel
theorem dX6_caps_125 : decode cX6_caps 125 = .ok (.iload_n 3, 1) := by decide +kernel
theorem dX6_caps_126 : decode cX6_caps 126 = .ok (.iload 4, 2) := by decide +kernel
theorem dX6_caps_128 : decode cX6_caps 128 = .ok (.if_icmp .lt 24, 3) := by decide +kernel
theorem dX6_caps_131 : decode cX6_caps 131 = .ok (.iload_n 3, 1) := by decide +kernel
theorem dX6_caps_132 : decode cX6_caps 132 = .ok (.iload 5, 2) := by decide +kernel
theorem dX6_caps_134 : decode cX6_caps 134 = .ok (.if_icmp .lt 18, 3) := by decide +kernel
theorem dX6_caps_137 : decode cX6_caps 137 = .ok (.aload_n 0, 1) := by decide +kernel
theorem dX6_caps_138 : decode cX6_caps 138 = .ok (.dup, 1) := by decide +kernel
theorem dX6_caps_139 : decode cX6_caps 139 = .ok (.getfield 118, 3) := by decide +kernel
theorem dX6_caps_142 : decode cX6_caps 142 = .ok (.iconst 1, 1) := by decide +kernel
theorem dX6_caps_143 : decode cX6_caps 143 = .ok (.iadd, 1) := by decide +kernel
theorem dX6_caps_144 : decode cX6_caps 144 = .ok (.putfield 118, 3) := by decide +kernel
theorem dX6_caps_147 : decode cX6_caps 147 = .ok (.iconst (-1), 1) := by decide +kernel
theorem dX6_caps_148 : decode cX6_caps 148 = .ok (.istore_n 3, 1) := by decide +kernel
theorem dX6_caps_149 : decode cX6_caps 149 = .ok (.goto 39, 3) := by decide +kernel
theorem dX6_caps_152 : decode cX6_caps 152 = .ok (.iload 4, 2) := by decide +kernel
theorem dX6_caps_154 : decode cX6_caps 154 = .ok (.iload 5, 2) := by decide +kernel
theorem dX6_caps_156 : decode cX6_caps 156 = .ok (.if_icmp .lt 19, 3) := by decide +kernel
theorem dX6_caps_159 : decode cX6_caps 159 = .ok (.aload_n 0, 1) := by decide +kernel
theorem dX6_caps_160 : decode cX6_caps 160 = .ok (.dup, 1) := by decide +kernel
theorem dX6_caps_161 : decode cX6_caps 161 = .ok (.getfield 125, 3) := by decide +kernel
theorem dX6_caps_164 : decode cX6_caps 164 = .ok (.iconst 1, 1) := by decide +kernel
theorem dX6_caps_165 : decode cX6_caps 165 = .ok (.iadd, 1) := by decide +kernel
theorem dX6_caps_166 : decode cX6_caps 166 = .ok (.putfield 125, 3) := by decide +kernel
theorem dX6_caps_169 : decode cX6_caps 169 = .ok (.iconst (-1), 1) := by decide +kernel
theorem dX6_caps_170 : decode cX6_caps 170 = .ok (.istore 4, 2) := by decide +kernel
theorem dX6_caps_172 : decode cX6_caps 172 = .ok (.goto 16, 3) := by decide +kernel
theorem dX6_caps_175 : decode cX6_caps 175 = .ok (.aload_n 0, 1) := by decide +kernel
theorem dX6_caps_176 : decode cX6_caps 176 = .ok (.dup, 1) := by decide +kernel
theorem dX6_caps_177 : decode cX6_caps 177 = .ok (.getfield 112, 3) := by decide +kernel
theorem dX6_caps_180 : decode cX6_caps 180 = .ok (.iconst 1, 1) := by decide +kernel
theorem dX6_caps_181 : decode cX6_caps 181 = .ok (.iadd, 1) := by decide +kernel
theorem dX6_caps_182 : decode cX6_caps 182 = .ok (.putfield 112, 3) := by decide +kernel
theorem dX6_caps_185 : decode cX6_caps 185 = .ok (.iconst (-1), 1) := by decide +kernel
theorem dX6_caps_186 : decode cX6_caps 186 = .ok (.istore 5, 2) := by decide +kernel
theorem dX6_caps_188 : decode cX6_caps 188 = .ok (.iinc 6 (-1), 3) := by decide +kernel
theorem dX6_caps_191 : decode cX6_caps 191 = .ok (.goto (-71), 3) := by decide +kernel
theorem dX6_caps_194 : decode cX6_caps 194 = .ok (.return_, 1) := by decide +kernel
theorem dX6_amounts_0 : decode cX6_amounts 0 = .ok (.aload_n 0, 1) := by decide +kernel
theorem dX6_amounts_1 : decode cX6_amounts 1 = .ok (.iload_n 1, 1) := by decide +kernel
theorem dX6_amounts_2 : decode cX6_amounts 2 = .ok (.iload_n 2, 1) := by decide +kernel
theorem dX6_amounts_3 : decode cX6_amounts 3 = .ok (.invokevirtual 131, 3) := by decide +kernel
theorem dX6_amounts_6 : decode cX6_amounts 6 = .ok (.aload_n 0, 1) := by decide +kernel
theorem dX6_amounts_7 : decode cX6_amounts 7 = .ok (.getfield 99, 3) := by decide +kernel
theorem dX6_amounts_10 : decode cX6_amounts 10 = .ok (.ifCond .ne 7, 3) := by decide +kernel
theorem dX6_amounts_13 : decode cX6_amounts 13 = .ok (.iconst 1, 1) := by decide +kernel
theorem dX6_amounts_14 : decode cX6_amounts 14 = .ok (.goto 4, 3) := by decide +kernel
theorem dX6_amounts_17 : decode cX6_amounts 17 = .ok (.iconst 0, 1) := by decide +kernel
theorem dX6_amounts_18 : decode cX6_amounts 18 = .ok (.istore_n 3, 1) := by decide +kernel
theorem dX6_amounts_19 : decode cX6_amounts 19 = .ok (.aload_n 0, 1) := by decide +kernel
theorem dX6_amounts_20 : decode cX6_amounts 20 = .ok (.aload_n 0, 1) := by decide +kernel
theorem dX6_amounts_21 : decode cX6_amounts 21 = .ok (.getfield 99, 3) := by decide +kernel
theorem dX6_amounts_24 : decode cX6_amounts 24 = .ok (.aload_n 0, 1) := by decide +kernel
theorem dX6_amounts_25 : decode cX6_amounts 25 = .ok (.iconst 0, 1) := by decide +kernel
theorem dX6_amounts_26 : decode cX6_amounts 26 = .ok (.iload_n 2, 1) := by decide +kernel
theorem dX6_amounts_27 : decode cX6_amounts 27 = .ok (.invokevirtual 108, 3) := by decide +kernel
theorem dX6_amounts_30 : decode cX6_amounts 30 = .ok (.imul, 1) := by decide +kernel
theorem dX6_amounts_31 : decode cX6_amounts 31 = .ok (.putfield 118, 3) := by decide +kernel
theorem dX6_amounts_34 : decode cX6_amounts 34 = .ok (.aload_n 0, 1) := by decide +kernel
theorem dX6_amounts_35 : decode cX6_amounts 35 = .ok (.iload_n 3, 1) := by decide +kernel
theorem dX6_amounts_36 : decode cX6_amounts 36 = .ok (.ifCond .eq 7, 3) := by decide +kernel
theorem dX6_amounts_39 : decode cX6_amounts 39 = .ok (.iconst 0, 1) := by decide +kernel
theorem dX6_amounts_40 : decode cX6_amounts 40 = .ok (.goto 32, 3) := by decide +kernel
theorem dX6_amounts_43 : decode cX6_amounts 43 = .ok (.aload_n 0, 1) := by decide +kernel
theorem dX6_amounts_44 : decode cX6_amounts 44 = .ok (.getfield 102, 3) := by decide +kernel
theorem dX6_amounts_47 : decode cX6_amounts 47 = .ok (.aload_n 0, 1) := by decide +kernel
theorem dX6_amounts_48 : decode cX6_amounts 48 = .ok (.iconst 1, 1) := by decide +kernel
theorem dX6_amounts_49 : decode cX6_amounts 49 = .ok (.iload_n 2, 1) := by decide +kernel
theorem dX6_amounts_50 : decode cX6_amounts 50 = .ok (.invokevirtual 108, 3) := by decide +kernel
theorem dX6_amounts_53 : decode cX6_amounts 53 = .ok (.imul, 1) := by decide +kernel
theorem dX6_amounts_54 : decode cX6_amounts 54 = .ok (.aload_n 0, 1) := by decide +kernel
theorem dX6_amounts_55 : decode cX6_amounts 55 = .ok (.getfield 102, 3) := by decide +kernel
theorem dX6_amounts_58 : decode cX6_amounts 58 = .ok (.ifCond .le 12, 3) := by decide +kernel
theorem dX6_amounts_61 : decode cX6_amounts 61 = .ok (.aload_n 0, 1) := by decide +kernel
theorem dX6_amounts_62 : decode cX6_amounts 62 = .ok (.iconst 2, 1) := by decide +kernel
theorem dX6_amounts_63 : decode cX6_amounts 63 = .ok (.iload_n 2, 1) := by decide +kernel
theorem dX6_amounts_64 : decode cX6_amounts 64 = .ok (.invokevirtual 108, 3) := by decide +kernel
theorem dX6_amounts_67 : decode cX6_amounts 67 = .ok (.goto 4, 3) := by decide +kernel
theorem dX6_amounts_70 : decode cX6_amounts 70 = .ok (.iconst 0, 1) := by decide +kernel
theorem dX6_amounts_71 : decode cX6_amounts 71 = .ok (.iadd, 1) := by decide +kernel
theorem dX6_amounts_72 : decode cX6_amounts 72 = .ok (.putfield 125, 3) := by decide +kernel
theorem dX6_amounts_75 : decode cX6_amounts 75 = .ok (.aload_n 0, 1) := by decide +kernel
theorem dX6_amounts_76 : decode cX6_amounts 76 = .ok (.iload_n 3, 1) := by decide +kernel
theorem dX6_amounts_77 : decode cX6_amounts 77 = .ok (.ifCond .eq 7, 3) := by decide +kernel
theorem dX6_amounts_80 : decode cX6_amounts 80 = .ok (.iconst 0, 1) := by decide +kernel
theorem dX6_amounts_81 : decode cX6_amounts 81 = .ok (.goto 24, 3) := by decide +kernel
theorem dX6_amounts_84 : decode cX6_amounts 84 = .ok (.aload_n 0, 1) := by decide +kernel
theorem dX6_amounts_85 : decode cX6_amounts 85 = .ok (.getfield 23, 3) := by decide +kernel
theorem dX6_amounts_88 : decode cX6_amounts 88 = .ok (.sipush 360, 3) := by decide +kernel
theorem dX6_amounts_91 : decode cX6_amounts 91 = .ok (.iload_n 1, 1) := by decide +kernel
theorem dX6_amounts_92 : decode cX6_amounts 92 = .ok (.imul, 1) := by decide +kernel
theorem dX6_amounts_93 : decode cX6_amounts 93 = .ok (.iload_n 2, 1) := by decide +kernel
theorem dX6_amounts_94 : decode cX6_amounts 94 = .ok (.iadd, 1) := by decide +kernel
theorem dX6_amounts_95 : decode cX6_amounts 95 = .ok (.iaload, 1) := by decide +kernel
theorem dX6_amounts_96 : decode cX6_amounts 96 = .ok (.aload_n 0, 1) := by decide +kernel
theorem dX6_amounts_97 : decode cX6_amounts 97 = .ok (.iconst 3, 1) := by decide +kernel
theorem dX6_amounts_98 : decode cX6_amounts 98 = .ok (.iload_n 2, 1) := by decide +kernel
theorem dX6_amounts_99 : decode cX6_amounts 99 = .ok (.invokevirtual 108, 3) := by decide +kernel
theorem dX6_amounts_102 : decode cX6_amounts 102 = .ok (.invokestatic 115, 3) := by decide +kernel
theorem dX6_amounts_105 : decode cX6_amounts 105 = .ok (.putfield 112, 3) := by decide +kernel
theorem dX6_amounts_108 : decode cX6_amounts 108 = .ok (.aload_n 0, 1) := by decide +kernel
theorem dX6_amounts_109 : decode cX6_amounts 109 = .ok (.iload_n 2, 1) := by decide +kernel
theorem dX6_amounts_110 : decode cX6_amounts 110 = .ok (.invokevirtual 135, 3) := by decide +kernel
theorem dX6_amounts_113 : decode cX6_amounts 113 = .ok (.aload_n 0, 1) := by decide +kernel
theorem dX6_amounts_114 : decode cX6_amounts 114 = .ok (.aload_n 0, 1) := by decide +kernel
theorem dX6_amounts_115 : decode cX6_amounts 115 = .ok (.bipush 6, 2) := by decide +kernel
theorem dX6_amounts_117 : decode cX6_amounts 117 = .ok (.iload_n 2, 1) := by decide +kernel
theorem dX6_amounts_118 : decode cX6_amounts 118 = .ok (.invokevirtual 108, 3) := by decide +kernel
theorem dX6_amounts_121 : decode cX6_amounts 121 = .ok (.invokevirtual 139, 3) := by decide +kernel
theorem dX6_amounts_124 : decode cX6_amounts 124 = .ok (.return_, 1) := by decide +kernel
theorem dX6_sumOf_0 : decode cX6_sumOf 0 = .ok (.iconst 0, 1) := by decide +kernel
theorem dX6_sumOf_1 : decode cX6_sumOf 1 = .ok (.istore_n 3, 1) := by decide +kernel
theorem dX6_sumOf_2 : decode cX6_sumOf 2 = .ok (.bipush 30, 2) := by decide +kernel
theorem dX6_sumOf_4 : decode cX6_sumOf 4 = .ok (.iload_n 2, 1) := by decide +kernel
theorem dX6_sumOf_5 : decode cX6_sumOf 5 = .ok (.imul, 1) := by decide +kernel
theorem dX6_sumOf_6 : decode cX6_sumOf 6 = .ok (.istore 4, 2) := by decide +kernel
theorem dX6_sumOf_8 : decode cX6_sumOf 8 = .ok (.iload 4, 2) := by decide +kernel
theorem dX6_sumOf_10 : decode cX6_sumOf 10 = .ok (.bipush 30, 2) := by decide +kernel
theorem dX6_sumOf_12 : decode cX6_sumOf 12 = .ok (.iload_n 2, 1) := by decide +kernel
theorem dX6_sumOf_13 : decode cX6_sumOf 13 = .ok (.imul, 1) := by decide +kernel
theorem dX6_sumOf_14 : decode cX6_sumOf 14 = .ok (.bipush 30, 2) := by decide +kernel
theorem dX6_sumOf_16 : decode cX6_sumOf 16 = .ok (.iadd, 1) := by decide +kernel
theorem dX6_sumOf_17 : decode cX6_sumOf 17 = .ok (.if_icmp .ge 33, 3) := by decide +kernel
theorem dX6_sumOf_20 : decode cX6_sumOf 20 = .ok (.aload_n 0, 1) := by decide +kernel
theorem dX6_sumOf_21 : decode cX6_sumOf 21 = .ok (.iload_n 1, 1) := by decide +kernel
theorem dX6_sumOf_22 : decode cX6_sumOf 22 = .ok (.iload 4, 2) := by decide +kernel
theorem dX6_sumOf_24 : decode cX6_sumOf 24 = .ok (.invokevirtual 142, 3) := by decide +kernel
theorem dX6_sumOf_27 : decode cX6_sumOf 27 = .ok (.iload_n 3, 1) := by decide +kernel
theorem dX6_sumOf_28 : decode cX6_sumOf 28 = .ok (.aload_n 0, 1) := by decide +kernel
theorem dX6_sumOf_29 : decode cX6_sumOf 29 = .ok (.getfield 118, 3) := by decide +kernel
theorem dX6_sumOf_32 : decode cX6_sumOf 32 = .ok (.aload_n 0, 1) := by decide +kernel
theorem dX6_sumOf_33 : decode cX6_sumOf 33 = .ok (.getfield 125, 3) := by decide +kernel
theorem dX6_sumOf_36 : decode cX6_sumOf 36 = .ok (.iadd, 1) := by decide +kernel
theorem dX6_sumOf_37 : decode cX6_sumOf 37 = .ok (.aload_n 0, 1) := by decide +kernel
theorem dX6_sumOf_38 : decode cX6_sumOf 38 = .ok (.getfield 112, 3) := by decide +kernel
theorem dX6_sumOf_41 : decode cX6_sumOf 41 = .ok (.iadd, 1) := by decide +kernel
theorem dX6_sumOf_42 : decode cX6_sumOf 42 = .ok (.iadd, 1) := by decide +kernel
theorem dX6_sumOf_43 : decode cX6_sumOf 43 = .ok (.istore_n 3, 1) := by decide +kernel
theorem dX6_sumOf_44 : decode cX6_sumOf 44 = .ok (.iinc 4 1, 3) := by decide +kernel
theorem dX6_sumOf_47 : decode cX6_sumOf 47 = .ok (.goto (-39), 3) := by decide +kernel
theorem dX6_sumOf_50 : decode cX6_sumOf 50 = .ok (.iload_n 3, 1) := by decide +kernel
theorem dX6_sumOf_51 : decode cX6_sumOf 51 = .ok (.ireturn, 1) := by decide +kernel
theorem dX6_hands_0 : decode cX6_hands 0 = .ok (.iconst 0, 1) := by decide +kernel
theorem dX6_hands_1 : decode cX6_hands 1 = .ok (.istore_n 2, 1) := by decide +kernel
theorem dX6_hands_2 : decode cX6_hands 2 = .ok (.iconst 0, 1) := by decide +kernel
theorem dX6_hands_3 : decode cX6_hands 3 = .ok (.istore_n 3, 1) := by decide +kernel
theorem dX6_hands_4 : decode cX6_hands 4 = .ok (.iconst 0, 1) := by decide +kernel
theorem dX6_hands_5 : decode cX6_hands 5 = .ok (.istore 4, 2) := by decide +kernel
theorem dX6_hands_7 : decode cX6_hands 7 = .ok (.iload 4, 2) := by decide +kernel
theorem dX6_hands_9 : decode cX6_hands 9 = .ok (.aload_n 0, 1) := by decide +kernel
theorem dX6_hands_10 : decode cX6_hands 10 = .ok (.getfield 145, 3) := by decide +kernel
theorem dX6_hands_13 : decode cX6_hands 13 = .ok (.if_icmp .gt 23, 3) := by decide +kernel
theorem dX6_hands_16 : decode cX6_hands 16 = .ok (.aload_n 0, 1) := by decide +kernel
theorem dX6_hands_17 : decode cX6_hands 17 = .ok (.getfield 48, 3) := by decide +kernel
theorem dX6_hands_20 : decode cX6_hands 20 = .ok (.iload 4, 2) := by decide +kernel
theorem dX6_hands_22 : decode cX6_hands 22 = .ok (.aload_n 0, 1) := by decide +kernel
theorem dX6_hands_23 : decode cX6_hands 23 = .ok (.iload_n 1, 1) := by decide +kernel
theorem dX6_hands_24 : decode cX6_hands 24 = .ok (.iload 4, 2) := by decide +kernel
theorem dX6_hands_26 : decode cX6_hands 26 = .ok (.invokevirtual 148, 3) := by decide +kernel
theorem dX6_hands_29 : decode cX6_hands 29 = .ok (.iastore, 1) := by decide +kernel
theorem dX6_hands_30 : decode cX6_hands 30 = .ok (.iinc 4 1, 3) := by decide +kernel
theorem dX6_hands_33 : decode cX6_hands 33 = .ok (.goto (-26), 3) := by decide +kernel
theorem dX6_hands_36 : decode cX6_hands 36 = .ok (.iconst 0, 1) := by decide +kernel
theorem dX6_hands_37 : decode cX6_hands 37 = .ok (.istore 4, 2) := by decide +kernel
theorem dX6_hands_39 : decode cX6_hands 39 = .ok (.iload 4, 2) := by decide +kernel
theorem dX6_hands_41 : decode cX6_hands 41 = .ok (.aload_n 0, 1) := by decide +kernel
theorem dX6_hands_42 : decode cX6_hands 42 = .ok (.getfield 145, 3) := by decide +kernel
theorem dX6_hands_45 : decode cX6_hands 45 = .ok (.if_icmp .ge 60, 3) := by decide +kernel
theorem dX6_hands_48 : decode cX6_hands 48 = .ok (.aload_n 0, 1) := by decide +kernel
theorem dX6_hands_49 : decode cX6_hands 49 = .ok (.getfield 48, 3) := by decide +kernel
theorem dX6_hands_52 : decode cX6_hands 52 = .ok (.iload 4, 2) := by decide +kernel
theorem dX6_hands_54 : decode cX6_hands 54 = .ok (.iaload, 1) := by decide +kernel
theorem dX6_hands_55 : decode cX6_hands 55 = .ok (.aload_n 0, 1) := by decide +kernel
theorem dX6_hands_56 : decode cX6_hands 56 = .ok (.getfield 42, 3) := by decide +kernel
theorem dX6_hands_59 : decode cX6_hands 59 = .ok (.bipush 12, 2) := by decide +kernel
theorem dX6_hands_61 : decode cX6_hands 61 = .ok (.iload_n 1, 1) := by decide +kernel
theorem dX6_hands_62 : decode cX6_hands 62 = .ok (.imul, 1) := by decide +kernel
theorem dX6_hands_63 : decode cX6_hands 63 = .ok (.iload 4, 2) := by decide +kernel
theorem dX6_hands_65 : decode cX6_hands 65 = .ok (.iadd, 1) := by decide +kernel
theorem dX6_hands_66 : decode cX6_hands 66 = .ok (.iaload, 1) := by decide +kernel
theorem dX6_hands_67 : decode cX6_hands 67 = .ok (.isub, 1) := by decide +kernel
theorem dX6_hands_68 : decode cX6_hands 68 = .ok (.istore 5, 2) := by decide +kernel
theorem dX6_hands_70 : decode cX6_hands 70 = .ok (.iload_n 2, 1) := by decide +kernel
theorem dX6_hands_71 : decode cX6_hands 71 = .ok (.iload 5, 2) := by decide +kernel
theorem dX6_hands_73 : decode cX6_hands 73 = .ok (.ifCond .le 8, 3) := by decide +kernel
theorem dX6_hands_76 : decode cX6_hands 76 = .ok (.iload 5, 2) := by decide +kernel
theorem dX6_hands_78 : decode cX6_hands 78 = .ok (.goto 4, 3) := by decide +kernel
theorem dX6_hands_81 : decode cX6_hands 81 = .ok (.iconst 0, 1) := by decide +kernel
theorem dX6_hands_82 : decode cX6_hands 82 = .ok (.iadd, 1) := by decide +kernel
theorem dX6_hands_83 : decode cX6_hands 83 = .ok (.istore_n 2, 1) := by decide +kernel
theorem dX6_hands_84 : decode cX6_hands 84 = .ok (.iload_n 3, 1) := by decide +kernel
theorem dX6_hands_85 : decode cX6_hands 85 = .ok (.iload 5, 2) := by decide +kernel
theorem dX6_hands_87 : decode cX6_hands 87 = .ok (.ifCond .ge 9, 3) := by decide +kernel
theorem dX6_hands_90 : decode cX6_hands 90 = .ok (.iload 5, 2) := by decide +kernel
theorem dX6_hands_92 : decode cX6_hands 92 = .ok (.ineg, 1) := by decide +kernel
theorem dX6_hands_93 : decode cX6_hands 93 = .ok (.goto 4, 3) := by decide +kernel
theorem dX6_hands_96 : decode cX6_hands 96 = .ok (.iconst 0, 1) := by decide +kernel
theorem dX6_hands_97 : decode cX6_hands 97 = .ok (.iadd, 1) := by decide +kernel
theorem dX6_hands_98 : decode cX6_hands 98 = .ok (.istore_n 3, 1) := by decide +kernel
theorem dX6_hands_99 : decode cX6_hands 99 = .ok (.iinc 4 1, 3) := by decide +kernel
theorem dX6_hands_102 : decode cX6_hands 102 = .ok (.goto (-63), 3) := by decide +kernel
theorem dX6_hands_105 : decode cX6_hands 105 = .ok (.iload_n 3, 1) := by decide +kernel
theorem dX6_hands_106 : decode cX6_hands 106 = .ok (.iload_n 2, 1) := by decide +kernel
theorem dX6_hands_107 : decode cX6_hands 107 = .ok (.if_icmp .gt 54, 3) := by decide +kernel
theorem dX6_hands_110 : decode cX6_hands 110 = .ok (.iconst 0, 1) := by decide +kernel
theorem dX6_hands_111 : decode cX6_hands 111 = .ok (.istore 4, 2) := by decide +kernel
theorem dX6_hands_113 : decode cX6_hands 113 = .ok (.iload 4, 2) := by decide +kernel
theorem dX6_hands_115 : decode cX6_hands 115 = .ok (.aload_n 0, 1) := by decide +kernel
theorem dX6_hands_116 : decode cX6_hands 116 = .ok (.getfield 145, 3) := by decide +kernel
theorem dX6_hands_119 : decode cX6_hands 119 = .ok (.if_icmp .gt 28, 3) := by decide +kernel
theorem dX6_hands_122 : decode cX6_hands 122 = .ok (.aload_n 0, 1) := by decide +kernel
theorem dX6_hands_123 : decode cX6_hands 123 = .ok (.getfield 42, 3) := by decide +kernel
theorem dX6_hands_126 : decode cX6_hands 126 = .ok (.bipush 12, 2) := by decide +kernel
theorem dX6_hands_128 : decode cX6_hands 128 = .ok (.iload_n 1, 1) := by decide +kernel
theorem dX6_hands_129 : decode cX6_hands 129 = .ok (.imul, 1) := by decide +kernel
theorem dX6_hands_130 : decode cX6_hands 130 = .ok (.iload 4, 2) := by decide +kernel
theorem dX6_hands_132 : decode cX6_hands 132 = .ok (.iadd, 1) := by decide +kernel
theorem dX6_hands_133 : decode cX6_hands 133 = .ok (.aload_n 0, 1) := by decide +kernel
theorem dX6_hands_134 : decode cX6_hands 134 = .ok (.getfield 48, 3) := by decide +kernel
theorem dX6_hands_137 : decode cX6_hands 137 = .ok (.iload 4, 2) := by decide +kernel
theorem dX6_hands_139 : decode cX6_hands 139 = .ok (.iaload, 1) := by decide +kernel
theorem dX6_hands_140 : decode cX6_hands 140 = .ok (.iastore, 1) := by decide +kernel
theorem dX6_hands_141 : decode cX6_hands 141 = .ok (.iinc 4 1, 3) := by decide +kernel
theorem dX6_hands_144 : decode cX6_hands 144 = .ok (.goto (-31), 3) := by decide +kernel
theorem dX6_hands_147 : decode cX6_hands 147 = .ok (.aload_n 0, 1) := by decide +kernel
theorem dX6_hands_148 : decode cX6_hands 148 = .ok (.getfield 48, 3) := by decide +kernel
theorem dX6_hands_151 : decode cX6_hands 151 = .ok (.aload_n 0, 1) := by decide +kernel
theorem dX6_hands_152 : decode cX6_hands 152 = .ok (.getfield 145, 3) := by decide +kernel
theorem dX6_hands_155 : decode cX6_hands 155 = .ok (.iaload, 1) := by decide +kernel
theorem dX6_hands_156 : decode cX6_hands 156 = .ok (.iload_n 2, 1) := by decide +kernel
theorem dX6_hands_157 : decode cX6_hands 157 = .ok (.iadd, 1) := by decide +kernel
theorem dX6_hands_158 : decode cX6_hands 158 = .ok (.iload_n 3, 1) := by decide +kernel
theorem dX6_hands_159 : decode cX6_hands 159 = .ok (.isub, 1) := by decide +kernel
theorem dX6_hands_160 : decode cX6_hands 160 = .ok (.ireturn, 1) := by decide +kernel
theorem dX6_hands_161 : decode cX6_hands 161 = .ok (.iload_n 3, 1) := by decide +kernel
theorem dX6_hands_162 : decode cX6_hands 162 = .ok (.iload_n 2, 1) := by decide +kernel
theorem dX6_hands_163 : decode cX6_hands 163 = .ok (.isub, 1) := by decide +kernel
theorem dX6_hands_164 : decode cX6_hands 164 = .ok (.aload_n 0, 1) := by decide +kernel
theorem dX6_hands_165 : decode cX6_hands 165 = .ok (.getfield 48, 3) := by decide +kernel
theorem dX6_hands_168 : decode cX6_hands 168 = .ok (.aload_n 0, 1) := by decide +kernel
theorem dX6_hands_169 : decode cX6_hands 169 = .ok (.getfield 145, 3) := by decide +kernel
theorem dX6_hands_172 : decode cX6_hands 172 = .ok (.iaload, 1) := by decide +kernel
theorem dX6_hands_173 : decode cX6_hands 173 = .ok (.iconst 5, 1) := by decide +kernel
theorem dX6_hands_174 : decode cX6_hands 174 = .ok (.idiv, 1) := by decide +kernel
theorem dX6_hands_175 : decode cX6_hands 175 = .ok (.invokestatic 115, 3) := by decide +kernel
theorem dX6_hands_178 : decode cX6_hands 178 = .ok (.istore 4, 2) := by decide +kernel
theorem dX6_hands_180 : decode cX6_hands 180 = .ok (.iload_n 2, 1) := by decide +kernel
theorem dX6_hands_181 : decode cX6_hands 181 = .ok (.iload 4, 2) := by decide +kernel
theorem dX6_hands_183 : decode cX6_hands 183 = .ok (.iadd, 1) := by decide +kernel
theorem dX6_hands_184 : decode cX6_hands 184 = .ok (.istore 5, 2) := by decide +kernel
theorem dX6_hands_186 : decode cX6_hands 186 = .ok (.iconst 0, 1) := by decide +kernel
theorem dX6_hands_187 : decode cX6_hands 187 = .ok (.istore 6, 2) := by decide +kernel
theorem dX6_hands_189 : decode cX6_hands 189 = .ok (.iload 6, 2) := by decide +kernel
theorem dX6_hands_191 : decode cX6_hands 191 = .ok (.aload_n 0, 1) := by decide +kernel
theorem dX6_hands_192 : decode cX6_hands 192 = .ok (.getfield 145, 3) := by decide +kernel
theorem dX6_hands_195 : decode cX6_hands 195 = .ok (.if_icmp .gt 115, 3) := by decide +kernel
theorem dX6_hands_198 : decode cX6_hands 198 = .ok (.bipush 12, 2) := by decide +kernel
theorem dX6_hands_200 : decode cX6_hands 200 = .ok (.iload_n 1, 1) := by decide +kernel
theorem dX6_hands_201 : decode cX6_hands 201 = .ok (.imul, 1) := by decide +kernel
theorem dX6_hands_202 : decode cX6_hands 202 = .ok (.iload 6, 2) := by decide +kernel
theorem dX6_hands_204 : decode cX6_hands 204 = .ok (.iadd, 1) := by decide +kernel
theorem dX6_hands_205 : decode cX6_hands 205 = .ok (.istore 7, 2) := by decide +kernel
theorem dX6_hands_207 : decode cX6_hands 207 = .ok (.iload 6, 2) := by decide +kernel
theorem dX6_hands_209 : decode cX6_hands 209 = .ok (.aload_n 0, 1) := by decide +kernel
theorem dX6_hands_210 : decode cX6_hands 210 = .ok (.getfield 145, 3) := by decide +kernel
theorem dX6_hands_213 : decode cX6_hands 213 = .ok (.if_icmp .eq 20, 3) := by decide +kernel
theorem dX6_hands_216 : decode cX6_hands 216 = .ok (.aload_n 0, 1) := by decide +kernel
theorem dX6_hands_217 : decode cX6_hands 217 = .ok (.getfield 42, 3) := by decide +kernel
theorem dX6_hands_220 : decode cX6_hands 220 = .ok (.iload 7, 2) := by decide +kernel
theorem dX6_hands_222 : decode cX6_hands 222 = .ok (.iaload, 1) := by decide +kernel
theorem dX6_hands_223 : decode cX6_hands 223 = .ok (.aload_n 0, 1) := by decide +kernel
theorem dX6_hands_224 : decode cX6_hands 224 = .ok (.getfield 48, 3) := by decide +kernel
theorem dX6_hands_227 : decode cX6_hands 227 = .ok (.iload 6, 2) := by decide +kernel
theorem dX6_hands_229 : decode cX6_hands 229 = .ok (.iaload, 1) := by decide +kernel
theorem dX6_hands_230 : decode cX6_hands 230 = .ok (.if_icmp .ge 7, 3) := by decide +kernel
theorem dX6_hands_233 : decode cX6_hands 233 = .ok (.iconst 0, 1) := by decide +kernel
theorem dX6_hands_234 : decode cX6_hands 234 = .ok (.goto 18, 3) := by decide +kernel
theorem dX6_hands_237 : decode cX6_hands 237 = .ok (.aload_n 0, 1) := by decide +kernel
theorem dX6_hands_238 : decode cX6_hands 238 = .ok (.getfield 42, 3) := by decide +kernel
theorem dX6_hands_241 : decode cX6_hands 241 = .ok (.iload 7, 2) := by decide +kernel
theorem dX6_hands_243 : decode cX6_hands 243 = .ok (.iaload, 1) := by decide +kernel
theorem dX6_hands_244 : decode cX6_hands 244 = .ok (.aload_n 0, 1) := by decide +kernel
theorem dX6_hands_245 : decode cX6_hands 245 = .ok (.getfield 48, 3) := by decide +kernel
theorem dX6_hands_248 : decode cX6_hands 248 = .ok (.iload 6, 2) := by decide +kernel
theorem dX6_hands_250 : decode cX6_hands 250 = .ok (.iaload, 1) := by decide +kernel
theorem dX6_hands_251 : decode cX6_hands 251 = .ok (.isub, 1) := by decide +kernel
theorem dX6_hands_252 : decode cX6_hands 252 = .ok (.istore 8, 2) := by decide +kernel
theorem dX6_hands_254 : decode cX6_hands 254 = .ok (.iload 8, 2) := by decide +kernel
theorem dX6_hands_256 : decode cX6_hands 256 = .ok (.ifCond .ne 20, 3) := by decide +kernel
theorem dX6_hands_259 : decode cX6_hands 259 = .ok (.aload_n 0, 1) := by decide +kernel
theorem dX6_hands_260 : decode cX6_hands 260 = .ok (.getfield 42, 3) := by decide +kernel
theorem dX6_hands_263 : decode cX6_hands 263 = .ok (.iload 7, 2) := by decide +kernel
theorem dX6_hands_265 : decode cX6_hands 265 = .ok (.aload_n 0, 1) := by decide +kernel
theorem dX6_hands_266 : decode cX6_hands 266 = .ok (.getfield 48, 3) := by decide +kernel
theorem dX6_hands_269 : decode cX6_hands 269 = .ok (.iload 6, 2) := by decide +kernel
theorem dX6_hands_271 : decode cX6_hands 271 = .ok (.iaload, 1) := by decide +kernel
theorem dX6_hands_272 : decode cX6_hands 272 = .ok (.iastore, 1) := by decide +kernel
theorem dX6_hands_273 : decode cX6_hands 273 = .ok (.goto 31, 3) := by decide +kernel
theorem dX6_hands_276 : decode cX6_hands 276 = .ok (.iload 8, 2) := by decide +kernel
theorem dX6_hands_278 : decode cX6_hands 278 = .ok (.iload 5, 2) := by decide +kernel
theorem dX6_hands_280 : decode cX6_hands 280 = .ok (.invokestatic 115, 3) := by decide +kernel
theorem dX6_hands_283 : decode cX6_hands 283 = .ok (.istore 9, 2) := by decide +kernel
theorem dX6_hands_285 : decode cX6_hands 285 = .ok (.aload_n 0, 1) := by decide +kernel
theorem dX6_hands_286 : decode cX6_hands 286 = .ok (.getfield 42, 3) := by decide +kernel
theorem dX6_hands_289 : decode cX6_hands 289 = .ok (.iload 7, 2) := by decide +kernel
theorem dX6_hands_291 : decode cX6_hands 291 = .ok (.dup2, 1) := by decide +kernel
theorem dX6_hands_292 : decode cX6_hands 292 = .ok (.iaload, 1) := by decide +kernel
theorem dX6_hands_293 : decode cX6_hands 293 = .ok (.iload 9, 2) := by decide +kernel
theorem dX6_hands_295 : decode cX6_hands 295 = .ok (.isub, 1) := by decide +kernel
theorem dX6_hands_296 : decode cX6_hands 296 = .ok (.iastore, 1) := by decide +kernel
theorem dX6_hands_297 : decode cX6_hands 297 = .ok (.iload 5, 2) := by decide +kernel
theorem dX6_hands_299 : decode cX6_hands 299 = .ok (.iload 9, 2) := by decide +kernel
theorem dX6_hands_301 : decode cX6_hands 301 = .ok (.isub, 1) := by decide +kernel
theorem dX6_hands_302 : decode cX6_hands 302 = .ok (.istore 5, 2) := by decide +kernel
theorem dX6_hands_304 : decode cX6_hands 304 = .ok (.iinc 6 1, 3) := by decide +kernel
theorem dX6_hands_307 : decode cX6_hands 307 = .ok (.goto (-118), 3) := by decide +kernel
theorem dX6_hands_310 : decode cX6_hands 310 = .ok (.aload_n 0, 1) := by decide +kernel
theorem dX6_hands_311 : decode cX6_hands 311 = .ok (.dup, 1) := by decide +kernel
theorem dX6_hands_312 : decode cX6_hands 312 = .ok (.getfield 151, 3) := by decide +kernel
theorem dX6_hands_315 : decode cX6_hands 315 = .ok (.iload 4, 2) := by decide +kernel
theorem dX6_hands_317 : decode cX6_hands 317 = .ok (.i2l, 1) := by decide +kernel
theorem dX6_hands_318 : decode cX6_hands 318 = .ok (.ladd, 1) := by decide +kernel
theorem dX6_hands_319 : decode cX6_hands 319 = .ok (.putfield 151, 3) := by decide +kernel
theorem dX6_hands_322 : decode cX6_hands 322 = .ok (.aload_n 0, 1) := by decide +kernel
theorem dX6_hands_323 : decode cX6_hands 323 = .ok (.getfield 48, 3) := by decide +kernel
theorem dX6_hands_326 : decode cX6_hands 326 = .ok (.aload_n 0, 1) := by decide +kernel
theorem dX6_hands_327 : decode cX6_hands 327 = .ok (.getfield 145, 3) := by decide +kernel
theorem dX6_hands_330 : decode cX6_hands 330 = .ok (.iaload, 1) := by decide +kernel
theorem dX6_hands_331 : decode cX6_hands 331 = .ok (.iload 4, 2) := by decide +kernel
theorem dX6_hands_333 : decode cX6_hands 333 = .ok (.isub, 1) := by decide +kernel
theorem dX6_hands_334 : decode cX6_hands 334 = .ok (.ireturn, 1) := by decide +kernel
theorem dX6_pay_0 : decode cX6_pay 0 = .ok (.aload_n 0, 1) := by decide +kernel
theorem dX6_pay_1 : decode cX6_pay 1 = .ok (.getfield 145, 3) := by decide +kernel
theorem dX6_pay_4 : decode cX6_pay 4 = .ok (.bipush 12, 2) := by decide +kernel
theorem dX6_pay_6 : decode cX6_pay 6 = .ok (.if_icmp .ne 9, 3) := by decide +kernel
theorem dX6_pay_9 : decode cX6_pay 9 = .ok (.aload_n 0, 1) := by decide +kernel
theorem dX6_pay_10 : decode cX6_pay 10 = .ok (.iconst 1, 1) := by decide +kernel
theorem dX6_pay_11 : decode cX6_pay 11 = .ok (.invokevirtual 68, 3) := by decide +kernel
theorem dX6_pay_14 : decode cX6_pay 14 = .ok (.ireturn, 1) := by decide +kernel
theorem dX6_pay_15 : decode cX6_pay 15 = .ok (.aload_n 0, 1) := by decide +kernel
theorem dX6_pay_16 : decode cX6_pay 16 = .ok (.iconst 0, 1) := by decide +kernel
theorem dX6_pay_17 : decode cX6_pay 17 = .ok (.putfield 55, 3) := by decide +kernel
theorem dX6_pay_20 : decode cX6_pay 20 = .ok (.iconst 0, 1) := by decide +kernel
theorem dX6_pay_21 : decode cX6_pay 21 = .ok (.istore_n 1, 1) := by decide +kernel
theorem dX6_pay_22 : decode cX6_pay 22 = .ok (.iconst 0, 1) := by decide +kernel
theorem dX6_pay_23 : decode cX6_pay 23 = .ok (.istore_n 2, 1) := by decide +kernel
theorem dX6_pay_24 : decode cX6_pay 24 = .ok (.iload_n 2, 1) := by decide +kernel
theorem dX6_pay_25 : decode cX6_pay 25 = .ok (.aload_n 0, 1) := by decide +kernel
theorem dX6_pay_26 : decode cX6_pay 26 = .ok (.getfield 65, 3) := by decide +kernel
theorem dX6_pay_29 : decode cX6_pay 29 = .ok (.if_icmp .ge 34, 3) := by decide +kernel
theorem dX6_pay_32 : decode cX6_pay 32 = .ok (.aload_n 0, 1) := by decide +kernel
theorem dX6_pay_33 : decode cX6_pay 33 = .ok (.iload_n 2, 1) := by decide +kernel
theorem dX6_pay_34 : decode cX6_pay 34 = .ok (.invokevirtual 155, 3) := by decide +kernel
theorem dX6_pay_37 : decode cX6_pay 37 = .ok (.istore_n 3, 1) := by decide +kernel
theorem dX6_pay_38 : decode cX6_pay 38 = .ok (.aload_n 0, 1) := by decide +kernel
theorem dX6_pay_39 : decode cX6_pay 39 = .ok (.getfield 45, 3) := by decide +kernel
theorem dX6_pay_42 : decode cX6_pay 42 = .ok (.bipush 12, 2) := by decide +kernel
theorem dX6_pay_44 : decode cX6_pay 44 = .ok (.iload_n 2, 1) := by decide +kernel
theorem dX6_pay_45 : decode cX6_pay 45 = .ok (.imul, 1) := by decide +kernel
theorem dX6_pay_46 : decode cX6_pay 46 = .ok (.aload_n 0, 1) := by decide +kernel
theorem dX6_pay_47 : decode cX6_pay 47 = .ok (.getfield 145, 3) := by decide +kernel
theorem dX6_pay_50 : decode cX6_pay 50 = .ok (.iadd, 1) := by decide +kernel
theorem dX6_pay_51 : decode cX6_pay 51 = .ok (.iload_n 3, 1) := by decide +kernel
theorem dX6_pay_52 : decode cX6_pay 52 = .ok (.iastore, 1) := by decide +kernel
theorem dX6_pay_53 : decode cX6_pay 53 = .ok (.iload_n 1, 1) := by decide +kernel
theorem dX6_pay_54 : decode cX6_pay 54 = .ok (.iload_n 3, 1) := by decide +kernel
theorem dX6_pay_55 : decode cX6_pay 55 = .ok (.iadd, 1) := by decide +kernel
theorem dX6_pay_56 : decode cX6_pay 56 = .ok (.istore_n 1, 1) := by decide +kernel
theorem dX6_pay_57 : decode cX6_pay 57 = .ok (.iinc 2 1, 3) := by decide +kernel
theorem dX6_pay_60 : decode cX6_pay 60 = .ok (.goto (-36), 3) := by decide +kernel
theorem dX6_pay_63 : decode cX6_pay 63 = .ok (.aload_n 0, 1) := by decide +kernel
theorem dX6_pay_64 : decode cX6_pay 64 = .ok (.dup, 1) := by decide +kernel
theorem dX6_pay_65 : decode cX6_pay 65 = .ok (.getfield 158, 3) := by decide +kernel
theorem dX6_pay_68 : decode cX6_pay 68 = .ok (.aload_n 0, 1) := by decide +kernel
theorem dX6_pay_69 : decode cX6_pay 69 = .ok (.getfield 65, 3) := by decide +kernel
theorem dX6_pay_72 : decode cX6_pay 72 = .ok (.iadd, 1) := by decide +kernel
theorem dX6_pay_73 : decode cX6_pay 73 = .ok (.putfield 158, 3) := by decide +kernel
theorem dX6_pay_76 : decode cX6_pay 76 = .ok (.aload_n 0, 1) := by decide +kernel
theorem dX6_pay_77 : decode cX6_pay 77 = .ok (.dup, 1) := by decide +kernel
theorem dX6_pay_78 : decode cX6_pay 78 = .ok (.getfield 161, 3) := by decide +kernel
theorem dX6_pay_81 : decode cX6_pay 81 = .ok (.iload_n 1, 1) := by decide +kernel
theorem dX6_pay_82 : decode cX6_pay 82 = .ok (.i2l, 1) := by decide +kernel
theorem dX6_pay_83 : decode cX6_pay 83 = .ok (.ladd, 1) := by decide +kernel
theorem dX6_pay_84 : decode cX6_pay 84 = .ok (.putfield 161, 3) := by decide +kernel
theorem dX6_pay_87 : decode cX6_pay 87 = .ok (.aload_n 0, 1) := by decide +kernel
theorem dX6_pay_88 : decode cX6_pay 88 = .ok (.dup, 1) := by decide +kernel
theorem dX6_pay_89 : decode cX6_pay 89 = .ok (.getfield 145, 3) := by decide +kernel
theorem dX6_pay_92 : decode cX6_pay 92 = .ok (.iconst 1, 1) := by decide +kernel
theorem dX6_pay_93 : decode cX6_pay 93 = .ok (.iadd, 1) := by decide +kernel
theorem dX6_pay_94 : decode cX6_pay 94 = .ok (.putfield 145, 3) := by decide +kernel
theorem dX6_pay_97 : decode cX6_pay 97 = .ok (.iload_n 1, 1) := by decide +kernel
theorem dX6_pay_98 : decode cX6_pay 98 = .ok (.ireturn, 1) := by decide +kernel
theorem dX6_paidMonths_0 : decode cX6_paidMonths 0 = .ok (.aload_n 0, 1) := by decide +kernel
theorem dX6_paidMonths_1 : decode cX6_paidMonths 1 = .ok (.iconst 0, 1) := by decide +kernel
theorem dX6_paidMonths_2 : decode cX6_paidMonths 2 = .ok (.putfield 55, 3) := by decide +kernel
theorem dX6_paidMonths_5 : decode cX6_paidMonths 5 = .ok (.aload_n 0, 1) := by decide +kernel
theorem dX6_paidMonths_6 : decode cX6_paidMonths 6 = .ok (.getfield 145, 3) := by decide +kernel
theorem dX6_paidMonths_9 : decode cX6_paidMonths 9 = .ok (.ireturn, 1) := by decide +kernel
theorem dX6_isMonthOf_0 : decode cX6_isMonthOf 0 = .ok (.aload_n 0, 1) := by decide +kernel
theorem dX6_isMonthOf_1 : decode cX6_isMonthOf 1 = .ok (.iload_n 1, 1) := by decide +kernel
theorem dX6_isMonthOf_2 : decode cX6_isMonthOf 2 = .ok (.invokevirtual 79, 3) := by decide +kernel
theorem dX6_isMonthOf_5 : decode cX6_isMonthOf 5 = .ok (.ifCond .eq 17, 3) := by decide +kernel
theorem dX6_isMonthOf_8 : decode cX6_isMonthOf 8 = .ok (.iload_n 2, 1) := by decide +kernel
theorem dX6_isMonthOf_9 : decode cX6_isMonthOf 9 = .ok (.iconst 0, 1) := by decide +kernel
theorem dX6_isMonthOf_10 : decode cX6_isMonthOf 10 = .ok (.bipush 11, 2) := by decide +kernel
theorem dX6_isMonthOf_12 : decode cX6_isMonthOf 12 = .ok (.invokestatic 61, 3) := by decide +kernel
theorem dX6_isMonthOf_15 : decode cX6_isMonthOf 15 = .ok (.ifCond .eq 7, 3) := by decide +kernel
theorem dX6_isMonthOf_18 : decode cX6_isMonthOf 18 = .ok (.iconst 1, 1) := by decide +kernel
theorem dX6_isMonthOf_19 : decode cX6_isMonthOf 19 = .ok (.goto 4, 3) := by decide +kernel
theorem dX6_isMonthOf_22 : decode cX6_isMonthOf 22 = .ok (.iconst 0, 1) := by decide +kernel
theorem dX6_isMonthOf_23 : decode cX6_isMonthOf 23 = .ok (.ireturn, 1) := by decide +kernel
theorem dX6_payment_0 : decode cX6_payment 0 = .ok (.aload_n 0, 1) := by decide +kernel
theorem dX6_payment_1 : decode cX6_payment 1 = .ok (.iload_n 1, 1) := by decide +kernel
theorem dX6_payment_2 : decode cX6_payment 2 = .ok (.iload_n 2, 1) := by decide +kernel
theorem dX6_payment_3 : decode cX6_payment 3 = .ok (.invokevirtual 164, 3) := by decide +kernel
theorem dX6_payment_6 : decode cX6_payment 6 = .ok (.ifCond .ne 9, 3) := by decide +kernel
theorem dX6_payment_9 : decode cX6_payment 9 = .ok (.aload_n 0, 1) := by decide +kernel
theorem dX6_payment_10 : decode cX6_payment 10 = .ok (.iconst 1, 1) := by decide +kernel
theorem dX6_payment_11 : decode cX6_payment 11 = .ok (.invokevirtual 68, 3) := by decide +kernel
theorem dX6_payment_14 : decode cX6_payment 14 = .ok (.ireturn, 1) := by decide +kernel
theorem dX6_payment_15 : decode cX6_payment 15 = .ok (.iload_n 2, 1) := by decide +kernel
theorem dX6_payment_16 : decode cX6_payment 16 = .ok (.aload_n 0, 1) := by decide +kernel
theorem dX6_payment_17 : decode cX6_payment 17 = .ok (.getfield 145, 3) := by decide +kernel
theorem dX6_payment_20 : decode cX6_payment 20 = .ok (.if_icmp .lt 9, 3) := by decide +kernel
theorem dX6_payment_23 : decode cX6_payment 23 = .ok (.aload_n 0, 1) := by decide +kernel
theorem dX6_payment_24 : decode cX6_payment 24 = .ok (.iconst 2, 1) := by decide +kernel
theorem dX6_payment_25 : decode cX6_payment 25 = .ok (.invokevirtual 68, 3) := by decide +kernel
theorem dX6_payment_28 : decode cX6_payment 28 = .ok (.ireturn, 1) := by decide +kernel
theorem dX6_payment_29 : decode cX6_payment 29 = .ok (.aload_n 0, 1) := by decide +kernel
theorem dX6_payment_30 : decode cX6_payment 30 = .ok (.iconst 0, 1) := by decide +kernel
theorem dX6_payment_31 : decode cX6_payment 31 = .ok (.putfield 55, 3) := by decide +kernel
theorem dX6_payment_34 : decode cX6_payment 34 = .ok (.aload_n 0, 1) := by decide +kernel
theorem dX6_payment_35 : decode cX6_payment 35 = .ok (.getfield 45, 3) := by decide +kernel
theorem dX6_payment_38 : decode cX6_payment 38 = .ok (.bipush 12, 2) := by decide +kernel
theorem dX6_payment_40 : decode cX6_payment 40 = .ok (.iload_n 1, 1) := by decide +kernel
theorem dX6_payment_41 : decode cX6_payment 41 = .ok (.imul, 1) := by decide +kernel
theorem dX6_payment_42 : decode cX6_payment 42 = .ok (.iload_n 2, 1) := by decide +kernel
theorem dX6_payment_43 : decode cX6_payment 43 = .ok (.iadd, 1) := by decide +kernel
theorem dX6_payment_44 : decode cX6_payment 44 = .ok (.iaload, 1) := by decide +kernel
theorem dX6_payment_45 : decode cX6_payment 45 = .ok (.ireturn, 1) := by decide +kernel
theorem dX6_paidFor_0 : decode cX6_paidFor 0 = .ok (.aload_n 0, 1) := by decide +kernel
theorem dX6_paidFor_1 : decode cX6_paidFor 1 = .ok (.aload_n 0, 1) := by decide +kernel
theorem dX6_paidFor_2 : decode cX6_paidFor 2 = .ok (.iload_n 1, 1) := by decide +kernel
theorem dX6_paidFor_3 : decode cX6_paidFor 3 = .ok (.iload_n 2, 1) := by decide +kernel
theorem dX6_paidFor_4 : decode cX6_paidFor 4 = .ok (.invokevirtual 164, 3) := by decide +kernel
theorem dX6_paidFor_7 : decode cX6_paidFor 7 = .ok (.ifCond .eq 7, 3) := by decide +kernel
theorem dX6_paidFor_10 : decode cX6_paidFor 10 = .ok (.iconst 0, 1) := by decide +kernel
theorem dX6_paidFor_11 : decode cX6_paidFor 11 = .ok (.goto 4, 3) := by decide +kernel
theorem dX6_paidFor_14 : decode cX6_paidFor 14 = .ok (.iconst 1, 1) := by decide +kernel
theorem dX6_paidFor_15 : decode cX6_paidFor 15 = .ok (.putfield 55, 3) := by decide +kernel
theorem dX6_paidFor_18 : decode cX6_paidFor 18 = .ok (.aload_n 0, 1) := by decide +kernel
theorem dX6_paidFor_19 : decode cX6_paidFor 19 = .ok (.getfield 55, 3) := by decide +kernel
theorem dX6_paidFor_22 : decode cX6_paidFor 22 = .ok (.ifCond .le 7, 3) := by decide +kernel
theorem dX6_paidFor_25 : decode cX6_paidFor 25 = .ok (.iconst 0, 1) := by decide +kernel
theorem dX6_paidFor_26 : decode cX6_paidFor 26 = .ok (.goto 14, 3) := by decide +kernel
theorem dX6_paidFor_29 : decode cX6_paidFor 29 = .ok (.aload_n 0, 1) := by decide +kernel
theorem dX6_paidFor_30 : decode cX6_paidFor 30 = .ok (.getfield 42, 3) := by decide +kernel
theorem dX6_paidFor_33 : decode cX6_paidFor 33 = .ok (.bipush 12, 2) := by decide +kernel
theorem dX6_paidFor_35 : decode cX6_paidFor 35 = .ok (.iload_n 1, 1) := by decide +kernel
theorem dX6_paidFor_36 : decode cX6_paidFor 36 = .ok (.imul, 1) := by decide +kernel
theorem dX6_paidFor_37 : decode cX6_paidFor 37 = .ok (.iload_n 2, 1) := by decide +kernel
theorem dX6_paidFor_38 : decode cX6_paidFor 38 = .ok (.iadd, 1) := by decide +kernel
theorem dX6_paidFor_39 : decode cX6_paidFor 39 = .ok (.iaload, 1) := by decide +kernel
theorem dX6_paidFor_40 : decode cX6_paidFor 40 = .ok (.ireturn, 1) := by decide +kernel
theorem dX6_isKnown_0 : decode cX6_isKnown 0 = .ok (.aload_n 0, 1) := by decide +kernel
theorem dX6_isKnown_1 : decode cX6_isKnown 1 = .ok (.aload_n 0, 1) := by decide +kernel
theorem dX6_isKnown_2 : decode cX6_isKnown 2 = .ok (.iload_n 1, 1) := by decide +kernel
theorem dX6_isKnown_3 : decode cX6_isKnown 3 = .ok (.invokevirtual 79, 3) := by decide +kernel
theorem dX6_isKnown_6 : decode cX6_isKnown 6 = .ok (.ifCond .eq 7, 3) := by decide +kernel
theorem dX6_isKnown_9 : decode cX6_isKnown 9 = .ok (.iconst 0, 1) := by decide +kernel
theorem dX6_isKnown_10 : decode cX6_isKnown 10 = .ok (.goto 4, 3) := by decide +kernel
theorem dX6_isKnown_13 : decode cX6_isKnown 13 = .ok (.iconst 1, 1) := by decide +kernel
theorem dX6_isKnown_14 : decode cX6_isKnown 14 = .ok (.putfield 55, 3) := by decide +kernel
theorem dX6_isKnown_17 : decode cX6_isKnown 17 = .ok (.aload_n 0, 1) := by decide +kernel
theorem dX6_isKnown_18 : decode cX6_isKnown 18 = .ok (.getfield 55, 3) := by decide +kernel
theorem dX6_isKnown_21 : decode cX6_isKnown 21 = .ok (.ifCond .ne 7, 3) := by decide +kernel
theorem dX6_isKnown_24 : decode cX6_isKnown 24 = .ok (.iconst 1, 1) := by decide +kernel
theorem dX6_isKnown_25 : decode cX6_isKnown 25 = .ok (.goto 4, 3) := by decide +kernel
theorem dX6_isKnown_28 : decode cX6_isKnown 28 = .ok (.iconst 0, 1) := by decide +kernel
theorem dX6_isKnown_29 : decode cX6_isKnown 29 = .ok (.ireturn, 1) := by decide +kernel
theorem dX6_balance_0 : decode cX6_balance 0 = .ok (.aload_n 0, 1) := by decide +kernel
theorem dX6_balance_1 : decode cX6_balance 1 = .ok (.iload_n 1, 1) := by decide +kernel
theorem dX6_balance_2 : decode cX6_balance 2 = .ok (.invokevirtual 168, 3) := by decide +kernel
theorem dX6_balance_5 : decode cX6_balance 5 = .ok (.ifCond .ne 5, 3) := by decide +kernel
theorem dX6_balance_8 : decode cX6_balance 8 = .ok (.iconst 0, 1) := by decide +kernel
theorem dX6_balance_9 : decode cX6_balance 9 = .ok (.ireturn, 1) := by decide +kernel
theorem dX6_balance_10 : decode cX6_balance 10 = .ok (.iconst 0, 1) := by decide +kernel
theorem dX6_balance_11 : decode cX6_balance 11 = .ok (.istore_n 2, 1) := by decide +kernel
theorem dX6_balance_12 : decode cX6_balance 12 = .ok (.iconst 0, 1) := by decide +kernel
theorem dX6_balance_13 : decode cX6_balance 13 = .ok (.istore_n 3, 1) := by decide +kernel
theorem dX6_balance_14 : decode cX6_balance 14 = .ok (.iload_n 3, 1) := by decide +kernel
theorem dX6_balance_15 : decode cX6_balance 15 = .ok (.aload_n 0, 1) := by decide +kernel
theorem dX6_balance_16 : decode cX6_balance 16 = .ok (.getfield 145, 3) := by decide +kernel
theorem dX6_balance_19 : decode cX6_balance 19 = .ok (.if_icmp .ge 30, 3) := by decide +kernel
theorem dX6_balance_22 : decode cX6_balance 22 = .ok (.iload_n 2, 1) := by decide +kernel
theorem dX6_balance_23 : decode cX6_balance 23 = .ok (.aload_n 0, 1) := by decide +kernel
theorem dX6_balance_24 : decode cX6_balance 24 = .ok (.iload_n 1, 1) := by decide +kernel
theorem dX6_balance_25 : decode cX6_balance 25 = .ok (.iload_n 3, 1) := by decide +kernel
theorem dX6_balance_26 : decode cX6_balance 26 = .ok (.invokevirtual 148, 3) := by decide +kernel
theorem dX6_balance_29 : decode cX6_balance 29 = .ok (.aload_n 0, 1) := by decide +kernel
theorem dX6_balance_30 : decode cX6_balance 30 = .ok (.getfield 42, 3) := by decide +kernel
theorem dX6_balance_33 : decode cX6_balance 33 = .ok (.bipush 12, 2) := by decide +kernel
theorem dX6_balance_35 : decode cX6_balance 35 = .ok (.iload_n 1, 1) := by decide +kernel
theorem dX6_balance_36 : decode cX6_balance 36 = .ok (.imul, 1) := by decide +kernel
theorem dX6_balance_37 : decode cX6_balance 37 = .ok (.iload_n 3, 1) := by decide +kernel
theorem dX6_balance_38 : decode cX6_balance 38 = .ok (.iadd, 1) := by decide +kernel
theorem dX6_balance_39 : decode cX6_balance 39 = .ok (.iaload, 1) := by decide +kernel
theorem dX6_balance_40 : decode cX6_balance 40 = .ok (.isub, 1) := by decide +kernel
theorem dX6_balance_41 : decode cX6_balance 41 = .ok (.iadd, 1) := by decide +kernel
theorem dX6_balance_42 : decode cX6_balance 42 = .ok (.istore_n 2, 1) := by decide +kernel
theorem dX6_balance_43 : decode cX6_balance 43 = .ok (.iinc 3 1, 3) := by decide +kernel
theorem dX6_balance_46 : decode cX6_balance 46 = .ok (.goto (-32), 3) := by decide +kernel
theorem dX6_balance_49 : decode cX6_balance 49 = .ok (.iload_n 2, 1) := by decide +kernel
theorem dX6_balance_50 : decode cX6_balance 50 = .ok (.ireturn, 1) := by decide +kernel
theorem dX6_isSettled_0 : decode cX6_isSettled 0 = .ok (.aload_n 0, 1) := by decide +kernel
theorem dX6_isSettled_1 : decode cX6_isSettled 1 = .ok (.iload_n 1, 1) := by decide +kernel
theorem dX6_isSettled_2 : decode cX6_isSettled 2 = .ok (.invokevirtual 168, 3) := by decide +kernel
theorem dX6_isSettled_5 : decode cX6_isSettled 5 = .ok (.ifCond .ne 5, 3) := by decide +kernel
theorem dX6_isSettled_8 : decode cX6_isSettled 8 = .ok (.iconst 0, 1) := by decide +kernel
theorem dX6_isSettled_9 : decode cX6_isSettled 9 = .ok (.ireturn, 1) := by decide +kernel
theorem dX6_isSettled_10 : decode cX6_isSettled 10 = .ok (.iconst 1, 1) := by decide +kernel
theorem dX6_isSettled_11 : decode cX6_isSettled 11 = .ok (.istore_n 2, 1) := by decide +kernel
theorem dX6_isSettled_12 : decode cX6_isSettled 12 = .ok (.iconst 0, 1) := by decide +kernel
theorem dX6_isSettled_13 : decode cX6_isSettled 13 = .ok (.istore_n 3, 1) := by decide +kernel
theorem dX6_isSettled_14 : decode cX6_isSettled 14 = .ok (.iload_n 3, 1) := by decide +kernel
theorem dX6_isSettled_15 : decode cX6_isSettled 15 = .ok (.aload_n 0, 1) := by decide +kernel
theorem dX6_isSettled_16 : decode cX6_isSettled 16 = .ok (.getfield 145, 3) := by decide +kernel
theorem dX6_isSettled_19 : decode cX6_isSettled 19 = .ok (.if_icmp .ge 39, 3) := by decide +kernel
theorem dX6_isSettled_22 : decode cX6_isSettled 22 = .ok (.iload_n 2, 1) := by decide +kernel
theorem dX6_isSettled_23 : decode cX6_isSettled 23 = .ok (.ifCond .eq 27, 3) := by decide +kernel
theorem dX6_isSettled_26 : decode cX6_isSettled 26 = .ok (.aload_n 0, 1) := by decide +kernel
theorem dX6_isSettled_27 : decode cX6_isSettled 27 = .ok (.iload_n 1, 1) := by decide +kernel
theorem dX6_isSettled_28 : decode cX6_isSettled 28 = .ok (.iload_n 3, 1) := by decide +kernel
theorem dX6_isSettled_29 : decode cX6_isSettled 29 = .ok (.invokevirtual 148, 3) := by decide +kernel
theorem dX6_isSettled_32 : decode cX6_isSettled 32 = .ok (.aload_n 0, 1) := by decide +kernel
theorem dX6_isSettled_33 : decode cX6_isSettled 33 = .ok (.getfield 42, 3) := by decide +kernel
theorem dX6_isSettled_36 : decode cX6_isSettled 36 = .ok (.bipush 12, 2) := by decide +kernel
theorem dX6_isSettled_38 : decode cX6_isSettled 38 = .ok (.iload_n 1, 1) := by decide +kernel
theorem dX6_isSettled_39 : decode cX6_isSettled 39 = .ok (.imul, 1) := by decide +kernel
theorem dX6_isSettled_40 : decode cX6_isSettled 40 = .ok (.iload_n 3, 1) := by decide +kernel
theorem dX6_isSettled_41 : decode cX6_isSettled 41 = .ok (.iadd, 1) := by decide +kernel
theorem dX6_isSettled_42 : decode cX6_isSettled 42 = .ok (.iaload, 1) := by decide +kernel
theorem dX6_isSettled_43 : decode cX6_isSettled 43 = .ok (.if_icmp .ne 7, 3) := by decide +kernel
theorem dX6_isSettled_46 : decode cX6_isSettled 46 = .ok (.iconst 1, 1) := by decide +kernel
theorem dX6_isSettled_47 : decode cX6_isSettled 47 = .ok (.goto 4, 3) := by decide +kernel
theorem dX6_isSettled_50 : decode cX6_isSettled 50 = .ok (.iconst 0, 1) := by decide +kernel
theorem dX6_isSettled_51 : decode cX6_isSettled 51 = .ok (.istore_n 2, 1) := by decide +kernel
theorem dX6_isSettled_52 : decode cX6_isSettled 52 = .ok (.iinc 3 1, 3) := by decide +kernel
theorem dX6_isSettled_55 : decode cX6_isSettled 55 = .ok (.goto (-41), 3) := by decide +kernel
theorem dX6_isSettled_58 : decode cX6_isSettled 58 = .ok (.iload_n 2, 1) := by decide +kernel
theorem dX6_isSettled_59 : decode cX6_isSettled 59 = .ok (.ireturn, 1) := by decide +kernel
theorem dX6_totalPaid_0 : decode cX6_totalPaid 0 = .ok (.aload_n 0, 1) := by decide +kernel
theorem dX6_totalPaid_1 : decode cX6_totalPaid 1 = .ok (.iconst 0, 1) := by decide +kernel
theorem dX6_totalPaid_2 : decode cX6_totalPaid 2 = .ok (.putfield 55, 3) := by decide +kernel
theorem dX6_totalPaid_5 : decode cX6_totalPaid 5 = .ok (.aload_n 0, 1) := by decide +kernel
theorem dX6_totalPaid_6 : decode cX6_totalPaid 6 = .ok (.getfield 161, 3) := by decide +kernel
theorem dX6_totalPaid_9 : decode cX6_totalPaid 9 = .ok (.lreturn, 1) := by decide +kernel
theorem dX6_keptBack_0 : decode cX6_keptBack 0 = .ok (.aload_n 0, 1) := by decide +kernel
theorem dX6_keptBack_1 : decode cX6_keptBack 1 = .ok (.iconst 0, 1) := by decide +kernel
theorem dX6_keptBack_2 : decode cX6_keptBack 2 = .ok (.putfield 55, 3) := by decide +kernel
theorem dX6_keptBack_5 : decode cX6_keptBack 5 = .ok (.aload_n 0, 1) := by decide +kernel
theorem dX6_keptBack_6 : decode cX6_keptBack 6 = .ok (.getfield 151, 3) := by decide +kernel
theorem dX6_keptBack_9 : decode cX6_keptBack 9 = .ok (.lreturn, 1) := by decide +kernel
theorem dX6_homeOf_0 : decode cX6_homeOf 0 = .ok (.aload_n 0, 1) := by decide +kernel
theorem dX6_homeOf_1 : decode cX6_homeOf 1 = .ok (.aload_n 0, 1) := by decide +kernel
theorem dX6_homeOf_2 : decode cX6_homeOf 2 = .ok (.iload_n 1, 1) := by decide +kernel
theorem dX6_homeOf_3 : decode cX6_homeOf 3 = .ok (.invokevirtual 75, 3) := by decide +kernel
theorem dX6_homeOf_6 : decode cX6_homeOf 6 = .ok (.ifCond .ne 7, 3) := by decide +kernel
theorem dX6_homeOf_9 : decode cX6_homeOf 9 = .ok (.iconst 1, 1) := by decide +kernel
theorem dX6_homeOf_10 : decode cX6_homeOf 10 = .ok (.goto 15, 3) := by decide +kernel
theorem dX6_homeOf_13 : decode cX6_homeOf 13 = .ok (.iload_n 2, 1) := by decide +kernel
theorem dX6_homeOf_14 : decode cX6_homeOf 14 = .ok (.invokestatic 82, 3) := by decide +kernel
theorem dX6_homeOf_17 : decode cX6_homeOf 17 = .ok (.ifCond .eq 7, 3) := by decide +kernel
theorem dX6_homeOf_20 : decode cX6_homeOf 20 = .ok (.iconst 0, 1) := by decide +kernel
theorem dX6_homeOf_21 : decode cX6_homeOf 21 = .ok (.goto 4, 3) := by decide +kernel
theorem dX6_homeOf_24 : decode cX6_homeOf 24 = .ok (.iconst 2, 1) := by decide +kernel
theorem dX6_homeOf_25 : decode cX6_homeOf 25 = .ok (.putfield 55, 3) := by decide +kernel
theorem dX6_homeOf_28 : decode cX6_homeOf 28 = .ok (.aload_n 0, 1) := by decide +kernel
theorem dX6_homeOf_29 : decode cX6_homeOf 29 = .ok (.getfield 55, 3) := by decide +kernel
theorem dX6_homeOf_32 : decode cX6_homeOf 32 = .ok (.ifCond .le 7, 3) := by decide +kernel
theorem dX6_homeOf_35 : decode cX6_homeOf 35 = .ok (.iconst 0, 1) := by decide +kernel
theorem dX6_homeOf_36 : decode cX6_homeOf 36 = .ok (.goto 15, 3) := by decide +kernel
theorem dX6_homeOf_39 : decode cX6_homeOf 39 = .ok (.aload_n 0, 1) := by decide +kernel
theorem dX6_homeOf_40 : decode cX6_homeOf 40 = .ok (.getfield 17, 3) := by decide +kernel
theorem dX6_homeOf_43 : decode cX6_homeOf 43 = .ok (.sipush 360, 3) := by decide +kernel
theorem dX6_homeOf_46 : decode cX6_homeOf 46 = .ok (.iload_n 1, 1) := by decide +kernel
theorem dX6_homeOf_47 : decode cX6_homeOf 47 = .ok (.imul, 1) := by decide +kernel
theorem dX6_homeOf_48 : decode cX6_homeOf 48 = .ok (.iload_n 2, 1) := by decide +kernel
theorem dX6_homeOf_49 : decode cX6_homeOf 49 = .ok (.iadd, 1) := by decide +kernel
theorem dX6_homeOf_50 : decode cX6_homeOf 50 = .ok (.iaload, 1) := by decide +kernel
theorem dX6_homeOf_51 : decode cX6_homeOf 51 = .ok (.ireturn, 1) := by decide +kernel
theorem dX6_ruleAt_0 : decode cX6_ruleAt 0 = .ok (.iload_n 1, 1) := by decide +kernel
theorem dX6_ruleAt_1 : decode cX6_ruleAt 1 = .ok (.invokestatic 89, 3) := by decide +kernel
theorem dX6_ruleAt_4 : decode cX6_ruleAt 4 = .ok (.istore_n 3, 1) := by decide +kernel
theorem dX6_ruleAt_5 : decode cX6_ruleAt 5 = .ok (.aload_n 0, 1) := by decide +kernel
theorem dX6_ruleAt_6 : decode cX6_ruleAt 6 = .ok (.iload_n 3, 1) := by decide +kernel
theorem dX6_ruleAt_7 : decode cX6_ruleAt 7 = .ok (.iconst (-1), 1) := by decide +kernel
theorem dX6_ruleAt_8 : decode cX6_ruleAt 8 = .ok (.if_icmp .ne 7, 3) := by decide +kernel
theorem dX6_ruleAt_11 : decode cX6_ruleAt 11 = .ok (.iconst 1, 1) := by decide +kernel
theorem dX6_ruleAt_12 : decode cX6_ruleAt 12 = .ok (.goto 15, 3) := by decide +kernel
theorem dX6_ruleAt_15 : decode cX6_ruleAt 15 = .ok (.iload_n 2, 1) := by decide +kernel
theorem dX6_ruleAt_16 : decode cX6_ruleAt 16 = .ok (.invokestatic 82, 3) := by decide +kernel
theorem dX6_ruleAt_19 : decode cX6_ruleAt 19 = .ok (.ifCond .eq 7, 3) := by decide +kernel
theorem dX6_ruleAt_22 : decode cX6_ruleAt 22 = .ok (.iconst 0, 1) := by decide +kernel
theorem dX6_ruleAt_23 : decode cX6_ruleAt 23 = .ok (.goto 4, 3) := by decide +kernel
theorem dX6_ruleAt_26 : decode cX6_ruleAt 26 = .ok (.iconst 2, 1) := by decide +kernel
theorem dX6_ruleAt_27 : decode cX6_ruleAt 27 = .ok (.putfield 55, 3) := by decide +kernel
theorem dX6_ruleAt_30 : decode cX6_ruleAt 30 = .ok (.aload_n 0, 1) := by decide +kernel
theorem dX6_ruleAt_31 : decode cX6_ruleAt 31 = .ok (.getfield 55, 3) := by decide +kernel
theorem dX6_ruleAt_34 : decode cX6_ruleAt 34 = .ok (.ifCond .le 7, 3) := by decide +kernel
theorem dX6_ruleAt_37 : decode cX6_ruleAt 37 = .ok (.iconst 0, 1) := by decide +kernel
theorem dX6_ruleAt_38 : decode cX6_ruleAt 38 = .ok (.goto 9, 3) := by decide +kernel
theorem dX6_ruleAt_41 : decode cX6_ruleAt 41 = .ok (.aload_n 0, 1) := by decide +kernel
theorem dX6_ruleAt_42 : decode cX6_ruleAt 42 = .ok (.iload_n 3, 1) := by decide +kernel
theorem dX6_ruleAt_43 : decode cX6_ruleAt 43 = .ok (.iload_n 2, 1) := by decide +kernel
theorem dX6_ruleAt_44 : decode cX6_ruleAt 44 = .ok (.invokevirtual 108, 3) := by decide +kernel
theorem dX6_ruleAt_47 : decode cX6_ruleAt 47 = .ok (.ireturn, 1) := by decide +kernel
theorem dX6_isAsked_0 : decode cX6_isAsked 0 = .ok (.aload_n 0, 1) := by decide +kernel
theorem dX6_isAsked_1 : decode cX6_isAsked 1 = .ok (.aload_n 0, 1) := by decide +kernel
theorem dX6_isAsked_2 : decode cX6_isAsked 2 = .ok (.iload_n 1, 1) := by decide +kernel
theorem dX6_isAsked_3 : decode cX6_isAsked 3 = .ok (.invokevirtual 79, 3) := by decide +kernel
theorem dX6_isAsked_6 : decode cX6_isAsked 6 = .ok (.ifCond .ne 7, 3) := by decide +kernel
theorem dX6_isAsked_9 : decode cX6_isAsked 9 = .ok (.iconst 1, 1) := by decide +kernel
theorem dX6_isAsked_10 : decode cX6_isAsked 10 = .ok (.goto 15, 3) := by decide +kernel
theorem dX6_isAsked_13 : decode cX6_isAsked 13 = .ok (.iload_n 2, 1) := by decide +kernel
theorem dX6_isAsked_14 : decode cX6_isAsked 14 = .ok (.invokestatic 82, 3) := by decide +kernel
theorem dX6_isAsked_17 : decode cX6_isAsked 17 = .ok (.ifCond .eq 7, 3) := by decide +kernel
theorem dX6_isAsked_20 : decode cX6_isAsked 20 = .ok (.iconst 0, 1) := by decide +kernel
theorem dX6_isAsked_21 : decode cX6_isAsked 21 = .ok (.goto 4, 3) := by decide +kernel
theorem dX6_isAsked_24 : decode cX6_isAsked 24 = .ok (.iconst 2, 1) := by decide +kernel
theorem dX6_isAsked_25 : decode cX6_isAsked 25 = .ok (.putfield 55, 3) := by decide +kernel
theorem dX6_isAsked_28 : decode cX6_isAsked 28 = .ok (.aload_n 0, 1) := by decide +kernel
theorem dX6_isAsked_29 : decode cX6_isAsked 29 = .ok (.getfield 55, 3) := by decide +kernel
theorem dX6_isAsked_32 : decode cX6_isAsked 32 = .ok (.ifCond .le 5, 3) := by decide +kernel
theorem dX6_isAsked_35 : decode cX6_isAsked 35 = .ok (.iconst 0, 1) := by decide +kernel
theorem dX6_isAsked_36 : decode cX6_isAsked 36 = .ok (.ireturn, 1) := by decide +kernel
theorem dX6_isAsked_37 : decode cX6_isAsked 37 = .ok (.aload_n 0, 1) := by decide +kernel
theorem dX6_isAsked_38 : decode cX6_isAsked 38 = .ok (.iload_n 1, 1) := by decide +kernel
theorem dX6_isAsked_39 : decode cX6_isAsked 39 = .ok (.iload_n 2, 1) := by decide +kernel
theorem dX6_isAsked_40 : decode cX6_isAsked 40 = .ok (.invokevirtual 142, 3) := by decide +kernel
theorem dX6_isAsked_43 : decode cX6_isAsked 43 = .ok (.iconst 1, 1) := by decide +kernel
theorem dX6_isAsked_44 : decode cX6_isAsked 44 = .ok (.ireturn, 1) := by decide +kernel
theorem dX6_adults_0 : decode cX6_adults 0 = .ok (.aload_n 0, 1) := by decide +kernel
theorem dX6_adults_1 : decode cX6_adults 1 = .ok (.iload_n 1, 1) := by decide +kernel
theorem dX6_adults_2 : decode cX6_adults 2 = .ok (.iload_n 2, 1) := by decide +kernel
theorem dX6_adults_3 : decode cX6_adults 3 = .ok (.invokevirtual 171, 3) := by decide +kernel
theorem dX6_adults_6 : decode cX6_adults 6 = .ok (.ifCond .eq 10, 3) := by decide +kernel
theorem dX6_adults_9 : decode cX6_adults 9 = .ok (.aload_n 0, 1) := by decide +kernel
theorem dX6_adults_10 : decode cX6_adults 10 = .ok (.getfield 99, 3) := by decide +kernel
theorem dX6_adults_13 : decode cX6_adults 13 = .ok (.goto 4, 3) := by decide +kernel
theorem dX6_adults_16 : decode cX6_adults 16 = .ok (.iconst 0, 1) := by decide +kernel
theorem dX6_adults_17 : decode cX6_adults 17 = .ok (.ireturn, 1) := by decide +kernel
theorem dX6_children_0 : decode cX6_children 0 = .ok (.aload_n 0, 1) := by decide +kernel
theorem dX6_children_1 : decode cX6_children 1 = .ok (.iload_n 1, 1) := by decide +kernel
theorem dX6_children_2 : decode cX6_children 2 = .ok (.iload_n 2, 1) := by decide +kernel
theorem dX6_children_3 : decode cX6_children 3 = .ok (.invokevirtual 171, 3) := by decide +kernel
theorem dX6_children_6 : decode cX6_children 6 = .ok (.ifCond .eq 10, 3) := by decide +kernel
theorem dX6_children_9 : decode cX6_children 9 = .ok (.aload_n 0, 1) := by decide +kernel
theorem dX6_children_10 : decode cX6_children 10 = .ok (.getfield 102, 3) := by decide +kernel
theorem dX6_children_13 : decode cX6_children 13 = .ok (.goto 4, 3) := by decide +kernel
theorem dX6_children_16 : decode cX6_children 16 = .ok (.iconst 0, 1) := by decide +kernel
theorem dX6_children_17 : decode cX6_children 17 = .ok (.ireturn, 1) := by decide +kernel
theorem dX6_incomeOf_0 : decode cX6_incomeOf 0 = .ok (.aload_n 0, 1) := by decide +kernel
theorem dX6_incomeOf_1 : decode cX6_incomeOf 1 = .ok (.iload_n 1, 1) := by decide +kernel
theorem dX6_incomeOf_2 : decode cX6_incomeOf 2 = .ok (.iload_n 2, 1) := by decide +kernel
theorem dX6_incomeOf_3 : decode cX6_incomeOf 3 = .ok (.invokevirtual 171, 3) := by decide +kernel
theorem dX6_incomeOf_6 : decode cX6_incomeOf 6 = .ok (.ifCond .eq 10, 3) := by decide +kernel
theorem dX6_incomeOf_9 : decode cX6_incomeOf 9 = .ok (.aload_n 0, 1) := by decide +kernel
theorem dX6_incomeOf_10 : decode cX6_incomeOf 10 = .ok (.getfield 105, 3) := by decide +kernel
theorem dX6_incomeOf_13 : decode cX6_incomeOf 13 = .ok (.goto 4, 3) := by decide +kernel
theorem dX6_incomeOf_16 : decode cX6_incomeOf 16 = .ok (.iconst 0, 1) := by decide +kernel
theorem dX6_incomeOf_17 : decode cX6_incomeOf 17 = .ok (.ireturn, 1) := by decide +kernel
theorem dX6_adultAmount_0 : decode cX6_adultAmount 0 = .ok (.aload_n 0, 1) := by decide +kernel
theorem dX6_adultAmount_1 : decode cX6_adultAmount 1 = .ok (.iload_n 1, 1) := by decide +kernel
theorem dX6_adultAmount_2 : decode cX6_adultAmount 2 = .ok (.iload_n 2, 1) := by decide +kernel
theorem dX6_adultAmount_3 : decode cX6_adultAmount 3 = .ok (.invokevirtual 171, 3) := by decide +kernel
theorem dX6_adultAmount_6 : decode cX6_adultAmount 6 = .ok (.ifCond .eq 10, 3) := by decide +kernel
theorem dX6_adultAmount_9 : decode cX6_adultAmount 9 = .ok (.aload_n 0, 1) := by decide +kernel
theorem dX6_adultAmount_10 : decode cX6_adultAmount 10 = .ok (.getfield 118, 3) := by decide +kernel
theorem dX6_adultAmount_13 : decode cX6_adultAmount 13 = .ok (.goto 4, 3) := by decide +kernel
theorem dX6_adultAmount_16 : decode cX6_adultAmount 16 = .ok (.iconst 0, 1) := by decide +kernel
theorem dX6_adultAmount_17 : decode cX6_adultAmount 17 = .ok (.ireturn, 1) := by decide +kernel
theorem dX6_childAmount_0 : decode cX6_childAmount 0 = .ok (.aload_n 0, 1) := by decide +kernel
theorem dX6_childAmount_1 : decode cX6_childAmount 1 = .ok (.iload_n 1, 1) := by decide +kernel
theorem dX6_childAmount_2 : decode cX6_childAmount 2 = .ok (.iload_n 2, 1) := by decide +kernel
theorem dX6_childAmount_3 : decode cX6_childAmount 3 = .ok (.invokevirtual 171, 3) := by decide +kernel
theorem dX6_childAmount_6 : decode cX6_childAmount 6 = .ok (.ifCond .eq 10, 3) := by decide +kernel
theorem dX6_childAmount_9 : decode cX6_childAmount 9 = .ok (.aload_n 0, 1) := by decide +kernel
theorem dX6_childAmount_10 : decode cX6_childAmount 10 = .ok (.getfield 125, 3) := by decide +kernel
theorem dX6_childAmount_13 : decode cX6_childAmount 13 = .ok (.goto 4, 3) := by decide +kernel
theorem dX6_childAmount_16 : decode cX6_childAmount 16 = .ok (.iconst 0, 1) := by decide +kernel
theorem dX6_childAmount_17 : decode cX6_childAmount 17 = .ok (.ireturn, 1) := by decide +kernel
theorem dX6_housingAmount_0 : decode cX6_housingAmount 0 = .ok (.aload_n 0, 1) := by decide +kernel
theorem dX6_housingAmount_1 : decode cX6_housingAmount 1 = .ok (.iload_n 1, 1) := by decide +kernel
theorem dX6_housingAmount_2 : decode cX6_housingAmount 2 = .ok (.iload_n 2, 1) := by decide +kernel
theorem dX6_housingAmount_3 : decode cX6_housingAmount 3 = .ok (.invokevirtual 171, 3) := by decide +kernel
theorem dX6_housingAmount_6 : decode cX6_housingAmount 6 = .ok (.ifCond .eq 10, 3) := by decide +kernel
theorem dX6_housingAmount_9 : decode cX6_housingAmount 9 = .ok (.aload_n 0, 1) := by decide +kernel
theorem dX6_housingAmount_10 : decode cX6_housingAmount 10 = .ok (.getfield 112, 3) := by decide +kernel
theorem dX6_housingAmount_13 : decode cX6_housingAmount 13 = .ok (.goto 4, 3) := by decide +kernel
theorem dX6_housingAmount_16 : decode cX6_housingAmount 16 = .ok (.iconst 0, 1) := by decide +kernel
theorem dX6_housingAmount_17 : decode cX6_housingAmount 17 = .ok (.ireturn, 1) := by decide +kernel
theorem dX6_reason_0 : decode cX6_reason 0 = .ok (.aload_n 0, 1) := by decide +kernel
theorem dX6_reason_1 : decode cX6_reason 1 = .ok (.iload_n 1, 1) := by decide +kernel
theorem dX6_reason_2 : decode cX6_reason 2 = .ok (.iload_n 2, 1) := by decide +kernel
theorem dX6_reason_3 : decode cX6_reason 3 = .ok (.invokevirtual 171, 3) := by decide +kernel
theorem dX6_reason_6 : decode cX6_reason 6 = .ok (.ifCond .ne 5, 3) := by decide +kernel
theorem dX6_reason_9 : decode cX6_reason 9 = .ok (.iconst 0, 1) := by decide +kernel
theorem dX6_reason_10 : decode cX6_reason 10 = .ok (.ireturn, 1) := by decide +kernel
theorem dX6_reason_11 : decode cX6_reason 11 = .ok (.aload_n 0, 1) := by decide +kernel
theorem dX6_reason_12 : decode cX6_reason 12 = .ok (.getfield 99, 3) := by decide +kernel
theorem dX6_reason_15 : decode cX6_reason 15 = .ok (.ifCond .ne 8, 3) := by decide +kernel
theorem dX6_reason_18 : decode cX6_reason 18 = .ok (.bipush 110, 2) := by decide +kernel
theorem dX6_reason_20 : decode cX6_reason 20 = .ok (.goto 41, 3) := by decide +kernel
theorem dX6_reason_23 : decode cX6_reason 23 = .ok (.aload_n 0, 1) := by decide +kernel
theorem dX6_reason_24 : decode cX6_reason 24 = .ok (.getfield 121, 3) := by decide +kernel
theorem dX6_reason_27 : decode cX6_reason 27 = .ok (.ifCond .eq 20, 3) := by decide +kernel
theorem dX6_reason_30 : decode cX6_reason 30 = .ok (.aload_n 0, 1) := by decide +kernel
theorem dX6_reason_31 : decode cX6_reason 31 = .ok (.getfield 128, 3) := by decide +kernel
theorem dX6_reason_34 : decode cX6_reason 34 = .ok (.ifCond .eq 8, 3) := by decide +kernel
theorem dX6_reason_37 : decode cX6_reason 37 = .ok (.bipush 98, 2) := by decide +kernel
theorem dX6_reason_39 : decode cX6_reason 39 = .ok (.goto 22, 3) := by decide +kernel
theorem dX6_reason_42 : decode cX6_reason 42 = .ok (.bipush 116, 2) := by decide +kernel
theorem dX6_reason_44 : decode cX6_reason 44 = .ok (.goto 17, 3) := by decide +kernel
theorem dX6_reason_47 : decode cX6_reason 47 = .ok (.aload_n 0, 1) := by decide +kernel
theorem dX6_reason_48 : decode cX6_reason 48 = .ok (.getfield 128, 3) := by decide +kernel
theorem dX6_reason_51 : decode cX6_reason 51 = .ok (.ifCond .eq 8, 3) := by decide +kernel
theorem dX6_reason_54 : decode cX6_reason 54 = .ok (.bipush 109, 2) := by decide +kernel
theorem dX6_reason_56 : decode cX6_reason 56 = .ok (.goto 5, 3) := by decide +kernel
theorem dX6_reason_59 : decode cX6_reason 59 = .ok (.bipush 102, 2) := by decide +kernel
theorem dX6_reason_61 : decode cX6_reason 61 = .ok (.ireturn, 1) := by decide +kernel
theorem dX6_nextChange_0 : decode cX6_nextChange 0 = .ok (.aload_n 0, 1) := by decide +kernel
theorem dX6_nextChange_1 : decode cX6_nextChange 1 = .ok (.iload_n 1, 1) := by decide +kernel
theorem dX6_nextChange_2 : decode cX6_nextChange 2 = .ok (.iload_n 2, 1) := by decide +kernel
theorem dX6_nextChange_3 : decode cX6_nextChange 3 = .ok (.invokevirtual 171, 3) := by decide +kernel
theorem dX6_nextChange_6 : decode cX6_nextChange 6 = .ok (.ifCond .ne 5, 3) := by decide +kernel
theorem dX6_nextChange_9 : decode cX6_nextChange 9 = .ok (.iconst 0, 1) := by decide +kernel
theorem dX6_nextChange_10 : decode cX6_nextChange 10 = .ok (.ireturn, 1) := by decide +kernel
theorem dX6_nextChange_11 : decode cX6_nextChange 11 = .ok (.aload_n 0, 1) := by decide +kernel
theorem dX6_nextChange_12 : decode cX6_nextChange 12 = .ok (.getfield 118, 3) := by decide +kernel
theorem dX6_nextChange_15 : decode cX6_nextChange 15 = .ok (.istore_n 3, 1) := by decide +kernel
theorem dX6_nextChange_16 : decode cX6_nextChange 16 = .ok (.aload_n 0, 1) := by decide +kernel
theorem dX6_nextChange_17 : decode cX6_nextChange 17 = .ok (.getfield 125, 3) := by decide +kernel
theorem dX6_nextChange_20 : decode cX6_nextChange 20 = .ok (.istore 4, 2) := by decide +kernel
theorem dX6_nextChange_22 : decode cX6_nextChange 22 = .ok (.aload_n 0, 1) := by decide +kernel
theorem dX6_nextChange_23 : decode cX6_nextChange 23 = .ok (.getfield 112, 3) := by decide +kernel
theorem dX6_nextChange_26 : decode cX6_nextChange 26 = .ok (.istore 5, 2) := by decide +kernel
theorem dX6_nextChange_28 : decode cX6_nextChange 28 = .ok (.iload_n 2, 1) := by decide +kernel
theorem dX6_nextChange_29 : decode cX6_nextChange 29 = .ok (.iconst 1, 1) := by decide +kernel
theorem dX6_nextChange_30 : decode cX6_nextChange 30 = .ok (.iadd, 1) := by decide +kernel
theorem dX6_nextChange_31 : decode cX6_nextChange 31 = .ok (.istore 6, 2) := by decide +kernel
theorem dX6_nextChange_33 : decode cX6_nextChange 33 = .ok (.iload 6, 2) := by decide +kernel
theorem dX6_nextChange_35 : decode cX6_nextChange 35 = .ok (.sipush 360, 3) := by decide +kernel
theorem dX6_nextChange_38 : decode cX6_nextChange 38 = .ok (.if_icmp .ge 45, 3) := by decide +kernel
theorem dX6_nextChange_41 : decode cX6_nextChange 41 = .ok (.aload_n 0, 1) := by decide +kernel
theorem dX6_nextChange_42 : decode cX6_nextChange 42 = .ok (.iload_n 1, 1) := by decide +kernel
theorem dX6_nextChange_43 : decode cX6_nextChange 43 = .ok (.iload 6, 2) := by decide +kernel
theorem dX6_nextChange_45 : decode cX6_nextChange 45 = .ok (.invokevirtual 142, 3) := by decide +kernel
theorem dX6_nextChange_48 : decode cX6_nextChange 48 = .ok (.aload_n 0, 1) := by decide +kernel
theorem dX6_nextChange_49 : decode cX6_nextChange 49 = .ok (.getfield 118, 3) := by decide +kernel
theorem dX6_nextChange_52 : decode cX6_nextChange 52 = .ok (.iload_n 3, 1) := by decide +kernel
theorem dX6_nextChange_53 : decode cX6_nextChange 53 = .ok (.if_icmp .ne 21, 3) := by decide +kernel
theorem dX6_nextChange_56 : decode cX6_nextChange 56 = .ok (.aload_n 0, 1) := by decide +kernel
theorem dX6_nextChange_57 : decode cX6_nextChange 57 = .ok (.getfield 125, 3) := by decide +kernel
theorem dX6_nextChange_60 : decode cX6_nextChange 60 = .ok (.iload 4, 2) := by decide +kernel
theorem dX6_nextChange_62 : decode cX6_nextChange 62 = .ok (.if_icmp .ne 12, 3) := by decide +kernel
theorem dX6_nextChange_65 : decode cX6_nextChange 65 = .ok (.aload_n 0, 1) := by decide +kernel
theorem dX6_nextChange_66 : decode cX6_nextChange 66 = .ok (.getfield 112, 3) := by decide +kernel
theorem dX6_nextChange_69 : decode cX6_nextChange 69 = .ok (.iload 5, 2) := by decide +kernel
theorem dX6_nextChange_71 : decode cX6_nextChange 71 = .ok (.if_icmp .eq 6, 3) := by decide +kernel
theorem dX6_nextChange_74 : decode cX6_nextChange 74 = .ok (.iload 6, 2) := by decide +kernel
theorem dX6_nextChange_76 : decode cX6_nextChange 76 = .ok (.ireturn, 1) := by decide +kernel
theorem dX6_nextChange_77 : decode cX6_nextChange 77 = .ok (.iinc 6 1, 3) := by decide +kernel
theorem dX6_nextChange_80 : decode cX6_nextChange 80 = .ok (.goto (-47), 3) := by decide +kernel
theorem dX6_nextChange_83 : decode cX6_nextChange 83 = .ok (.aload_n 0, 1) := by decide +kernel
theorem dX6_nextChange_84 : decode cX6_nextChange 84 = .ok (.iconst 3, 1) := by decide +kernel
theorem dX6_nextChange_85 : decode cX6_nextChange 85 = .ok (.invokevirtual 68, 3) := by decide +kernel
theorem dX6_nextChange_88 : decode cX6_nextChange 88 = .ok (.ireturn, 1) := by decide +kernel
theorem dX6_entitlement_0 : decode cX6_entitlement 0 = .ok (.aload_n 0, 1) := by decide +kernel
theorem dX6_entitlement_1 : decode cX6_entitlement 1 = .ok (.aload_n 0, 1) := by decide +kernel
theorem dX6_entitlement_2 : decode cX6_entitlement 2 = .ok (.iload_n 1, 1) := by decide +kernel
theorem dX6_entitlement_3 : decode cX6_entitlement 3 = .ok (.iload_n 2, 1) := by decide +kernel
theorem dX6_entitlement_4 : decode cX6_entitlement 4 = .ok (.invokevirtual 164, 3) := by decide +kernel
theorem dX6_entitlement_7 : decode cX6_entitlement 7 = .ok (.ifCond .eq 7, 3) := by decide +kernel
theorem dX6_entitlement_10 : decode cX6_entitlement 10 = .ok (.iconst 0, 1) := by decide +kernel
theorem dX6_entitlement_11 : decode cX6_entitlement 11 = .ok (.goto 4, 3) := by decide +kernel
theorem dX6_entitlement_14 : decode cX6_entitlement 14 = .ok (.iconst 1, 1) := by decide +kernel
theorem dX6_entitlement_15 : decode cX6_entitlement 15 = .ok (.putfield 55, 3) := by decide +kernel
theorem dX6_entitlement_18 : decode cX6_entitlement 18 = .ok (.aload_n 0, 1) := by decide +kernel
theorem dX6_entitlement_19 : decode cX6_entitlement 19 = .ok (.getfield 55, 3) := by decide +kernel
theorem dX6_entitlement_22 : decode cX6_entitlement 22 = .ok (.ifCond .le 7, 3) := by decide +kernel
theorem dX6_entitlement_25 : decode cX6_entitlement 25 = .ok (.iconst 0, 1) := by decide +kernel
theorem dX6_entitlement_26 : decode cX6_entitlement 26 = .ok (.goto 9, 3) := by decide +kernel
theorem dX6_entitlement_29 : decode cX6_entitlement 29 = .ok (.aload_n 0, 1) := by decide +kernel
theorem dX6_entitlement_30 : decode cX6_entitlement 30 = .ok (.iload_n 1, 1) := by decide +kernel
theorem dX6_entitlement_31 : decode cX6_entitlement 31 = .ok (.iload_n 2, 1) := by decide +kernel
theorem dX6_entitlement_32 : decode cX6_entitlement 32 = .ok (.invokevirtual 148, 3) := by decide +kernel
theorem dX6_entitlement_35 : decode cX6_entitlement 35 = .ok (.ireturn, 1) := by decide +kernel
theorem dX6_entitlementByDays_0 : decode cX6_entitlementByDays 0 = .ok (.aload_n 0, 1) := by decide +kernel
theorem dX6_entitlementByDays_1 : decode cX6_entitlementByDays 1 = .ok (.iload_n 1, 1) := by decide +kernel
theorem dX6_entitlementByDays_2 : decode cX6_entitlementByDays 2 = .ok (.iload_n 2, 1) := by decide +kernel
theorem dX6_entitlementByDays_3 : decode cX6_entitlementByDays 3 = .ok (.invokevirtual 174, 3) := by decide +kernel
theorem dX6_entitlementByDays_6 : decode cX6_entitlementByDays 6 = .ok (.ireturn, 1) := by decide +kernel
theorem dX6_facts_0 : decode cX6_facts 0 = .ok (.aload_n 0, 1) := by decide +kernel
theorem dX6_facts_1 : decode cX6_facts 1 = .ok (.iconst 0, 1) := by decide +kernel
theorem dX6_facts_2 : decode cX6_facts 2 = .ok (.putfield 55, 3) := by decide +kernel
theorem dX6_facts_5 : decode cX6_facts 5 = .ok (.aload_n 0, 1) := by decide +kernel
theorem dX6_facts_6 : decode cX6_facts 6 = .ok (.getfield 7, 3) := by decide +kernel
theorem dX6_facts_9 : decode cX6_facts 9 = .ok (.ireturn, 1) := by decide +kernel
theorem dX6_keptShare_0 : decode cX6_keptShare 0 = .ok (.aload_n 0, 1) := by decide +kernel
theorem dX6_keptShare_1 : decode cX6_keptShare 1 = .ok (.aload_n 0, 1) := by decide +kernel
theorem dX6_keptShare_2 : decode cX6_keptShare 2 = .ok (.getfield 151, 3) := by decide +kernel
theorem dX6_keptShare_5 : decode cX6_keptShare 5 = .ok (.aload_n 0, 1) := by decide +kernel
theorem dX6_keptShare_6 : decode cX6_keptShare 6 = .ok (.getfield 161, 3) := by decide +kernel
theorem dX6_keptShare_9 : decode cX6_keptShare 9 = .ok (.ladd, 1) := by decide +kernel
theorem dX6_keptShare_10 : decode cX6_keptShare 10 = .ok (.lconst 0, 1) := by decide +kernel
theorem dX6_keptShare_11 : decode cX6_keptShare 11 = .ok (.lcmp, 1) := by decide +kernel
theorem dX6_keptShare_12 : decode cX6_keptShare 12 = .ok (.ifCond .ne 7, 3) := by decide +kernel
theorem dX6_keptShare_15 : decode cX6_keptShare 15 = .ok (.iconst 1, 1) := by decide +kernel
theorem dX6_keptShare_16 : decode cX6_keptShare 16 = .ok (.goto 4, 3) := by decide +kernel
theorem dX6_keptShare_19 : decode cX6_keptShare 19 = .ok (.iconst 0, 1) := by decide +kernel
theorem dX6_keptShare_20 : decode cX6_keptShare 20 = .ok (.putfield 55, 3) := by decide +kernel
theorem dX6_keptShare_23 : decode cX6_keptShare 23 = .ok (.aload_n 0, 1) := by decide +kernel
theorem dX6_keptShare_24 : decode cX6_keptShare 24 = .ok (.getfield 55, 3) := by decide +kernel
theorem dX6_keptShare_27 : decode cX6_keptShare 27 = .ok (.ifCond .le 7, 3) := by decide +kernel
theorem dX6_keptShare_30 : decode cX6_keptShare 30 = .ok (.fconst 0, 1) := by decide +kernel
theorem dX6_keptShare_31 : decode cX6_keptShare 31 = .ok (.goto 19, 3) := by decide +kernel
theorem dX6_keptShare_34 : decode cX6_keptShare 34 = .ok (.aload_n 0, 1) := by decide +kernel
theorem dX6_keptShare_35 : decode cX6_keptShare 35 = .ok (.getfield 151, 3) := by decide +kernel
theorem dX6_keptShare_38 : decode cX6_keptShare 38 = .ok (.l2f, 1) := by decide +kernel
theorem dX6_keptShare_39 : decode cX6_keptShare 39 = .ok (.aload_n 0, 1) := by decide +kernel
theorem dX6_keptShare_40 : decode cX6_keptShare 40 = .ok (.getfield 151, 3) := by decide +kernel
theorem dX6_keptShare_43 : decode cX6_keptShare 43 = .ok (.aload_n 0, 1) := by decide +kernel
theorem dX6_keptShare_44 : decode cX6_keptShare 44 = .ok (.getfield 161, 3) := by decide +kernel
theorem dX6_keptShare_47 : decode cX6_keptShare 47 = .ok (.ladd, 1) := by decide +kernel
theorem dX6_keptShare_48 : decode cX6_keptShare 48 = .ok (.l2f, 1) := by decide +kernel
theorem dX6_keptShare_49 : decode cX6_keptShare 49 = .ok (.fdiv, 1) := by decide +kernel
theorem dX6_keptShare_50 : decode cX6_keptShare 50 = .ok (.freturn, 1) := by decide +kernel
theorem dX6_meanPayment_0 : decode cX6_meanPayment 0 = .ok (.aload_n 0, 1) := by decide +kernel
theorem dX6_meanPayment_1 : decode cX6_meanPayment 1 = .ok (.aload_n 0, 1) := by decide +kernel
theorem dX6_meanPayment_2 : decode cX6_meanPayment 2 = .ok (.getfield 158, 3) := by decide +kernel
theorem dX6_meanPayment_5 : decode cX6_meanPayment 5 = .ok (.ifCond .ne 7, 3) := by decide +kernel
theorem dX6_meanPayment_8 : decode cX6_meanPayment 8 = .ok (.iconst 1, 1) := by decide +kernel
theorem dX6_meanPayment_9 : decode cX6_meanPayment 9 = .ok (.goto 4, 3) := by decide +kernel
theorem dX6_meanPayment_12 : decode cX6_meanPayment 12 = .ok (.iconst 0, 1) := by decide +kernel
theorem dX6_meanPayment_13 : decode cX6_meanPayment 13 = .ok (.putfield 55, 3) := by decide +kernel
theorem dX6_meanPayment_16 : decode cX6_meanPayment 16 = .ok (.aload_n 0, 1) := by decide +kernel
theorem dX6_meanPayment_17 : decode cX6_meanPayment 17 = .ok (.getfield 55, 3) := by decide +kernel
theorem dX6_meanPayment_20 : decode cX6_meanPayment 20 = .ok (.ifCond .le 7, 3) := by decide +kernel
theorem dX6_meanPayment_23 : decode cX6_meanPayment 23 = .ok (.dconst 0, 1) := by decide +kernel
theorem dX6_meanPayment_24 : decode cX6_meanPayment 24 = .ok (.goto 14, 3) := by decide +kernel
theorem dX6_meanPayment_27 : decode cX6_meanPayment 27 = .ok (.aload_n 0, 1) := by decide +kernel
theorem dX6_meanPayment_28 : decode cX6_meanPayment 28 = .ok (.getfield 161, 3) := by decide +kernel
theorem dX6_meanPayment_31 : decode cX6_meanPayment 31 = .ok (.l2d, 1) := by decide +kernel
theorem dX6_meanPayment_32 : decode cX6_meanPayment 32 = .ok (.aload_n 0, 1) := by decide +kernel
theorem dX6_meanPayment_33 : decode cX6_meanPayment 33 = .ok (.getfield 158, 3) := by decide +kernel
theorem dX6_meanPayment_36 : decode cX6_meanPayment 36 = .ok (.i2d, 1) := by decide +kernel
theorem dX6_meanPayment_37 : decode cX6_meanPayment 37 = .ok (.ddiv, 1) := by decide +kernel
theorem dX6_meanPayment_38 : decode cX6_meanPayment 38 = .ok (.dreturn, 1) := by decide +kernel
theorem dJx00060_init_a7421_0 : decode cJx00060_init_a7421 0 = .ok (.aload_n 0, 1) := by decide +kernel
theorem dJx00060_init_a7421_1 : decode cJx00060_init_a7421 1 = .ok (.aload_n 1, 1) := by decide +kernel
theorem dJx00060_init_a7421_2 : decode cJx00060_init_a7421 2 = .ok (.invokespecial 7, 3) := by decide +kernel
theorem dJx00060_init_a7421_5 : decode cJx00060_init_a7421 5 = .ok (.return_, 1) := by decide +kernel
theorem dJ9_min_7cf53_0 : decode cJ9_min_7cf53 0 = .ok (.iload_n 0, 1) := by decide +kernel
theorem dJ9_min_7cf53_1 : decode cJ9_min_7cf53 1 = .ok (.iload_n 1, 1) := by decide +kernel
theorem dJ9_min_7cf53_2 : decode cJ9_min_7cf53 2 = .ok (.if_icmp .gt 7, 3) := by decide +kernel
theorem dJ9_min_7cf53_5 : decode cJ9_min_7cf53 5 = .ok (.iload_n 0, 1) := by decide +kernel
theorem dJ9_min_7cf53_6 : decode cJ9_min_7cf53 6 = .ok (.goto 4, 3) := by decide +kernel
theorem dJ9_min_7cf53_9 : decode cJ9_min_7cf53 9 = .ok (.iload_n 1, 1) := by decide +kernel
theorem dJ9_min_7cf53_10 : decode cJ9_min_7cf53 10 = .ok (.ireturn, 1) := by decide +kernel
theorem dJ7_fill_53178_0 : decode cJ7_fill_53178 0 = .ok (.iconst 0, 1) := by decide +kernel
theorem dJ7_fill_53178_1 : decode cJ7_fill_53178 1 = .ok (.istore_n 2, 1) := by decide +kernel
theorem dJ7_fill_53178_2 : decode cJ7_fill_53178 2 = .ok (.aload_n 0, 1) := by decide +kernel
theorem dJ7_fill_53178_3 : decode cJ7_fill_53178 3 = .ok (.arraylength, 1) := by decide +kernel
theorem dJ7_fill_53178_4 : decode cJ7_fill_53178 4 = .ok (.istore_n 3, 1) := by decide +kernel
theorem dJ7_fill_53178_5 : decode cJ7_fill_53178 5 = .ok (.iload_n 2, 1) := by decide +kernel
theorem dJ7_fill_53178_6 : decode cJ7_fill_53178 6 = .ok (.iload_n 3, 1) := by decide +kernel
theorem dJ7_fill_53178_7 : decode cJ7_fill_53178 7 = .ok (.if_icmp .ge 13, 3) := by decide +kernel
theorem dJ7_fill_53178_10 : decode cJ7_fill_53178 10 = .ok (.aload_n 0, 1) := by decide +kernel
theorem dJ7_fill_53178_11 : decode cJ7_fill_53178 11 = .ok (.iload_n 2, 1) := by decide +kernel
theorem dJ7_fill_53178_12 : decode cJ7_fill_53178 12 = .ok (.iload_n 1, 1) := by decide +kernel
theorem dJ7_fill_53178_13 : decode cJ7_fill_53178 13 = .ok (.iastore, 1) := by decide +kernel
theorem dJ7_fill_53178_14 : decode cJ7_fill_53178 14 = .ok (.iinc 2 1, 3) := by decide +kernel
theorem dJ7_fill_53178_17 : decode cJ7_fill_53178 17 = .ok (.goto (-12), 3) := by decide +kernel
theorem dJ7_fill_53178_20 : decode cJ7_fill_53178 20 = .ok (.return_, 1) := by decide +kernel
theorem dL_addPerson_0 : decode cL_addPerson 0 = .ok (.aload_n 2, 1) := by decide +kernel
theorem dL_addPerson_1 : decode cL_addPerson 1 = .ok (.iconst 0, 1) := by decide +kernel
theorem dL_addPerson_2 : decode cL_addPerson 2 = .ok (.aload_n 0, 1) := by decide +kernel
theorem dL_addPerson_3 : decode cL_addPerson 3 = .ok (.iload_n 1, 1) := by decide +kernel
theorem dL_addPerson_4 : decode cL_addPerson 4 = .ok (.invokevirtual 7, 3) := by decide +kernel
theorem dL_addPerson_7 : decode cL_addPerson 7 = .ok (.i2l, 1) := by decide +kernel
theorem dL_addPerson_8 : decode cL_addPerson 8 = .ok (.lastore, 1) := by decide +kernel
theorem dL_addPerson_9 : decode cL_addPerson 9 = .ok (.goto 9, 3) := by decide +kernel
theorem dL_addPerson_12 : decode cL_addPerson 12 = .ok (.astore_n 3, 1) := by decide +kernel
theorem dL_addPerson_13 : decode cL_addPerson 13 = .ok (.iconst 1, 1) := by decide +kernel
theorem dL_addPerson_14 : decode cL_addPerson 14 = .ok (.ireturn, 1) := by decide +kernel
theorem dL_addPerson_15 : decode cL_addPerson 15 = .ok (.astore_n 3, 1) := by decide +kernel
theorem dL_addPerson_16 : decode cL_addPerson 16 = .ok (.iconst 2, 1) := by decide +kernel
theorem dL_addPerson_17 : decode cL_addPerson 17 = .ok (.ireturn, 1) := by decide +kernel
theorem dL_addPerson_18 : decode cL_addPerson 18 = .ok (.iconst 0, 1) := by decide +kernel
theorem dL_addPerson_19 : decode cL_addPerson 19 = .ok (.ireturn, 1) := by decide +kernel
theorem dL_addHousehold_0 : decode cL_addHousehold 0 = .ok (.aload_n 1, 1) := by decide +kernel
theorem dL_addHousehold_1 : decode cL_addHousehold 1 = .ok (.iconst 0, 1) := by decide +kernel
theorem dL_addHousehold_2 : decode cL_addHousehold 2 = .ok (.aload_n 0, 1) := by decide +kernel
theorem dL_addHousehold_3 : decode cL_addHousehold 3 = .ok (.invokevirtual 17, 3) := by decide +kernel
theorem dL_addHousehold_6 : decode cL_addHousehold 6 = .ok (.i2l, 1) := by decide +kernel
theorem dL_addHousehold_7 : decode cL_addHousehold 7 = .ok (.lastore, 1) := by decide +kernel
theorem dL_addHousehold_8 : decode cL_addHousehold 8 = .ok (.goto 6, 3) := by decide +kernel
theorem dL_addHousehold_11 : decode cL_addHousehold 11 = .ok (.astore_n 2, 1) := by decide +kernel
theorem dL_addHousehold_12 : decode cL_addHousehold 12 = .ok (.iconst 1, 1) := by decide +kernel
theorem dL_addHousehold_13 : decode cL_addHousehold 13 = .ok (.ireturn, 1) := by decide +kernel
theorem dL_addHousehold_14 : decode cL_addHousehold 14 = .ok (.iconst 0, 1) := by decide +kernel
theorem dL_addHousehold_15 : decode cL_addHousehold 15 = .ok (.ireturn, 1) := by decide +kernel
theorem dL_move_0 : decode cL_move 0 = .ok (.aload 4, 2) := by decide +kernel
theorem dL_move_2 : decode cL_move 2 = .ok (.iconst 0, 1) := by decide +kernel
theorem dL_move_3 : decode cL_move 3 = .ok (.aload_n 0, 1) := by decide +kernel
theorem dL_move_4 : decode cL_move 4 = .ok (.iload_n 1, 1) := by decide +kernel
theorem dL_move_5 : decode cL_move 5 = .ok (.iload_n 2, 1) := by decide +kernel
theorem dL_move_6 : decode cL_move 6 = .ok (.iload_n 3, 1) := by decide +kernel
theorem dL_move_7 : decode cL_move 7 = .ok (.invokevirtual 21, 3) := by decide +kernel
theorem dL_move_10 : decode cL_move 10 = .ok (.i2l, 1) := by decide +kernel
theorem dL_move_11 : decode cL_move 11 = .ok (.lastore, 1) := by decide +kernel
theorem dL_move_12 : decode cL_move 12 = .ok (.goto 11, 3) := by decide +kernel
theorem dL_move_15 : decode cL_move 15 = .ok (.astore 5, 2) := by decide +kernel
theorem dL_move_17 : decode cL_move 17 = .ok (.iconst 1, 1) := by decide +kernel
theorem dL_move_18 : decode cL_move 18 = .ok (.ireturn, 1) := by decide +kernel
theorem dL_move_19 : decode cL_move 19 = .ok (.astore 5, 2) := by decide +kernel
theorem dL_move_21 : decode cL_move 21 = .ok (.iconst 2, 1) := by decide +kernel
theorem dL_move_22 : decode cL_move 22 = .ok (.ireturn, 1) := by decide +kernel
theorem dL_move_23 : decode cL_move 23 = .ok (.iconst 0, 1) := by decide +kernel
theorem dL_move_24 : decode cL_move 24 = .ok (.ireturn, 1) := by decide +kernel
theorem dL_setIncome_0 : decode cL_setIncome 0 = .ok (.aload 4, 2) := by decide +kernel
theorem dL_setIncome_2 : decode cL_setIncome 2 = .ok (.iconst 0, 1) := by decide +kernel
theorem dL_setIncome_3 : decode cL_setIncome 3 = .ok (.aload_n 0, 1) := by decide +kernel
theorem dL_setIncome_4 : decode cL_setIncome 4 = .ok (.iload_n 1, 1) := by decide +kernel
theorem dL_setIncome_5 : decode cL_setIncome 5 = .ok (.iload_n 2, 1) := by decide +kernel
theorem dL_setIncome_6 : decode cL_setIncome 6 = .ok (.iload_n 3, 1) := by decide +kernel
theorem dL_setIncome_7 : decode cL_setIncome 7 = .ok (.invokevirtual 27, 3) := by decide +kernel
theorem dL_setIncome_10 : decode cL_setIncome 10 = .ok (.i2l, 1) := by decide +kernel
theorem dL_setIncome_11 : decode cL_setIncome 11 = .ok (.lastore, 1) := by decide +kernel
theorem dL_setIncome_12 : decode cL_setIncome 12 = .ok (.goto 11, 3) := by decide +kernel
theorem dL_setIncome_15 : decode cL_setIncome 15 = .ok (.astore 5, 2) := by decide +kernel
theorem dL_setIncome_17 : decode cL_setIncome 17 = .ok (.iconst 1, 1) := by decide +kernel
theorem dL_setIncome_18 : decode cL_setIncome 18 = .ok (.ireturn, 1) := by decide +kernel
theorem dL_setIncome_19 : decode cL_setIncome 19 = .ok (.astore 5, 2) := by decide +kernel
theorem dL_setIncome_21 : decode cL_setIncome 21 = .ok (.iconst 2, 1) := by decide +kernel
theorem dL_setIncome_22 : decode cL_setIncome 22 = .ok (.ireturn, 1) := by decide +kernel
theorem dL_setIncome_23 : decode cL_setIncome 23 = .ok (.iconst 0, 1) := by decide +kernel
theorem dL_setIncome_24 : decode cL_setIncome 24 = .ok (.ireturn, 1) := by decide +kernel
theorem dL_setRent_0 : decode cL_setRent 0 = .ok (.aload 4, 2) := by decide +kernel
theorem dL_setRent_2 : decode cL_setRent 2 = .ok (.iconst 0, 1) := by decide +kernel
theorem dL_setRent_3 : decode cL_setRent 3 = .ok (.aload_n 0, 1) := by decide +kernel
theorem dL_setRent_4 : decode cL_setRent 4 = .ok (.iload_n 1, 1) := by decide +kernel
theorem dL_setRent_5 : decode cL_setRent 5 = .ok (.iload_n 2, 1) := by decide +kernel
theorem dL_setRent_6 : decode cL_setRent 6 = .ok (.iload_n 3, 1) := by decide +kernel
theorem dL_setRent_7 : decode cL_setRent 7 = .ok (.invokevirtual 30, 3) := by decide +kernel
theorem dL_setRent_10 : decode cL_setRent 10 = .ok (.i2l, 1) := by decide +kernel
theorem dL_setRent_11 : decode cL_setRent 11 = .ok (.lastore, 1) := by decide +kernel
theorem dL_setRent_12 : decode cL_setRent 12 = .ok (.goto 11, 3) := by decide +kernel
theorem dL_setRent_15 : decode cL_setRent 15 = .ok (.astore 5, 2) := by decide +kernel
theorem dL_setRent_17 : decode cL_setRent 17 = .ok (.iconst 1, 1) := by decide +kernel
theorem dL_setRent_18 : decode cL_setRent 18 = .ok (.ireturn, 1) := by decide +kernel
theorem dL_setRent_19 : decode cL_setRent 19 = .ok (.astore 5, 2) := by decide +kernel
theorem dL_setRent_21 : decode cL_setRent 21 = .ok (.iconst 2, 1) := by decide +kernel
theorem dL_setRent_22 : decode cL_setRent 22 = .ok (.ireturn, 1) := by decide +kernel
theorem dL_setRent_23 : decode cL_setRent 23 = .ok (.iconst 0, 1) := by decide +kernel
theorem dL_setRent_24 : decode cL_setRent 24 = .ok (.ireturn, 1) := by decide +kernel
theorem dL_setRule_0 : decode cL_setRule 0 = .ok (.aload 4, 2) := by decide +kernel
theorem dL_setRule_2 : decode cL_setRule 2 = .ok (.iconst 0, 1) := by decide +kernel
theorem dL_setRule_3 : decode cL_setRule 3 = .ok (.aload_n 0, 1) := by decide +kernel
theorem dL_setRule_4 : decode cL_setRule 4 = .ok (.iload_n 1, 1) := by decide +kernel
theorem dL_setRule_5 : decode cL_setRule 5 = .ok (.iload_n 2, 1) := by decide +kernel
theorem dL_setRule_6 : decode cL_setRule 6 = .ok (.iload_n 3, 1) := by decide +kernel
theorem dL_setRule_7 : decode cL_setRule 7 = .ok (.invokevirtual 33, 3) := by decide +kernel
theorem dL_setRule_10 : decode cL_setRule 10 = .ok (.i2l, 1) := by decide +kernel
theorem dL_setRule_11 : decode cL_setRule 11 = .ok (.lastore, 1) := by decide +kernel
