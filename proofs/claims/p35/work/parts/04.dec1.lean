theorem dL_payment_2 : decode cL_payment 2 = .ok (.iload_n 2, 1) := by decide +kernel
theorem dL_payment_3 : decode cL_payment 3 = .ok (.invokevirtual 62, 3) := by decide +kernel
theorem dL_payment_6 : decode cL_payment 6 = .ok (.ireturn, 1) := by decide +kernel
theorem dL_payment_7 : decode cL_payment 7 = .ok (.astore_n 3, 1) := by decide +kernel
theorem dL_payment_8 : decode cL_payment 8 = .ok (.bipush (-77), 2) := by decide +kernel
theorem dL_payment_10 : decode cL_payment 10 = .ok (.ireturn, 1) := by decide +kernel
theorem dL_payment_11 : decode cL_payment 11 = .ok (.astore_n 3, 1) := by decide +kernel
theorem dL_payment_12 : decode cL_payment 12 = .ok (.bipush (-75), 2) := by decide +kernel
theorem dL_payment_14 : decode cL_payment 14 = .ok (.ireturn, 1) := by decide +kernel
theorem dL_paidFor_0 : decode cL_paidFor 0 = .ok (.aload_n 0, 1) := by decide +kernel
theorem dL_paidFor_1 : decode cL_paidFor 1 = .ok (.iload_n 1, 1) := by decide +kernel
theorem dL_paidFor_2 : decode cL_paidFor 2 = .ok (.iload_n 2, 1) := by decide +kernel
theorem dL_paidFor_3 : decode cL_paidFor 3 = .ok (.invokevirtual 65, 3) := by decide +kernel
theorem dL_paidFor_6 : decode cL_paidFor 6 = .ok (.ireturn, 1) := by decide +kernel
theorem dL_paidFor_7 : decode cL_paidFor 7 = .ok (.astore_n 3, 1) := by decide +kernel
theorem dL_paidFor_8 : decode cL_paidFor 8 = .ok (.bipush (-77), 2) := by decide +kernel
theorem dL_paidFor_10 : decode cL_paidFor 10 = .ok (.ireturn, 1) := by decide +kernel
theorem dL_balance_0 : decode cL_balance 0 = .ok (.aload_n 0, 1) := by decide +kernel
theorem dL_balance_1 : decode cL_balance 1 = .ok (.iload_n 1, 1) := by decide +kernel
theorem dL_balance_2 : decode cL_balance 2 = .ok (.invokevirtual 68, 3) := by decide +kernel
theorem dL_balance_5 : decode cL_balance 5 = .ok (.ireturn, 1) := by decide +kernel
theorem dL_balance_6 : decode cL_balance 6 = .ok (.astore_n 2, 1) := by decide +kernel
theorem dL_balance_7 : decode cL_balance 7 = .ok (.bipush (-77), 2) := by decide +kernel
theorem dL_balance_9 : decode cL_balance 9 = .ok (.ireturn, 1) := by decide +kernel
theorem dL_isSettled_0 : decode cL_isSettled 0 = .ok (.aload_n 0, 1) := by decide +kernel
theorem dL_isSettled_1 : decode cL_isSettled 1 = .ok (.iload_n 1, 1) := by decide +kernel
theorem dL_isSettled_2 : decode cL_isSettled 2 = .ok (.invokevirtual 71, 3) := by decide +kernel
theorem dL_isSettled_5 : decode cL_isSettled 5 = .ok (.ifCond .eq 7, 3) := by decide +kernel
theorem dL_isSettled_8 : decode cL_isSettled 8 = .ok (.iconst 1, 1) := by decide +kernel
theorem dL_isSettled_9 : decode cL_isSettled 9 = .ok (.goto 4, 3) := by decide +kernel
theorem dL_isSettled_12 : decode cL_isSettled 12 = .ok (.iconst 0, 1) := by decide +kernel
theorem dL_isSettled_13 : decode cL_isSettled 13 = .ok (.ireturn, 1) := by decide +kernel
theorem dL_isSettled_14 : decode cL_isSettled 14 = .ok (.astore_n 2, 1) := by decide +kernel
theorem dL_isSettled_15 : decode cL_isSettled 15 = .ok (.bipush (-77), 2) := by decide +kernel
theorem dL_isSettled_17 : decode cL_isSettled 17 = .ok (.ireturn, 1) := by decide +kernel
theorem dL_homeOf_0 : decode cL_homeOf 0 = .ok (.aload_n 0, 1) := by decide +kernel
theorem dL_homeOf_1 : decode cL_homeOf 1 = .ok (.iload_n 1, 1) := by decide +kernel
theorem dL_homeOf_2 : decode cL_homeOf 2 = .ok (.iload_n 2, 1) := by decide +kernel
theorem dL_homeOf_3 : decode cL_homeOf 3 = .ok (.invokevirtual 75, 3) := by decide +kernel
theorem dL_homeOf_6 : decode cL_homeOf 6 = .ok (.ireturn, 1) := by decide +kernel
theorem dL_homeOf_7 : decode cL_homeOf 7 = .ok (.astore_n 3, 1) := by decide +kernel
theorem dL_homeOf_8 : decode cL_homeOf 8 = .ok (.bipush (-77), 2) := by decide +kernel
theorem dL_homeOf_10 : decode cL_homeOf 10 = .ok (.ireturn, 1) := by decide +kernel
theorem dL_homeOf_11 : decode cL_homeOf 11 = .ok (.astore_n 3, 1) := by decide +kernel
theorem dL_homeOf_12 : decode cL_homeOf 12 = .ok (.bipush (-78), 2) := by decide +kernel
theorem dL_homeOf_14 : decode cL_homeOf 14 = .ok (.ireturn, 1) := by decide +kernel
theorem dL_ruleAt_0 : decode cL_ruleAt 0 = .ok (.aload_n 0, 1) := by decide +kernel
theorem dL_ruleAt_1 : decode cL_ruleAt 1 = .ok (.iload_n 1, 1) := by decide +kernel
theorem dL_ruleAt_2 : decode cL_ruleAt 2 = .ok (.iload_n 2, 1) := by decide +kernel
theorem dL_ruleAt_3 : decode cL_ruleAt 3 = .ok (.invokevirtual 78, 3) := by decide +kernel
theorem dL_ruleAt_6 : decode cL_ruleAt 6 = .ok (.ireturn, 1) := by decide +kernel
theorem dL_ruleAt_7 : decode cL_ruleAt 7 = .ok (.astore_n 3, 1) := by decide +kernel
theorem dL_ruleAt_8 : decode cL_ruleAt 8 = .ok (.bipush (-75), 2) := by decide +kernel
theorem dL_ruleAt_10 : decode cL_ruleAt 10 = .ok (.ireturn, 1) := by decide +kernel
theorem dL_ruleAt_11 : decode cL_ruleAt 11 = .ok (.astore_n 3, 1) := by decide +kernel
theorem dL_ruleAt_12 : decode cL_ruleAt 12 = .ok (.bipush (-78), 2) := by decide +kernel
theorem dL_ruleAt_14 : decode cL_ruleAt 14 = .ok (.ireturn, 1) := by decide +kernel
theorem dL_adults_0 : decode cL_adults 0 = .ok (.aload_n 0, 1) := by decide +kernel
theorem dL_adults_1 : decode cL_adults 1 = .ok (.iload_n 1, 1) := by decide +kernel
theorem dL_adults_2 : decode cL_adults 2 = .ok (.iload_n 2, 1) := by decide +kernel
theorem dL_adults_3 : decode cL_adults 3 = .ok (.invokevirtual 81, 3) := by decide +kernel
theorem dL_adults_6 : decode cL_adults 6 = .ok (.ireturn, 1) := by decide +kernel
theorem dL_adults_7 : decode cL_adults 7 = .ok (.astore_n 3, 1) := by decide +kernel
theorem dL_adults_8 : decode cL_adults 8 = .ok (.bipush (-77), 2) := by decide +kernel
theorem dL_adults_10 : decode cL_adults 10 = .ok (.ireturn, 1) := by decide +kernel
theorem dL_adults_11 : decode cL_adults 11 = .ok (.astore_n 3, 1) := by decide +kernel
theorem dL_adults_12 : decode cL_adults 12 = .ok (.bipush (-78), 2) := by decide +kernel
theorem dL_adults_14 : decode cL_adults 14 = .ok (.ireturn, 1) := by decide +kernel
theorem dL_children_0 : decode cL_children 0 = .ok (.aload_n 0, 1) := by decide +kernel
theorem dL_children_1 : decode cL_children 1 = .ok (.iload_n 1, 1) := by decide +kernel
theorem dL_children_2 : decode cL_children 2 = .ok (.iload_n 2, 1) := by decide +kernel
theorem dL_children_3 : decode cL_children 3 = .ok (.invokevirtual 84, 3) := by decide +kernel
theorem dL_children_6 : decode cL_children 6 = .ok (.ireturn, 1) := by decide +kernel
theorem dL_children_7 : decode cL_children 7 = .ok (.astore_n 3, 1) := by decide +kernel
theorem dL_children_8 : decode cL_children 8 = .ok (.bipush (-77), 2) := by decide +kernel
theorem dL_children_10 : decode cL_children 10 = .ok (.ireturn, 1) := by decide +kernel
theorem dL_children_11 : decode cL_children 11 = .ok (.astore_n 3, 1) := by decide +kernel
theorem dL_children_12 : decode cL_children 12 = .ok (.bipush (-78), 2) := by decide +kernel
theorem dL_children_14 : decode cL_children 14 = .ok (.ireturn, 1) := by decide +kernel
theorem dL_adultAmount_0 : decode cL_adultAmount 0 = .ok (.aload_n 0, 1) := by decide +kernel
theorem dL_adultAmount_1 : decode cL_adultAmount 1 = .ok (.iload_n 1, 1) := by decide +kernel
theorem dL_adultAmount_2 : decode cL_adultAmount 2 = .ok (.iload_n 2, 1) := by decide +kernel
theorem dL_adultAmount_3 : decode cL_adultAmount 3 = .ok (.invokevirtual 87, 3) := by decide +kernel
theorem dL_adultAmount_6 : decode cL_adultAmount 6 = .ok (.ireturn, 1) := by decide +kernel
theorem dL_adultAmount_7 : decode cL_adultAmount 7 = .ok (.astore_n 3, 1) := by decide +kernel
theorem dL_adultAmount_8 : decode cL_adultAmount 8 = .ok (.bipush (-77), 2) := by decide +kernel
theorem dL_adultAmount_10 : decode cL_adultAmount 10 = .ok (.ireturn, 1) := by decide +kernel
theorem dL_adultAmount_11 : decode cL_adultAmount 11 = .ok (.astore_n 3, 1) := by decide +kernel
theorem dL_adultAmount_12 : decode cL_adultAmount 12 = .ok (.bipush (-78), 2) := by decide +kernel
theorem dL_adultAmount_14 : decode cL_adultAmount 14 = .ok (.ireturn, 1) := by decide +kernel
theorem dL_childAmount_0 : decode cL_childAmount 0 = .ok (.aload_n 0, 1) := by decide +kernel
theorem dL_childAmount_1 : decode cL_childAmount 1 = .ok (.iload_n 1, 1) := by decide +kernel
theorem dL_childAmount_2 : decode cL_childAmount 2 = .ok (.iload_n 2, 1) := by decide +kernel
theorem dL_childAmount_3 : decode cL_childAmount 3 = .ok (.invokevirtual 90, 3) := by decide +kernel
theorem dL_childAmount_6 : decode cL_childAmount 6 = .ok (.ireturn, 1) := by decide +kernel
theorem dL_childAmount_7 : decode cL_childAmount 7 = .ok (.astore_n 3, 1) := by decide +kernel
theorem dL_childAmount_8 : decode cL_childAmount 8 = .ok (.bipush (-77), 2) := by decide +kernel
theorem dL_childAmount_10 : decode cL_childAmount 10 = .ok (.ireturn, 1) := by decide +kernel
theorem dL_childAmount_11 : decode cL_childAmount 11 = .ok (.astore_n 3, 1) := by decide +kernel
theorem dL_childAmount_12 : decode cL_childAmount 12 = .ok (.bipush (-78), 2) := by decide +kernel
theorem dL_childAmount_14 : decode cL_childAmount 14 = .ok (.ireturn, 1) := by decide +kernel
theorem dL_housingAmount_0 : decode cL_housingAmount 0 = .ok (.aload_n 0, 1) := by decide +kernel
theorem dL_housingAmount_1 : decode cL_housingAmount 1 = .ok (.iload_n 1, 1) := by decide +kernel
theorem dL_housingAmount_2 : decode cL_housingAmount 2 = .ok (.iload_n 2, 1) := by decide +kernel
theorem dL_housingAmount_3 : decode cL_housingAmount 3 = .ok (.invokevirtual 93, 3) := by decide +kernel
theorem dL_housingAmount_6 : decode cL_housingAmount 6 = .ok (.ireturn, 1) := by decide +kernel
theorem dL_housingAmount_7 : decode cL_housingAmount 7 = .ok (.astore_n 3, 1) := by decide +kernel
theorem dL_housingAmount_8 : decode cL_housingAmount 8 = .ok (.bipush (-77), 2) := by decide +kernel
theorem dL_housingAmount_10 : decode cL_housingAmount 10 = .ok (.ireturn, 1) := by decide +kernel
theorem dL_housingAmount_11 : decode cL_housingAmount 11 = .ok (.astore_n 3, 1) := by decide +kernel
theorem dL_housingAmount_12 : decode cL_housingAmount 12 = .ok (.bipush (-78), 2) := by decide +kernel
theorem dL_housingAmount_14 : decode cL_housingAmount 14 = .ok (.ireturn, 1) := by decide +kernel
theorem dL_reason_0 : decode cL_reason 0 = .ok (.aload_n 0, 1) := by decide +kernel
theorem dL_reason_1 : decode cL_reason 1 = .ok (.iload_n 1, 1) := by decide +kernel
theorem dL_reason_2 : decode cL_reason 2 = .ok (.iload_n 2, 1) := by decide +kernel
theorem dL_reason_3 : decode cL_reason 3 = .ok (.invokevirtual 96, 3) := by decide +kernel
theorem dL_reason_6 : decode cL_reason 6 = .ok (.ireturn, 1) := by decide +kernel
theorem dL_reason_7 : decode cL_reason 7 = .ok (.astore_n 3, 1) := by decide +kernel
theorem dL_reason_8 : decode cL_reason 8 = .ok (.bipush (-77), 2) := by decide +kernel
theorem dL_reason_10 : decode cL_reason 10 = .ok (.ireturn, 1) := by decide +kernel
theorem dL_reason_11 : decode cL_reason 11 = .ok (.astore_n 3, 1) := by decide +kernel
theorem dL_reason_12 : decode cL_reason 12 = .ok (.bipush (-78), 2) := by decide +kernel
theorem dL_reason_14 : decode cL_reason 14 = .ok (.ireturn, 1) := by decide +kernel
theorem dL_nextChange_0 : decode cL_nextChange 0 = .ok (.aload_n 0, 1) := by decide +kernel
theorem dL_nextChange_1 : decode cL_nextChange 1 = .ok (.iload_n 1, 1) := by decide +kernel
theorem dL_nextChange_2 : decode cL_nextChange 2 = .ok (.iload_n 2, 1) := by decide +kernel
theorem dL_nextChange_3 : decode cL_nextChange 3 = .ok (.invokevirtual 100, 3) := by decide +kernel
theorem dL_nextChange_6 : decode cL_nextChange 6 = .ok (.ireturn, 1) := by decide +kernel
theorem dL_nextChange_7 : decode cL_nextChange 7 = .ok (.astore_n 3, 1) := by decide +kernel
theorem dL_nextChange_8 : decode cL_nextChange 8 = .ok (.bipush (-77), 2) := by decide +kernel
theorem dL_nextChange_10 : decode cL_nextChange 10 = .ok (.ireturn, 1) := by decide +kernel
theorem dL_nextChange_11 : decode cL_nextChange 11 = .ok (.astore_n 3, 1) := by decide +kernel
theorem dL_nextChange_12 : decode cL_nextChange 12 = .ok (.bipush (-78), 2) := by decide +kernel
theorem dL_nextChange_14 : decode cL_nextChange 14 = .ok (.ireturn, 1) := by decide +kernel
theorem dL_nextChange_15 : decode cL_nextChange 15 = .ok (.astore_n 3, 1) := by decide +kernel
theorem dL_nextChange_16 : decode cL_nextChange 16 = .ok (.bipush (-75), 2) := by decide +kernel
theorem dL_nextChange_18 : decode cL_nextChange 18 = .ok (.ireturn, 1) := by decide +kernel
theorem dL_entitlement_0 : decode cL_entitlement 0 = .ok (.aload_n 0, 1) := by decide +kernel
theorem dL_entitlement_1 : decode cL_entitlement 1 = .ok (.iload_n 1, 1) := by decide +kernel
theorem dL_entitlement_2 : decode cL_entitlement 2 = .ok (.iload_n 2, 1) := by decide +kernel
theorem dL_entitlement_3 : decode cL_entitlement 3 = .ok (.invokevirtual 103, 3) := by decide +kernel
theorem dL_entitlement_6 : decode cL_entitlement 6 = .ok (.ireturn, 1) := by decide +kernel
theorem dL_entitlement_7 : decode cL_entitlement 7 = .ok (.astore_n 3, 1) := by decide +kernel
theorem dL_entitlement_8 : decode cL_entitlement 8 = .ok (.bipush (-77), 2) := by decide +kernel
theorem dL_entitlement_10 : decode cL_entitlement 10 = .ok (.ireturn, 1) := by decide +kernel
theorem dL_entitlementByDays_0 : decode cL_entitlementByDays 0 = .ok (.aload_n 0, 1) := by decide +kernel
theorem dL_entitlementByDays_1 : decode cL_entitlementByDays 1 = .ok (.iload_n 1, 1) := by decide +kernel
theorem dL_entitlementByDays_2 : decode cL_entitlementByDays 2 = .ok (.iload_n 2, 1) := by decide +kernel
theorem dL_entitlementByDays_3 : decode cL_entitlementByDays 3 = .ok (.invokevirtual 106, 3) := by decide +kernel
theorem dL_entitlementByDays_6 : decode cL_entitlementByDays 6 = .ok (.ireturn, 1) := by decide +kernel
theorem dL_entitlementByDays_7 : decode cL_entitlementByDays 7 = .ok (.astore_n 3, 1) := by decide +kernel
theorem dL_entitlementByDays_8 : decode cL_entitlementByDays 8 = .ok (.bipush (-77), 2) := by decide +kernel
theorem dL_entitlementByDays_10 : decode cL_entitlementByDays 10 = .ok (.ireturn, 1) := by decide +kernel
theorem dL_keptShare_0 : decode cL_keptShare 0 = .ok (.aload_n 0, 1) := by decide +kernel
theorem dL_keptShare_1 : decode cL_keptShare 1 = .ok (.invokevirtual 109, 3) := by decide +kernel
theorem dL_keptShare_4 : decode cL_keptShare 4 = .ok (.freturn, 1) := by decide +kernel
theorem dL_keptShare_5 : decode cL_keptShare 5 = .ok (.astore_n 1, 1) := by decide +kernel
theorem dL_keptShare_6 : decode cL_keptShare 6 = .ok (.ldc 115, 2) := by decide +kernel
theorem dL_keptShare_8 : decode cL_keptShare 8 = .ok (.freturn, 1) := by decide +kernel
theorem dL_meanPayment_0 : decode cL_meanPayment 0 = .ok (.aload_n 0, 1) := by decide +kernel
theorem dL_meanPayment_1 : decode cL_meanPayment 1 = .ok (.invokevirtual 116, 3) := by decide +kernel
theorem dL_meanPayment_4 : decode cL_meanPayment 4 = .ok (.dreturn, 1) := by decide +kernel
theorem dL_meanPayment_5 : decode cL_meanPayment 5 = .ok (.astore_n 1, 1) := by decide +kernel
theorem dL_meanPayment_6 : decode cL_meanPayment 6 = .ok (.ldc2_w 120, 3) := by decide +kernel
theorem dL_meanPayment_9 : decode cL_meanPayment 9 = .ok (.dreturn, 1) := by decide +kernel
theorem dL_sum_0 : decode cL_sum 0 = .ok (.aload_n 0, 1) := by decide +kernel
theorem dL_sum_1 : decode cL_sum 1 = .ok (.invokevirtual 140, 3) := by decide +kernel
theorem dL_sum_4 : decode cL_sum 4 = .ok (.i2l, 1) := by decide +kernel
theorem dL_sum_5 : decode cL_sum 5 = .ok (.ldc2_w 186, 3) := by decide +kernel
theorem dL_sum_8 : decode cL_sum 8 = .ok (.aload_n 0, 1) := by decide +kernel
theorem dL_sum_9 : decode cL_sum 9 = .ok (.invokevirtual 188, 3) := by decide +kernel
theorem dL_sum_12 : decode cL_sum 12 = .ok (.lmul, 1) := by decide +kernel
theorem dL_sum_13 : decode cL_sum 13 = .ok (.ladd, 1) := by decide +kernel
theorem dL_sum_14 : decode cL_sum 14 = .ok (.ldc2_w 191, 3) := by decide +kernel
theorem dL_sum_17 : decode cL_sum 17 = .ok (.aload_n 0, 1) := by decide +kernel
theorem dL_sum_18 : decode cL_sum 18 = .ok (.invokevirtual 165, 3) := by decide +kernel
theorem dL_sum_21 : decode cL_sum 21 = .ok (.lmul, 1) := by decide +kernel
theorem dL_sum_22 : decode cL_sum 22 = .ok (.ladd, 1) := by decide +kernel
theorem dL_sum_23 : decode cL_sum 23 = .ok (.lstore_n 2, 1) := by decide +kernel
theorem dL_sum_24 : decode cL_sum 24 = .ok (.iconst 0, 1) := by decide +kernel
theorem dL_sum_25 : decode cL_sum 25 = .ok (.istore 4, 2) := by decide +kernel
theorem dL_sum_27 : decode cL_sum 27 = .ok (.iload 4, 2) := by decide +kernel
theorem dL_sum_29 : decode cL_sum 29 = .ok (.iload_n 1, 1) := by decide +kernel
theorem dL_sum_30 : decode cL_sum 30 = .ok (.if_icmp .ge 42, 3) := by decide +kernel
theorem dL_sum_33 : decode cL_sum 33 = .ok (.ldc2_w 186, 3) := by decide +kernel
theorem dL_sum_36 : decode cL_sum 36 = .ok (.lload_n 2, 1) := by decide +kernel
theorem dL_sum_37 : decode cL_sum 37 = .ok (.lmul, 1) := by decide +kernel
theorem dL_sum_38 : decode cL_sum 38 = .ok (.aload_n 0, 1) := by decide +kernel
theorem dL_sum_39 : decode cL_sum 39 = .ok (.iload 4, 2) := by decide +kernel
theorem dL_sum_41 : decode cL_sum 41 = .ok (.invokestatic 193, 3) := by decide +kernel
theorem dL_sum_44 : decode cL_sum 44 = .ok (.i2l, 1) := by decide +kernel
theorem dL_sum_45 : decode cL_sum 45 = .ok (.ladd, 1) := by decide +kernel
theorem dL_sum_46 : decode cL_sum 46 = .ok (.ldc2_w 195, 3) := by decide +kernel
theorem dL_sum_49 : decode cL_sum 49 = .ok (.aload_n 0, 1) := by decide +kernel
theorem dL_sum_50 : decode cL_sum 50 = .ok (.iload 4, 2) := by decide +kernel
theorem dL_sum_52 : decode cL_sum 52 = .ok (.aload_n 0, 1) := by decide +kernel
theorem dL_sum_53 : decode cL_sum 53 = .ok (.invokevirtual 162, 3) := by decide +kernel
theorem dL_sum_56 : decode cL_sum 56 = .ok (.bipush 12, 2) := by decide +kernel
theorem dL_sum_58 : decode cL_sum 58 = .ok (.irem, 1) := by decide +kernel
theorem dL_sum_59 : decode cL_sum 59 = .ok (.invokestatic 197, 3) := by decide +kernel
theorem dL_sum_62 : decode cL_sum 62 = .ok (.i2l, 1) := by decide +kernel
theorem dL_sum_63 : decode cL_sum 63 = .ok (.lmul, 1) := by decide +kernel
theorem dL_sum_64 : decode cL_sum 64 = .ok (.ladd, 1) := by decide +kernel
theorem dL_sum_65 : decode cL_sum 65 = .ok (.lstore_n 2, 1) := by decide +kernel
theorem dL_sum_66 : decode cL_sum 66 = .ok (.iinc 4 1, 3) := by decide +kernel
theorem dL_sum_69 : decode cL_sum 69 = .ok (.goto (-42), 3) := by decide +kernel
theorem dL_sum_72 : decode cL_sum 72 = .ok (.lload_n 2, 1) := by decide +kernel
theorem dL_sum_73 : decode cL_sum 73 = .ok (.lreturn, 1) := by decide +kernel
theorem dL_pays_0 : decode cL_pays 0 = .ok (.iconst 0, 1) := by decide +kernel
theorem dL_pays_1 : decode cL_pays 1 = .ok (.istore_n 2, 1) := by decide +kernel
theorem dL_pays_2 : decode cL_pays 2 = .ok (.iconst 0, 1) := by decide +kernel
theorem dL_pays_3 : decode cL_pays 3 = .ok (.istore_n 3, 1) := by decide +kernel
theorem dL_pays_4 : decode cL_pays 4 = .ok (.iload_n 3, 1) := by decide +kernel
theorem dL_pays_5 : decode cL_pays 5 = .ok (.iload_n 1, 1) := by decide +kernel
theorem dL_pays_6 : decode cL_pays 6 = .ok (.if_icmp .ge 27, 3) := by decide +kernel
theorem dL_pays_9 : decode cL_pays 9 = .ok (.iload_n 2, 1) := by decide +kernel
theorem dL_pays_10 : decode cL_pays 10 = .ok (.aload_n 0, 1) := by decide +kernel
theorem dL_pays_11 : decode cL_pays 11 = .ok (.iload_n 3, 1) := by decide +kernel
theorem dL_pays_12 : decode cL_pays 12 = .ok (.invokestatic 193, 3) := by decide +kernel
theorem dL_pays_15 : decode cL_pays 15 = .ok (.ifCond .lt 9, 3) := by decide +kernel
theorem dL_pays_18 : decode cL_pays 18 = .ok (.iconst 1, 1) := by decide +kernel
theorem dL_pays_19 : decode cL_pays 19 = .ok (.iload_n 3, 1) := by decide +kernel
theorem dL_pays_20 : decode cL_pays 20 = .ok (.ishl, 1) := by decide +kernel
theorem dL_pays_21 : decode cL_pays 21 = .ok (.goto 4, 3) := by decide +kernel
theorem dL_pays_24 : decode cL_pays 24 = .ok (.iconst 0, 1) := by decide +kernel
theorem dL_pays_25 : decode cL_pays 25 = .ok (.iadd, 1) := by decide +kernel
theorem dL_pays_26 : decode cL_pays 26 = .ok (.istore_n 2, 1) := by decide +kernel
theorem dL_pays_27 : decode cL_pays 27 = .ok (.iinc 3 1, 3) := by decide +kernel
theorem dL_pays_30 : decode cL_pays 30 = .ok (.goto (-26), 3) := by decide +kernel
theorem dL_pays_33 : decode cL_pays 33 = .ok (.iload_n 2, 1) := by decide +kernel
theorem dL_pays_34 : decode cL_pays 34 = .ok (.ireturn, 1) := by decide +kernel
theorem dL_areHanded_0 : decode cL_areHanded 0 = .ok (.iconst 0, 1) := by decide +kernel
theorem dL_areHanded_1 : decode cL_areHanded 1 = .ok (.istore 7, 2) := by decide +kernel
theorem dL_areHanded_3 : decode cL_areHanded 3 = .ok (.iconst 0, 1) := by decide +kernel
theorem dL_areHanded_4 : decode cL_areHanded 4 = .ok (.istore 8, 2) := by decide +kernel
theorem dL_areHanded_6 : decode cL_areHanded 6 = .ok (.aload_n 0, 1) := by decide +kernel
theorem dL_areHanded_7 : decode cL_areHanded 7 = .ok (.invokevirtual 162, 3) := by decide +kernel
theorem dL_areHanded_10 : decode cL_areHanded 10 = .ok (.iload_n 2, 1) := by decide +kernel
theorem dL_areHanded_11 : decode cL_areHanded 11 = .ok (.iconst 1, 1) := by decide +kernel
theorem dL_areHanded_12 : decode cL_areHanded 12 = .ok (.iadd, 1) := by decide +kernel
theorem dL_areHanded_13 : decode cL_areHanded 13 = .ok (.if_icmp .ne 7, 3) := by decide +kernel
theorem dL_areHanded_16 : decode cL_areHanded 16 = .ok (.iconst 1, 1) := by decide +kernel
theorem dL_areHanded_17 : decode cL_areHanded 17 = .ok (.goto 4, 3) := by decide +kernel
theorem dL_areHanded_20 : decode cL_areHanded 20 = .ok (.iconst 0, 1) := by decide +kernel
theorem dL_areHanded_21 : decode cL_areHanded 21 = .ok (.istore 9, 2) := by decide +kernel
theorem dL_areHanded_23 : decode cL_areHanded 23 = .ok (.iconst 0, 1) := by decide +kernel
theorem dL_areHanded_24 : decode cL_areHanded 24 = .ok (.istore 10, 2) := by decide +kernel
theorem dL_areHanded_26 : decode cL_areHanded 26 = .ok (.iload 10, 2) := by decide +kernel
theorem dL_areHanded_28 : decode cL_areHanded 28 = .ok (.iload_n 1, 1) := by decide +kernel
theorem dL_areHanded_29 : decode cL_areHanded 29 = .ok (.if_icmp .ge 122, 3) := by decide +kernel
theorem dL_areHanded_32 : decode cL_areHanded 32 = .ok (.aload_n 0, 1) := by decide +kernel
theorem dL_areHanded_33 : decode cL_areHanded 33 = .ok (.iload 10, 2) := by decide +kernel
theorem dL_areHanded_35 : decode cL_areHanded 35 = .ok (.iload_n 2, 1) := by decide +kernel
theorem dL_areHanded_36 : decode cL_areHanded 36 = .ok (.invokestatic 199, 3) := by decide +kernel
theorem dL_areHanded_39 : decode cL_areHanded 39 = .ok (.istore 11, 2) := by decide +kernel
theorem dL_areHanded_41 : decode cL_areHanded 41 = .ok (.iload 6, 2) := by decide +kernel
theorem dL_areHanded_43 : decode cL_areHanded 43 = .ok (.iload 10, 2) := by decide +kernel
theorem dL_areHanded_45 : decode cL_areHanded 45 = .ok (.ishr, 1) := by decide +kernel
theorem dL_areHanded_46 : decode cL_areHanded 46 = .ok (.iconst 1, 1) := by decide +kernel
theorem dL_areHanded_47 : decode cL_areHanded 47 = .ok (.iand, 1) := by decide +kernel
theorem dL_areHanded_48 : decode cL_areHanded 48 = .ok (.iconst 1, 1) := by decide +kernel
theorem dL_areHanded_49 : decode cL_areHanded 49 = .ok (.if_icmp .ne 7, 3) := by decide +kernel
theorem dL_areHanded_52 : decode cL_areHanded 52 = .ok (.iconst 1, 1) := by decide +kernel
theorem dL_areHanded_53 : decode cL_areHanded 53 = .ok (.goto 4, 3) := by decide +kernel
theorem dL_areHanded_56 : decode cL_areHanded 56 = .ok (.iconst 0, 1) := by decide +kernel
theorem dL_areHanded_57 : decode cL_areHanded 57 = .ok (.istore 12, 2) := by decide +kernel
theorem dL_areHanded_59 : decode cL_areHanded 59 = .ok (.iload 7, 2) := by decide +kernel
theorem dL_areHanded_61 : decode cL_areHanded 61 = .ok (.iload 11, 2) := by decide +kernel
theorem dL_areHanded_63 : decode cL_areHanded 63 = .ok (.iadd, 1) := by decide +kernel
theorem dL_areHanded_64 : decode cL_areHanded 64 = .ok (.istore 7, 2) := by decide +kernel
theorem dL_areHanded_66 : decode cL_areHanded 66 = .ok (.iload 8, 2) := by decide +kernel
theorem dL_areHanded_68 : decode cL_areHanded 68 = .ok (.iload 12, 2) := by decide +kernel
theorem dL_areHanded_70 : decode cL_areHanded 70 = .ok (.ifCond .eq 7, 3) := by decide +kernel
theorem dL_areHanded_73 : decode cL_areHanded 73 = .ok (.iconst 0, 1) := by decide +kernel
theorem dL_areHanded_74 : decode cL_areHanded 74 = .ok (.goto 12, 3) := by decide +kernel
theorem dL_areHanded_77 : decode cL_areHanded 77 = .ok (.aload_n 0, 1) := by decide +kernel
theorem dL_areHanded_78 : decode cL_areHanded 78 = .ok (.iload 10, 2) := by decide +kernel
theorem dL_areHanded_80 : decode cL_areHanded 80 = .ok (.iload_n 2, 1) := by decide +kernel
theorem dL_areHanded_81 : decode cL_areHanded 81 = .ok (.invokestatic 197, 3) := by decide +kernel
theorem dL_areHanded_84 : decode cL_areHanded 84 = .ok (.iconst 5, 1) := by decide +kernel
theorem dL_areHanded_85 : decode cL_areHanded 85 = .ok (.idiv, 1) := by decide +kernel
theorem dL_areHanded_86 : decode cL_areHanded 86 = .ok (.iadd, 1) := by decide +kernel
theorem dL_areHanded_87 : decode cL_areHanded 87 = .ok (.istore 8, 2) := by decide +kernel
theorem dL_areHanded_89 : decode cL_areHanded 89 = .ok (.iload 9, 2) := by decide +kernel
theorem dL_areHanded_91 : decode cL_areHanded 91 = .ok (.iload 11, 2) := by decide +kernel
theorem dL_areHanded_93 : decode cL_areHanded 93 = .ok (.ifCond .lt 48, 3) := by decide +kernel
theorem dL_areHanded_96 : decode cL_areHanded 96 = .ok (.aload_n 0, 1) := by decide +kernel
theorem dL_areHanded_97 : decode cL_areHanded 97 = .ok (.iload 10, 2) := by decide +kernel
theorem dL_areHanded_99 : decode cL_areHanded 99 = .ok (.iload_n 2, 1) := by decide +kernel
theorem dL_areHanded_100 : decode cL_areHanded 100 = .ok (.invokestatic 201, 3) := by decide +kernel
theorem dL_areHanded_103 : decode cL_areHanded 103 = .ok (.aload_n 0, 1) := by decide +kernel
theorem dL_areHanded_104 : decode cL_areHanded 104 = .ok (.iload 10, 2) := by decide +kernel
theorem dL_areHanded_106 : decode cL_areHanded 106 = .ok (.iload_n 2, 1) := by decide +kernel
theorem dL_areHanded_107 : decode cL_areHanded 107 = .ok (.invokestatic 197, 3) := by decide +kernel
theorem dL_areHanded_110 : decode cL_areHanded 110 = .ok (.if_icmp .ne 31, 3) := by decide +kernel
theorem dL_areHanded_113 : decode cL_areHanded 113 = .ok (.iload 12, 2) := by decide +kernel
theorem dL_areHanded_115 : decode cL_areHanded 115 = .ok (.ifCond .eq 22, 3) := by decide +kernel
theorem dL_areHanded_118 : decode cL_areHanded 118 = .ok (.aload_n 0, 1) := by decide +kernel
theorem dL_areHanded_119 : decode cL_areHanded 119 = .ok (.iload 10, 2) := by decide +kernel
theorem dL_areHanded_121 : decode cL_areHanded 121 = .ok (.invokestatic 203, 3) := by decide +kernel
theorem dL_areHanded_124 : decode cL_areHanded 124 = .ok (.iconst 1, 1) := by decide +kernel
theorem dL_areHanded_125 : decode cL_areHanded 125 = .ok (.if_icmp .ne 16, 3) := by decide +kernel
theorem dL_areHanded_128 : decode cL_areHanded 128 = .ok (.aload_n 0, 1) := by decide +kernel
theorem dL_areHanded_129 : decode cL_areHanded 129 = .ok (.iload 10, 2) := by decide +kernel
theorem dL_areHanded_131 : decode cL_areHanded 131 = .ok (.invokestatic 193, 3) := by decide +kernel
theorem dL_areHanded_134 : decode cL_areHanded 134 = .ok (.ifCond .ne 7, 3) := by decide +kernel
theorem dL_areHanded_137 : decode cL_areHanded 137 = .ok (.iconst 1, 1) := by decide +kernel
theorem dL_areHanded_138 : decode cL_areHanded 138 = .ok (.goto 4, 3) := by decide +kernel
theorem dL_areHanded_141 : decode cL_areHanded 141 = .ok (.iconst 0, 1) := by decide +kernel
theorem dL_areHanded_142 : decode cL_areHanded 142 = .ok (.iand, 1) := by decide +kernel
theorem dL_areHanded_143 : decode cL_areHanded 143 = .ok (.istore 9, 2) := by decide +kernel
theorem dL_areHanded_145 : decode cL_areHanded 145 = .ok (.iinc 10 1, 3) := by decide +kernel
theorem dL_areHanded_148 : decode cL_areHanded 148 = .ok (.goto (-122), 3) := by decide +kernel
theorem dL_areHanded_151 : decode cL_areHanded 151 = .ok (.iload 9, 2) := by decide +kernel
theorem dL_areHanded_153 : decode cL_areHanded 153 = .ok (.ifCond .eq 29, 3) := by decide +kernel
theorem dL_areHanded_156 : decode cL_areHanded 156 = .ok (.iload 7, 2) := by decide +kernel
theorem dL_areHanded_158 : decode cL_areHanded 158 = .ok (.iload_n 3, 1) := by decide +kernel
theorem dL_areHanded_159 : decode cL_areHanded 159 = .ok (.if_icmp .ne 23, 3) := by decide +kernel
theorem dL_areHanded_162 : decode cL_areHanded 162 = .ok (.lload 4, 2) := by decide +kernel
theorem dL_areHanded_164 : decode cL_areHanded 164 = .ok (.lconst 0, 1) := by decide +kernel
theorem dL_areHanded_165 : decode cL_areHanded 165 = .ok (.lcmp, 1) := by decide +kernel
theorem dL_areHanded_166 : decode cL_areHanded 166 = .ok (.ifCond .lt 16, 3) := by decide +kernel
theorem dL_areHanded_169 : decode cL_areHanded 169 = .ok (.lload 4, 2) := by decide +kernel
theorem dL_areHanded_171 : decode cL_areHanded 171 = .ok (.iload 8, 2) := by decide +kernel
theorem dL_areHanded_173 : decode cL_areHanded 173 = .ok (.i2l, 1) := by decide +kernel
theorem dL_areHanded_174 : decode cL_areHanded 174 = .ok (.lcmp, 1) := by decide +kernel
theorem dL_areHanded_175 : decode cL_areHanded 175 = .ok (.ifCond .gt 7, 3) := by decide +kernel
theorem dL_areHanded_178 : decode cL_areHanded 178 = .ok (.iconst 1, 1) := by decide +kernel
theorem dL_areHanded_179 : decode cL_areHanded 179 = .ok (.goto 4, 3) := by decide +kernel
theorem dL_areHanded_182 : decode cL_areHanded 182 = .ok (.iconst 0, 1) := by decide +kernel
theorem dL_areHanded_183 : decode cL_areHanded 183 = .ok (.ireturn, 1) := by decide +kernel
theorem dL_isDay_0 : decode cL_isDay 0 = .ok (.aload_n 0, 1) := by decide +kernel
theorem dL_isDay_1 : decode cL_isDay 1 = .ok (.iload_n 1, 1) := by decide +kernel
theorem dL_isDay_2 : decode cL_isDay 2 = .ok (.iload_n 2, 1) := by decide +kernel
theorem dL_isDay_3 : decode cL_isDay 3 = .ok (.invokestatic 205, 3) := by decide +kernel
theorem dL_isDay_6 : decode cL_isDay 6 = .ok (.istore_n 3, 1) := by decide +kernel
theorem dL_isDay_7 : decode cL_isDay 7 = .ok (.aload_n 0, 1) := by decide +kernel
theorem dL_isDay_8 : decode cL_isDay 8 = .ok (.iload_n 1, 1) := by decide +kernel
theorem dL_isDay_9 : decode cL_isDay 9 = .ok (.iload_n 2, 1) := by decide +kernel
theorem dL_isDay_10 : decode cL_isDay 10 = .ok (.invokestatic 207, 3) := by decide +kernel
theorem dL_isDay_13 : decode cL_isDay 13 = .ok (.istore 4, 2) := by decide +kernel
theorem dL_isDay_15 : decode cL_isDay 15 = .ok (.aload_n 0, 1) := by decide +kernel
theorem dL_isDay_16 : decode cL_isDay 16 = .ok (.iload_n 1, 1) := by decide +kernel
theorem dL_isDay_17 : decode cL_isDay 17 = .ok (.iload_n 2, 1) := by decide +kernel
theorem dL_isDay_18 : decode cL_isDay 18 = .ok (.invokestatic 209, 3) := by decide +kernel
theorem dL_isDay_21 : decode cL_isDay 21 = .ok (.istore 5, 2) := by decide +kernel
theorem dL_isDay_23 : decode cL_isDay 23 = .ok (.iload_n 3, 1) := by decide +kernel
theorem dL_isDay_24 : decode cL_isDay 24 = .ok (.iload 4, 2) := by decide +kernel
theorem dL_isDay_26 : decode cL_isDay 26 = .ok (.iadd, 1) := by decide +kernel
theorem dL_isDay_27 : decode cL_isDay 27 = .ok (.iload 5, 2) := by decide +kernel
theorem dL_isDay_29 : decode cL_isDay 29 = .ok (.iadd, 1) := by decide +kernel
theorem dL_isDay_30 : decode cL_isDay 30 = .ok (.istore 6, 2) := by decide +kernel
theorem dL_isDay_32 : decode cL_isDay 32 = .ok (.aload_n 0, 1) := by decide +kernel
theorem dL_isDay_33 : decode cL_isDay 33 = .ok (.iload_n 1, 1) := by decide +kernel
theorem dL_isDay_34 : decode cL_isDay 34 = .ok (.iload_n 2, 1) := by decide +kernel
theorem dL_isDay_35 : decode cL_isDay 35 = .ok (.invokestatic 211, 3) := by decide +kernel
theorem dL_isDay_38 : decode cL_isDay 38 = .ok (.istore 7, 2) := by decide +kernel
theorem dL_isDay_40 : decode cL_isDay 40 = .ok (.iload_n 3, 1) := by decide +kernel
theorem dL_isDay_41 : decode cL_isDay 41 = .ok (.ifCond .lt 126, 3) := by decide +kernel
theorem dL_isDay_44 : decode cL_isDay 44 = .ok (.iload 4, 2) := by decide +kernel
theorem dL_isDay_46 : decode cL_isDay 46 = .ok (.ifCond .lt 121, 3) := by decide +kernel
theorem dL_isDay_49 : decode cL_isDay 49 = .ok (.iload 5, 2) := by decide +kernel
theorem dL_isDay_51 : decode cL_isDay 51 = .ok (.ifCond .lt 116, 3) := by decide +kernel
theorem dL_isDay_54 : decode cL_isDay 54 = .ok (.iload 6, 2) := by decide +kernel
theorem dL_isDay_56 : decode cL_isDay 56 = .ok (.aload_n 0, 1) := by decide +kernel
theorem dL_isDay_57 : decode cL_isDay 57 = .ok (.bipush 109, 2) := by decide +kernel
theorem dL_isDay_59 : decode cL_isDay 59 = .ok (.iload_n 2, 1) := by decide +kernel
theorem dL_isDay_60 : decode cL_isDay 60 = .ok (.invokestatic 150, 3) := by decide +kernel
theorem dL_isDay_63 : decode cL_isDay 63 = .ok (.if_icmp .gt 104, 3) := by decide +kernel
theorem dL_isDay_66 : decode cL_isDay 66 = .ok (.iload 5, 2) := by decide +kernel
theorem dL_isDay_68 : decode cL_isDay 68 = .ok (.aload_n 0, 1) := by decide +kernel
theorem dL_isDay_69 : decode cL_isDay 69 = .ok (.bipush 114, 2) := by decide +kernel
theorem dL_isDay_71 : decode cL_isDay 71 = .ok (.iload_n 2, 1) := by decide +kernel
theorem dL_isDay_72 : decode cL_isDay 72 = .ok (.invokestatic 150, 3) := by decide +kernel
theorem dL_isDay_75 : decode cL_isDay 75 = .ok (.if_icmp .gt 92, 3) := by decide +kernel
theorem dL_isDay_78 : decode cL_isDay 78 = .ok (.iload_n 3, 1) := by decide +kernel
theorem dL_isDay_79 : decode cL_isDay 79 = .ok (.aload_n 0, 1) := by decide +kernel
theorem dL_isDay_80 : decode cL_isDay 80 = .ok (.iload_n 1, 1) := by decide +kernel
theorem dL_isDay_81 : decode cL_isDay 81 = .ok (.iload_n 2, 1) := by decide +kernel
theorem dL_isDay_82 : decode cL_isDay 82 = .ok (.invokestatic 213, 3) := by decide +kernel
theorem dL_isDay_85 : decode cL_isDay 85 = .ok (.aload_n 0, 1) := by decide +kernel
theorem dL_isDay_86 : decode cL_isDay 86 = .ok (.bipush 97, 2) := by decide +kernel
theorem dL_isDay_88 : decode cL_isDay 88 = .ok (.iload_n 2, 1) := by decide +kernel
theorem dL_isDay_89 : decode cL_isDay 89 = .ok (.invokestatic 150, 3) := by decide +kernel
theorem dL_isDay_92 : decode cL_isDay 92 = .ok (.imul, 1) := by decide +kernel
theorem dL_isDay_93 : decode cL_isDay 93 = .ok (.if_icmp .gt 74, 3) := by decide +kernel
theorem dL_isDay_96 : decode cL_isDay 96 = .ok (.aload_n 0, 1) := by decide +kernel
theorem dL_isDay_97 : decode cL_isDay 97 = .ok (.iload_n 1, 1) := by decide +kernel
theorem dL_isDay_98 : decode cL_isDay 98 = .ok (.iload_n 2, 1) := by decide +kernel
theorem dL_isDay_99 : decode cL_isDay 99 = .ok (.invokestatic 213, 3) := by decide +kernel
theorem dL_isDay_102 : decode cL_isDay 102 = .ok (.ifCond .le 7, 3) := by decide +kernel
theorem dL_isDay_105 : decode cL_isDay 105 = .ok (.iconst 1, 1) := by decide +kernel
theorem dL_isDay_106 : decode cL_isDay 106 = .ok (.goto 4, 3) := by decide +kernel
theorem dL_isDay_109 : decode cL_isDay 109 = .ok (.iconst 0, 1) := by decide +kernel
theorem dL_isDay_110 : decode cL_isDay 110 = .ok (.iload 7, 2) := by decide +kernel
theorem dL_isDay_112 : decode cL_isDay 112 = .ok (.bipush 110, 2) := by decide +kernel
theorem dL_isDay_114 : decode cL_isDay 114 = .ok (.if_icmp .eq 7, 3) := by decide +kernel
theorem dL_isDay_117 : decode cL_isDay 117 = .ok (.iconst 1, 1) := by decide +kernel
theorem dL_isDay_118 : decode cL_isDay 118 = .ok (.goto 4, 3) := by decide +kernel
theorem dL_isDay_121 : decode cL_isDay 121 = .ok (.iconst 0, 1) := by decide +kernel
theorem dL_isDay_122 : decode cL_isDay 122 = .ok (.if_icmp .ne 45, 3) := by decide +kernel
theorem dL_isDay_125 : decode cL_isDay 125 = .ok (.iload 7, 2) := by decide +kernel
theorem dL_isDay_127 : decode cL_isDay 127 = .ok (.bipush 110, 2) := by decide +kernel
theorem dL_isDay_129 : decode cL_isDay 129 = .ok (.if_icmp .ne 8, 3) := by decide +kernel
theorem dL_isDay_132 : decode cL_isDay 132 = .ok (.iload 6, 2) := by decide +kernel
theorem dL_isDay_134 : decode cL_isDay 134 = .ok (.ifCond .ne 33, 3) := by decide +kernel
theorem dL_isDay_137 : decode cL_isDay 137 = .ok (.iload 7, 2) := by decide +kernel
theorem dL_isDay_139 : decode cL_isDay 139 = .ok (.bipush 109, 2) := by decide +kernel
theorem dL_isDay_141 : decode cL_isDay 141 = .ok (.if_icmp .eq 10, 3) := by decide +kernel
theorem dL_isDay_144 : decode cL_isDay 144 = .ok (.iload 7, 2) := by decide +kernel
theorem dL_isDay_146 : decode cL_isDay 146 = .ok (.bipush 98, 2) := by decide +kernel
theorem dL_isDay_148 : decode cL_isDay 148 = .ok (.if_icmp .ne 15, 3) := by decide +kernel
theorem dL_isDay_151 : decode cL_isDay 151 = .ok (.iload 6, 2) := by decide +kernel
theorem dL_isDay_153 : decode cL_isDay 153 = .ok (.aload_n 0, 1) := by decide +kernel
theorem dL_isDay_154 : decode cL_isDay 154 = .ok (.bipush 109, 2) := by decide +kernel
theorem dL_isDay_156 : decode cL_isDay 156 = .ok (.iload_n 2, 1) := by decide +kernel
theorem dL_isDay_157 : decode cL_isDay 157 = .ok (.invokestatic 150, 3) := by decide +kernel
theorem dL_isDay_160 : decode cL_isDay 160 = .ok (.if_icmp .ne 7, 3) := by decide +kernel
theorem dL_isDay_163 : decode cL_isDay 163 = .ok (.iconst 1, 1) := by decide +kernel
theorem dL_isDay_164 : decode cL_isDay 164 = .ok (.goto 4, 3) := by decide +kernel
theorem dL_isDay_167 : decode cL_isDay 167 = .ok (.iconst 0, 1) := by decide +kernel
theorem dL_isDay_168 : decode cL_isDay 168 = .ok (.istore 8, 2) := by decide +kernel
theorem dL_isDay_170 : decode cL_isDay 170 = .ok (.iconst 0, 1) := by decide +kernel
theorem dL_isDay_171 : decode cL_isDay 171 = .ok (.istore 9, 2) := by decide +kernel
theorem dL_isDay_173 : decode cL_isDay 173 = .ok (.iconst 0, 1) := by decide +kernel
theorem dL_isDay_174 : decode cL_isDay 174 = .ok (.istore 10, 2) := by decide +kernel
theorem dL_isDay_176 : decode cL_isDay 176 = .ok (.iload 10, 2) := by decide +kernel
theorem dL_isDay_178 : decode cL_isDay 178 = .ok (.bipush 8, 2) := by decide +kernel
theorem dL_isDay_180 : decode cL_isDay 180 = .ok (.if_icmp .ge 30, 3) := by decide +kernel
theorem dL_isDay_183 : decode cL_isDay 183 = .ok (.iload 9, 2) := by decide +kernel
theorem dL_isDay_185 : decode cL_isDay 185 = .ok (.aload_n 0, 1) := by decide +kernel
theorem dL_isDay_186 : decode cL_isDay 186 = .ok (.iload 10, 2) := by decide +kernel
theorem dL_isDay_188 : decode cL_isDay 188 = .ok (.iload_n 2, 1) := by decide +kernel
theorem dL_isDay_189 : decode cL_isDay 189 = .ok (.invokestatic 143, 3) := by decide +kernel
theorem dL_isDay_192 : decode cL_isDay 192 = .ok (.iload_n 1, 1) := by decide +kernel
theorem dL_isDay_193 : decode cL_isDay 193 = .ok (.if_icmp .ne 7, 3) := by decide +kernel
theorem dL_isDay_196 : decode cL_isDay 196 = .ok (.iconst 1, 1) := by decide +kernel
theorem dL_isDay_197 : decode cL_isDay 197 = .ok (.goto 4, 3) := by decide +kernel
theorem dL_isDay_200 : decode cL_isDay 200 = .ok (.iconst 0, 1) := by decide +kernel
theorem dL_isDay_201 : decode cL_isDay 201 = .ok (.iadd, 1) := by decide +kernel
theorem dL_isDay_202 : decode cL_isDay 202 = .ok (.istore 9, 2) := by decide +kernel
theorem dL_isDay_204 : decode cL_isDay 204 = .ok (.iinc 10 1, 3) := by decide +kernel
theorem dL_isDay_207 : decode cL_isDay 207 = .ok (.goto (-31), 3) := by decide +kernel
theorem dL_isDay_210 : decode cL_isDay 210 = .ok (.aload_n 0, 1) := by decide +kernel
theorem dL_isDay_211 : decode cL_isDay 211 = .ok (.iload_n 1, 1) := by decide +kernel
theorem dL_isDay_212 : decode cL_isDay 212 = .ok (.iload_n 2, 1) := by decide +kernel
theorem dL_isDay_213 : decode cL_isDay 213 = .ok (.invokestatic 215, 3) := by decide +kernel
theorem dL_isDay_216 : decode cL_isDay 216 = .ok (.istore 10, 2) := by decide +kernel
theorem dL_isDay_218 : decode cL_isDay 218 = .ok (.iload 10, 2) := by decide +kernel
theorem dL_isDay_220 : decode cL_isDay 220 = .ok (.bipush (-75), 2) := by decide +kernel
theorem dL_isDay_222 : decode cL_isDay 222 = .ok (.if_icmp .ne 9, 3) := by decide +kernel
theorem dL_isDay_225 : decode cL_isDay 225 = .ok (.sipush 359, 3) := by decide +kernel
theorem dL_isDay_228 : decode cL_isDay 228 = .ok (.goto 7, 3) := by decide +kernel
theorem dL_isDay_231 : decode cL_isDay 231 = .ok (.iload 10, 2) := by decide +kernel
theorem dL_isDay_233 : decode cL_isDay 233 = .ok (.iconst 1, 1) := by decide +kernel
theorem dL_isDay_234 : decode cL_isDay 234 = .ok (.isub, 1) := by decide +kernel
theorem dL_isDay_235 : decode cL_isDay 235 = .ok (.istore 11, 2) := by decide +kernel
theorem dL_isDay_237 : decode cL_isDay 237 = .ok (.aload_n 0, 1) := by decide +kernel
theorem dL_isDay_238 : decode cL_isDay 238 = .ok (.iload_n 1, 1) := by decide +kernel
theorem dL_isDay_239 : decode cL_isDay 239 = .ok (.iload 11, 2) := by decide +kernel
theorem dL_isDay_241 : decode cL_isDay 241 = .ok (.invokestatic 205, 3) := by decide +kernel
theorem dL_isDay_244 : decode cL_isDay 244 = .ok (.iload_n 3, 1) := by decide +kernel
theorem dL_isDay_245 : decode cL_isDay 245 = .ok (.if_icmp .ne 31, 3) := by decide +kernel
theorem dL_isDay_248 : decode cL_isDay 248 = .ok (.aload_n 0, 1) := by decide +kernel
theorem dL_isDay_249 : decode cL_isDay 249 = .ok (.iload_n 1, 1) := by decide +kernel
theorem dL_isDay_250 : decode cL_isDay 250 = .ok (.iload 11, 2) := by decide +kernel
theorem dL_isDay_252 : decode cL_isDay 252 = .ok (.invokestatic 207, 3) := by decide +kernel
theorem dL_isDay_255 : decode cL_isDay 255 = .ok (.iload 4, 2) := by decide +kernel
theorem dL_isDay_257 : decode cL_isDay 257 = .ok (.if_icmp .ne 19, 3) := by decide +kernel
theorem dL_isDay_260 : decode cL_isDay 260 = .ok (.aload_n 0, 1) := by decide +kernel
theorem dL_isDay_261 : decode cL_isDay 261 = .ok (.iload_n 1, 1) := by decide +kernel
theorem dL_isDay_262 : decode cL_isDay 262 = .ok (.iload 11, 2) := by decide +kernel
theorem dL_isDay_264 : decode cL_isDay 264 = .ok (.invokestatic 209, 3) := by decide +kernel
theorem dL_isDay_267 : decode cL_isDay 267 = .ok (.iload 5, 2) := by decide +kernel
theorem dL_isDay_269 : decode cL_isDay 269 = .ok (.if_icmp .ne 7, 3) := by decide +kernel
theorem dL_isDay_272 : decode cL_isDay 272 = .ok (.iconst 1, 1) := by decide +kernel
theorem dL_isDay_273 : decode cL_isDay 273 = .ok (.goto 4, 3) := by decide +kernel
theorem dL_isDay_276 : decode cL_isDay 276 = .ok (.iconst 0, 1) := by decide +kernel
theorem dL_isDay_277 : decode cL_isDay 277 = .ok (.istore 12, 2) := by decide +kernel
theorem dL_isDay_279 : decode cL_isDay 279 = .ok (.iload 10, 2) := by decide +kernel
theorem dL_isDay_281 : decode cL_isDay 281 = .ok (.bipush (-75), 2) := by decide +kernel
theorem dL_isDay_283 : decode cL_isDay 283 = .ok (.if_icmp .eq 38, 3) := by decide +kernel
theorem dL_isDay_286 : decode cL_isDay 286 = .ok (.aload_n 0, 1) := by decide +kernel
theorem dL_isDay_287 : decode cL_isDay 287 = .ok (.iload_n 1, 1) := by decide +kernel
theorem dL_isDay_288 : decode cL_isDay 288 = .ok (.iload 10, 2) := by decide +kernel
theorem dL_isDay_290 : decode cL_isDay 290 = .ok (.invokestatic 205, 3) := by decide +kernel
theorem dL_isDay_293 : decode cL_isDay 293 = .ok (.iload_n 3, 1) := by decide +kernel
theorem dL_isDay_294 : decode cL_isDay 294 = .ok (.if_icmp .ne 27, 3) := by decide +kernel
theorem dL_isDay_297 : decode cL_isDay 297 = .ok (.aload_n 0, 1) := by decide +kernel
theorem dL_isDay_298 : decode cL_isDay 298 = .ok (.iload_n 1, 1) := by decide +kernel
theorem dL_isDay_299 : decode cL_isDay 299 = .ok (.iload 10, 2) := by decide +kernel
theorem dL_isDay_301 : decode cL_isDay 301 = .ok (.invokestatic 207, 3) := by decide +kernel
theorem dL_isDay_304 : decode cL_isDay 304 = .ok (.iload 4, 2) := by decide +kernel
theorem dL_isDay_306 : decode cL_isDay 306 = .ok (.if_icmp .ne 15, 3) := by decide +kernel
theorem dL_isDay_309 : decode cL_isDay 309 = .ok (.aload_n 0, 1) := by decide +kernel
theorem dL_isDay_310 : decode cL_isDay 310 = .ok (.iload_n 1, 1) := by decide +kernel
theorem dL_isDay_311 : decode cL_isDay 311 = .ok (.iload 10, 2) := by decide +kernel
theorem dL_isDay_313 : decode cL_isDay 313 = .ok (.invokestatic 209, 3) := by decide +kernel
theorem dL_isDay_316 : decode cL_isDay 316 = .ok (.iload 5, 2) := by decide +kernel
theorem dL_isDay_318 : decode cL_isDay 318 = .ok (.if_icmp .eq 7, 3) := by decide +kernel
theorem dL_isDay_321 : decode cL_isDay 321 = .ok (.iconst 1, 1) := by decide +kernel
theorem dL_isDay_322 : decode cL_isDay 322 = .ok (.goto 4, 3) := by decide +kernel
theorem dL_isDay_325 : decode cL_isDay 325 = .ok (.iconst 0, 1) := by decide +kernel
theorem dL_isDay_326 : decode cL_isDay 326 = .ok (.istore 13, 2) := by decide +kernel
theorem dL_isDay_328 : decode cL_isDay 328 = .ok (.iload 8, 2) := by decide +kernel
theorem dL_isDay_330 : decode cL_isDay 330 = .ok (.ifCond .eq 35, 3) := by decide +kernel
theorem dL_isDay_333 : decode cL_isDay 333 = .ok (.iload 9, 2) := by decide +kernel
theorem dL_isDay_335 : decode cL_isDay 335 = .ok (.aload_n 0, 1) := by decide +kernel
theorem dL_isDay_336 : decode cL_isDay 336 = .ok (.iload_n 1, 1) := by decide +kernel
theorem dL_isDay_337 : decode cL_isDay 337 = .ok (.iload_n 2, 1) := by decide +kernel
theorem dL_isDay_338 : decode cL_isDay 338 = .ok (.invokestatic 213, 3) := by decide +kernel
theorem dL_isDay_341 : decode cL_isDay 341 = .ok (.aload_n 0, 1) := by decide +kernel
theorem dL_isDay_342 : decode cL_isDay 342 = .ok (.iload_n 1, 1) := by decide +kernel
theorem dL_isDay_343 : decode cL_isDay 343 = .ok (.iload_n 2, 1) := by decide +kernel
theorem dL_isDay_344 : decode cL_isDay 344 = .ok (.invokestatic 217, 3) := by decide +kernel
theorem dL_isDay_347 : decode cL_isDay 347 = .ok (.iadd, 1) := by decide +kernel
theorem dL_isDay_348 : decode cL_isDay 348 = .ok (.if_icmp .ne 17, 3) := by decide +kernel
theorem dL_isDay_351 : decode cL_isDay 351 = .ok (.iload 12, 2) := by decide +kernel
theorem dL_isDay_353 : decode cL_isDay 353 = .ok (.ifCond .eq 12, 3) := by decide +kernel
theorem dL_isDay_356 : decode cL_isDay 356 = .ok (.iload 13, 2) := by decide +kernel
theorem dL_isDay_358 : decode cL_isDay 358 = .ok (.ifCond .eq 7, 3) := by decide +kernel
theorem dL_isDay_361 : decode cL_isDay 361 = .ok (.iconst 1, 1) := by decide +kernel
theorem dL_isDay_362 : decode cL_isDay 362 = .ok (.goto 4, 3) := by decide +kernel
theorem dL_isDay_365 : decode cL_isDay 365 = .ok (.iconst 0, 1) := by decide +kernel
theorem dL_isDay_366 : decode cL_isDay 366 = .ok (.ireturn, 1) := by decide +kernel
theorem dL_areMonths_0 : decode cL_areMonths 0 = .ok (.lconst 0, 1) := by decide +kernel
theorem dL_areMonths_1 : decode cL_areMonths 1 = .ok (.lstore_n 2, 1) := by decide +kernel
theorem dL_areMonths_2 : decode cL_areMonths 2 = .ok (.iconst 0, 1) := by decide +kernel
theorem dL_areMonths_3 : decode cL_areMonths 3 = .ok (.istore 4, 2) := by decide +kernel
theorem dL_areMonths_5 : decode cL_areMonths 5 = .ok (.iconst 1, 1) := by decide +kernel
theorem dL_areMonths_6 : decode cL_areMonths 6 = .ok (.istore 5, 2) := by decide +kernel
theorem dL_areMonths_8 : decode cL_areMonths 8 = .ok (.iconst 0, 1) := by decide +kernel
theorem dL_areMonths_9 : decode cL_areMonths 9 = .ok (.istore 6, 2) := by decide +kernel
theorem dL_areMonths_11 : decode cL_areMonths 11 = .ok (.iload 6, 2) := by decide +kernel
theorem dL_areMonths_13 : decode cL_areMonths 13 = .ok (.iload_n 1, 1) := by decide +kernel
theorem dL_areMonths_14 : decode cL_areMonths 14 = .ok (.if_icmp .ge 310, 3) := by decide +kernel
theorem dL_areMonths_17 : decode cL_areMonths 17 = .ok (.lconst 0, 1) := by decide +kernel
theorem dL_areMonths_18 : decode cL_areMonths 18 = .ok (.lstore 7, 2) := by decide +kernel
theorem dL_areMonths_20 : decode cL_areMonths 20 = .ok (.lconst 0, 1) := by decide +kernel
theorem dL_areMonths_21 : decode cL_areMonths 21 = .ok (.lstore 9, 2) := by decide +kernel
theorem dL_areMonths_23 : decode cL_areMonths 23 = .ok (.iconst 0, 1) := by decide +kernel
theorem dL_areMonths_24 : decode cL_areMonths 24 = .ok (.istore 11, 2) := by decide +kernel
theorem dL_areMonths_26 : decode cL_areMonths 26 = .ok (.iconst 0, 1) := by decide +kernel
theorem dL_areMonths_27 : decode cL_areMonths 27 = .ok (.istore 12, 2) := by decide +kernel
theorem dL_areMonths_29 : decode cL_areMonths 29 = .ok (.iload 12, 2) := by decide +kernel
theorem dL_areMonths_31 : decode cL_areMonths 31 = .ok (.bipush 12, 2) := by decide +kernel
theorem dL_areMonths_33 : decode cL_areMonths 33 = .ok (.if_icmp .ge 237, 3) := by decide +kernel
theorem dL_areMonths_36 : decode cL_areMonths 36 = .ok (.aload_n 0, 1) := by decide +kernel
theorem dL_areMonths_37 : decode cL_areMonths 37 = .ok (.iload 6, 2) := by decide +kernel
theorem dL_areMonths_39 : decode cL_areMonths 39 = .ok (.iload 12, 2) := by decide +kernel
theorem dL_areMonths_41 : decode cL_areMonths 41 = .ok (.invokestatic 197, 3) := by decide +kernel
theorem dL_areMonths_44 : decode cL_areMonths 44 = .ok (.istore 13, 2) := by decide +kernel
theorem dL_areMonths_46 : decode cL_areMonths 46 = .ok (.iconst 0, 1) := by decide +kernel
theorem dL_areMonths_47 : decode cL_areMonths 47 = .ok (.istore 14, 2) := by decide +kernel
theorem dL_areMonths_49 : decode cL_areMonths 49 = .ok (.bipush 30, 2) := by decide +kernel
theorem dL_areMonths_51 : decode cL_areMonths 51 = .ok (.iload 12, 2) := by decide +kernel
theorem dL_areMonths_53 : decode cL_areMonths 53 = .ok (.imul, 1) := by decide +kernel
theorem dL_areMonths_54 : decode cL_areMonths 54 = .ok (.istore 15, 2) := by decide +kernel
theorem dL_areMonths_56 : decode cL_areMonths 56 = .ok (.iload 15, 2) := by decide +kernel
theorem dL_areMonths_58 : decode cL_areMonths 58 = .ok (.bipush 30, 2) := by decide +kernel
theorem dL_areMonths_60 : decode cL_areMonths 60 = .ok (.iload 12, 2) := by decide +kernel
theorem dL_areMonths_62 : decode cL_areMonths 62 = .ok (.imul, 1) := by decide +kernel
theorem dL_areMonths_63 : decode cL_areMonths 63 = .ok (.bipush 30, 2) := by decide +kernel
theorem dL_areMonths_65 : decode cL_areMonths 65 = .ok (.iadd, 1) := by decide +kernel
theorem dL_areMonths_66 : decode cL_areMonths 66 = .ok (.if_icmp .ge 40, 3) := by decide +kernel
theorem dL_areMonths_69 : decode cL_areMonths 69 = .ok (.iload 14, 2) := by decide +kernel
theorem dL_areMonths_71 : decode cL_areMonths 71 = .ok (.aload_n 0, 1) := by decide +kernel
theorem dL_areMonths_72 : decode cL_areMonths 72 = .ok (.iload 6, 2) := by decide +kernel
theorem dL_areMonths_74 : decode cL_areMonths 74 = .ok (.iload 15, 2) := by decide +kernel
theorem dL_areMonths_76 : decode cL_areMonths 76 = .ok (.invokestatic 205, 3) := by decide +kernel
theorem dL_areMonths_79 : decode cL_areMonths 79 = .ok (.aload_n 0, 1) := by decide +kernel
theorem dL_areMonths_80 : decode cL_areMonths 80 = .ok (.iload 6, 2) := by decide +kernel
theorem dL_areMonths_82 : decode cL_areMonths 82 = .ok (.iload 15, 2) := by decide +kernel
theorem dL_areMonths_84 : decode cL_areMonths 84 = .ok (.invokestatic 207, 3) := by decide +kernel
theorem dL_areMonths_87 : decode cL_areMonths 87 = .ok (.iadd, 1) := by decide +kernel
theorem dL_areMonths_88 : decode cL_areMonths 88 = .ok (.aload_n 0, 1) := by decide +kernel
theorem dL_areMonths_89 : decode cL_areMonths 89 = .ok (.iload 6, 2) := by decide +kernel
theorem dL_areMonths_91 : decode cL_areMonths 91 = .ok (.iload 15, 2) := by decide +kernel
theorem dL_areMonths_93 : decode cL_areMonths 93 = .ok (.invokestatic 209, 3) := by decide +kernel
theorem dL_areMonths_96 : decode cL_areMonths 96 = .ok (.iadd, 1) := by decide +kernel
theorem dL_areMonths_97 : decode cL_areMonths 97 = .ok (.iadd, 1) := by decide +kernel
theorem dL_areMonths_98 : decode cL_areMonths 98 = .ok (.istore 14, 2) := by decide +kernel
theorem dL_areMonths_100 : decode cL_areMonths 100 = .ok (.iinc 15 1, 3) := by decide +kernel
theorem dL_areMonths_103 : decode cL_areMonths 103 = .ok (.goto (-47), 3) := by decide +kernel
theorem dL_areMonths_106 : decode cL_areMonths 106 = .ok (.aload_n 0, 1) := by decide +kernel
theorem dL_areMonths_107 : decode cL_areMonths 107 = .ok (.iload 6, 2) := by decide +kernel
theorem dL_areMonths_109 : decode cL_areMonths 109 = .ok (.iload 12, 2) := by decide +kernel
theorem dL_areMonths_111 : decode cL_areMonths 111 = .ok (.invokestatic 199, 3) := by decide +kernel
theorem dL_areMonths_114 : decode cL_areMonths 114 = .ok (.istore 15, 2) := by decide +kernel
theorem dL_areMonths_116 : decode cL_areMonths 116 = .ok (.iload 12, 2) := by decide +kernel
theorem dL_areMonths_118 : decode cL_areMonths 118 = .ok (.aload_n 0, 1) := by decide +kernel
theorem dL_areMonths_119 : decode cL_areMonths 119 = .ok (.invokevirtual 162, 3) := by decide +kernel
theorem dL_areMonths_122 : decode cL_areMonths 122 = .ok (.if_icmp .ge 7, 3) := by decide +kernel
theorem dL_areMonths_125 : decode cL_areMonths 125 = .ok (.iconst 1, 1) := by decide +kernel
theorem dL_areMonths_126 : decode cL_areMonths 126 = .ok (.goto 4, 3) := by decide +kernel
theorem dL_areMonths_129 : decode cL_areMonths 129 = .ok (.iconst 0, 1) := by decide +kernel
theorem dL_areMonths_130 : decode cL_areMonths 130 = .ok (.istore 16, 2) := by decide +kernel
theorem dL_areMonths_132 : decode cL_areMonths 132 = .ok (.iload 5, 2) := by decide +kernel
theorem dL_areMonths_134 : decode cL_areMonths 134 = .ok (.iload 13, 2) := by decide +kernel
theorem dL_areMonths_136 : decode cL_areMonths 136 = .ok (.iload 14, 2) := by decide +kernel
theorem dL_areMonths_138 : decode cL_areMonths 138 = .ok (.if_icmp .ne 51, 3) := by decide +kernel
theorem dL_areMonths_141 : decode cL_areMonths 141 = .ok (.aload_n 0, 1) := by decide +kernel
theorem dL_areMonths_142 : decode cL_areMonths 142 = .ok (.iload 6, 2) := by decide +kernel
theorem dL_areMonths_144 : decode cL_areMonths 144 = .ok (.iload 12, 2) := by decide +kernel
theorem dL_areMonths_146 : decode cL_areMonths 146 = .ok (.invokestatic 219, 3) := by decide +kernel
theorem dL_areMonths_149 : decode cL_areMonths 149 = .ok (.iload 14, 2) := by decide +kernel
theorem dL_areMonths_151 : decode cL_areMonths 151 = .ok (.if_icmp .ne 38, 3) := by decide +kernel
theorem dL_areMonths_154 : decode cL_areMonths 154 = .ok (.iload 16, 2) := by decide +kernel
theorem dL_areMonths_156 : decode cL_areMonths 156 = .ok (.ifCond .eq 11, 3) := by decide +kernel
theorem dL_areMonths_159 : decode cL_areMonths 159 = .ok (.iload 15, 2) := by decide +kernel
theorem dL_areMonths_161 : decode cL_areMonths 161 = .ok (.ifCond .lt 28, 3) := by decide +kernel
theorem dL_areMonths_164 : decode cL_areMonths 164 = .ok (.goto 21, 3) := by decide +kernel
theorem dL_areMonths_167 : decode cL_areMonths 167 = .ok (.iload 15, 2) := by decide +kernel
theorem dL_areMonths_169 : decode cL_areMonths 169 = .ok (.bipush (-75), 2) := by decide +kernel
theorem dL_areMonths_171 : decode cL_areMonths 171 = .ok (.if_icmp .ne 18, 3) := by decide +kernel
theorem dL_areMonths_174 : decode cL_areMonths 174 = .ok (.aload_n 0, 1) := by decide +kernel
theorem dL_areMonths_175 : decode cL_areMonths 175 = .ok (.iload 6, 2) := by decide +kernel
theorem dL_areMonths_177 : decode cL_areMonths 177 = .ok (.iload 12, 2) := by decide +kernel
theorem dL_areMonths_179 : decode cL_areMonths 179 = .ok (.invokestatic 201, 3) := by decide +kernel
theorem dL_areMonths_182 : decode cL_areMonths 182 = .ok (.ifCond .ne 7, 3) := by decide +kernel
theorem dL_areMonths_185 : decode cL_areMonths 185 = .ok (.iconst 1, 1) := by decide +kernel
theorem dL_areMonths_186 : decode cL_areMonths 186 = .ok (.goto 4, 3) := by decide +kernel
theorem dL_areMonths_189 : decode cL_areMonths 189 = .ok (.iconst 0, 1) := by decide +kernel
theorem dL_areMonths_190 : decode cL_areMonths 190 = .ok (.iand, 1) := by decide +kernel
theorem dL_areMonths_191 : decode cL_areMonths 191 = .ok (.istore 5, 2) := by decide +kernel
theorem dL_areMonths_193 : decode cL_areMonths 193 = .ok (.lload 7, 2) := by decide +kernel
theorem dL_areMonths_195 : decode cL_areMonths 195 = .ok (.aload_n 0, 1) := by decide +kernel
theorem dL_areMonths_196 : decode cL_areMonths 196 = .ok (.iload 6, 2) := by decide +kernel
theorem dL_areMonths_198 : decode cL_areMonths 198 = .ok (.iload 12, 2) := by decide +kernel
theorem dL_areMonths_200 : decode cL_areMonths 200 = .ok (.invokestatic 201, 3) := by decide +kernel
theorem dL_areMonths_203 : decode cL_areMonths 203 = .ok (.i2l, 1) := by decide +kernel
theorem dL_areMonths_204 : decode cL_areMonths 204 = .ok (.ladd, 1) := by decide +kernel
theorem dL_areMonths_205 : decode cL_areMonths 205 = .ok (.lstore 7, 2) := by decide +kernel
theorem dL_areMonths_207 : decode cL_areMonths 207 = .ok (.lload 9, 2) := by decide +kernel
theorem dL_areMonths_209 : decode cL_areMonths 209 = .ok (.iload 16, 2) := by decide +kernel
theorem dL_areMonths_211 : decode cL_areMonths 211 = .ok (.ifCond .eq 9, 3) := by decide +kernel
theorem dL_areMonths_214 : decode cL_areMonths 214 = .ok (.iload 15, 2) := by decide +kernel
theorem dL_areMonths_216 : decode cL_areMonths 216 = .ok (.i2l, 1) := by decide +kernel
theorem dL_areMonths_217 : decode cL_areMonths 217 = .ok (.goto 4, 3) := by decide +kernel
theorem dL_areMonths_220 : decode cL_areMonths 220 = .ok (.lconst 0, 1) := by decide +kernel
theorem dL_areMonths_221 : decode cL_areMonths 221 = .ok (.ladd, 1) := by decide +kernel
theorem dL_areMonths_222 : decode cL_areMonths 222 = .ok (.lstore 9, 2) := by decide +kernel
theorem dL_areMonths_224 : decode cL_areMonths 224 = .ok (.iload 11, 2) := by decide +kernel
theorem dL_areMonths_226 : decode cL_areMonths 226 = .ok (.iload 16, 2) := by decide +kernel
theorem dL_areMonths_228 : decode cL_areMonths 228 = .ok (.ifCond .eq 17, 3) := by decide +kernel
theorem dL_areMonths_231 : decode cL_areMonths 231 = .ok (.iload 13, 2) := by decide +kernel
theorem dL_areMonths_233 : decode cL_areMonths 233 = .ok (.aload_n 0, 1) := by decide +kernel
theorem dL_areMonths_234 : decode cL_areMonths 234 = .ok (.iload 6, 2) := by decide +kernel
theorem dL_areMonths_236 : decode cL_areMonths 236 = .ok (.iload 12, 2) := by decide +kernel
theorem dL_areMonths_238 : decode cL_areMonths 238 = .ok (.invokestatic 201, 3) := by decide +kernel
theorem dL_areMonths_241 : decode cL_areMonths 241 = .ok (.isub, 1) := by decide +kernel
theorem dL_areMonths_242 : decode cL_areMonths 242 = .ok (.goto 4, 3) := by decide +kernel
theorem dL_areMonths_245 : decode cL_areMonths 245 = .ok (.iconst 0, 1) := by decide +kernel
theorem dL_areMonths_246 : decode cL_areMonths 246 = .ok (.iadd, 1) := by decide +kernel
theorem dL_areMonths_247 : decode cL_areMonths 247 = .ok (.istore 11, 2) := by decide +kernel
theorem dL_areMonths_249 : decode cL_areMonths 249 = .ok (.iload 4, 2) := by decide +kernel
theorem dL_areMonths_251 : decode cL_areMonths 251 = .ok (.iload 16, 2) := by decide +kernel
theorem dL_areMonths_253 : decode cL_areMonths 253 = .ok (.ifCond .eq 7, 3) := by decide +kernel
theorem dL_areMonths_256 : decode cL_areMonths 256 = .ok (.iconst 1, 1) := by decide +kernel
theorem dL_areMonths_257 : decode cL_areMonths 257 = .ok (.goto 4, 3) := by decide +kernel
theorem dL_areMonths_260 : decode cL_areMonths 260 = .ok (.iconst 0, 1) := by decide +kernel
theorem dL_areMonths_261 : decode cL_areMonths 261 = .ok (.iadd, 1) := by decide +kernel
theorem dL_areMonths_262 : decode cL_areMonths 262 = .ok (.istore 4, 2) := by decide +kernel
theorem dL_areMonths_264 : decode cL_areMonths 264 = .ok (.iinc 12 1, 3) := by decide +kernel
theorem dL_areMonths_267 : decode cL_areMonths 267 = .ok (.goto (-238), 3) := by decide +kernel
theorem dL_areMonths_270 : decode cL_areMonths 270 = .ok (.lload_n 2, 1) := by decide +kernel
theorem dL_areMonths_271 : decode cL_areMonths 271 = .ok (.lload 9, 2) := by decide +kernel
theorem dL_areMonths_273 : decode cL_areMonths 273 = .ok (.ladd, 1) := by decide +kernel
theorem dL_areMonths_274 : decode cL_areMonths 274 = .ok (.lstore_n 2, 1) := by decide +kernel
theorem dL_areMonths_275 : decode cL_areMonths 275 = .ok (.iload 5, 2) := by decide +kernel
theorem dL_areMonths_277 : decode cL_areMonths 277 = .ok (.lload 7, 2) := by decide +kernel
theorem dL_areMonths_279 : decode cL_areMonths 279 = .ok (.lload 9, 2) := by decide +kernel
theorem dL_areMonths_281 : decode cL_areMonths 281 = .ok (.lcmp, 1) := by decide +kernel
theorem dL_areMonths_282 : decode cL_areMonths 282 = .ok (.ifCond .ne 32, 3) := by decide +kernel
theorem dL_areMonths_285 : decode cL_areMonths 285 = .ok (.aload_n 0, 1) := by decide +kernel
theorem dL_areMonths_286 : decode cL_areMonths 286 = .ok (.iload 6, 2) := by decide +kernel
theorem dL_areMonths_288 : decode cL_areMonths 288 = .ok (.invokestatic 193, 3) := by decide +kernel
theorem dL_areMonths_291 : decode cL_areMonths 291 = .ok (.iload 11, 2) := by decide +kernel
theorem dL_areMonths_293 : decode cL_areMonths 293 = .ok (.if_icmp .ne 21, 3) := by decide +kernel
theorem dL_areMonths_296 : decode cL_areMonths 296 = .ok (.aload_n 0, 1) := by decide +kernel
theorem dL_areMonths_297 : decode cL_areMonths 297 = .ok (.iload 6, 2) := by decide +kernel
theorem dL_areMonths_299 : decode cL_areMonths 299 = .ok (.invokestatic 203, 3) := by decide +kernel
theorem dL_areMonths_302 : decode cL_areMonths 302 = .ok (.ifCond .eq 8, 3) := by decide +kernel
theorem dL_areMonths_305 : decode cL_areMonths 305 = .ok (.iload 11, 2) := by decide +kernel
theorem dL_areMonths_307 : decode cL_areMonths 307 = .ok (.ifCond .ne 7, 3) := by decide +kernel
theorem dL_areMonths_310 : decode cL_areMonths 310 = .ok (.iconst 1, 1) := by decide +kernel
theorem dL_areMonths_311 : decode cL_areMonths 311 = .ok (.goto 4, 3) := by decide +kernel
theorem dL_areMonths_314 : decode cL_areMonths 314 = .ok (.iconst 0, 1) := by decide +kernel
theorem dL_areMonths_315 : decode cL_areMonths 315 = .ok (.iand, 1) := by decide +kernel
theorem dL_areMonths_316 : decode cL_areMonths 316 = .ok (.istore 5, 2) := by decide +kernel
theorem dL_areMonths_318 : decode cL_areMonths 318 = .ok (.iinc 6 1, 3) := by decide +kernel
theorem dL_areMonths_321 : decode cL_areMonths 321 = .ok (.goto (-310), 3) := by decide +kernel
theorem dL_areMonths_324 : decode cL_areMonths 324 = .ok (.aload_n 0, 1) := by decide +kernel
theorem dL_areMonths_325 : decode cL_areMonths 325 = .ok (.invokestatic 221, 3) := by decide +kernel
theorem dL_areMonths_328 : decode cL_areMonths 328 = .ok (.aload_n 0, 1) := by decide +kernel
theorem dL_areMonths_329 : decode cL_areMonths 329 = .ok (.invokevirtual 165, 3) := by decide +kernel
theorem dL_areMonths_332 : decode cL_areMonths 332 = .ok (.lload_n 2, 1) := by decide +kernel
theorem dL_areMonths_333 : decode cL_areMonths 333 = .ok (.ladd, 1) := by decide +kernel
theorem dL_areMonths_334 : decode cL_areMonths 334 = .ok (.lconst 0, 1) := by decide +kernel
theorem dL_areMonths_335 : decode cL_areMonths 335 = .ok (.lcmp, 1) := by decide +kernel
theorem dL_areMonths_336 : decode cL_areMonths 336 = .ok (.ifCond .ne 8, 3) := by decide +kernel
theorem dL_areMonths_339 : decode cL_areMonths 339 = .ok (.ldc 115, 2) := by decide +kernel
theorem dL_areMonths_341 : decode cL_areMonths 341 = .ok (.goto 16, 3) := by decide +kernel
theorem dL_areMonths_344 : decode cL_areMonths 344 = .ok (.aload_n 0, 1) := by decide +kernel
theorem dL_areMonths_345 : decode cL_areMonths 345 = .ok (.invokevirtual 165, 3) := by decide +kernel
theorem dL_areMonths_348 : decode cL_areMonths 348 = .ok (.l2f, 1) := by decide +kernel
theorem dL_areMonths_349 : decode cL_areMonths 349 = .ok (.aload_n 0, 1) := by decide +kernel
theorem dL_areMonths_350 : decode cL_areMonths 350 = .ok (.invokevirtual 165, 3) := by decide +kernel
theorem dL_areMonths_353 : decode cL_areMonths 353 = .ok (.lload_n 2, 1) := by decide +kernel
theorem dL_areMonths_354 : decode cL_areMonths 354 = .ok (.ladd, 1) := by decide +kernel
theorem dL_areMonths_355 : decode cL_areMonths 355 = .ok (.l2f, 1) := by decide +kernel
theorem dL_areMonths_356 : decode cL_areMonths 356 = .ok (.fdiv, 1) := by decide +kernel
theorem dL_areMonths_357 : decode cL_areMonths 357 = .ok (.fcmp .l, 1) := by decide +kernel
theorem dL_areMonths_358 : decode cL_areMonths 358 = .ok (.ifCond .ne 7, 3) := by decide +kernel
theorem dL_areMonths_361 : decode cL_areMonths 361 = .ok (.iconst 1, 1) := by decide +kernel
theorem dL_areMonths_362 : decode cL_areMonths 362 = .ok (.goto 4, 3) := by decide +kernel
theorem dL_areMonths_365 : decode cL_areMonths 365 = .ok (.iconst 0, 1) := by decide +kernel
theorem dL_areMonths_366 : decode cL_areMonths 366 = .ok (.istore 6, 2) := by decide +kernel
theorem dL_areMonths_368 : decode cL_areMonths 368 = .ok (.iload 5, 2) := by decide +kernel
theorem dL_areMonths_370 : decode cL_areMonths 370 = .ok (.ifCond .eq 46, 3) := by decide +kernel
theorem dL_areMonths_373 : decode cL_areMonths 373 = .ok (.aload_n 0, 1) := by decide +kernel
theorem dL_areMonths_374 : decode cL_areMonths 374 = .ok (.invokevirtual 188, 3) := by decide +kernel
theorem dL_areMonths_377 : decode cL_areMonths 377 = .ok (.lload_n 2, 1) := by decide +kernel
theorem dL_areMonths_378 : decode cL_areMonths 378 = .ok (.lcmp, 1) := by decide +kernel
theorem dL_areMonths_379 : decode cL_areMonths 379 = .ok (.ifCond .ne 37, 3) := by decide +kernel
theorem dL_areMonths_382 : decode cL_areMonths 382 = .ok (.iload 6, 2) := by decide +kernel
theorem dL_areMonths_384 : decode cL_areMonths 384 = .ok (.ifCond .eq 32, 3) := by decide +kernel
theorem dL_areMonths_387 : decode cL_areMonths 387 = .ok (.aload_n 0, 1) := by decide +kernel
theorem dL_areMonths_388 : decode cL_areMonths 388 = .ok (.invokestatic 224, 3) := by decide +kernel
theorem dL_areMonths_391 : decode cL_areMonths 391 = .ok (.iload 4, 2) := by decide +kernel
theorem dL_areMonths_393 : decode cL_areMonths 393 = .ok (.ifCond .ne 9, 3) := by decide +kernel
theorem dL_areMonths_396 : decode cL_areMonths 396 = .ok (.ldc2_w 120, 3) := by decide +kernel
theorem dL_areMonths_399 : decode cL_areMonths 399 = .ok (.goto 9, 3) := by decide +kernel
theorem dL_areMonths_402 : decode cL_areMonths 402 = .ok (.lload_n 2, 1) := by decide +kernel
theorem dL_areMonths_403 : decode cL_areMonths 403 = .ok (.l2d, 1) := by decide +kernel
theorem dL_areMonths_404 : decode cL_areMonths 404 = .ok (.iload 4, 2) := by decide +kernel
theorem dL_areMonths_406 : decode cL_areMonths 406 = .ok (.i2d, 1) := by decide +kernel
theorem dL_areMonths_407 : decode cL_areMonths 407 = .ok (.ddiv, 1) := by decide +kernel
theorem dL_areMonths_408 : decode cL_areMonths 408 = .ok (.dcmp .l, 1) := by decide +kernel
theorem dL_areMonths_409 : decode cL_areMonths 409 = .ok (.ifCond .ne 7, 3) := by decide +kernel
theorem dL_areMonths_412 : decode cL_areMonths 412 = .ok (.iconst 1, 1) := by decide +kernel
theorem dL_areMonths_413 : decode cL_areMonths 413 = .ok (.goto 4, 3) := by decide +kernel
theorem dL_areMonths_416 : decode cL_areMonths 416 = .ok (.iconst 0, 1) := by decide +kernel
theorem dL_areMonths_417 : decode cL_areMonths 417 = .ok (.ireturn, 1) := by decide +kernel
abbrev vwCl : List vw_C := [(RJ0, TJ0, 2), (RJx00060, TJx00060, 6), (RX0, TX0, 5), (RX1, TX1, 3), (RX2, TX2, 3), (RX3, TX3, 3), (RX4, TX4, 3), (RX5, TX5, 14)]
