theorem dL_setRule_12 : decode cL_setRule 12 = .ok (.goto 11, 3) := by decide +kernel
theorem dL_setRule_15 : decode cL_setRule 15 = .ok (.astore 5, 2) := by decide +kernel
theorem dL_setRule_17 : decode cL_setRule 17 = .ok (.iconst 1, 1) := by decide +kernel
theorem dL_setRule_18 : decode cL_setRule 18 = .ok (.ireturn, 1) := by decide +kernel
theorem dL_setRule_19 : decode cL_setRule 19 = .ok (.astore 5, 2) := by decide +kernel
theorem dL_setRule_21 : decode cL_setRule 21 = .ok (.iconst 2, 1) := by decide +kernel
theorem dL_setRule_22 : decode cL_setRule 22 = .ok (.ireturn, 1) := by decide +kernel
theorem dL_setRule_23 : decode cL_setRule 23 = .ok (.iconst 0, 1) := by decide +kernel
theorem dL_setRule_24 : decode cL_setRule 24 = .ok (.ireturn, 1) := by decide +kernel
theorem dL_takeBackMove_0 : decode cL_takeBackMove 0 = .ok (.aload_n 3, 1) := by decide +kernel
theorem dL_takeBackMove_1 : decode cL_takeBackMove 1 = .ok (.iconst 0, 1) := by decide +kernel
theorem dL_takeBackMove_2 : decode cL_takeBackMove 2 = .ok (.aload_n 0, 1) := by decide +kernel
theorem dL_takeBackMove_3 : decode cL_takeBackMove 3 = .ok (.iload_n 1, 1) := by decide +kernel
theorem dL_takeBackMove_4 : decode cL_takeBackMove 4 = .ok (.iload_n 2, 1) := by decide +kernel
theorem dL_takeBackMove_5 : decode cL_takeBackMove 5 = .ok (.invokevirtual 39, 3) := by decide +kernel
theorem dL_takeBackMove_8 : decode cL_takeBackMove 8 = .ok (.i2l, 1) := by decide +kernel
theorem dL_takeBackMove_9 : decode cL_takeBackMove 9 = .ok (.lastore, 1) := by decide +kernel
theorem dL_takeBackMove_10 : decode cL_takeBackMove 10 = .ok (.goto 11, 3) := by decide +kernel
theorem dL_takeBackMove_13 : decode cL_takeBackMove 13 = .ok (.astore 4, 2) := by decide +kernel
theorem dL_takeBackMove_15 : decode cL_takeBackMove 15 = .ok (.iconst 1, 1) := by decide +kernel
theorem dL_takeBackMove_16 : decode cL_takeBackMove 16 = .ok (.ireturn, 1) := by decide +kernel
theorem dL_takeBackMove_17 : decode cL_takeBackMove 17 = .ok (.astore 4, 2) := by decide +kernel
theorem dL_takeBackMove_19 : decode cL_takeBackMove 19 = .ok (.iconst 2, 1) := by decide +kernel
theorem dL_takeBackMove_20 : decode cL_takeBackMove 20 = .ok (.ireturn, 1) := by decide +kernel
theorem dL_takeBackMove_21 : decode cL_takeBackMove 21 = .ok (.iconst 0, 1) := by decide +kernel
theorem dL_takeBackMove_22 : decode cL_takeBackMove 22 = .ok (.ireturn, 1) := by decide +kernel
theorem dL_takeBackIncome_0 : decode cL_takeBackIncome 0 = .ok (.aload_n 3, 1) := by decide +kernel
theorem dL_takeBackIncome_1 : decode cL_takeBackIncome 1 = .ok (.iconst 0, 1) := by decide +kernel
theorem dL_takeBackIncome_2 : decode cL_takeBackIncome 2 = .ok (.aload_n 0, 1) := by decide +kernel
theorem dL_takeBackIncome_3 : decode cL_takeBackIncome 3 = .ok (.iload_n 1, 1) := by decide +kernel
theorem dL_takeBackIncome_4 : decode cL_takeBackIncome 4 = .ok (.iload_n 2, 1) := by decide +kernel
theorem dL_takeBackIncome_5 : decode cL_takeBackIncome 5 = .ok (.invokevirtual 43, 3) := by decide +kernel
theorem dL_takeBackIncome_8 : decode cL_takeBackIncome 8 = .ok (.i2l, 1) := by decide +kernel
theorem dL_takeBackIncome_9 : decode cL_takeBackIncome 9 = .ok (.lastore, 1) := by decide +kernel
theorem dL_takeBackIncome_10 : decode cL_takeBackIncome 10 = .ok (.goto 11, 3) := by decide +kernel
theorem dL_takeBackIncome_13 : decode cL_takeBackIncome 13 = .ok (.astore 4, 2) := by decide +kernel
theorem dL_takeBackIncome_15 : decode cL_takeBackIncome 15 = .ok (.iconst 1, 1) := by decide +kernel
theorem dL_takeBackIncome_16 : decode cL_takeBackIncome 16 = .ok (.ireturn, 1) := by decide +kernel
theorem dL_takeBackIncome_17 : decode cL_takeBackIncome 17 = .ok (.astore 4, 2) := by decide +kernel
theorem dL_takeBackIncome_19 : decode cL_takeBackIncome 19 = .ok (.iconst 2, 1) := by decide +kernel
theorem dL_takeBackIncome_20 : decode cL_takeBackIncome 20 = .ok (.ireturn, 1) := by decide +kernel
theorem dL_takeBackIncome_21 : decode cL_takeBackIncome 21 = .ok (.iconst 0, 1) := by decide +kernel
theorem dL_takeBackIncome_22 : decode cL_takeBackIncome 22 = .ok (.ireturn, 1) := by decide +kernel
theorem dL_takeBackRule_0 : decode cL_takeBackRule 0 = .ok (.aload_n 3, 1) := by decide +kernel
theorem dL_takeBackRule_1 : decode cL_takeBackRule 1 = .ok (.iconst 0, 1) := by decide +kernel
theorem dL_takeBackRule_2 : decode cL_takeBackRule 2 = .ok (.aload_n 0, 1) := by decide +kernel
theorem dL_takeBackRule_3 : decode cL_takeBackRule 3 = .ok (.iload_n 1, 1) := by decide +kernel
theorem dL_takeBackRule_4 : decode cL_takeBackRule 4 = .ok (.iload_n 2, 1) := by decide +kernel
theorem dL_takeBackRule_5 : decode cL_takeBackRule 5 = .ok (.invokevirtual 46, 3) := by decide +kernel
theorem dL_takeBackRule_8 : decode cL_takeBackRule 8 = .ok (.i2l, 1) := by decide +kernel
theorem dL_takeBackRule_9 : decode cL_takeBackRule 9 = .ok (.lastore, 1) := by decide +kernel
theorem dL_takeBackRule_10 : decode cL_takeBackRule 10 = .ok (.goto 11, 3) := by decide +kernel
theorem dL_takeBackRule_13 : decode cL_takeBackRule 13 = .ok (.astore 4, 2) := by decide +kernel
theorem dL_takeBackRule_15 : decode cL_takeBackRule 15 = .ok (.iconst 1, 1) := by decide +kernel
theorem dL_takeBackRule_16 : decode cL_takeBackRule 16 = .ok (.ireturn, 1) := by decide +kernel
theorem dL_takeBackRule_17 : decode cL_takeBackRule 17 = .ok (.astore 4, 2) := by decide +kernel
theorem dL_takeBackRule_19 : decode cL_takeBackRule 19 = .ok (.iconst 2, 1) := by decide +kernel
theorem dL_takeBackRule_20 : decode cL_takeBackRule 20 = .ok (.ireturn, 1) := by decide +kernel
theorem dL_takeBackRule_21 : decode cL_takeBackRule 21 = .ok (.iconst 0, 1) := by decide +kernel
theorem dL_takeBackRule_22 : decode cL_takeBackRule 22 = .ok (.ireturn, 1) := by decide +kernel
theorem dL_pay_0 : decode cL_pay 0 = .ok (.aload_n 1, 1) := by decide +kernel
theorem dL_pay_1 : decode cL_pay 1 = .ok (.iconst 0, 1) := by decide +kernel
theorem dL_pay_2 : decode cL_pay 2 = .ok (.aload_n 0, 1) := by decide +kernel
theorem dL_pay_3 : decode cL_pay 3 = .ok (.invokevirtual 52, 3) := by decide +kernel
theorem dL_pay_6 : decode cL_pay 6 = .ok (.i2l, 1) := by decide +kernel
theorem dL_pay_7 : decode cL_pay 7 = .ok (.lastore, 1) := by decide +kernel
theorem dL_pay_8 : decode cL_pay 8 = .ok (.goto 6, 3) := by decide +kernel
theorem dL_pay_11 : decode cL_pay 11 = .ok (.astore_n 2, 1) := by decide +kernel
theorem dL_pay_12 : decode cL_pay 12 = .ok (.iconst 1, 1) := by decide +kernel
theorem dL_pay_13 : decode cL_pay 13 = .ok (.ireturn, 1) := by decide +kernel
theorem dL_pay_14 : decode cL_pay 14 = .ok (.iconst 0, 1) := by decide +kernel
theorem dL_pay_15 : decode cL_pay 15 = .ok (.ireturn, 1) := by decide +kernel
theorem dL_payment_0 : decode cL_payment 0 = .ok (.aload_n 3, 1) := by decide +kernel
theorem dL_payment_1 : decode cL_payment 1 = .ok (.iconst 0, 1) := by decide +kernel
theorem dL_payment_2 : decode cL_payment 2 = .ok (.aload_n 0, 1) := by decide +kernel
theorem dL_payment_3 : decode cL_payment 3 = .ok (.iload_n 1, 1) := by decide +kernel
theorem dL_payment_4 : decode cL_payment 4 = .ok (.iload_n 2, 1) := by decide +kernel
theorem dL_payment_5 : decode cL_payment 5 = .ok (.invokevirtual 55, 3) := by decide +kernel
theorem dL_payment_8 : decode cL_payment 8 = .ok (.i2l, 1) := by decide +kernel
theorem dL_payment_9 : decode cL_payment 9 = .ok (.lastore, 1) := by decide +kernel
theorem dL_payment_10 : decode cL_payment 10 = .ok (.goto 11, 3) := by decide +kernel
theorem dL_payment_13 : decode cL_payment 13 = .ok (.astore 4, 2) := by decide +kernel
theorem dL_payment_15 : decode cL_payment 15 = .ok (.iconst 1, 1) := by decide +kernel
theorem dL_payment_16 : decode cL_payment 16 = .ok (.ireturn, 1) := by decide +kernel
theorem dL_payment_17 : decode cL_payment 17 = .ok (.astore 4, 2) := by decide +kernel
theorem dL_payment_19 : decode cL_payment 19 = .ok (.iconst 2, 1) := by decide +kernel
theorem dL_payment_20 : decode cL_payment 20 = .ok (.ireturn, 1) := by decide +kernel
theorem dL_payment_21 : decode cL_payment 21 = .ok (.iconst 0, 1) := by decide +kernel
theorem dL_payment_22 : decode cL_payment 22 = .ok (.ireturn, 1) := by decide +kernel
theorem dL_paidFor_0 : decode cL_paidFor 0 = .ok (.aload_n 3, 1) := by decide +kernel
theorem dL_paidFor_1 : decode cL_paidFor 1 = .ok (.iconst 0, 1) := by decide +kernel
theorem dL_paidFor_2 : decode cL_paidFor 2 = .ok (.aload_n 0, 1) := by decide +kernel
theorem dL_paidFor_3 : decode cL_paidFor 3 = .ok (.iload_n 1, 1) := by decide +kernel
theorem dL_paidFor_4 : decode cL_paidFor 4 = .ok (.iload_n 2, 1) := by decide +kernel
theorem dL_paidFor_5 : decode cL_paidFor 5 = .ok (.invokevirtual 58, 3) := by decide +kernel
theorem dL_paidFor_8 : decode cL_paidFor 8 = .ok (.i2l, 1) := by decide +kernel
theorem dL_paidFor_9 : decode cL_paidFor 9 = .ok (.lastore, 1) := by decide +kernel
theorem dL_paidFor_10 : decode cL_paidFor 10 = .ok (.goto 7, 3) := by decide +kernel
theorem dL_paidFor_13 : decode cL_paidFor 13 = .ok (.astore 4, 2) := by decide +kernel
theorem dL_paidFor_15 : decode cL_paidFor 15 = .ok (.iconst 1, 1) := by decide +kernel
theorem dL_paidFor_16 : decode cL_paidFor 16 = .ok (.ireturn, 1) := by decide +kernel
theorem dL_paidFor_17 : decode cL_paidFor 17 = .ok (.iconst 0, 1) := by decide +kernel
theorem dL_paidFor_18 : decode cL_paidFor 18 = .ok (.ireturn, 1) := by decide +kernel
theorem dL_balance_0 : decode cL_balance 0 = .ok (.aload_n 2, 1) := by decide +kernel
theorem dL_balance_1 : decode cL_balance 1 = .ok (.iconst 0, 1) := by decide +kernel
theorem dL_balance_2 : decode cL_balance 2 = .ok (.aload_n 0, 1) := by decide +kernel
theorem dL_balance_3 : decode cL_balance 3 = .ok (.iload_n 1, 1) := by decide +kernel
theorem dL_balance_4 : decode cL_balance 4 = .ok (.invokevirtual 61, 3) := by decide +kernel
theorem dL_balance_7 : decode cL_balance 7 = .ok (.i2l, 1) := by decide +kernel
theorem dL_balance_8 : decode cL_balance 8 = .ok (.lastore, 1) := by decide +kernel
theorem dL_balance_9 : decode cL_balance 9 = .ok (.goto 6, 3) := by decide +kernel
theorem dL_balance_12 : decode cL_balance 12 = .ok (.astore_n 3, 1) := by decide +kernel
theorem dL_balance_13 : decode cL_balance 13 = .ok (.iconst 1, 1) := by decide +kernel
theorem dL_balance_14 : decode cL_balance 14 = .ok (.ireturn, 1) := by decide +kernel
theorem dL_balance_15 : decode cL_balance 15 = .ok (.iconst 0, 1) := by decide +kernel
theorem dL_balance_16 : decode cL_balance 16 = .ok (.ireturn, 1) := by decide +kernel
theorem dL_isSettled_0 : decode cL_isSettled 0 = .ok (.aload_n 2, 1) := by decide +kernel
theorem dL_isSettled_1 : decode cL_isSettled 1 = .ok (.iconst 0, 1) := by decide +kernel
theorem dL_isSettled_2 : decode cL_isSettled 2 = .ok (.aload_n 0, 1) := by decide +kernel
theorem dL_isSettled_3 : decode cL_isSettled 3 = .ok (.iload_n 1, 1) := by decide +kernel
theorem dL_isSettled_4 : decode cL_isSettled 4 = .ok (.invokevirtual 64, 3) := by decide +kernel
theorem dL_isSettled_7 : decode cL_isSettled 7 = .ok (.ifCond .eq 7, 3) := by decide +kernel
theorem dL_isSettled_10 : decode cL_isSettled 10 = .ok (.lconst 1, 1) := by decide +kernel
theorem dL_isSettled_11 : decode cL_isSettled 11 = .ok (.goto 4, 3) := by decide +kernel
theorem dL_isSettled_14 : decode cL_isSettled 14 = .ok (.lconst 0, 1) := by decide +kernel
theorem dL_isSettled_15 : decode cL_isSettled 15 = .ok (.lastore, 1) := by decide +kernel
theorem dL_isSettled_16 : decode cL_isSettled 16 = .ok (.goto 6, 3) := by decide +kernel
theorem dL_isSettled_19 : decode cL_isSettled 19 = .ok (.astore_n 3, 1) := by decide +kernel
theorem dL_isSettled_20 : decode cL_isSettled 20 = .ok (.iconst 1, 1) := by decide +kernel
theorem dL_isSettled_21 : decode cL_isSettled 21 = .ok (.ireturn, 1) := by decide +kernel
theorem dL_isSettled_22 : decode cL_isSettled 22 = .ok (.iconst 0, 1) := by decide +kernel
theorem dL_isSettled_23 : decode cL_isSettled 23 = .ok (.ireturn, 1) := by decide +kernel
theorem dL_homeOf_0 : decode cL_homeOf 0 = .ok (.aload_n 3, 1) := by decide +kernel
theorem dL_homeOf_1 : decode cL_homeOf 1 = .ok (.iconst 0, 1) := by decide +kernel
theorem dL_homeOf_2 : decode cL_homeOf 2 = .ok (.aload_n 0, 1) := by decide +kernel
theorem dL_homeOf_3 : decode cL_homeOf 3 = .ok (.iload_n 1, 1) := by decide +kernel
theorem dL_homeOf_4 : decode cL_homeOf 4 = .ok (.iload_n 2, 1) := by decide +kernel
theorem dL_homeOf_5 : decode cL_homeOf 5 = .ok (.invokevirtual 68, 3) := by decide +kernel
theorem dL_homeOf_8 : decode cL_homeOf 8 = .ok (.i2l, 1) := by decide +kernel
theorem dL_homeOf_9 : decode cL_homeOf 9 = .ok (.lastore, 1) := by decide +kernel
theorem dL_homeOf_10 : decode cL_homeOf 10 = .ok (.goto 11, 3) := by decide +kernel
theorem dL_homeOf_13 : decode cL_homeOf 13 = .ok (.astore 4, 2) := by decide +kernel
theorem dL_homeOf_15 : decode cL_homeOf 15 = .ok (.iconst 1, 1) := by decide +kernel
theorem dL_homeOf_16 : decode cL_homeOf 16 = .ok (.ireturn, 1) := by decide +kernel
theorem dL_homeOf_17 : decode cL_homeOf 17 = .ok (.astore 4, 2) := by decide +kernel
theorem dL_homeOf_19 : decode cL_homeOf 19 = .ok (.iconst 2, 1) := by decide +kernel
theorem dL_homeOf_20 : decode cL_homeOf 20 = .ok (.ireturn, 1) := by decide +kernel
theorem dL_homeOf_21 : decode cL_homeOf 21 = .ok (.iconst 0, 1) := by decide +kernel
theorem dL_homeOf_22 : decode cL_homeOf 22 = .ok (.ireturn, 1) := by decide +kernel
theorem dL_ruleAt_0 : decode cL_ruleAt 0 = .ok (.aload_n 3, 1) := by decide +kernel
theorem dL_ruleAt_1 : decode cL_ruleAt 1 = .ok (.iconst 0, 1) := by decide +kernel
theorem dL_ruleAt_2 : decode cL_ruleAt 2 = .ok (.aload_n 0, 1) := by decide +kernel
theorem dL_ruleAt_3 : decode cL_ruleAt 3 = .ok (.iload_n 1, 1) := by decide +kernel
theorem dL_ruleAt_4 : decode cL_ruleAt 4 = .ok (.iload_n 2, 1) := by decide +kernel
theorem dL_ruleAt_5 : decode cL_ruleAt 5 = .ok (.invokevirtual 71, 3) := by decide +kernel
theorem dL_ruleAt_8 : decode cL_ruleAt 8 = .ok (.i2l, 1) := by decide +kernel
theorem dL_ruleAt_9 : decode cL_ruleAt 9 = .ok (.lastore, 1) := by decide +kernel
theorem dL_ruleAt_10 : decode cL_ruleAt 10 = .ok (.goto 11, 3) := by decide +kernel
theorem dL_ruleAt_13 : decode cL_ruleAt 13 = .ok (.astore 4, 2) := by decide +kernel
theorem dL_ruleAt_15 : decode cL_ruleAt 15 = .ok (.iconst 1, 1) := by decide +kernel
theorem dL_ruleAt_16 : decode cL_ruleAt 16 = .ok (.ireturn, 1) := by decide +kernel
theorem dL_ruleAt_17 : decode cL_ruleAt 17 = .ok (.astore 4, 2) := by decide +kernel
theorem dL_ruleAt_19 : decode cL_ruleAt 19 = .ok (.iconst 2, 1) := by decide +kernel
theorem dL_ruleAt_20 : decode cL_ruleAt 20 = .ok (.ireturn, 1) := by decide +kernel
theorem dL_ruleAt_21 : decode cL_ruleAt 21 = .ok (.iconst 0, 1) := by decide +kernel
theorem dL_ruleAt_22 : decode cL_ruleAt 22 = .ok (.ireturn, 1) := by decide +kernel
theorem dL_adults_0 : decode cL_adults 0 = .ok (.aload_n 3, 1) := by decide +kernel
theorem dL_adults_1 : decode cL_adults 1 = .ok (.iconst 0, 1) := by decide +kernel
theorem dL_adults_2 : decode cL_adults 2 = .ok (.aload_n 0, 1) := by decide +kernel
theorem dL_adults_3 : decode cL_adults 3 = .ok (.iload_n 1, 1) := by decide +kernel
theorem dL_adults_4 : decode cL_adults 4 = .ok (.iload_n 2, 1) := by decide +kernel
theorem dL_adults_5 : decode cL_adults 5 = .ok (.invokevirtual 74, 3) := by decide +kernel
theorem dL_adults_8 : decode cL_adults 8 = .ok (.i2l, 1) := by decide +kernel
theorem dL_adults_9 : decode cL_adults 9 = .ok (.lastore, 1) := by decide +kernel
theorem dL_adults_10 : decode cL_adults 10 = .ok (.goto 11, 3) := by decide +kernel
theorem dL_adults_13 : decode cL_adults 13 = .ok (.astore 4, 2) := by decide +kernel
theorem dL_adults_15 : decode cL_adults 15 = .ok (.iconst 1, 1) := by decide +kernel
theorem dL_adults_16 : decode cL_adults 16 = .ok (.ireturn, 1) := by decide +kernel
theorem dL_adults_17 : decode cL_adults 17 = .ok (.astore 4, 2) := by decide +kernel
theorem dL_adults_19 : decode cL_adults 19 = .ok (.iconst 2, 1) := by decide +kernel
theorem dL_adults_20 : decode cL_adults 20 = .ok (.ireturn, 1) := by decide +kernel
theorem dL_adults_21 : decode cL_adults 21 = .ok (.iconst 0, 1) := by decide +kernel
theorem dL_adults_22 : decode cL_adults 22 = .ok (.ireturn, 1) := by decide +kernel
theorem dL_children_0 : decode cL_children 0 = .ok (.aload_n 3, 1) := by decide +kernel
theorem dL_children_1 : decode cL_children 1 = .ok (.iconst 0, 1) := by decide +kernel
theorem dL_children_2 : decode cL_children 2 = .ok (.aload_n 0, 1) := by decide +kernel
theorem dL_children_3 : decode cL_children 3 = .ok (.iload_n 1, 1) := by decide +kernel
theorem dL_children_4 : decode cL_children 4 = .ok (.iload_n 2, 1) := by decide +kernel
theorem dL_children_5 : decode cL_children 5 = .ok (.invokevirtual 77, 3) := by decide +kernel
theorem dL_children_8 : decode cL_children 8 = .ok (.i2l, 1) := by decide +kernel
theorem dL_children_9 : decode cL_children 9 = .ok (.lastore, 1) := by decide +kernel
theorem dL_children_10 : decode cL_children 10 = .ok (.goto 11, 3) := by decide +kernel
theorem dL_children_13 : decode cL_children 13 = .ok (.astore 4, 2) := by decide +kernel
theorem dL_children_15 : decode cL_children 15 = .ok (.iconst 1, 1) := by decide +kernel
theorem dL_children_16 : decode cL_children 16 = .ok (.ireturn, 1) := by decide +kernel
theorem dL_children_17 : decode cL_children 17 = .ok (.astore 4, 2) := by decide +kernel
theorem dL_children_19 : decode cL_children 19 = .ok (.iconst 2, 1) := by decide +kernel
theorem dL_children_20 : decode cL_children 20 = .ok (.ireturn, 1) := by decide +kernel
theorem dL_children_21 : decode cL_children 21 = .ok (.iconst 0, 1) := by decide +kernel
theorem dL_children_22 : decode cL_children 22 = .ok (.ireturn, 1) := by decide +kernel
theorem dL_incomeOf_0 : decode cL_incomeOf 0 = .ok (.aload_n 3, 1) := by decide +kernel
theorem dL_incomeOf_1 : decode cL_incomeOf 1 = .ok (.iconst 0, 1) := by decide +kernel
theorem dL_incomeOf_2 : decode cL_incomeOf 2 = .ok (.aload_n 0, 1) := by decide +kernel
theorem dL_incomeOf_3 : decode cL_incomeOf 3 = .ok (.iload_n 1, 1) := by decide +kernel
theorem dL_incomeOf_4 : decode cL_incomeOf 4 = .ok (.iload_n 2, 1) := by decide +kernel
theorem dL_incomeOf_5 : decode cL_incomeOf 5 = .ok (.invokevirtual 80, 3) := by decide +kernel
theorem dL_incomeOf_8 : decode cL_incomeOf 8 = .ok (.i2l, 1) := by decide +kernel
theorem dL_incomeOf_9 : decode cL_incomeOf 9 = .ok (.lastore, 1) := by decide +kernel
theorem dL_incomeOf_10 : decode cL_incomeOf 10 = .ok (.goto 11, 3) := by decide +kernel
theorem dL_incomeOf_13 : decode cL_incomeOf 13 = .ok (.astore 4, 2) := by decide +kernel
theorem dL_incomeOf_15 : decode cL_incomeOf 15 = .ok (.iconst 1, 1) := by decide +kernel
theorem dL_incomeOf_16 : decode cL_incomeOf 16 = .ok (.ireturn, 1) := by decide +kernel
theorem dL_incomeOf_17 : decode cL_incomeOf 17 = .ok (.astore 4, 2) := by decide +kernel
theorem dL_incomeOf_19 : decode cL_incomeOf 19 = .ok (.iconst 2, 1) := by decide +kernel
theorem dL_incomeOf_20 : decode cL_incomeOf 20 = .ok (.ireturn, 1) := by decide +kernel
theorem dL_incomeOf_21 : decode cL_incomeOf 21 = .ok (.iconst 0, 1) := by decide +kernel
theorem dL_incomeOf_22 : decode cL_incomeOf 22 = .ok (.ireturn, 1) := by decide +kernel
theorem dL_adultAmount_0 : decode cL_adultAmount 0 = .ok (.aload_n 3, 1) := by decide +kernel
theorem dL_adultAmount_1 : decode cL_adultAmount 1 = .ok (.iconst 0, 1) := by decide +kernel
theorem dL_adultAmount_2 : decode cL_adultAmount 2 = .ok (.aload_n 0, 1) := by decide +kernel
theorem dL_adultAmount_3 : decode cL_adultAmount 3 = .ok (.iload_n 1, 1) := by decide +kernel
theorem dL_adultAmount_4 : decode cL_adultAmount 4 = .ok (.iload_n 2, 1) := by decide +kernel
theorem dL_adultAmount_5 : decode cL_adultAmount 5 = .ok (.invokevirtual 83, 3) := by decide +kernel
theorem dL_adultAmount_8 : decode cL_adultAmount 8 = .ok (.i2l, 1) := by decide +kernel
theorem dL_adultAmount_9 : decode cL_adultAmount 9 = .ok (.lastore, 1) := by decide +kernel
theorem dL_adultAmount_10 : decode cL_adultAmount 10 = .ok (.goto 11, 3) := by decide +kernel
theorem dL_adultAmount_13 : decode cL_adultAmount 13 = .ok (.astore 4, 2) := by decide +kernel
theorem dL_adultAmount_15 : decode cL_adultAmount 15 = .ok (.iconst 1, 1) := by decide +kernel
theorem dL_adultAmount_16 : decode cL_adultAmount 16 = .ok (.ireturn, 1) := by decide +kernel
theorem dL_adultAmount_17 : decode cL_adultAmount 17 = .ok (.astore 4, 2) := by decide +kernel
theorem dL_adultAmount_19 : decode cL_adultAmount 19 = .ok (.iconst 2, 1) := by decide +kernel
theorem dL_adultAmount_20 : decode cL_adultAmount 20 = .ok (.ireturn, 1) := by decide +kernel
theorem dL_adultAmount_21 : decode cL_adultAmount 21 = .ok (.iconst 0, 1) := by decide +kernel
theorem dL_adultAmount_22 : decode cL_adultAmount 22 = .ok (.ireturn, 1) := by decide +kernel
theorem dL_childAmount_0 : decode cL_childAmount 0 = .ok (.aload_n 3, 1) := by decide +kernel
theorem dL_childAmount_1 : decode cL_childAmount 1 = .ok (.iconst 0, 1) := by decide +kernel
theorem dL_childAmount_2 : decode cL_childAmount 2 = .ok (.aload_n 0, 1) := by decide +kernel
theorem dL_childAmount_3 : decode cL_childAmount 3 = .ok (.iload_n 1, 1) := by decide +kernel
theorem dL_childAmount_4 : decode cL_childAmount 4 = .ok (.iload_n 2, 1) := by decide +kernel
theorem dL_childAmount_5 : decode cL_childAmount 5 = .ok (.invokevirtual 86, 3) := by decide +kernel
theorem dL_childAmount_8 : decode cL_childAmount 8 = .ok (.i2l, 1) := by decide +kernel
theorem dL_childAmount_9 : decode cL_childAmount 9 = .ok (.lastore, 1) := by decide +kernel
theorem dL_childAmount_10 : decode cL_childAmount 10 = .ok (.goto 11, 3) := by decide +kernel
theorem dL_childAmount_13 : decode cL_childAmount 13 = .ok (.astore 4, 2) := by decide +kernel
theorem dL_childAmount_15 : decode cL_childAmount 15 = .ok (.iconst 1, 1) := by decide +kernel
theorem dL_childAmount_16 : decode cL_childAmount 16 = .ok (.ireturn, 1) := by decide +kernel
theorem dL_childAmount_17 : decode cL_childAmount 17 = .ok (.astore 4, 2) := by decide +kernel
theorem dL_childAmount_19 : decode cL_childAmount 19 = .ok (.iconst 2, 1) := by decide +kernel
theorem dL_childAmount_20 : decode cL_childAmount 20 = .ok (.ireturn, 1) := by decide +kernel
theorem dL_childAmount_21 : decode cL_childAmount 21 = .ok (.iconst 0, 1) := by decide +kernel
theorem dL_childAmount_22 : decode cL_childAmount 22 = .ok (.ireturn, 1) := by decide +kernel
theorem dL_housingAmount_0 : decode cL_housingAmount 0 = .ok (.aload_n 3, 1) := by decide +kernel
theorem dL_housingAmount_1 : decode cL_housingAmount 1 = .ok (.iconst 0, 1) := by decide +kernel
theorem dL_housingAmount_2 : decode cL_housingAmount 2 = .ok (.aload_n 0, 1) := by decide +kernel
theorem dL_housingAmount_3 : decode cL_housingAmount 3 = .ok (.iload_n 1, 1) := by decide +kernel
theorem dL_housingAmount_4 : decode cL_housingAmount 4 = .ok (.iload_n 2, 1) := by decide +kernel
theorem dL_housingAmount_5 : decode cL_housingAmount 5 = .ok (.invokevirtual 89, 3) := by decide +kernel
theorem dL_housingAmount_8 : decode cL_housingAmount 8 = .ok (.i2l, 1) := by decide +kernel
theorem dL_housingAmount_9 : decode cL_housingAmount 9 = .ok (.lastore, 1) := by decide +kernel
theorem dL_housingAmount_10 : decode cL_housingAmount 10 = .ok (.goto 11, 3) := by decide +kernel
theorem dL_housingAmount_13 : decode cL_housingAmount 13 = .ok (.astore 4, 2) := by decide +kernel
theorem dL_housingAmount_15 : decode cL_housingAmount 15 = .ok (.iconst 1, 1) := by decide +kernel
theorem dL_housingAmount_16 : decode cL_housingAmount 16 = .ok (.ireturn, 1) := by decide +kernel
theorem dL_housingAmount_17 : decode cL_housingAmount 17 = .ok (.astore 4, 2) := by decide +kernel
theorem dL_housingAmount_19 : decode cL_housingAmount 19 = .ok (.iconst 2, 1) := by decide +kernel
theorem dL_housingAmount_20 : decode cL_housingAmount 20 = .ok (.ireturn, 1) := by decide +kernel
theorem dL_housingAmount_21 : decode cL_housingAmount 21 = .ok (.iconst 0, 1) := by decide +kernel
theorem dL_housingAmount_22 : decode cL_housingAmount 22 = .ok (.ireturn, 1) := by decide +kernel
theorem dL_reason_0 : decode cL_reason 0 = .ok (.aload_n 3, 1) := by decide +kernel
theorem dL_reason_1 : decode cL_reason 1 = .ok (.iconst 0, 1) := by decide +kernel
theorem dL_reason_2 : decode cL_reason 2 = .ok (.aload_n 0, 1) := by decide +kernel
theorem dL_reason_3 : decode cL_reason 3 = .ok (.iload_n 1, 1) := by decide +kernel
theorem dL_reason_4 : decode cL_reason 4 = .ok (.iload_n 2, 1) := by decide +kernel
theorem dL_reason_5 : decode cL_reason 5 = .ok (.invokevirtual 92, 3) := by decide +kernel
theorem dL_reason_8 : decode cL_reason 8 = .ok (.i2l, 1) := by decide +kernel
theorem dL_reason_9 : decode cL_reason 9 = .ok (.lastore, 1) := by decide +kernel
theorem dL_reason_10 : decode cL_reason 10 = .ok (.goto 11, 3) := by decide +kernel
theorem dL_reason_13 : decode cL_reason 13 = .ok (.astore 4, 2) := by decide +kernel
theorem dL_reason_15 : decode cL_reason 15 = .ok (.iconst 1, 1) := by decide +kernel
theorem dL_reason_16 : decode cL_reason 16 = .ok (.ireturn, 1) := by decide +kernel
theorem dL_reason_17 : decode cL_reason 17 = .ok (.astore 4, 2) := by decide +kernel
theorem dL_reason_19 : decode cL_reason 19 = .ok (.iconst 2, 1) := by decide +kernel
theorem dL_reason_20 : decode cL_reason 20 = .ok (.ireturn, 1) := by decide +kernel
theorem dL_reason_21 : decode cL_reason 21 = .ok (.iconst 0, 1) := by decide +kernel
theorem dL_reason_22 : decode cL_reason 22 = .ok (.ireturn, 1) := by decide +kernel
theorem dL_nextChange_0 : decode cL_nextChange 0 = .ok (.aload_n 3, 1) := by decide +kernel
theorem dL_nextChange_1 : decode cL_nextChange 1 = .ok (.iconst 0, 1) := by decide +kernel
theorem dL_nextChange_2 : decode cL_nextChange 2 = .ok (.aload_n 0, 1) := by decide +kernel
theorem dL_nextChange_3 : decode cL_nextChange 3 = .ok (.iload_n 1, 1) := by decide +kernel
theorem dL_nextChange_4 : decode cL_nextChange 4 = .ok (.iload_n 2, 1) := by decide +kernel
theorem dL_nextChange_5 : decode cL_nextChange 5 = .ok (.invokevirtual 96, 3) := by decide +kernel
theorem dL_nextChange_8 : decode cL_nextChange 8 = .ok (.i2l, 1) := by decide +kernel
theorem dL_nextChange_9 : decode cL_nextChange 9 = .ok (.lastore, 1) := by decide +kernel
theorem dL_nextChange_10 : decode cL_nextChange 10 = .ok (.goto 15, 3) := by decide +kernel
theorem dL_nextChange_13 : decode cL_nextChange 13 = .ok (.astore 4, 2) := by decide +kernel
theorem dL_nextChange_15 : decode cL_nextChange 15 = .ok (.iconst 1, 1) := by decide +kernel
theorem dL_nextChange_16 : decode cL_nextChange 16 = .ok (.ireturn, 1) := by decide +kernel
theorem dL_nextChange_17 : decode cL_nextChange 17 = .ok (.astore 4, 2) := by decide +kernel
theorem dL_nextChange_19 : decode cL_nextChange 19 = .ok (.iconst 2, 1) := by decide +kernel
theorem dL_nextChange_20 : decode cL_nextChange 20 = .ok (.ireturn, 1) := by decide +kernel
theorem dL_nextChange_21 : decode cL_nextChange 21 = .ok (.astore 4, 2) := by decide +kernel
theorem dL_nextChange_23 : decode cL_nextChange 23 = .ok (.iconst 3, 1) := by decide +kernel
theorem dL_nextChange_24 : decode cL_nextChange 24 = .ok (.ireturn, 1) := by decide +kernel
theorem dL_nextChange_25 : decode cL_nextChange 25 = .ok (.iconst 0, 1) := by decide +kernel
theorem dL_nextChange_26 : decode cL_nextChange 26 = .ok (.ireturn, 1) := by decide +kernel
theorem dL_entitlement_0 : decode cL_entitlement 0 = .ok (.aload_n 3, 1) := by decide +kernel
theorem dL_entitlement_1 : decode cL_entitlement 1 = .ok (.iconst 0, 1) := by decide +kernel
theorem dL_entitlement_2 : decode cL_entitlement 2 = .ok (.aload_n 0, 1) := by decide +kernel
theorem dL_entitlement_3 : decode cL_entitlement 3 = .ok (.iload_n 1, 1) := by decide +kernel
theorem dL_entitlement_4 : decode cL_entitlement 4 = .ok (.iload_n 2, 1) := by decide +kernel
theorem dL_entitlement_5 : decode cL_entitlement 5 = .ok (.invokevirtual 99, 3) := by decide +kernel
theorem dL_entitlement_8 : decode cL_entitlement 8 = .ok (.i2l, 1) := by decide +kernel
theorem dL_entitlement_9 : decode cL_entitlement 9 = .ok (.lastore, 1) := by decide +kernel
theorem dL_entitlement_10 : decode cL_entitlement 10 = .ok (.goto 7, 3) := by decide +kernel
theorem dL_entitlement_13 : decode cL_entitlement 13 = .ok (.astore 4, 2) := by decide +kernel
theorem dL_entitlement_15 : decode cL_entitlement 15 = .ok (.iconst 1, 1) := by decide +kernel
theorem dL_entitlement_16 : decode cL_entitlement 16 = .ok (.ireturn, 1) := by decide +kernel
theorem dL_entitlement_17 : decode cL_entitlement 17 = .ok (.iconst 0, 1) := by decide +kernel
theorem dL_entitlement_18 : decode cL_entitlement 18 = .ok (.ireturn, 1) := by decide +kernel
theorem dL_entitlementByDays_0 : decode cL_entitlementByDays 0 = .ok (.aload_n 3, 1) := by decide +kernel
theorem dL_entitlementByDays_1 : decode cL_entitlementByDays 1 = .ok (.iconst 0, 1) := by decide +kernel
theorem dL_entitlementByDays_2 : decode cL_entitlementByDays 2 = .ok (.aload_n 0, 1) := by decide +kernel
theorem dL_entitlementByDays_3 : decode cL_entitlementByDays 3 = .ok (.iload_n 1, 1) := by decide +kernel
theorem dL_entitlementByDays_4 : decode cL_entitlementByDays 4 = .ok (.iload_n 2, 1) := by decide +kernel
theorem dL_entitlementByDays_5 : decode cL_entitlementByDays 5 = .ok (.invokevirtual 102, 3) := by decide +kernel
theorem dL_entitlementByDays_8 : decode cL_entitlementByDays 8 = .ok (.i2l, 1) := by decide +kernel
theorem dL_entitlementByDays_9 : decode cL_entitlementByDays 9 = .ok (.lastore, 1) := by decide +kernel
theorem dL_entitlementByDays_10 : decode cL_entitlementByDays 10 = .ok (.goto 7, 3) := by decide +kernel
theorem dL_entitlementByDays_13 : decode cL_entitlementByDays 13 = .ok (.astore 4, 2) := by decide +kernel
theorem dL_entitlementByDays_15 : decode cL_entitlementByDays 15 = .ok (.iconst 1, 1) := by decide +kernel
theorem dL_entitlementByDays_16 : decode cL_entitlementByDays 16 = .ok (.ireturn, 1) := by decide +kernel
theorem dL_entitlementByDays_17 : decode cL_entitlementByDays 17 = .ok (.iconst 0, 1) := by decide +kernel
theorem dL_entitlementByDays_18 : decode cL_entitlementByDays 18 = .ok (.ireturn, 1) := by decide +kernel
theorem dL_keptShare_0 : decode cL_keptShare 0 = .ok (.aload_n 1, 1) := by decide +kernel
theorem dL_keptShare_1 : decode cL_keptShare 1 = .ok (.iconst 0, 1) := by decide +kernel
theorem dL_keptShare_2 : decode cL_keptShare 2 = .ok (.aload_n 0, 1) := by decide +kernel
theorem dL_keptShare_3 : decode cL_keptShare 3 = .ok (.invokevirtual 105, 3) := by decide +kernel
theorem dL_keptShare_6 : decode cL_keptShare 6 = .ok (.f2d, 1) := by decide +kernel
theorem dL_keptShare_7 : decode cL_keptShare 7 = .ok (.dastore, 1) := by decide +kernel
theorem dL_keptShare_8 : decode cL_keptShare 8 = .ok (.goto 6, 3) := by decide +kernel
theorem dL_keptShare_11 : decode cL_keptShare 11 = .ok (.astore_n 2, 1) := by decide +kernel
theorem dL_keptShare_12 : decode cL_keptShare 12 = .ok (.iconst 1, 1) := by decide +kernel
theorem dL_keptShare_13 : decode cL_keptShare 13 = .ok (.ireturn, 1) := by decide +kernel
theorem dL_keptShare_14 : decode cL_keptShare 14 = .ok (.iconst 0, 1) := by decide +kernel
theorem dL_keptShare_15 : decode cL_keptShare 15 = .ok (.ireturn, 1) := by decide +kernel
theorem dL_meanPayment_0 : decode cL_meanPayment 0 = .ok (.aload_n 1, 1) := by decide +kernel
theorem dL_meanPayment_1 : decode cL_meanPayment 1 = .ok (.iconst 0, 1) := by decide +kernel
theorem dL_meanPayment_2 : decode cL_meanPayment 2 = .ok (.aload_n 0, 1) := by decide +kernel
theorem dL_meanPayment_3 : decode cL_meanPayment 3 = .ok (.invokevirtual 111, 3) := by decide +kernel
theorem dL_meanPayment_6 : decode cL_meanPayment 6 = .ok (.dastore, 1) := by decide +kernel
theorem dL_meanPayment_7 : decode cL_meanPayment 7 = .ok (.goto 6, 3) := by decide +kernel
theorem dL_meanPayment_10 : decode cL_meanPayment 10 = .ok (.astore_n 2, 1) := by decide +kernel
theorem dL_meanPayment_11 : decode cL_meanPayment 11 = .ok (.iconst 1, 1) := by decide +kernel
theorem dL_meanPayment_12 : decode cL_meanPayment 12 = .ok (.ireturn, 1) := by decide +kernel
theorem dL_meanPayment_13 : decode cL_meanPayment 13 = .ok (.iconst 0, 1) := by decide +kernel
theorem dL_meanPayment_14 : decode cL_meanPayment 14 = .ok (.ireturn, 1) := by decide +kernel
abbrev vwCl : List vw_C := [(RJ0, TJ0, 2), (RJx00060, TJx00060, 6), (RX0, TX0, 5), (RX1, TX1, 3), (RX2, TX2, 3), (RX3, TX3, 3), (RX4, TX4, 3), (RX5, TX5, 14), (RX6, TX6, 28)]
